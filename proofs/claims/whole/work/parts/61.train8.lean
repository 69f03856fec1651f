/-! THE REFERENCE'S TRAINS -/
section TR8
variable {n : Nat} {NS : Nat → Nat} {ST CT GT : Nat → Nat → Nat} {D : Nat → Nat} {W F day T v M N : Nat} {R : qR}
/-- a set of stops of one train, as marks -/
def mk8 (NS : Nat → Nat) (a tp : Nat) (P : Nat → Prop) (I : qI) : Prop := ∀ x, x < 70 → I a x = nI (ind (∃ j, x = 7 * tp + j ∧ j < NS tp ∧ P j))
theorem canBoard_1 {I : qI} {t i : Nat} (hL : LR R) (w : wb n NS ST CT GT (rD n day D) W F) (hF : FR I n NS ST CT GT D W day) (hM : M ≤ 1440) (ht : t < n) (hi : i < NS t) : fX8_canBoard N R I 111 (nI (7 * t + i)) (nI 1) (nI F) (nI M) = some (nI (ind (fb ST GT F M t i))) := by
  have hn10 := w.1
  have hF12 := w.2.2.1
  obtain ⟨h1, h2, h3, h4, h5⟩ := id hF
  obtain ⟨z1, z2, z3, z4, z5, z6⟩ := h4 t (by omega)
  obtain ⟨a1, a2, a3, a4, a5, a6⟩ := z4 i hi
  have s12 := a1.2.2
  unfold fX8_canBoard
  by_cases hs : ST t i = F
  · by_cases hg : M ≤ GT t i
    · rw [ind_t ⟨hs, hg⟩]
      simp (disch := first | assumption | omega) only [obs, qle, ↓lm1, l0, qn_add, pk_mul, n_le, n_lt, n_eq, n_sM, n_Ms, n_Mlt, n_Mle, n_ltM, n_leM, ↓reduceIte, eq_self, if_pos, if_neg, qx, p111_3, p111_4, p111_5, p111_6, p111_7, p111_8, p111_11, p111_12, p111_13, p111_14, p111_15, p111_16, p111_17, p111_18, p111_19, p111_21, p111_22, p111_23, p111_24, p111_27, p111_28, p111_29, p111_30, p111_31, p111_32, p111_34, r112, w112, r113, w113, r114, w114, r115, w115, r116, w116, r117, w117, r118, w118, r119, w119, r120, w120, r121, w121, r122, w122, r123, w123, r124, w124, r125, w125, r126, w126, r127, w127, r128, w128, r129, w129, r130, w130, r131, w131, r132, w132, r133, w133, r134, w134, r135, w135, r136, w136, r137, w137, l1, l2, l3, l5, l6, l7, l8, l10, l11, l12, l31, l36, l63, l100, l1000, l1440, l1000000, l16777216, a1.1, a3.1]
    · rw [ind_f (fun q => hg q.2)]
      simp (disch := first | assumption | omega) only [obs, qle, ↓lm1, l0, qn_add, pk_mul, n_le, n_lt, n_eq, n_sM, n_Ms, n_Mlt, n_Mle, n_ltM, n_leM, ↓reduceIte, eq_self, if_pos, if_neg, qx, p111_3, p111_4, p111_5, p111_6, p111_7, p111_8, p111_11, p111_12, p111_13, p111_14, p111_15, p111_16, p111_17, p111_18, p111_19, p111_21, p111_22, p111_23, p111_24, p111_27, p111_28, p111_29, p111_30, p111_31, p111_32, p111_34, r112, w112, r113, w113, r114, w114, r115, w115, r116, w116, r117, w117, r118, w118, r119, w119, r120, w120, r121, w121, r122, w122, r123, w123, r124, w124, r125, w125, r126, w126, r127, w127, r128, w128, r129, w129, r130, w130, r131, w131, r132, w132, r133, w133, r134, w134, r135, w135, r136, w136, r137, w137, l1, l2, l3, l5, l6, l7, l8, l10, l11, l12, l31, l36, l63, l100, l1000, l1440, l1000000, l16777216, a1.1, a3.1]
  · rw [ind_f (fun q => hs q.1)]
    simp (disch := first | assumption | omega) only [obs, qle, ↓lm1, l0, qn_add, pk_mul, n_le, n_lt, n_eq, n_sM, n_Ms, n_Mlt, n_Mle, n_ltM, n_leM, ↓reduceIte, eq_self, if_pos, if_neg, qx, p111_3, p111_4, p111_5, p111_6, p111_7, p111_8, p111_11, p111_12, p111_13, p111_14, p111_15, p111_16, p111_17, p111_18, p111_19, p111_21, p111_22, p111_23, p111_24, p111_27, p111_28, p111_29, p111_30, p111_31, p111_32, p111_34, r112, w112, r113, w113, r114, w114, r115, w115, r116, w116, r117, w117, r118, w118, r119, w119, r120, w120, r121, w121, r122, w122, r123, w123, r124, w124, r125, w125, r126, w126, r127, w127, r128, w128, r129, w129, r130, w130, r131, w131, r132, w132, r133, w133, r134, w134, r135, w135, r136, w136, r137, w137, l1, l2, l3, l5, l6, l7, l8, l10, l11, l12, l31, l36, l63, l100, l1000, l1440, l1000000, l16777216, a1.1]
theorem canBoard_0 {I : qI} {t i tp : Nat} {P : Nat → Prop} (hN : 300000 ≤ N) (hL : LR R) (w : wb n NS ST CT GT (rD n day D) W F) (hF : FR I n NS ST CT GT D W day) (ht : t < n) (hi : i < NS t) (htp : tp < n) (hh : mk8 NS 134 tp P I) : fX8_canBoard N R I 111 (nI (7 * t + i)) (nI 0) (nI F) (nI M) = some (nI (ind (∃ j, j < NS tp ∧ P j ∧ cc ST CT GT W tp j t i))) := by
  have hn10 := w.1
  have l70 : (70 : Int32) = nI 70 := by decide
  obtain ⟨h1, h2, h3, h4, h5⟩ := id hF
  have hns := (h4 t (by omega)).1
  have key : ok (qloop (fun s => cX8_canBoard_34 N R I 111 (nI (7 * t + i)) s) N (nI 0)) (fun o => match o with
      | .inl _ => ¬ ∃ j, j < NS tp ∧ P j ∧ cc ST CT GT W tp j t i
      | .inr r => (∃ j, j < NS tp ∧ P j ∧ cc ST CT GT W tp j t i) ∧ r = nI 1) := by
    refine ok_for (fun x q => q = nI x ∧ ¬ ∃ j, 7 * tp + j < x ∧ j < NS tp ∧ P j ∧ cc ST CT GT W tp j t i) 70 (by omega) ⟨rfl, fun ⟨j, h, _⟩ => by omega⟩ (fun x q hx hq => ?_) (fun q hq => ?_)
    · obtain ⟨rfl, g1⟩ := hq
      have hx2 := hh x hx
      by_cases hp : ∃ j, x = 7 * tp + j ∧ j < NS tp ∧ P j
      · rw [ind_t hp] at hx2
        obtain ⟨j, rfl, q2, q3⟩ := hp
        have hc := cc8 (R := R) hL w hF htp q2 ht hi
        by_cases hcc : cc ST CT GT W tp j t i
        · rw [ind_t hcc] at hc
          refine ⟨.inr (.inr (nI 1)), ?_, ⟨j, q2, q3, hcc⟩, rfl⟩
          show cX8_canBoard_34 N R I 111 (nI (7 * t + i)) (nI (7 * tp + j)) = _
          unfold cX8_canBoard_34
          simp (disch := first | assumption | omega) only [obs, qle, ↓lm1, l0, qn_add, pk_mul, n_le, n_lt, n_eq, n_sM, n_Ms, n_Mlt, n_Mle, n_ltM, n_leM, ↓reduceIte, eq_self, if_pos, if_neg, qx, p111_3, p111_4, p111_5, p111_6, p111_7, p111_8, p111_11, p111_12, p111_13, p111_14, p111_15, p111_16, p111_17, p111_18, p111_19, p111_21, p111_22, p111_23, p111_24, p111_27, p111_28, p111_29, p111_30, p111_31, p111_32, p111_34, r112, w112, r113, w113, r114, w114, r115, w115, r116, w116, r117, w117, r118, w118, r119, w119, r120, w120, r121, w121, r122, w122, r123, w123, r124, w124, r125, w125, r126, w126, r127, w127, r128, w128, r129, w129, r130, w130, r131, w131, r132, w132, r133, w133, r134, w134, r135, w135, r136, w136, r137, w137, l1, l2, l3, l5, l6, l7, l8, l10, l11, l12, l31, l36, l63, l100, l1000, l1440, l1000000, l16777216, l70, hx2, hc]
        · rw [ind_f hcc] at hc
          refine ⟨.inl (nI (7 * tp + j + 1)), ?_, rfl, fun ⟨j2, b1, b2, b3, b4⟩ => ?_⟩
          · show cX8_canBoard_34 N R I 111 (nI (7 * t + i)) (nI (7 * tp + j)) = _
            unfold cX8_canBoard_34
            simp (disch := first | assumption | omega) only [obs, qle, ↓lm1, l0, qn_add, pk_mul, n_le, n_lt, n_eq, n_sM, n_Ms, n_Mlt, n_Mle, n_ltM, n_leM, ↓reduceIte, eq_self, if_pos, if_neg, qx, p111_3, p111_4, p111_5, p111_6, p111_7, p111_8, p111_11, p111_12, p111_13, p111_14, p111_15, p111_16, p111_17, p111_18, p111_19, p111_21, p111_22, p111_23, p111_24, p111_27, p111_28, p111_29, p111_30, p111_31, p111_32, p111_34, r112, w112, r113, w113, r114, w114, r115, w115, r116, w116, r117, w117, r118, w118, r119, w119, r120, w120, r121, w121, r122, w122, r123, w123, r124, w124, r125, w125, r126, w126, r127, w127, r128, w128, r129, w129, r130, w130, r131, w131, r132, w132, r133, w133, r134, w134, r135, w135, r136, w136, r137, w137, l1, l2, l3, l5, l6, l7, l8, l10, l11, l12, l31, l36, l63, l100, l1000, l1440, l1000000, l16777216, l70, hx2, hc]
          · by_cases e : j2 = j
            · subst e; exact hcc b4
            · exact g1 ⟨j2, by omega, b2, b3, b4⟩
      · rw [ind_f hp] at hx2
        refine ⟨.inl (nI (x + 1)), ?_, rfl, fun ⟨j2, b1, b2, b3, b4⟩ => ?_⟩
        · show cX8_canBoard_34 N R I 111 (nI (7 * t + i)) (nI x) = _
          unfold cX8_canBoard_34
          simp (disch := first | assumption | omega) only [obs, qle, ↓lm1, l0, qn_add, pk_mul, n_le, n_lt, n_eq, n_sM, n_Ms, n_Mlt, n_Mle, n_ltM, n_leM, ↓reduceIte, eq_self, if_pos, if_neg, qx, p111_3, p111_4, p111_5, p111_6, p111_7, p111_8, p111_11, p111_12, p111_13, p111_14, p111_15, p111_16, p111_17, p111_18, p111_19, p111_21, p111_22, p111_23, p111_24, p111_27, p111_28, p111_29, p111_30, p111_31, p111_32, p111_34, r112, w112, r113, w113, r114, w114, r115, w115, r116, w116, r117, w117, r118, w118, r119, w119, r120, w120, r121, w121, r122, w122, r123, w123, r124, w124, r125, w125, r126, w126, r127, w127, r128, w128, r129, w129, r130, w130, r131, w131, r132, w132, r133, w133, r134, w134, r135, w135, r136, w136, r137, w137, l1, l2, l3, l5, l6, l7, l8, l10, l11, l12, l31, l36, l63, l100, l1000, l1440, l1000000, l16777216, l70, hx2]
        · by_cases e : 7 * tp + j2 = x
          · exact hp ⟨j2, e.symm, b2, b3⟩
          · exact g1 ⟨j2, by omega, b2, b3, b4⟩
    · obtain ⟨rfl, g1⟩ := hq
      have hns2 := (h4 tp (by omega)).1
      refine ⟨.inr (.inl ()), ?_, fun ⟨j, b2, b3⟩ => g1 ⟨j, by omega, b2, b3⟩⟩
      show cX8_canBoard_34 N R I 111 (nI (7 * t + i)) (nI 70) = _
      unfold cX8_canBoard_34
      simp (disch := first | assumption | omega) only [obs, qle, ↓lm1, l0, qn_add, pk_mul, n_le, n_lt, n_eq, n_sM, n_Ms, n_Mlt, n_Mle, n_ltM, n_leM, ↓reduceIte, eq_self, if_pos, if_neg, qx, p111_3, p111_4, p111_5, p111_6, p111_7, p111_8, p111_11, p111_12, p111_13, p111_14, p111_15, p111_16, p111_17, p111_18, p111_19, p111_21, p111_22, p111_23, p111_24, p111_27, p111_28, p111_29, p111_30, p111_31, p111_32, p111_34, r112, w112, r113, w113, r114, w114, r115, w115, r116, w116, r117, w117, r118, w118, r119, w119, r120, w120, r121, w121, r122, w122, r123, w123, r124, w124, r125, w125, r126, w126, r127, w127, r128, w128, r129, w129, r130, w130, r131, w131, r132, w132, r133, w133, r134, w134, r135, w135, r136, w136, r137, w137, l1, l2, l3, l5, l6, l7, l8, l10, l11, l12, l31, l36, l63, l100, l1000, l1440, l1000000, l16777216, l70]
  obtain ⟨o, eo, ho⟩ := key
  unfold fX8_canBoard
  rw [l0, if_pos rfl, eo, obs]
  cases o with
  | inl x => rw [ind_f ho]; rfl
  | inr r =>
    obtain ⟨h6, rfl⟩ := ho
    rw [ind_t h6]
    rfl
/-- who can be boarded by whom comes so far -/
def cbp (N : Nat) (R : qR) (NS : Nat → Nat) (F M : Nat) (isF : Int32) (C : Nat → Nat → Prop) (n : Nat) (I : qI) : Prop := ∀ J : qI, (∀ a, a ≠ 135 → J a = I a) → ∀ t i, t < n → i < NS t → fX8_canBoard N R J 111 (nI (7 * t + i)) isF (nI F) (nI M) = some (nI (ind (C t i)))
theorem leavesAt_ok {I : qI} {t rest : Nat} {isF : Int32} {C : Nat → Nat → Prop} (hN : 300000 ≤ N) (hL : LR R) (w : wb n NS ST CT GT (rD n day D) W F) (hF : FR I n NS ST CT GT D W day) (hG : GO n NS ST CT GT D W day T v 11 I) (hr : rest < 11) (hC : cbp N R NS F M isF C n I) (ht : t < n) : ok (fX8_leavesAt N R I 111 (nI t) isF (nI F) (nI M) (nI rest)) (fun y => y.1 = nI (ind (∃ i j, i < j ∧ C t i ∧ gw NS ST CT GT (rD n day D) W T v rest t j)) ∧ mk8 NS 135 t (fun j => gw NS ST CT GT (rD n day D) W T v rest t j ∧ ∃ i, i < j ∧ C t i) y.2 ∧ ∀ a, a ≠ 135 → y.2 a = I a) := by
  have hn10 := w.1
  have l70 : (70 : Int32) = nI 70 := by decide
  have hn0 : vp_nar .boolean (nI 0) = nI 0 := nar0
  have hn1 : vp_nar .boolean (nI 1) = nI 1 := nar1
  obtain ⟨h1, h2, h3, h4, h5⟩ := id hF
  obtain ⟨z1, z2, z3, z4, z5, z6⟩ := h4 t (by omega)
  unfold fX8_leavesAt
  refine ok_bind (ok_mono (P := fun J => (∀ x, x < 70 → J 135 x = nI 0) ∧ ∀ a, a ≠ 135 → J a = I a) ?_ (fun J0 hJ0 => ?_))
  · refine ok_for (fun k q => ∃ J, q = (nI k, J) ∧ (∀ x, x < k → J 135 x = nI 0) ∧ ∀ a, a ≠ 135 → J a = I a) 70 (by omega) ⟨I, by rw [l0], fun x hx => by omega, fun _ _ => rfl⟩ (fun k q hk hq => ?_) (fun q hq => ?_)
    · obtain ⟨J, rfl, g1, g2⟩ := hq
      refine ⟨.inl (nI (k + 1), qup J 135 k (nI 0)), ?_, _, rfl, fun x hx => ?_, fun a ha => by rw [qup_ne _ _ _ ha]; exact g2 a ha⟩
      · show cX8_leavesAt_3 N R 111 (nI t) isF (nI F) (nI M) (nI rest) (nI k) J = _
        unfold cX8_leavesAt_3
        simp (disch := first | assumption | omega) only [obs, qle, ↓lm1, l0, qn_add, pk_mul, n_le, n_lt, n_eq, n_sM, n_Ms, n_Mlt, n_Mle, n_ltM, n_leM, ↓reduceIte, eq_self, if_pos, if_neg, qx, p111_3, p111_4, p111_5, p111_6, p111_7, p111_8, p111_11, p111_12, p111_13, p111_14, p111_15, p111_16, p111_17, p111_18, p111_19, p111_21, p111_22, p111_23, p111_24, p111_27, p111_28, p111_29, p111_30, p111_31, p111_32, p111_34, r112, w112, r113, w113, r114, w114, r115, w115, r116, w116, r117, w117, r118, w118, r119, w119, r120, w120, r121, w121, r122, w122, r123, w123, r124, w124, r125, w125, r126, w126, r127, w127, r128, w128, r129, w129, r130, w130, r131, w131, r132, w132, r133, w133, r134, w134, r135, w135, r136, w136, r137, w137, l1, l2, l3, l5, l6, l7, l8, l10, l11, l12, l31, l36, l63, l100, l1000, l1440, l1000000, l16777216, l70, hn0]
      · by_cases e : x = k
        · subst e; exact qup_on
        · rw [qup_off (by omega)]; exact g1 x (by omega)
    · obtain ⟨J, rfl, g1, g2⟩ := hq
      refine ⟨.inr J, ?_, g1, g2⟩
      show cX8_leavesAt_3 N R 111 (nI t) isF (nI F) (nI M) (nI rest) (nI 70) J = _
      unfold cX8_leavesAt_3
      simp (disch := first | assumption | omega) only [obs, qle, ↓lm1, l0, qn_add, pk_mul, n_le, n_lt, n_eq, n_sM, n_Ms, n_Mlt, n_Mle, n_ltM, n_leM, ↓reduceIte, eq_self, if_pos, if_neg, qx, p111_3, p111_4, p111_5, p111_6, p111_7, p111_8, p111_11, p111_12, p111_13, p111_14, p111_15, p111_16, p111_17, p111_18, p111_19, p111_21, p111_22, p111_23, p111_24, p111_27, p111_28, p111_29, p111_30, p111_31, p111_32, p111_34, r112, w112, r113, w113, r114, w114, r115, w115, r116, w116, r117, w117, r118, w118, r119, w119, r120, w120, r121, w121, r122, w122, r123, w123, r124, w124, r125, w125, r126, w126, r127, w127, r128, w128, r129, w129, r130, w130, r131, w131, r132, w132, r133, w133, r134, w134, r135, w135, r136, w136, r137, w137, l1, l2, l3, l5, l6, l7, l8, l10, l11, l12, l31, l36, l63, l100, l1000, l1440, l1000000, l16777216, l70]
  obtain ⟨j1, j2⟩ := hJ0
  rw [l0]
  refine ok_bind (ok_mono (P := fun (y : Int32 × qI) => y.1 = nI (ind (∃ i j, i < j ∧ C t i ∧ gw NS ST CT GT (rD n day D) W T v rest t j)) ∧ mk8 NS 135 t (fun j => gw NS ST CT GT (rD n day D) W T v rest t j ∧ ∃ i, i < j ∧ C t i) y.2 ∧ ∀ a, a ≠ 135 → y.2 a = I a) ?_ (fun y hy => ?_))
  · refine ok_for (fun i q => ∃ (on fo : Nat) (J : qI), q = (nI on, nI fo, nI i, J) ∧ (on = 0 ∧ (∀ i2, i2 < i → ¬ C t i2) ∨ on = 1 ∧ ∃ i2, i2 < i ∧ C t i2) ∧ (fo = 0 ∧ (¬ ∃ i2 j, i2 < j ∧ j < i ∧ C t i2 ∧ gw NS ST CT GT (rD n day D) W T v rest t j) ∨ fo = 1 ∧ ∃ i2 j, i2 < j ∧ j < i ∧ C t i2 ∧ gw NS ST CT GT (rD n day D) W T v rest t j) ∧ (∀ x, x < 70 → J 135 x = nI (ind (∃ j, x = 7 * t + j ∧ j < i ∧ gw NS ST CT GT (rD n day D) W T v rest t j ∧ ∃ i2, i2 < j ∧ C t i2))) ∧ ∀ a, a ≠ 135 → J a = I a) (NS t) (by omega) ⟨0, 0, J0, rfl, Or.inl ⟨rfl, fun i h => by omega⟩, Or.inl ⟨rfl, fun ⟨i2, j, h, h', _⟩ => by omega⟩, fun x hx => by rw [j1 x hx, ind_f (fun ⟨j, _, h, _⟩ => by omega)], j2⟩ (fun i q hi hq => ?_) (fun q hq => ?_)
    · obtain ⟨on, fo, J, rfl, g1, g2, g3, g4⟩ := hq
      have e113 : J 113 t = nI (NS t) := by rw [g4 113 (by omega)]; exact z2
      rcases g1 with ⟨rfl, g1⟩ | ⟨rfl, i0, g5, g6⟩
      · have hcb := hC J g4 t i ht hi
        have keep : (∀ x, x < 70 → J 135 x = nI (ind (∃ j, x = 7 * t + j ∧ j < i + 1 ∧ gw NS ST CT GT (rD n day D) W T v rest t j ∧ ∃ i2, i2 < j ∧ C t i2))) := fun x hx => by
          rw [g3 x hx]
          congr 1
          refine ind_iff ⟨fun ⟨j, a1, a2, a3⟩ => ⟨j, a1, by omega, a3⟩, fun ⟨j, a1, a2, a3, i2, a4, a5⟩ => ?_⟩
          exact absurd a5 (g1 i2 (by omega))
        have kf : (fo = 0 ∧ (¬ ∃ i2 j, i2 < j ∧ j < i + 1 ∧ C t i2 ∧ gw NS ST CT GT (rD n day D) W T v rest t j) ∨ fo = 1 ∧ ∃ i2 j, i2 < j ∧ j < i + 1 ∧ C t i2 ∧ gw NS ST CT GT (rD n day D) W T v rest t j) := by
          rcases g2 with ⟨q1, q2⟩ | ⟨q1, i2, j, q2, q3, q4⟩
          · exact Or.inl ⟨q1, fun ⟨i2, j, a1, a2, a3, a4⟩ => absurd a3 (g1 i2 (by omega))⟩
          · exact Or.inr ⟨q1, i2, j, q2, by omega, q4⟩
        by_cases hc : C t i
        · rw [ind_t hc] at hcb
          refine ⟨.inl (nI 1, nI fo, nI (i + 1), J), ?_, 1, fo, J, rfl, Or.inr ⟨rfl, i, by omega, hc⟩, kf, keep, g4⟩
          show cX8_leavesAt_33 N R 111 (nI t) isF (nI F) (nI M) (nI rest) (nI 0) (nI fo) (nI i) J = _
          unfold cX8_leavesAt_33
          simp (disch := first | assumption | omega) only [obs, qle, ↓lm1, l0, qn_add, pk_mul, n_le, n_lt, n_eq, n_sM, n_Ms, n_Mlt, n_Mle, n_ltM, n_leM, ↓reduceIte, eq_self, if_pos, if_neg, qx, p111_3, p111_4, p111_5, p111_6, p111_7, p111_8, p111_11, p111_12, p111_13, p111_14, p111_15, p111_16, p111_17, p111_18, p111_19, p111_21, p111_22, p111_23, p111_24, p111_27, p111_28, p111_29, p111_30, p111_31, p111_32, p111_34, r112, w112, r113, w113, r114, w114, r115, w115, r116, w116, r117, w117, r118, w118, r119, w119, r120, w120, r121, w121, r122, w122, r123, w123, r124, w124, r125, w125, r126, w126, r127, w127, r128, w128, r129, w129, r130, w130, r131, w131, r132, w132, r133, w133, r134, w134, r135, w135, r136, w136, r137, w137, l1, l2, l3, l5, l6, l7, l8, l10, l11, l12, l31, l36, l63, l100, l1000, l1440, l1000000, l16777216, e113, hcb]
        · rw [ind_f hc] at hcb
          refine ⟨.inl (nI 0, nI fo, nI (i + 1), J), ?_, 0, fo, J, rfl, Or.inl ⟨rfl, fun i2 h => ?_⟩, kf, keep, g4⟩
          · show cX8_leavesAt_33 N R 111 (nI t) isF (nI F) (nI M) (nI rest) (nI 0) (nI fo) (nI i) J = _
            unfold cX8_leavesAt_33
            simp (disch := first | assumption | omega) only [obs, qle, ↓lm1, l0, qn_add, pk_mul, n_le, n_lt, n_eq, n_sM, n_Ms, n_Mlt, n_Mle, n_ltM, n_leM, ↓reduceIte, eq_self, if_pos, if_neg, qx, p111_3, p111_4, p111_5, p111_6, p111_7, p111_8, p111_11, p111_12, p111_13, p111_14, p111_15, p111_16, p111_17, p111_18, p111_19, p111_21, p111_22, p111_23, p111_24, p111_27, p111_28, p111_29, p111_30, p111_31, p111_32, p111_34, r112, w112, r113, w113, r114, w114, r115, w115, r116, w116, r117, w117, r118, w118, r119, w119, r120, w120, r121, w121, r122, w122, r123, w123, r124, w124, r125, w125, r126, w126, r127, w127, r128, w128, r129, w129, r130, w130, r131, w131, r132, w132, r133, w133, r134, w134, r135, w135, r136, w136, r137, w137, l1, l2, l3, l5, l6, l7, l8, l10, l11, l12, l31, l36, l63, l100, l1000, l1440, l1000000, l16777216, e113, hcb]
          · by_cases e : i2 = i
            · subst e; exact hc
            · exact g1 i2 (by omega)
      · have hgo : J 130 (70 * rest + (7 * t + i)) = nI (ind (gw NS ST CT GT (rD n day D) W T v rest t i)) := by rw [g4 130 (by omega)]; exact hG rest t i hr ht hi
        by_cases hg : gw NS ST CT GT (rD n day D) W T v rest t i
        · rw [ind_t hg] at hgo
          refine ⟨.inl (nI 1, nI 1, nI (i + 1), qup J 135 (7 * t + i) (nI 1)), ?_, 1, 1, _, rfl, Or.inr ⟨rfl, i0, by omega, g6⟩, Or.inr ⟨rfl, i0, i, g5, by omega, g6, hg⟩, fun x hx => ?_, fun a ha => by rw [qup_ne _ _ _ ha]; exact g4 a ha⟩
          · show cX8_leavesAt_33 N R 111 (nI t) isF (nI F) (nI M) (nI rest) (nI 1) (nI fo) (nI i) J = _
            unfold cX8_leavesAt_33
            simp (disch := first | assumption | omega) only [obs, qle, ↓lm1, l0, qn_add, pk_mul, n_le, n_lt, n_eq, n_sM, n_Ms, n_Mlt, n_Mle, n_ltM, n_leM, ↓reduceIte, eq_self, if_pos, if_neg, qx, p111_3, p111_4, p111_5, p111_6, p111_7, p111_8, p111_11, p111_12, p111_13, p111_14, p111_15, p111_16, p111_17, p111_18, p111_19, p111_21, p111_22, p111_23, p111_24, p111_27, p111_28, p111_29, p111_30, p111_31, p111_32, p111_34, r112, w112, r113, w113, r114, w114, r115, w115, r116, w116, r117, w117, r118, w118, r119, w119, r120, w120, r121, w121, r122, w122, r123, w123, r124, w124, r125, w125, r126, w126, r127, w127, r128, w128, r129, w129, r130, w130, r131, w131, r132, w132, r133, w133, r134, w134, r135, w135, r136, w136, r137, w137, l1, l2, l3, l5, l6, l7, l8, l10, l11, l12, l31, l36, l63, l100, l1000, l1440, l1000000, l16777216, e113, l70, hgo, hn1]
          · by_cases e : x = 7 * t + i
            · subst e
              rw [qup_on, ind_t ⟨i, rfl, by omega, hg, i0, g5, g6⟩]
            · rw [qup_off (by omega), g3 x hx]
              congr 1
              refine ind_iff ⟨fun ⟨j, a1, a2, a3⟩ => ⟨j, a1, by omega, a3⟩, fun ⟨j, a1, a2, a3⟩ => ⟨j, a1, by omega, a3⟩⟩
        · rw [ind_f hg] at hgo
          refine ⟨.inl (nI 1, nI fo, nI (i + 1), J), ?_, 1, fo, J, rfl, Or.inr ⟨rfl, i0, by omega, g6⟩, ?_, fun x hx => ?_, g4⟩
          · show cX8_leavesAt_33 N R 111 (nI t) isF (nI F) (nI M) (nI rest) (nI 1) (nI fo) (nI i) J = _
            unfold cX8_leavesAt_33
            simp (disch := first | assumption | omega) only [obs, qle, ↓lm1, l0, qn_add, pk_mul, n_le, n_lt, n_eq, n_sM, n_Ms, n_Mlt, n_Mle, n_ltM, n_leM, ↓reduceIte, eq_self, if_pos, if_neg, qx, p111_3, p111_4, p111_5, p111_6, p111_7, p111_8, p111_11, p111_12, p111_13, p111_14, p111_15, p111_16, p111_17, p111_18, p111_19, p111_21, p111_22, p111_23, p111_24, p111_27, p111_28, p111_29, p111_30, p111_31, p111_32, p111_34, r112, w112, r113, w113, r114, w114, r115, w115, r116, w116, r117, w117, r118, w118, r119, w119, r120, w120, r121, w121, r122, w122, r123, w123, r124, w124, r125, w125, r126, w126, r127, w127, r128, w128, r129, w129, r130, w130, r131, w131, r132, w132, r133, w133, r134, w134, r135, w135, r136, w136, r137, w137, l1, l2, l3, l5, l6, l7, l8, l10, l11, l12, l31, l36, l63, l100, l1000, l1440, l1000000, l16777216, e113, l70, hgo]
          · rcases g2 with ⟨q1, q2⟩ | ⟨q1, i2, j, q2, q3, q4⟩
            · refine Or.inl ⟨q1, fun ⟨i2, j, a1, a2, a3, a4⟩ => ?_⟩
              by_cases e : j = i
              · subst e; exact hg a4
              · exact q2 ⟨i2, j, a1, by omega, a3, a4⟩
            · exact Or.inr ⟨q1, i2, j, q2, by omega, q4⟩
          · rw [g3 x hx]
            congr 1
            refine ind_iff ⟨fun ⟨j, a1, a2, a3⟩ => ⟨j, a1, by omega, a3⟩, fun ⟨j, a1, a2, a3, a4⟩ => ?_⟩
            by_cases e : j = i
            · subst e; exact absurd a3 hg
            · exact ⟨j, a1, by omega, a3, a4⟩
    · obtain ⟨on, fo, J, rfl, g1, g2, g3, g4⟩ := hq
      have e113 : J 113 t = nI (NS t) := by rw [g4 113 (by omega)]; exact z2
      refine ⟨.inr (nI fo, J), ?_, ?_, g3, g4⟩
      · show cX8_leavesAt_33 N R 111 (nI t) isF (nI F) (nI M) (nI rest) (nI on) (nI fo) (nI (NS t)) J = _
        unfold cX8_leavesAt_33
        simp (disch := first | assumption | omega) only [obs, qle, ↓lm1, l0, qn_add, pk_mul, n_le, n_lt, n_eq, n_sM, n_Ms, n_Mlt, n_Mle, n_ltM, n_leM, ↓reduceIte, eq_self, if_pos, if_neg, qx, p111_3, p111_4, p111_5, p111_6, p111_7, p111_8, p111_11, p111_12, p111_13, p111_14, p111_15, p111_16, p111_17, p111_18, p111_19, p111_21, p111_22, p111_23, p111_24, p111_27, p111_28, p111_29, p111_30, p111_31, p111_32, p111_34, r112, w112, r113, w113, r114, w114, r115, w115, r116, w116, r117, w117, r118, w118, r119, w119, r120, w120, r121, w121, r122, w122, r123, w123, r124, w124, r125, w125, r126, w126, r127, w127, r128, w128, r129, w129, r130, w130, r131, w131, r132, w132, r133, w133, r134, w134, r135, w135, r136, w136, r137, w137, l1, l2, l3, l5, l6, l7, l8, l10, l11, l12, l31, l36, l63, l100, l1000, l1440, l1000000, l16777216, e113]
      · show nI fo = _
        rcases g2 with ⟨q1, q2⟩ | ⟨q1, i2, j, q2, q3, q4⟩
        · rw [q1, ind_f (fun ⟨i2, j, a1, a2, a3⟩ => q2 ⟨i2, j, a1, (gw_ok NS ST CT GT (rD n day D) W T v a3).2.2, a2, a3⟩)]
        · rw [q1, ind_t ⟨i2, j, q2, q4⟩]
  · rw [if_pos (show vp_nar .boolean y.1 = y.1 by rw [hy.1]; exact nar_ind _)]
    exact ok_some hy
theorem firstTrain8_ok {I : qI} {rest : Nat} {isF : Int32} {C : Nat → Nat → Prop} (hN : 300000 ≤ N) (hL : LR R) (w : wb n NS ST CT GT (rD n day D) W F) (hF : FR I n NS ST CT GT D W day) (hG : GO n NS ST CT GT D W day T v 11 I) (hr : rest < 11) (hC : cbp N R NS F M isF C n I) : ok (fX8_firstTrain N R I 111 isF (nI F) (nI day) (nI M) (nI rest)) (fun y => (∀ a, a ≠ 135 → y.2 a = I a) ∧ ((y.1 = nM ∧ ∀ t i j, i < j → C t i → ¬ gw NS ST CT GT (rD n day D) W T v rest t j) ∨ ∃ t, y.1 = nI t ∧ rD n day D t ∧ (∃ i j, i < j ∧ C t i ∧ gw NS ST CT GT (rD n day D) W T v rest t j) ∧ (∀ t2 i j, t2 < t → i < j → C t2 i → ¬ gw NS ST CT GT (rD n day D) W T v rest t2 j) ∧ mk8 NS 135 t (fun j => gw NS ST CT GT (rD n day D) W T v rest t j ∧ ∃ i, i < j ∧ C t i) y.2)) := by
  have hn10 := w.1
  unfold fX8_firstTrain
  rw [l0]
  refine ok_bind (ok_mono (P := fun o => match o with
    | .inl J => (∀ a, a ≠ 135 → J a = I a) ∧ ∀ t i j, i < j → C t i → ¬ gw NS ST CT GT (rD n day D) W T v rest t j
    | .inr y => (∀ a, a ≠ 135 → y.2 a = I a) ∧ ∃ t, y.1 = nI t ∧ rD n day D t ∧ (∃ i j, i < j ∧ C t i ∧ gw NS ST CT GT (rD n day D) W T v rest t j) ∧ (∀ t2 i j, t2 < t → i < j → C t2 i → ¬ gw NS ST CT GT (rD n day D) W T v rest t2 j) ∧ mk8 NS 135 t (fun j => gw NS ST CT GT (rD n day D) W T v rest t j ∧ ∃ i, i < j ∧ C t i) y.2) ?_ (fun o ho => ?_))
  · refine ok_for (fun t q => ∃ J, q = (nI t, J) ∧ (∀ a, a ≠ 135 → J a = I a) ∧ ∀ t2 i j, t2 < t → i < j → C t2 i → ¬ gw NS ST CT GT (rD n day D) W T v rest t2 j) n (by omega) ⟨I, rfl, fun _ _ => rfl, fun t2 i j h => by omega⟩ (fun t q ht hq => ?_) (fun q hq => ?_)
    · obtain ⟨J, rfl, g1, g2⟩ := hq
      have hFJ : FR J n NS ST CT GT D W day := hF.congr (fun a ha => g1 a (by omega)) (by rw [g1 111 (by omega)]) (by rw [g1 111 (by omega)])
      have hGJ : GO n NS ST CT GT D W day T v 11 J := fun k t j h1 h2 h3 => by rw [g1 130 (by omega)]; exact hG k t j h1 h2 h3
      have hCJ : cbp N R NS F M isF C n J := fun K hK => hC K (fun a ha => (hK a ha).trans (g1 a ha))
      have hru := runs8 (R := R) hL hn10 hFJ ht
      have step : (∀ i j, i < j → C t i → ¬ gw NS ST CT GT (rD n day D) W T v rest t j) → ∀ t2 i j, t2 < t + 1 → i < j → C t2 i → ¬ gw NS ST CT GT (rD n day D) W T v rest t2 j := fun h t2 i j a1 => by
        by_cases e : t2 = t
        · subst e; exact h i j
        · exact g2 t2 i j (by omega)
      show ok (cX8_firstTrain_3 N R 111 isF (nI F) (nI day) (nI M) (nI rest) (nI t) J) _
      unfold cX8_firstTrain_3
      rw [hFJ.1, if_neg (show ¬ nI n ≤ nI t by rw [n_le (by omega) (by omega)]; omega)]
      refine ok_bindv hru ?_
      by_cases hb : (D t).testBit day = true
      · rw [ind_t hb, if_neg (show ¬ nI 1 = 0 by decide)]
        refine ok_bind (ok_mono (leavesAt_ok (N := N) (R := R) (v := v) (T := T) hN hL w hFJ hGJ hr hCJ ht) (fun y hy => ?_))
        obtain ⟨y1, K⟩ := y
        obtain ⟨k1, k2, k3⟩ := hy
        simp only at k1 k2 k3 ⊢
        by_cases hfo : ∃ i j, i < j ∧ C t i ∧ gw NS ST CT GT (rD n day D) W T v rest t j
        · rw [k1, ind_t hfo, if_neg (show ¬ nI 1 = 0 by decide)]
          exact ok_some ⟨fun a ha => (k3 a ha).trans (g1 a ha), t, rfl, ⟨ht, hb⟩, hfo, g2, k2⟩
        · rw [k1, ind_f hfo, if_pos (show nI 0 = 0 by decide), nI_1]
          exact ok_some ⟨K, rfl, fun a ha => (k3 a ha).trans (g1 a ha), step (fun i j a1 a2 a3 => hfo ⟨i, j, a1, a2, a3⟩)⟩
      · rw [ind_f hb, if_pos (show nI 0 = 0 by decide), nI_1]
        exact ok_some ⟨J, rfl, g1, step (fun i j a1 a2 a3 => hb (gw_ok NS ST CT GT (rD n day D) W T v a3).1.2)⟩
    · obtain ⟨J, rfl, g1, g2⟩ := hq
      have e1 : J 111 1 = nI n := by rw [g1 111 (by omega)]; exact hF.1
      refine ⟨.inr (.inl J), ?_, g1, fun t i j a1 a2 a3 => g2 t i j (gw_ok NS ST CT GT (rD n day D) W T v a3).1.1 a1 a2 a3⟩
      show cX8_firstTrain_3 N R 111 isF (nI F) (nI day) (nI M) (nI rest) (nI n) J = _
      unfold cX8_firstTrain_3
      simp (disch := first | assumption | omega) only [obs, qle, ↓lm1, l0, qn_add, pk_mul, n_le, n_lt, n_eq, n_sM, n_Ms, n_Mlt, n_Mle, n_ltM, n_leM, ↓reduceIte, eq_self, if_pos, if_neg, qx, p111_3, p111_4, p111_5, p111_6, p111_7, p111_8, p111_11, p111_12, p111_13, p111_14, p111_15, p111_16, p111_17, p111_18, p111_19, p111_21, p111_22, p111_23, p111_24, p111_27, p111_28, p111_29, p111_30, p111_31, p111_32, p111_34, r112, w112, r113, w113, r114, w114, r115, w115, r116, w116, r117, w117, r118, w118, r119, w119, r120, w120, r121, w121, r122, w122, r123, w123, r124, w124, r125, w125, r126, w126, r127, w127, r128, w128, r129, w129, r130, w130, r131, w131, r132, w132, r133, w133, r134, w134, r135, w135, r136, w136, r137, w137, l1, l2, l3, l5, l6, l7, l8, l10, l11, l12, l31, l36, l63, l100, l1000, l1440, l1000000, l16777216, e1]
  · cases o with
    | inl J => exact ok_some ⟨ho.1, Or.inl ⟨by rw [lm1], ho.2⟩⟩
    | inr y => exact ok_some ⟨ho.1, Or.inr ho.2⟩
end TR8
