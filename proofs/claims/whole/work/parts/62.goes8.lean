/-! THE REFERENCE'S STATIONS -/
section GOES8
variable {n : Nat} {NS : Nat → Nat} {ST CT GT : Nat → Nat → Nat} {D : Nat → Nat} {W F day T v M N : Nat} {R : qR}
/-- can one of these be left for a stop -/
theorem on131 {I : qI} {tp t i : Nat} {S : Nat → Prop} {v3 v4 v5 v7 v8 : Int32} (hN : 300000 ≤ N) (hL : LR R) (w : wb n NS ST CT GT (rD n day D) W F) (hF : FR I n NS ST CT GT D W day) (htp : tp < n) (ht : t < n) (hi : i < NS t) (hh : mk8 NS 136 tp S I) : qloop (fun s => cX8_restGoes_131 N R I 111 v3 v4 v5 v7 v8 (nI (7 * t + i)) s.1 s.2) N (nI 0, nI 0) = some (nI (ind (∃ j, j < NS tp ∧ S j ∧ cc ST CT GT W tp j t i))) := by
  have hn10 := w.1
  have l70 : (70 : Int32) = nI 70 := by decide
  have hns2 := (hF.2.2.2.1 tp (by omega)).1
  have hnst := (hF.2.2.2.1 t (by omega)).1
  refine ok_is ?_
  refine ok_for (fun x q => ∃ on, q = (nI on, nI x) ∧ (on = 0 ∧ (¬ ∃ j, 7 * tp + j < x ∧ j < NS tp ∧ S j ∧ cc ST CT GT W tp j t i) ∨ on = 1 ∧ ∃ j, j < NS tp ∧ S j ∧ cc ST CT GT W tp j t i)) 70 (by omega) ⟨0, rfl, Or.inl ⟨rfl, fun ⟨j, h, _⟩ => by omega⟩⟩ (fun x q hx hq => ?_) (fun q hq => ?_)
  · obtain ⟨on, rfl, g1⟩ := hq
    rcases g1 with ⟨rfl, g1⟩ | ⟨rfl, g1⟩
    · have hx2 := hh x hx
      by_cases hp : ∃ j, x = 7 * tp + j ∧ j < NS tp ∧ S j
      · rw [ind_t hp] at hx2
        obtain ⟨j, rfl, q2, q3⟩ := hp
        have hc := cc8 (R := R) hL w hF htp q2 ht hi
        by_cases hcc : cc ST CT GT W tp j t i
        · rw [ind_t hcc] at hc
          refine ⟨.inl (nI 1, nI (7 * tp + j + 1)), ?_, 1, rfl, Or.inr ⟨rfl, j, q2, q3, hcc⟩⟩
          show cX8_restGoes_131 N R I 111 v3 v4 v5 v7 v8 (nI (7 * t + i)) (nI 0) (nI (7 * tp + j)) = _
          unfold cX8_restGoes_131
          simp (disch := first | assumption | omega) only [obs, qle, ↓lm1, l0, qn_add, pk_mul, n_le, n_lt, n_eq, n_sM, n_Ms, n_Mlt, n_Mle, n_ltM, n_leM, ↓reduceIte, eq_self, if_pos, if_neg, qx, p111_3, p111_4, p111_5, p111_6, p111_7, p111_8, p111_11, p111_12, p111_13, p111_14, p111_15, p111_16, p111_17, p111_18, p111_19, p111_21, p111_22, p111_23, p111_24, p111_27, p111_28, p111_29, p111_30, p111_31, p111_32, p111_34, r112, w112, r113, w113, r114, w114, r115, w115, r116, w116, r117, w117, r118, w118, r119, w119, r120, w120, r121, w121, r122, w122, r123, w123, r124, w124, r125, w125, r126, w126, r127, w127, r128, w128, r129, w129, r130, w130, r131, w131, r132, w132, r133, w133, r134, w134, r135, w135, r136, w136, r137, w137, l1, l2, l3, l5, l6, l7, l8, l10, l11, l12, l31, l36, l63, l100, l1000, l1440, l1000000, l16777216, l70, hx2, hc]
        · rw [ind_f hcc] at hc
          refine ⟨.inl (nI 0, nI (7 * tp + j + 1)), ?_, 0, rfl, Or.inl ⟨rfl, fun ⟨j2, b1, b2, b3, b4⟩ => ?_⟩⟩
          · show cX8_restGoes_131 N R I 111 v3 v4 v5 v7 v8 (nI (7 * t + i)) (nI 0) (nI (7 * tp + j)) = _
            unfold cX8_restGoes_131
            simp (disch := first | assumption | omega) only [obs, qle, ↓lm1, l0, qn_add, pk_mul, n_le, n_lt, n_eq, n_sM, n_Ms, n_Mlt, n_Mle, n_ltM, n_leM, ↓reduceIte, eq_self, if_pos, if_neg, qx, p111_3, p111_4, p111_5, p111_6, p111_7, p111_8, p111_11, p111_12, p111_13, p111_14, p111_15, p111_16, p111_17, p111_18, p111_19, p111_21, p111_22, p111_23, p111_24, p111_27, p111_28, p111_29, p111_30, p111_31, p111_32, p111_34, r112, w112, r113, w113, r114, w114, r115, w115, r116, w116, r117, w117, r118, w118, r119, w119, r120, w120, r121, w121, r122, w122, r123, w123, r124, w124, r125, w125, r126, w126, r127, w127, r128, w128, r129, w129, r130, w130, r131, w131, r132, w132, r133, w133, r134, w134, r135, w135, r136, w136, r137, w137, l1, l2, l3, l5, l6, l7, l8, l10, l11, l12, l31, l36, l63, l100, l1000, l1440, l1000000, l16777216, l70, hx2, hc]
          · by_cases e : j2 = j
            · subst e; exact hcc b4
            · exact g1 ⟨j2, by omega, b2, b3, b4⟩
      · rw [ind_f hp] at hx2
        refine ⟨.inl (nI 0, nI (x + 1)), ?_, 0, rfl, Or.inl ⟨rfl, fun ⟨j2, b1, b2, b3, b4⟩ => ?_⟩⟩
        · show cX8_restGoes_131 N R I 111 v3 v4 v5 v7 v8 (nI (7 * t + i)) (nI 0) (nI x) = _
          unfold cX8_restGoes_131
          simp (disch := first | assumption | omega) only [obs, qle, ↓lm1, l0, qn_add, pk_mul, n_le, n_lt, n_eq, n_sM, n_Ms, n_Mlt, n_Mle, n_ltM, n_leM, ↓reduceIte, eq_self, if_pos, if_neg, qx, p111_3, p111_4, p111_5, p111_6, p111_7, p111_8, p111_11, p111_12, p111_13, p111_14, p111_15, p111_16, p111_17, p111_18, p111_19, p111_21, p111_22, p111_23, p111_24, p111_27, p111_28, p111_29, p111_30, p111_31, p111_32, p111_34, r112, w112, r113, w113, r114, w114, r115, w115, r116, w116, r117, w117, r118, w118, r119, w119, r120, w120, r121, w121, r122, w122, r123, w123, r124, w124, r125, w125, r126, w126, r127, w127, r128, w128, r129, w129, r130, w130, r131, w131, r132, w132, r133, w133, r134, w134, r135, w135, r136, w136, r137, w137, l1, l2, l3, l5, l6, l7, l8, l10, l11, l12, l31, l36, l63, l100, l1000, l1440, l1000000, l16777216, l70, hx2]
        · by_cases e : 7 * tp + j2 = x
          · exact hp ⟨j2, e.symm, b2, b3⟩
          · exact g1 ⟨j2, by omega, b2, b3, b4⟩
    · refine ⟨.inr (nI 1), ?_, by rw [ind_t g1]⟩
      show cX8_restGoes_131 N R I 111 v3 v4 v5 v7 v8 (nI (7 * t + i)) (nI 1) (nI x) = _
      unfold cX8_restGoes_131
      simp (disch := first | assumption | omega) only [obs, qle, ↓lm1, l0, qn_add, pk_mul, n_le, n_lt, n_eq, n_sM, n_Ms, n_Mlt, n_Mle, n_ltM, n_leM, ↓reduceIte, eq_self, if_pos, if_neg, qx, p111_3, p111_4, p111_5, p111_6, p111_7, p111_8, p111_11, p111_12, p111_13, p111_14, p111_15, p111_16, p111_17, p111_18, p111_19, p111_21, p111_22, p111_23, p111_24, p111_27, p111_28, p111_29, p111_30, p111_31, p111_32, p111_34, r112, w112, r113, w113, r114, w114, r115, w115, r116, w116, r117, w117, r118, w118, r119, w119, r120, w120, r121, w121, r122, w122, r123, w123, r124, w124, r125, w125, r126, w126, r127, w127, r128, w128, r129, w129, r130, w130, r131, w131, r132, w132, r133, w133, r134, w134, r135, w135, r136, w136, r137, w137, l1, l2, l3, l5, l6, l7, l8, l10, l11, l12, l31, l36, l63, l100, l1000, l1440, l1000000, l16777216, l70]
  · obtain ⟨on, rfl, g1⟩ := hq
    refine ⟨.inr (nI on), ?_, ?_⟩
    · show cX8_restGoes_131 N R I 111 v3 v4 v5 v7 v8 (nI (7 * t + i)) (nI on) (nI 70) = _
      unfold cX8_restGoes_131
      simp (disch := first | assumption | omega) only [obs, qle, ↓lm1, l0, qn_add, pk_mul, n_le, n_lt, n_eq, n_sM, n_Ms, n_Mlt, n_Mle, n_ltM, n_leM, ↓reduceIte, eq_self, if_pos, if_neg, qx, p111_3, p111_4, p111_5, p111_6, p111_7, p111_8, p111_11, p111_12, p111_13, p111_14, p111_15, p111_16, p111_17, p111_18, p111_19, p111_21, p111_22, p111_23, p111_24, p111_27, p111_28, p111_29, p111_30, p111_31, p111_32, p111_34, r112, w112, r113, w113, r114, w114, r115, w115, r116, w116, r117, w117, r118, w118, r119, w119, r120, w120, r121, w121, r122, w122, r123, w123, r124, w124, r125, w125, r126, w126, r127, w127, r128, w128, r129, w129, r130, w130, r131, w131, r132, w132, r133, w133, r134, w134, r135, w135, r136, w136, r137, w137, l1, l2, l3, l5, l6, l7, l8, l10, l11, l12, l31, l36, l63, l100, l1000, l1440, l1000000, l16777216, l70]
    · show nI on = _
      rcases g1 with ⟨rfl, g1⟩ | ⟨rfl, g1⟩
      · rw [ind_f (fun ⟨j, b2, b3⟩ => g1 ⟨j, by omega, b2, b3⟩)]
      · rw [ind_t g1]
theorem on131_1 {I : qI} {v3 v4 v5 v7 v8 v9 : Int32} (hN : 300000 ≤ N) : qloop (fun s => cX8_restGoes_131 N R I 111 v3 v4 v5 v7 v8 v9 s.1 s.2) N (nI 1, nI 0) = some (nI 1) := by
  refine qfor (fun _ => (nI 1, nI 0)) _ 0 (by omega) (fun k hk => by omega) ?_
  show cX8_restGoes_131 N R I 111 v3 v4 v5 v7 v8 v9 (nI 1) (nI 0) = _
  unfold cX8_restGoes_131
  rw [if_neg (show ¬ (70 : Int32) ≤ nI 0 by decide), if_neg (show ¬ nI 1 = 0 by decide)]
/-- one train on -/
theorem on90 {I : qI} {tp t : Nat} {S : Nat → Prop} {v3 v4 : Int32} (hN : 300000 ≤ N) (hL : LR R) (w : wb n NS ST CT GT (rD n day D) W F) (hF : FR I n NS ST CT GT D W day) (htp : tp < n) (ht : t < n) (hh : mk8 NS 136 tp S I) (h0 : ∀ x, x < 70 → I 135 x = nI 0) : ok (qloop (fun s => cX8_restGoes_90 N R 111 v3 v4 (nI t) s.1 s.2.1 s.2.2.1 s.2.2.2) N (nI 0, nI 0, nI 0, I)) (fun y => y.1 = nI (ind (∃ i j2, i < j2 ∧ j2 < NS t ∧ ∃ j, j < NS tp ∧ S j ∧ cc ST CT GT W tp j t i)) ∧ mk8 NS 135 t (fun j2 => ∃ i, i < j2 ∧ ∃ j, j < NS tp ∧ S j ∧ cc ST CT GT W tp j t i) y.2 ∧ ∀ a, a ≠ 135 → y.2 a = I a) := by
  have hn10 := w.1
  have hn1 : vp_nar .boolean (nI 1) = nI 1 := nar1
  obtain ⟨z1, z2, z3, z4, z5, z6⟩ := hF.2.2.2.1 t (by omega)
  refine ok_for (fun i q => ∃ (on an : Nat) (J : qI), q = (nI on, nI an, nI i, J) ∧ (on = 0 ∧ (∀ i2, i2 < i → ¬ ∃ j, j < NS tp ∧ S j ∧ cc ST CT GT W tp j t i2) ∨ on = 1 ∧ ∃ i2, i2 < i ∧ ∃ j, j < NS tp ∧ S j ∧ cc ST CT GT W tp j t i2) ∧ (an = 0 ∧ (¬ ∃ i2 j2, i2 < j2 ∧ j2 < i ∧ ∃ j, j < NS tp ∧ S j ∧ cc ST CT GT W tp j t i2) ∨ an = 1 ∧ ∃ i2 j2, i2 < j2 ∧ j2 < i ∧ ∃ j, j < NS tp ∧ S j ∧ cc ST CT GT W tp j t i2) ∧ (∀ x, x < 70 → J 135 x = nI (ind (∃ j2, x = 7 * t + j2 ∧ j2 < i ∧ ∃ i2, i2 < j2 ∧ ∃ j, j < NS tp ∧ S j ∧ cc ST CT GT W tp j t i2))) ∧ ∀ a, a ≠ 135 → J a = I a) (NS t) (by omega) ⟨0, 0, I, rfl, Or.inl ⟨rfl, fun i h => by omega⟩, Or.inl ⟨rfl, fun ⟨i2, j, h, h', _⟩ => by omega⟩, fun x hx => by rw [h0 x hx, ind_f (fun ⟨j, _, h, _⟩ => by omega)], fun _ _ => rfl⟩ (fun i q hi hq => ?_) (fun q hq => ?_)
  · obtain ⟨on, an, J, rfl, g1, g2, g3, g4⟩ := hq
    have hFJ : FR J n NS ST CT GT D W day := hF.congr (fun a ha => g4 a (by omega)) (by rw [g4 111 (by omega)]) (by rw [g4 111 (by omega)])
    have e113 : J 113 t = nI (NS t) := by rw [g4 113 (by omega)]; exact z2
    rcases g1 with ⟨rfl, g1⟩ | ⟨rfl, i0, g5, g6⟩
    · have hhJ : mk8 NS 136 tp S J := fun x hx => by rw [g4 136 (by omega)]; exact hh x hx
      have e131 := on131 (N := N) (R := R) (v3 := v3) (v4 := v4) (v5 := nI t) (v7 := nI an) (v8 := nI i) hN hL w hFJ htp ht hi hhJ
      have keep : (∀ x, x < 70 → J 135 x = nI (ind (∃ j2, x = 7 * t + j2 ∧ j2 < i + 1 ∧ ∃ i2, i2 < j2 ∧ ∃ j, j < NS tp ∧ S j ∧ cc ST CT GT W tp j t i2))) := fun x hx => by
        rw [g3 x hx]
        congr 1
        refine ind_iff ⟨fun ⟨j, a1, a2, a3⟩ => ⟨j, a1, by omega, a3⟩, fun ⟨j, a1, a2, i2, a4, a5⟩ => ?_⟩
        exact absurd a5 (g1 i2 (by omega))
      have kf : (an = 0 ∧ (¬ ∃ i2 j2, i2 < j2 ∧ j2 < i + 1 ∧ ∃ j, j < NS tp ∧ S j ∧ cc ST CT GT W tp j t i2) ∨ an = 1 ∧ ∃ i2 j2, i2 < j2 ∧ j2 < i + 1 ∧ ∃ j, j < NS tp ∧ S j ∧ cc ST CT GT W tp j t i2) := by
        rcases g2 with ⟨q1, q2⟩ | ⟨q1, i2, j, q2, q3, q4⟩
        · exact Or.inl ⟨q1, fun ⟨i2, j, a1, a2, a3⟩ => absurd a3 (g1 i2 (by omega))⟩
        · exact Or.inr ⟨q1, i2, j, q2, by omega, q4⟩
      refine ⟨.inl (nI (ind (∃ j, j < NS tp ∧ S j ∧ cc ST CT GT W tp j t i)), nI an, nI (i + 1), J), ?_, _, an, J, rfl, ?_, kf, keep, g4⟩
      · show cX8_restGoes_90 N R 111 v3 v4 (nI t) (nI 0) (nI an) (nI i) J = _
        unfold cX8_restGoes_90
        simp (disch := first | assumption | omega) only [obs, qle, ↓lm1, l0, qn_add, pk_mul, n_le, n_lt, n_eq, n_sM, n_Ms, n_Mlt, n_Mle, n_ltM, n_leM, ↓reduceIte, eq_self, if_pos, if_neg, qx, p111_3, p111_4, p111_5, p111_6, p111_7, p111_8, p111_11, p111_12, p111_13, p111_14, p111_15, p111_16, p111_17, p111_18, p111_19, p111_21, p111_22, p111_23, p111_24, p111_27, p111_28, p111_29, p111_30, p111_31, p111_32, p111_34, r112, w112, r113, w113, r114, w114, r115, w115, r116, w116, r117, w117, r118, w118, r119, w119, r120, w120, r121, w121, r122, w122, r123, w123, r124, w124, r125, w125, r126, w126, r127, w127, r128, w128, r129, w129, r130, w130, r131, w131, r132, w132, r133, w133, r134, w134, r135, w135, r136, w136, r137, w137, l1, l2, l3, l5, l6, l7, l8, l10, l11, l12, l31, l36, l63, l100, l1000, l1440, l1000000, l16777216, e113, e131]
      · by_cases hc : ∃ j, j < NS tp ∧ S j ∧ cc ST CT GT W tp j t i
        · exact Or.inr ⟨ind_t hc, i, by omega, hc⟩
        · refine Or.inl ⟨ind_f hc, fun i2 h => ?_⟩
          by_cases e : i2 = i
          · subst e; exact hc
          · exact g1 i2 (by omega)
    · have e131 := on131_1 (N := N) (R := R) (I := qup J 135 (7 * t + i) (nI 1)) (v3 := v3) (v4 := v4) (v5 := nI t) (v7 := nI 1) (v8 := nI i) (v9 := nI (7 * t + i)) hN
      refine ⟨.inl (nI 1, nI 1, nI (i + 1), qup J 135 (7 * t + i) (nI 1)), ?_, 1, 1, _, rfl, Or.inr ⟨rfl, i0, by omega, g6⟩, Or.inr ⟨rfl, i0, i, g5, by omega, g6⟩, fun x hx => ?_, fun a ha => by rw [qup_ne _ _ _ ha]; exact g4 a ha⟩
      · show cX8_restGoes_90 N R 111 v3 v4 (nI t) (nI 1) (nI an) (nI i) J = _
        unfold cX8_restGoes_90
        simp (disch := first | assumption | omega) only [obs, qle, ↓lm1, l0, qn_add, pk_mul, n_le, n_lt, n_eq, n_sM, n_Ms, n_Mlt, n_Mle, n_ltM, n_leM, ↓reduceIte, eq_self, if_pos, if_neg, qx, p111_3, p111_4, p111_5, p111_6, p111_7, p111_8, p111_11, p111_12, p111_13, p111_14, p111_15, p111_16, p111_17, p111_18, p111_19, p111_21, p111_22, p111_23, p111_24, p111_27, p111_28, p111_29, p111_30, p111_31, p111_32, p111_34, r112, w112, r113, w113, r114, w114, r115, w115, r116, w116, r117, w117, r118, w118, r119, w119, r120, w120, r121, w121, r122, w122, r123, w123, r124, w124, r125, w125, r126, w126, r127, w127, r128, w128, r129, w129, r130, w130, r131, w131, r132, w132, r133, w133, r134, w134, r135, w135, r136, w136, r137, w137, l1, l2, l3, l5, l6, l7, l8, l10, l11, l12, l31, l36, l63, l100, l1000, l1440, l1000000, l16777216, e113, hn1, e131]
      · by_cases e : x = 7 * t + i
        · subst e
          rw [qup_on, ind_t ⟨i, rfl, by omega, i0, g5, g6⟩]
        · rw [qup_off (by omega), g3 x hx]
          congr 1
          refine ind_iff ⟨fun ⟨j, a1, a2, a3⟩ => ⟨j, a1, by omega, a3⟩, fun ⟨j, a1, a2, a3⟩ => ⟨j, a1, by omega, a3⟩⟩
  · obtain ⟨on, an, J, rfl, g1, g2, g3, g4⟩ := hq
    have e113 : J 113 t = nI (NS t) := by rw [g4 113 (by omega)]; exact z2
    refine ⟨.inr (nI an, J), ?_, ?_, g3, g4⟩
    · show cX8_restGoes_90 N R 111 v3 v4 (nI t) (nI on) (nI an) (nI (NS t)) J = _
      unfold cX8_restGoes_90
      simp (disch := first | assumption | omega) only [obs, qle, ↓lm1, l0, qn_add, pk_mul, n_le, n_lt, n_eq, n_sM, n_Ms, n_Mlt, n_Mle, n_ltM, n_leM, ↓reduceIte, eq_self, if_pos, if_neg, qx, p111_3, p111_4, p111_5, p111_6, p111_7, p111_8, p111_11, p111_12, p111_13, p111_14, p111_15, p111_16, p111_17, p111_18, p111_19, p111_21, p111_22, p111_23, p111_24, p111_27, p111_28, p111_29, p111_30, p111_31, p111_32, p111_34, r112, w112, r113, w113, r114, w114, r115, w115, r116, w116, r117, w117, r118, w118, r119, w119, r120, w120, r121, w121, r122, w122, r123, w123, r124, w124, r125, w125, r126, w126, r127, w127, r128, w128, r129, w129, r130, w130, r131, w131, r132, w132, r133, w133, r134, w134, r135, w135, r136, w136, r137, w137, l1, l2, l3, l5, l6, l7, l8, l10, l11, l12, l31, l36, l63, l100, l1000, l1440, l1000000, l16777216, e113]
    · show nI an = _
      rcases g2 with ⟨q1, q2⟩ | ⟨q1, i2, j, q2⟩
      · rw [q1, ind_f (fun ⟨i2, j, a1⟩ => q2 ⟨i2, j, a1⟩)]
      · rw [q1, ind_t ⟨i2, j, q2⟩]
theorem restGoes_ok {I : qI} {L m j : Nat} {tr : Nat → Nat} (hN : 300000 ≤ N) (hL : LR R) (w : wb n NS ST CT GT (rD n day D) W F) (hF : FR I n NS ST CT GT D W day) (hv : I 111 26 = nI v) (hv2 : v < 1440) (hT : T < 12) (h25 : I 111 25 = nI L) (hL10 : L ≤ 10) (h131 : ∀ m, m < L → I 131 m = nI (tr m) ∧ tr m < n) (hm : m < L) (hj0 : 1 ≤ j) (hj : j < NS (tr m)) : ok (fX8_restGoes N R I 111 (nI (7 * tr m + j)) (nI m) (nI T)) (fun y => y.1 = nI (ind (rgo NS ST CT GT W T v tr (L - 1 - m) m j)) ∧ ∀ a, a ≠ 135 → a ≠ 136 → y.2 a = I a) := by
  have hn10 := w.1
  have l70 : (70 : Int32) = nI 70 := by decide
  have hn0 : vp_nar .boolean (nI 0) = nI 0 := nar0
  have hn1 : vp_nar .boolean (nI 1) = nI 1 := nar1
  have htm := (h131 m hm).2
  have hns := (hF.2.2.2.1 (tr m) (by omega)).1
  unfold fX8_restGoes
  refine ok_bind (ok_mono (P := fun J => mk8 NS 136 (tr m) (fun x => x = j) J ∧ ∀ a, a ≠ 136 → J a = I a) ?_ (fun J0 hJ0 => ?_))
  · refine ok_for (fun k q => ∃ J, q = (nI k, J) ∧ (∀ x, x < k → J 136 x = nI (ind (∃ j2, x = 7 * tr m + j2 ∧ j2 < NS (tr m) ∧ j2 = j))) ∧ ∀ a, a ≠ 136 → J a = I a) 70 (by omega) ⟨I, by rw [l0], fun x hx => by omega, fun _ _ => rfl⟩ (fun k q hk hq => ?_) (fun q hq => ?_)
    · obtain ⟨J, rfl, g1, g2⟩ := hq
      by_cases e : k = 7 * tr m + j
      · refine ⟨.inl (nI (k + 1), qup J 136 k (nI 1)), ?_, _, rfl, fun x hx => ?_, fun a ha => by rw [qup_ne _ _ _ ha]; exact g2 a ha⟩
        · show cX8_restGoes_3 N R 111 (nI (7 * tr m + j)) (nI m) (nI T) (nI k) J = _
          unfold cX8_restGoes_3
          simp (disch := first | assumption | omega) only [obs, qle, ↓lm1, l0, qn_add, pk_mul, n_le, n_lt, n_eq, n_sM, n_Ms, n_Mlt, n_Mle, n_ltM, n_leM, ↓reduceIte, eq_self, if_pos, if_neg, qx, p111_3, p111_4, p111_5, p111_6, p111_7, p111_8, p111_11, p111_12, p111_13, p111_14, p111_15, p111_16, p111_17, p111_18, p111_19, p111_21, p111_22, p111_23, p111_24, p111_27, p111_28, p111_29, p111_30, p111_31, p111_32, p111_34, r112, w112, r113, w113, r114, w114, r115, w115, r116, w116, r117, w117, r118, w118, r119, w119, r120, w120, r121, w121, r122, w122, r123, w123, r124, w124, r125, w125, r126, w126, r127, w127, r128, w128, r129, w129, r130, w130, r131, w131, r132, w132, r133, w133, r134, w134, r135, w135, r136, w136, r137, w137, l1, l2, l3, l5, l6, l7, l8, l10, l11, l12, l31, l36, l63, l100, l1000, l1440, l1000000, l16777216, l70, hn1]
        · by_cases e2 : x = k
          · subst e2; rw [qup_on, ind_t ⟨j, e, hj, rfl⟩]
          · rw [qup_off (by omega)]; exact g1 x (by omega)
      · refine ⟨.inl (nI (k + 1), qup J 136 k (nI 0)), ?_, _, rfl, fun x hx => ?_, fun a ha => by rw [qup_ne _ _ _ ha]; exact g2 a ha⟩
        · show cX8_restGoes_3 N R 111 (nI (7 * tr m + j)) (nI m) (nI T) (nI k) J = _
          unfold cX8_restGoes_3
          simp (disch := first | assumption | omega) only [obs, qle, ↓lm1, l0, qn_add, pk_mul, n_le, n_lt, n_eq, n_sM, n_Ms, n_Mlt, n_Mle, n_ltM, n_leM, ↓reduceIte, eq_self, if_pos, if_neg, qx, p111_3, p111_4, p111_5, p111_6, p111_7, p111_8, p111_11, p111_12, p111_13, p111_14, p111_15, p111_16, p111_17, p111_18, p111_19, p111_21, p111_22, p111_23, p111_24, p111_27, p111_28, p111_29, p111_30, p111_31, p111_32, p111_34, r112, w112, r113, w113, r114, w114, r115, w115, r116, w116, r117, w117, r118, w118, r119, w119, r120, w120, r121, w121, r122, w122, r123, w123, r124, w124, r125, w125, r126, w126, r127, w127, r128, w128, r129, w129, r130, w130, r131, w131, r132, w132, r133, w133, r134, w134, r135, w135, r136, w136, r137, w137, l1, l2, l3, l5, l6, l7, l8, l10, l11, l12, l31, l36, l63, l100, l1000, l1440, l1000000, l16777216, l70, hn0]
        · by_cases e2 : x = k
          · subst e2; rw [qup_on, ind_f (fun ⟨j2, a1, _, a3⟩ => by subst a3; exact e a1)]
          · rw [qup_off (by omega)]; exact g1 x (by omega)
    · obtain ⟨J, rfl, g1, g2⟩ := hq
      refine ⟨.inr J, ?_, g1, g2⟩
      show cX8_restGoes_3 N R 111 (nI (7 * tr m + j)) (nI m) (nI T) (nI 70) J = _
      unfold cX8_restGoes_3
      simp (disch := first | assumption | omega) only [obs, qle, ↓lm1, l0, qn_add, pk_mul, n_le, n_lt, n_eq, n_sM, n_Ms, n_Mlt, n_Mle, n_ltM, n_leM, ↓reduceIte, eq_self, if_pos, if_neg, qx, p111_3, p111_4, p111_5, p111_6, p111_7, p111_8, p111_11, p111_12, p111_13, p111_14, p111_15, p111_16, p111_17, p111_18, p111_19, p111_21, p111_22, p111_23, p111_24, p111_27, p111_28, p111_29, p111_30, p111_31, p111_32, p111_34, r112, w112, r113, w113, r114, w114, r115, w115, r116, w116, r117, w117, r118, w118, r119, w119, r120, w120, r121, w121, r122, w122, r123, w123, r124, w124, r125, w125, r126, w126, r127, w127, r128, w128, r129, w129, r130, w130, r131, w131, r132, w132, r133, w133, r134, w134, r135, w135, r136, w136, r137, w137, l1, l2, l3, l5, l6, l7, l8, l10, l11, l12, l31, l36, l63, l100, l1000, l1440, l1000000, l16777216, l70]
  obtain ⟨j1, j2⟩ := hJ0
  rw [l1, qn_add]
  refine ok_bind (ok_mono (P := fun o => match o with
    | .inl J => (∃ S : Nat → Prop, mk8 NS 136 (tr (L - 1)) S J ∧ (∀ x, S x → 1 ≤ x ∧ x < NS (tr (L - 1))) ∧ ((∃ x, S x ∧ rgo NS ST CT GT W T v tr 0 (L - 1) x) ↔ rgo NS ST CT GT W T v tr (L - 1 - m) m j)) ∧ ∀ a, a ≠ 135 → a ≠ 136 → J a = I a
    | .inr y => y.1 = nI (ind (rgo NS ST CT GT W T v tr (L - 1 - m) m j)) ∧ ∀ a, a ≠ 135 → a ≠ 136 → y.2 a = I a) ?_ (fun o ho => ?_))
  · refine ok_for (fun k q => ∃ (J : qI) (S : Nat → Prop), q = (nI (m + 1 + k), J) ∧ mk8 NS 136 (tr (m + k)) S J ∧ (∀ x, S x → 1 ≤ x ∧ x < NS (tr (m + k))) ∧ ((∃ x, S x ∧ rgo NS ST CT GT W T v tr (L - 1 - (m + k)) (m + k) x) ↔ rgo NS ST CT GT W T v tr (L - 1 - m) m j) ∧ ∀ a, a ≠ 135 → a ≠ 136 → J a = I a) (L - 1 - m) (by omega) ⟨J0, fun x => x = j, rfl, j1, fun x h => by rw [h]; exact ⟨hj0, hj⟩, ⟨fun ⟨x, a1, a2⟩ => by rw [a1] at a2; exact a2, fun h => ⟨j, rfl, h⟩⟩, fun a h1 h2 => j2 a h2⟩ (fun k q hk hq => ?_) (fun q hq => ?_)
    · obtain ⟨J, S, rfl, g1, g2, g3, g4⟩ := hq
      have t1 := h131 (m + k) (by omega)
      have t2 := h131 (m + k + 1) (by omega)
      have hFJ : FR J n NS ST CT GT D W day := hF.congr (fun a ha => g4 a (by omega) (by omega)) (by rw [g4 111 (by omega) (by omega)]) (by rw [g4 111 (by omega) (by omega)])
      have e25 : J 111 25 = nI L := by rw [g4 111 (by omega) (by omega)]; exact h25
      have hns2 := (hF.2.2.2.1 (tr (m + k)) (by omega)).1
      have hns3 := (hF.2.2.2.1 (tr (m + k + 1)) (by omega)).1
      have hd : L - 1 - (m + k) = L - 1 - (m + k + 1) + 1 := by omega
      show ok (cX8_restGoes_39 N R 111 (nI T) (nI (m + 1 + k)) J) _
      unfold cX8_restGoes_39
      rw [e25, if_neg (show ¬ nI L ≤ nI (m + 1 + k) by rw [n_le (by omega) (by omega)]; omega)]
      refine ok_bindv (p111_27 hL) (ok_bindv (r131 hL (by omega)) ?_)
      rw [g4 131 (by omega) (by omega), show m + 1 + k = m + k + 1 by omega, t2.1, l0]
      refine ok_bind (ok_mono (P := fun K => (∀ x, x < 70 → K 135 x = nI 0) ∧ ∀ a, a ≠ 135 → K a = J a) ?_ (fun K0 hK0 => ?_))
      · refine ok_for (fun k2 q => ∃ K, q = (nI k2, K) ∧ (∀ x, x < k2 → K 135 x = nI 0) ∧ ∀ a, a ≠ 135 → K a = J a) 70 (by omega) ⟨J, rfl, fun x hx => by omega, fun _ _ => rfl⟩ (fun k2 q hk2 hq => ?_) (fun q hq => ?_)
        · obtain ⟨K, rfl, f1, f2⟩ := hq
          refine ⟨.inl (nI (k2 + 1), qup K 135 k2 (nI 0)), ?_, _, rfl, fun x hx => ?_, fun a ha => by rw [qup_ne _ _ _ ha]; exact f2 a ha⟩
          · show cX8_restGoes_66 N R 111 (nI T) (nI (m + k + 1)) (nI (tr (m + k + 1))) (nI 0) (nI 0) (nI k2) K = _
            unfold cX8_restGoes_66
            simp (disch := first | assumption | omega) only [obs, qle, ↓lm1, l0, qn_add, pk_mul, n_le, n_lt, n_eq, n_sM, n_Ms, n_Mlt, n_Mle, n_ltM, n_leM, ↓reduceIte, eq_self, if_pos, if_neg, qx, p111_3, p111_4, p111_5, p111_6, p111_7, p111_8, p111_11, p111_12, p111_13, p111_14, p111_15, p111_16, p111_17, p111_18, p111_19, p111_21, p111_22, p111_23, p111_24, p111_27, p111_28, p111_29, p111_30, p111_31, p111_32, p111_34, r112, w112, r113, w113, r114, w114, r115, w115, r116, w116, r117, w117, r118, w118, r119, w119, r120, w120, r121, w121, r122, w122, r123, w123, r124, w124, r125, w125, r126, w126, r127, w127, r128, w128, r129, w129, r130, w130, r131, w131, r132, w132, r133, w133, r134, w134, r135, w135, r136, w136, r137, w137, l1, l2, l3, l5, l6, l7, l8, l10, l11, l12, l31, l36, l63, l100, l1000, l1440, l1000000, l16777216, l70, hn0]
          · by_cases e : x = k2
            · subst e; exact qup_on
            · rw [qup_off (by omega)]; exact f1 x (by omega)
        · obtain ⟨K, rfl, f1, f2⟩ := hq
          refine ⟨.inr K, ?_, f1, f2⟩
          show cX8_restGoes_66 N R 111 (nI T) (nI (m + k + 1)) (nI (tr (m + k + 1))) (nI 0) (nI 0) (nI 70) K = _
          unfold cX8_restGoes_66
          simp (disch := first | assumption | omega) only [obs, qle, ↓lm1, l0, qn_add, pk_mul, n_le, n_lt, n_eq, n_sM, n_Ms, n_Mlt, n_Mle, n_ltM, n_leM, ↓reduceIte, eq_self, if_pos, if_neg, qx, p111_3, p111_4, p111_5, p111_6, p111_7, p111_8, p111_11, p111_12, p111_13, p111_14, p111_15, p111_16, p111_17, p111_18, p111_19, p111_21, p111_22, p111_23, p111_24, p111_27, p111_28, p111_29, p111_30, p111_31, p111_32, p111_34, r112, w112, r113, w113, r114, w114, r115, w115, r116, w116, r117, w117, r118, w118, r119, w119, r120, w120, r121, w121, r122, w122, r123, w123, r124, w124, r125, w125, r126, w126, r127, w127, r128, w128, r129, w129, r130, w130, r131, w131, r132, w132, r133, w133, r134, w134, r135, w135, r136, w136, r137, w137, l1, l2, l3, l5, l6, l7, l8, l10, l11, l12, l31, l36, l63, l100, l1000, l1440, l1000000, l16777216, l70]
      obtain ⟨k01, k02⟩ := hK0
      have hFK : FR K0 n NS ST CT GT D W day := hFJ.congr (fun a ha => k02 a (by omega)) (by rw [k02 111 (by omega)]) (by rw [k02 111 (by omega)])
      refine ok_bind (ok_mono (on90 (N := N) (R := R) (S := S) hN hL w hFK t1.2 t2.2 (fun x hx => by rw [k02 136 (by omega)]; exact g1 x hx) k01) (fun y hy => ?_))
      obtain ⟨y1, K⟩ := y
      obtain ⟨f1, f2, f3⟩ := hy
      simp only at f1 f2 f3 ⊢
      -- the step from set to set
      have hstep : (∃ x, (∃ i, i < x ∧ ∃ j, j < NS (tr (m + k)) ∧ S j ∧ cc ST CT GT W (tr (m + k)) j (tr (m + k + 1)) i) ∧ rgo NS ST CT GT W T v tr (L - 1 - (m + k + 1)) (m + k + 1) x) ↔ rgo NS ST CT GT W T v tr (L - 1 - m) m j := by
        rw [← g3, hd]
        constructor
        · rintro ⟨x, ⟨i, a1, j', a2, a3, a4⟩, a5⟩
          exact ⟨j', a3, (g2 j' a3).1, a2, i, x, a1, a4, a5⟩
        · rintro ⟨j', a3, _, a2, i, x, a1, a4, a5⟩
          exact ⟨x, ⟨i, a1, j', a2, a3, a4⟩, a5⟩
      have hfr : ∀ a, a ≠ 135 → a ≠ 136 → K a = I a := fun a h1 h2 => by rw [f3 a h1, k02 a h1]; exact g4 a h1 h2
      by_cases hany : ∃ i j2, i < j2 ∧ j2 < NS (tr (m + k + 1)) ∧ ∃ j, j < NS (tr (m + k)) ∧ S j ∧ cc ST CT GT W (tr (m + k)) j (tr (m + k + 1)) i
      · rw [f1, ind_t hany, if_neg (show ¬ nI 1 = nI 0 by decide)]
        refine ok_bind (ok_mono (P := fun Q => mk8 NS 136 (tr (m + k + 1)) (fun j2 => ∃ i, i < j2 ∧ ∃ j, j < NS (tr (m + k)) ∧ S j ∧ cc ST CT GT W (tr (m + k)) j (tr (m + k + 1)) i) Q ∧ ∀ a, a ≠ 136 → Q a = K a) ?_ (fun Q hQ => ?_))
        · refine ok_for (fun k2 q => ∃ Q, q = (nI k2, Q) ∧ (∀ x, x < k2 → Q 136 x = K 135 x) ∧ ∀ a, a ≠ 136 → Q a = K a) 70 (by omega) ⟨K, rfl, fun x hx => by omega, fun _ _ => rfl⟩ (fun k2 q hk2 hq => ?_) (fun q hq => ?_)
          · obtain ⟨Q, rfl, u1, u2⟩ := hq
            have e135 : Q 135 k2 = K 135 k2 := by rw [u2 135 (by omega)]
            have hnr : vp_nar .boolean (K 135 k2) = K 135 k2 := by rw [f2 k2 hk2]; exact nar_ind _
            refine ⟨.inl (nI (k2 + 1), qup Q 136 k2 (K 135 k2)), ?_, _, rfl, fun x hx => ?_, fun a ha => by rw [qup_ne _ _ _ ha]; exact u2 a ha⟩
            · show cX8_restGoes_193 N R 111 (nI T) (nI (m + k + 1)) (nI k2) Q = _
              unfold cX8_restGoes_193
              simp (disch := first | assumption | omega) only [obs, qle, ↓lm1, l0, qn_add, pk_mul, n_le, n_lt, n_eq, n_sM, n_Ms, n_Mlt, n_Mle, n_ltM, n_leM, ↓reduceIte, eq_self, if_pos, if_neg, qx, p111_3, p111_4, p111_5, p111_6, p111_7, p111_8, p111_11, p111_12, p111_13, p111_14, p111_15, p111_16, p111_17, p111_18, p111_19, p111_21, p111_22, p111_23, p111_24, p111_27, p111_28, p111_29, p111_30, p111_31, p111_32, p111_34, r112, w112, r113, w113, r114, w114, r115, w115, r116, w116, r117, w117, r118, w118, r119, w119, r120, w120, r121, w121, r122, w122, r123, w123, r124, w124, r125, w125, r126, w126, r127, w127, r128, w128, r129, w129, r130, w130, r131, w131, r132, w132, r133, w133, r134, w134, r135, w135, r136, w136, r137, w137, l1, l2, l3, l5, l6, l7, l8, l10, l11, l12, l31, l36, l63, l100, l1000, l1440, l1000000, l16777216, l70, e135, hnr]
            · by_cases e : x = k2
              · subst e; exact qup_on
              · rw [qup_off (by omega)]; exact u1 x (by omega)
          · obtain ⟨Q, rfl, u1, u2⟩ := hq
            refine ⟨.inr Q, ?_, fun x hx => by rw [u1 x hx]; exact f2 x hx, u2⟩
            show cX8_restGoes_193 N R 111 (nI T) (nI (m + k + 1)) (nI 70) Q = _
            unfold cX8_restGoes_193
            simp (disch := first | assumption | omega) only [obs, qle, ↓lm1, l0, qn_add, pk_mul, n_le, n_lt, n_eq, n_sM, n_Ms, n_Mlt, n_Mle, n_ltM, n_leM, ↓reduceIte, eq_self, if_pos, if_neg, qx, p111_3, p111_4, p111_5, p111_6, p111_7, p111_8, p111_11, p111_12, p111_13, p111_14, p111_15, p111_16, p111_17, p111_18, p111_19, p111_21, p111_22, p111_23, p111_24, p111_27, p111_28, p111_29, p111_30, p111_31, p111_32, p111_34, r112, w112, r113, w113, r114, w114, r115, w115, r116, w116, r117, w117, r118, w118, r119, w119, r120, w120, r121, w121, r122, w122, r123, w123, r124, w124, r125, w125, r126, w126, r127, w127, r128, w128, r129, w129, r130, w130, r131, w131, r132, w132, r133, w133, r134, w134, r135, w135, r136, w136, r137, w137, l1, l2, l3, l5, l6, l7, l8, l10, l11, l12, l31, l36, l63, l100, l1000, l1440, l1000000, l16777216, l70]
        · obtain ⟨u1, u2⟩ := hQ
          rw [nI_1]
          refine ok_some ⟨Q, fun x => x < NS (tr (m + k + 1)) ∧ ∃ i, i < x ∧ ∃ j, j < NS (tr (m + k)) ∧ S j ∧ cc ST CT GT W (tr (m + k)) j (tr (m + k + 1)) i, by rw [show m + 1 + (k + 1) = m + k + 1 + 1 by omega], fun x hx => ?_, fun x hx => ⟨by obtain ⟨_, i, a1, _⟩ := hx; omega, hx.1⟩, ?_, fun a h1 h2 => by rw [u2 a h2]; exact hfr a h1 h2⟩
          · rw [show m + (k + 1) = m + k + 1 by omega, u1 x hx]
            congr 1
            exact ind_iff ⟨fun ⟨j2, a1, a2, a3⟩ => ⟨j2, a1, a2, a2, a3⟩, fun ⟨j2, a1, a2, _, a3⟩ => ⟨j2, a1, a2, a3⟩⟩
          · rw [show m + (k + 1) = m + k + 1 by omega, ← hstep]
            exact ⟨fun ⟨x, a1, a2⟩ => ⟨x, a1.2, a2⟩, fun ⟨x, a1, a2⟩ => ⟨x, ⟨(rgo_ok NS ST CT GT W T v a2).2, a1⟩, a2⟩⟩
      · rw [f1, ind_f hany, if_pos rfl]
        refine ok_some ⟨?_, hfr⟩
        show nI 0 = _
        rw [ind_f]
        intro q
        obtain ⟨x, ⟨i, a1, a2⟩, a3⟩ := hstep.mpr q
        exact hany ⟨i, x, a1, (rgo_ok NS ST CT GT W T v a3).2, a2⟩
    · obtain ⟨J, S, rfl, g1, g2, g3, g4⟩ := hq
      have e : m + (L - 1 - m) = L - 1 := by omega
      rw [e] at g1 g2 g3
      rw [show L - 1 - (L - 1) = 0 by omega] at g3
      have e25 : J 111 25 = nI L := by rw [g4 111 (by omega) (by omega)]; exact h25
      have e2 : m + 1 + (L - 1 - m) = L := by omega
      rw [e2]
      refine ⟨.inr (.inl J), ?_, ⟨S, g1, g2, g3⟩, g4⟩
      show cX8_restGoes_39 N R 111 (nI T) (nI L) J = _
      unfold cX8_restGoes_39
      simp (disch := first | assumption | omega) only [obs, qle, ↓lm1, l0, qn_add, pk_mul, n_le, n_lt, n_eq, n_sM, n_Ms, n_Mlt, n_Mle, n_ltM, n_leM, ↓reduceIte, eq_self, if_pos, if_neg, qx, p111_3, p111_4, p111_5, p111_6, p111_7, p111_8, p111_11, p111_12, p111_13, p111_14, p111_15, p111_16, p111_17, p111_18, p111_19, p111_21, p111_22, p111_23, p111_24, p111_27, p111_28, p111_29, p111_30, p111_31, p111_32, p111_34, r112, w112, r113, w113, r114, w114, r115, w115, r116, w116, r117, w117, r118, w118, r119, w119, r120, w120, r121, w121, r122, w122, r123, w123, r124, w124, r125, w125, r126, w126, r127, w127, r128, w128, r129, w129, r130, w130, r131, w131, r132, w132, r133, w133, r134, w134, r135, w135, r136, w136, r137, w137, l1, l2, l3, l5, l6, l7, l8, l10, l11, l12, l31, l36, l63, l100, l1000, l1440, l1000000, l16777216, e25]
  · cases o with
    | inr y => exact ok_some ho
    | inl J =>
      obtain ⟨⟨S, g1, g2, g3⟩, g4⟩ := ho
      have t1 := h131 (L - 1) (by omega)
      have hFJ : FR J n NS ST CT GT D W day := hF.congr (fun a ha => g4 a (by omega) (by omega)) (by rw [g4 111 (by omega) (by omega)]) (by rw [g4 111 (by omega) (by omega)])
      obtain ⟨z1, z2, z3, z4, z5, z6⟩ := hFJ.2.2.2.1 (tr (L - 1)) (by omega)
      have hv3 : J 111 26 = nI v := by rw [g4 111 (by omega) (by omega)]; exact hv
      have hrg : ∀ x, S x → (rgo NS ST CT GT W T v tr 0 (L - 1) x ↔ ST (tr (L - 1)) x = T ∧ CT (tr (L - 1)) x = v) := fun x hx => ⟨fun q => ⟨q.2.2.1, q.2.2.2⟩, fun q => ⟨(g2 x hx).1, (g2 x hx).2, q.1, q.2⟩⟩
      show ok ((qloop (fun s => cX8_restGoes_229 N R J 111 (nI T) s) N (0 : Int32)).bind _) _
      refine ok_bind (ok_mono (P := fun o => match o with
        | .inl _ => ¬ ∃ x, S x ∧ rgo NS ST CT GT W T v tr 0 (L - 1) x
        | .inr y => (∃ x, S x ∧ rgo NS ST CT GT W T v tr 0 (L - 1) x) ∧ y = (nI 1, J)) ?_ (fun o ho => ?_))
      · rw [l0]
        refine ok_for (fun x q => q = nI x ∧ ¬ ∃ j2, 7 * tr (L - 1) + j2 < x ∧ S j2 ∧ rgo NS ST CT GT W T v tr 0 (L - 1) j2) 70 (by omega) ⟨rfl, fun ⟨j2, h, _⟩ => by omega⟩ (fun x q hx hq => ?_) (fun q hq => ?_)
        · obtain ⟨rfl, f1⟩ := hq
          have hx2 := g1 x hx
          by_cases hp : ∃ j2, x = 7 * tr (L - 1) + j2 ∧ j2 < NS (tr (L - 1)) ∧ S j2
          · rw [ind_t hp] at hx2
            obtain ⟨j2, rfl, q2, q3⟩ := hp
            obtain ⟨a1, a2, a3, a4, a5, a6⟩ := z4 j2 q2
            have s12 := a1.2.2
            have hno : ¬ (ST (tr (L - 1)) j2 = T ∧ CT (tr (L - 1)) j2 = v) → ¬ ∃ j3, 7 * tr (L - 1) + j3 < 7 * tr (L - 1) + j2 + 1 ∧ S j3 ∧ rgo NS ST CT GT W T v tr 0 (L - 1) j3 := fun h ⟨j3, b1, b2, b3⟩ => by
              by_cases e : j3 = j2
              · subst e; exact h ((hrg j3 b2).mp b3)
              · exact f1 ⟨j3, by omega, b2, b3⟩
            by_cases hs : ST (tr (L - 1)) j2 = T
            · by_cases hc : CT (tr (L - 1)) j2 = v
              · refine ⟨.inr (.inr (nI 1, J)), ?_, ⟨j2, q3, (hrg j2 q3).mpr ⟨hs, hc⟩⟩, rfl⟩
                show cX8_restGoes_229 N R J 111 (nI T) (nI (7 * tr (L - 1) + j2)) = _
                unfold cX8_restGoes_229
                simp (disch := first | assumption | omega) only [obs, qle, ↓lm1, l0, qn_add, pk_mul, n_le, n_lt, n_eq, n_sM, n_Ms, n_Mlt, n_Mle, n_ltM, n_leM, ↓reduceIte, eq_self, if_pos, if_neg, qx, p111_3, p111_4, p111_5, p111_6, p111_7, p111_8, p111_11, p111_12, p111_13, p111_14, p111_15, p111_16, p111_17, p111_18, p111_19, p111_21, p111_22, p111_23, p111_24, p111_27, p111_28, p111_29, p111_30, p111_31, p111_32, p111_34, r112, w112, r113, w113, r114, w114, r115, w115, r116, w116, r117, w117, r118, w118, r119, w119, r120, w120, r121, w121, r122, w122, r123, w123, r124, w124, r125, w125, r126, w126, r127, w127, r128, w128, r129, w129, r130, w130, r131, w131, r132, w132, r133, w133, r134, w134, r135, w135, r136, w136, r137, w137, l1, l2, l3, l5, l6, l7, l8, l10, l11, l12, l31, l36, l63, l100, l1000, l1440, l1000000, l16777216, l70, hx2, a1.1, a2.1, hv3]
              · refine ⟨.inl (nI (7 * tr (L - 1) + j2 + 1)), ?_, rfl, hno (fun q => hc q.2)⟩
                show cX8_restGoes_229 N R J 111 (nI T) (nI (7 * tr (L - 1) + j2)) = _
                unfold cX8_restGoes_229
                simp (disch := first | assumption | omega) only [obs, qle, ↓lm1, l0, qn_add, pk_mul, n_le, n_lt, n_eq, n_sM, n_Ms, n_Mlt, n_Mle, n_ltM, n_leM, ↓reduceIte, eq_self, if_pos, if_neg, qx, p111_3, p111_4, p111_5, p111_6, p111_7, p111_8, p111_11, p111_12, p111_13, p111_14, p111_15, p111_16, p111_17, p111_18, p111_19, p111_21, p111_22, p111_23, p111_24, p111_27, p111_28, p111_29, p111_30, p111_31, p111_32, p111_34, r112, w112, r113, w113, r114, w114, r115, w115, r116, w116, r117, w117, r118, w118, r119, w119, r120, w120, r121, w121, r122, w122, r123, w123, r124, w124, r125, w125, r126, w126, r127, w127, r128, w128, r129, w129, r130, w130, r131, w131, r132, w132, r133, w133, r134, w134, r135, w135, r136, w136, r137, w137, l1, l2, l3, l5, l6, l7, l8, l10, l11, l12, l31, l36, l63, l100, l1000, l1440, l1000000, l16777216, l70, hx2, a1.1, a2.1, hv3]
            · refine ⟨.inl (nI (7 * tr (L - 1) + j2 + 1)), ?_, rfl, hno (fun q => hs q.1)⟩
              show cX8_restGoes_229 N R J 111 (nI T) (nI (7 * tr (L - 1) + j2)) = _
              unfold cX8_restGoes_229
              simp (disch := first | assumption | omega) only [obs, qle, ↓lm1, l0, qn_add, pk_mul, n_le, n_lt, n_eq, n_sM, n_Ms, n_Mlt, n_Mle, n_ltM, n_leM, ↓reduceIte, eq_self, if_pos, if_neg, qx, p111_3, p111_4, p111_5, p111_6, p111_7, p111_8, p111_11, p111_12, p111_13, p111_14, p111_15, p111_16, p111_17, p111_18, p111_19, p111_21, p111_22, p111_23, p111_24, p111_27, p111_28, p111_29, p111_30, p111_31, p111_32, p111_34, r112, w112, r113, w113, r114, w114, r115, w115, r116, w116, r117, w117, r118, w118, r119, w119, r120, w120, r121, w121, r122, w122, r123, w123, r124, w124, r125, w125, r126, w126, r127, w127, r128, w128, r129, w129, r130, w130, r131, w131, r132, w132, r133, w133, r134, w134, r135, w135, r136, w136, r137, w137, l1, l2, l3, l5, l6, l7, l8, l10, l11, l12, l31, l36, l63, l100, l1000, l1440, l1000000, l16777216, l70, hx2, a1.1]
          · rw [ind_f hp] at hx2
            refine ⟨.inl (nI (x + 1)), ?_, rfl, fun ⟨j3, b1, b2, b3⟩ => ?_⟩
            · show cX8_restGoes_229 N R J 111 (nI T) (nI x) = _
              unfold cX8_restGoes_229
              simp (disch := first | assumption | omega) only [obs, qle, ↓lm1, l0, qn_add, pk_mul, n_le, n_lt, n_eq, n_sM, n_Ms, n_Mlt, n_Mle, n_ltM, n_leM, ↓reduceIte, eq_self, if_pos, if_neg, qx, p111_3, p111_4, p111_5, p111_6, p111_7, p111_8, p111_11, p111_12, p111_13, p111_14, p111_15, p111_16, p111_17, p111_18, p111_19, p111_21, p111_22, p111_23, p111_24, p111_27, p111_28, p111_29, p111_30, p111_31, p111_32, p111_34, r112, w112, r113, w113, r114, w114, r115, w115, r116, w116, r117, w117, r118, w118, r119, w119, r120, w120, r121, w121, r122, w122, r123, w123, r124, w124, r125, w125, r126, w126, r127, w127, r128, w128, r129, w129, r130, w130, r131, w131, r132, w132, r133, w133, r134, w134, r135, w135, r136, w136, r137, w137, l1, l2, l3, l5, l6, l7, l8, l10, l11, l12, l31, l36, l63, l100, l1000, l1440, l1000000, l16777216, l70, hx2]
            · by_cases e : 7 * tr (L - 1) + j3 = x
              · exact hp ⟨j3, e.symm, (g2 j3 b2).2, b2⟩
              · exact f1 ⟨j3, by omega, b2, b3⟩
        · obtain ⟨rfl, f1⟩ := hq
          refine ⟨.inr (.inl ()), ?_, fun ⟨j3, b2, b3⟩ => f1 ⟨j3, by have := (g2 j3 b2).2; omega, b2, b3⟩⟩
          show cX8_restGoes_229 N R J 111 (nI T) (nI 70) = _
          unfold cX8_restGoes_229
          simp (disch := first | assumption | omega) only [obs, qle, ↓lm1, l0, qn_add, pk_mul, n_le, n_lt, n_eq, n_sM, n_Ms, n_Mlt, n_Mle, n_ltM, n_leM, ↓reduceIte, eq_self, if_pos, if_neg, qx, p111_3, p111_4, p111_5, p111_6, p111_7, p111_8, p111_11, p111_12, p111_13, p111_14, p111_15, p111_16, p111_17, p111_18, p111_19, p111_21, p111_22, p111_23, p111_24, p111_27, p111_28, p111_29, p111_30, p111_31, p111_32, p111_34, r112, w112, r113, w113, r114, w114, r115, w115, r116, w116, r117, w117, r118, w118, r119, w119, r120, w120, r121, w121, r122, w122, r123, w123, r124, w124, r125, w125, r126, w126, r127, w127, r128, w128, r129, w129, r130, w130, r131, w131, r132, w132, r133, w133, r134, w134, r135, w135, r136, w136, r137, w137, l1, l2, l3, l5, l6, l7, l8, l10, l11, l12, l31, l36, l63, l100, l1000, l1440, l1000000, l16777216, l70]
      · cases o with
        | inl x =>
          refine ok_some ⟨?_, g4⟩
          show (0 : Int32) = _
          rw [ind_f (fun q => ho (g3.mpr q)), l0]
        | inr y =>
          obtain ⟨h6, rfl⟩ := ho
          refine ok_some ⟨?_, g4⟩
          show nI 1 = _
          rw [ind_t (g3.mp h6)]
end GOES8
