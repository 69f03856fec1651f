/-! THE REFERENCE'S LEGS FROM THE END BACK -/
section REST8
variable {n : Nat} {NS : Nat → Nat} {ST CT GT : Nat → Nat → Nat} {D : Nat → Nat} {W F day T v M N : Nat} {R : qR}
def GO (n : Nat) (NS : Nat → Nat) (ST CT GT : Nat → Nat → Nat) (D : Nat → Nat) (W day T v K : Nat) (I : qI) : Prop := ∀ k t j, k < K → t < n → j < NS t → I 130 (70 * k + (7 * t + j)) = nI (ind (gw NS ST CT GT (rD n day D) W T v k t j))
theorem ind_01 (P : Prop) : ind P = 0 ∨ ind P = 1 := by
  by_cases h : P
  · exact Or.inr (ind_t h)
  · exact Or.inl (ind_f h)
theorem ind_iff {P Q : Prop} (h : P ↔ Q) : ind P = ind Q := by
  by_cases hp : P
  · rw [ind_t hp, ind_t (h.mp hp)]
  · rw [ind_f hp, ind_f (fun q => hp (h.mpr q))]
theorem nar_ind (P : Prop) : vp_nar .boolean (nI (ind P)) = nI (ind P) := by
  rcases ind_01 P with h | h <;> rw [h]
  · exact nar0
  · exact nar1
theorem canGoOn_ok {I : qI} {k t j : Nat} (hN : 300000 ≤ N) (hL : LR R) (w : wb n NS ST CT GT (rD n day D) W F) (hF : FR I n NS ST CT GT D W day) (hG : GO n NS ST CT GT D W day T v (k + 1) I) (hk : k < 10) (ht : rD n day D t) (hj0 : 1 ≤ j) (hj : j < NS t) : fX8_canGoOn N R I 111 (nI (7 * t + j)) (nI k) (nI day) = some (nI (ind (gw NS ST CT GT (rD n day D) W T v (k + 1) t j))) := by
  have hn10 := w.1
  obtain ⟨h1, h2, h3, h4, h5⟩ := id hF
  have l70 : (70 : Int32) = nI 70 := by decide
  have key : ok (qloop (fun s => cX8_canGoOn_3 N R I 111 (nI (7 * t + j)) (nI k) (nI day) s) N (nI 0)) (fun o => match o with
      | .inl _ => ¬ ∃ u i j2, i < j2 ∧ cc ST CT GT W t j u i ∧ gw NS ST CT GT (rD n day D) W T v k u j2
      | .inr r => (∃ u i j2, i < j2 ∧ cc ST CT GT W t j u i ∧ gw NS ST CT GT (rD n day D) W T v k u j2) ∧ r = nI 1) := by
    refine ok_for (fun u q => q = nI u ∧ ¬ ∃ u2 i j2, u2 < u ∧ i < j2 ∧ cc ST CT GT W t j u2 i ∧ gw NS ST CT GT (rD n day D) W T v k u2 j2) n (by omega) ⟨rfl, fun ⟨u2, i, j2, h, _⟩ => by omega⟩ (fun u q hu hq => ?_) (fun q hq => ?_)
    · obtain ⟨rfl, g1⟩ := hq
      obtain ⟨z1, z2, z3, z4, z5, z6⟩ := h4 u (by omega)
      have hr := runs8 (R := R) hL hn10 hF hu
      have step : (¬ ∃ i j2, i < j2 ∧ cc ST CT GT W t j u i ∧ gw NS ST CT GT (rD n day D) W T v k u j2) → ¬ ∃ u2 i j2, u2 < u + 1 ∧ i < j2 ∧ cc ST CT GT W t j u2 i ∧ gw NS ST CT GT (rD n day D) W T v k u2 j2 := fun hno ⟨u2, i, j2, a1, a2⟩ => by
        by_cases e : u2 = u
        · subst e; exact hno ⟨i, j2, a2⟩
        · exact g1 ⟨u2, i, j2, by omega, a2⟩
      show ok (cX8_canGoOn_3 N R I 111 (nI (7 * t + j)) (nI k) (nI day) (nI u)) _
      unfold cX8_canGoOn_3
      rw [h1, if_neg (show ¬ nI n ≤ nI u by rw [n_le (by omega) (by omega)]; omega)]
      refine ok_bindv hr ?_
      by_cases hb : (D u).testBit day = true
      · rw [ind_t hb, if_neg (show ¬ nI 1 = 0 by decide)]
        refine ok_bind (ok_mono (P := fun o => match o with
          | .inl _ => ¬ ∃ i j2, i < j2 ∧ cc ST CT GT W t j u i ∧ gw NS ST CT GT (rD n day D) W T v k u j2
          | .inr r => (∃ i j2, i < j2 ∧ cc ST CT GT W t j u i ∧ gw NS ST CT GT (rD n day D) W T v k u j2) ∧ r = nI 1) ?_ (fun o ho => ?_))
        · rw [l0]
          refine ok_for (fun i q => ∃ on, q = (nI on, nI i) ∧ ((on = 0 ∧ ∀ i2, i2 < i → ¬ cc ST CT GT W t j u i2) ∨ (on = 1 ∧ ∃ i0, i0 < i ∧ cc ST CT GT W t j u i0 ∧ ∀ j2, i0 < j2 → j2 < i → ¬ gw NS ST CT GT (rD n day D) W T v k u j2))) (NS u) (by omega) ⟨0, rfl, Or.inl ⟨rfl, fun i h => by omega⟩⟩ (fun i q hi hq => ?_) (fun q hq => ?_)
          · obtain ⟨on, rfl, f1⟩ := hq
            have hc := cc8 (R := R) hL w hF ht.1 hj hu hi
            have hgo := hG k u i (by omega) hu hi
            have ex : 70 * k + 7 * u + i = 70 * k + (7 * u + i) := by omega
            rcases f1 with ⟨rfl, f2⟩ | ⟨rfl, i0, f2, f3, f4⟩
            · by_cases hcc : cc ST CT GT W t j u i
              · rw [ind_t hcc] at hc
                refine ⟨.inl (nI 1, nI (i + 1)), ?_, 1, rfl, Or.inr ⟨rfl, i, by omega, hcc, fun j2 a1 a2 => by omega⟩⟩
                show cX8_canGoOn_31 N R I 111 (nI (7 * t + j)) (nI k) (nI day) (nI u) (nI 0) (nI i) = _
                unfold cX8_canGoOn_31
                simp (disch := first | assumption | omega) only [obs, qle, ↓lm1, l0, qn_add, pk_mul, n_le, n_lt, n_eq, n_sM, n_Ms, n_Mlt, n_Mle, n_ltM, n_leM, ↓reduceIte, eq_self, if_pos, if_neg, qx, p111_3, p111_4, p111_5, p111_6, p111_7, p111_8, p111_11, p111_12, p111_13, p111_14, p111_15, p111_16, p111_17, p111_18, p111_19, p111_21, p111_22, p111_23, p111_24, p111_27, p111_28, p111_29, p111_30, p111_31, p111_32, p111_34, r112, w112, r113, w113, r114, w114, r115, w115, r116, w116, r117, w117, r118, w118, r119, w119, r120, w120, r121, w121, r122, w122, r123, w123, r124, w124, r125, w125, r126, w126, r127, w127, r128, w128, r129, w129, r130, w130, r131, w131, r132, w132, r133, w133, r134, w134, r135, w135, r136, w136, r137, w137, l1, l2, l3, l5, l6, l7, l8, l10, l11, l12, l31, l36, l63, l100, l1000, l1440, l1000000, l16777216, z2, hc]
              · rw [ind_f hcc] at hc
                refine ⟨.inl (nI 0, nI (i + 1)), ?_, 0, rfl, Or.inl ⟨rfl, fun i2 a1 => ?_⟩⟩
                · show cX8_canGoOn_31 N R I 111 (nI (7 * t + j)) (nI k) (nI day) (nI u) (nI 0) (nI i) = _
                  unfold cX8_canGoOn_31
                  simp (disch := first | assumption | omega) only [obs, qle, ↓lm1, l0, qn_add, pk_mul, n_le, n_lt, n_eq, n_sM, n_Ms, n_Mlt, n_Mle, n_ltM, n_leM, ↓reduceIte, eq_self, if_pos, if_neg, qx, p111_3, p111_4, p111_5, p111_6, p111_7, p111_8, p111_11, p111_12, p111_13, p111_14, p111_15, p111_16, p111_17, p111_18, p111_19, p111_21, p111_22, p111_23, p111_24, p111_27, p111_28, p111_29, p111_30, p111_31, p111_32, p111_34, r112, w112, r113, w113, r114, w114, r115, w115, r116, w116, r117, w117, r118, w118, r119, w119, r120, w120, r121, w121, r122, w122, r123, w123, r124, w124, r125, w125, r126, w126, r127, w127, r128, w128, r129, w129, r130, w130, r131, w131, r132, w132, r133, w133, r134, w134, r135, w135, r136, w136, r137, w137, l1, l2, l3, l5, l6, l7, l8, l10, l11, l12, l31, l36, l63, l100, l1000, l1440, l1000000, l16777216, z2, hc]
                · by_cases e : i2 = i
                  · subst e; exact hcc
                  · exact f2 i2 (by omega)
            · by_cases hgw : gw NS ST CT GT (rD n day D) W T v k u i
              · rw [ind_t hgw] at hgo
                refine ⟨.inr (.inr (nI 1)), ?_, ⟨i0, i, f2, f3, hgw⟩, rfl⟩
                show cX8_canGoOn_31 N R I 111 (nI (7 * t + j)) (nI k) (nI day) (nI u) (nI 1) (nI i) = _
                unfold cX8_canGoOn_31
                simp (disch := first | assumption | omega) only [obs, qle, ↓lm1, l0, qn_add, pk_mul, n_le, n_lt, n_eq, n_sM, n_Ms, n_Mlt, n_Mle, n_ltM, n_leM, ↓reduceIte, eq_self, if_pos, if_neg, qx, p111_3, p111_4, p111_5, p111_6, p111_7, p111_8, p111_11, p111_12, p111_13, p111_14, p111_15, p111_16, p111_17, p111_18, p111_19, p111_21, p111_22, p111_23, p111_24, p111_27, p111_28, p111_29, p111_30, p111_31, p111_32, p111_34, r112, w112, r113, w113, r114, w114, r115, w115, r116, w116, r117, w117, r118, w118, r119, w119, r120, w120, r121, w121, r122, w122, r123, w123, r124, w124, r125, w125, r126, w126, r127, w127, r128, w128, r129, w129, r130, w130, r131, w131, r132, w132, r133, w133, r134, w134, r135, w135, r136, w136, r137, w137, l1, l2, l3, l5, l6, l7, l8, l10, l11, l12, l31, l36, l63, l100, l1000, l1440, l1000000, l16777216, z2, l70, ex, hgo]
              · rw [ind_f hgw] at hgo
                refine ⟨.inl (nI 1, nI (i + 1)), ?_, 1, rfl, Or.inr ⟨rfl, i0, by omega, f3, fun j2 a1 a2 => ?_⟩⟩
                · show cX8_canGoOn_31 N R I 111 (nI (7 * t + j)) (nI k) (nI day) (nI u) (nI 1) (nI i) = _
                  unfold cX8_canGoOn_31
                  simp (disch := first | assumption | omega) only [obs, qle, ↓lm1, l0, qn_add, pk_mul, n_le, n_lt, n_eq, n_sM, n_Ms, n_Mlt, n_Mle, n_ltM, n_leM, ↓reduceIte, eq_self, if_pos, if_neg, qx, p111_3, p111_4, p111_5, p111_6, p111_7, p111_8, p111_11, p111_12, p111_13, p111_14, p111_15, p111_16, p111_17, p111_18, p111_19, p111_21, p111_22, p111_23, p111_24, p111_27, p111_28, p111_29, p111_30, p111_31, p111_32, p111_34, r112, w112, r113, w113, r114, w114, r115, w115, r116, w116, r117, w117, r118, w118, r119, w119, r120, w120, r121, w121, r122, w122, r123, w123, r124, w124, r125, w125, r126, w126, r127, w127, r128, w128, r129, w129, r130, w130, r131, w131, r132, w132, r133, w133, r134, w134, r135, w135, r136, w136, r137, w137, l1, l2, l3, l5, l6, l7, l8, l10, l11, l12, l31, l36, l63, l100, l1000, l1440, l1000000, l16777216, z2, l70, ex, hgo]
                · by_cases e : j2 = i
                  · subst e; exact hgw
                  · exact f4 j2 a1 (by omega)
          · obtain ⟨on, rfl, f1⟩ := hq
            refine ⟨.inr (.inl ()), ?_, fun ⟨i, j2, a1, a2, a3⟩ => ?_⟩
            · show cX8_canGoOn_31 N R I 111 (nI (7 * t + j)) (nI k) (nI day) (nI u) (nI on) (nI (NS u)) = _
              unfold cX8_canGoOn_31
              simp (disch := first | assumption | omega) only [obs, qle, ↓lm1, l0, qn_add, pk_mul, n_le, n_lt, n_eq, n_sM, n_Ms, n_Mlt, n_Mle, n_ltM, n_leM, ↓reduceIte, eq_self, if_pos, if_neg, qx, p111_3, p111_4, p111_5, p111_6, p111_7, p111_8, p111_11, p111_12, p111_13, p111_14, p111_15, p111_16, p111_17, p111_18, p111_19, p111_21, p111_22, p111_23, p111_24, p111_27, p111_28, p111_29, p111_30, p111_31, p111_32, p111_34, r112, w112, r113, w113, r114, w114, r115, w115, r116, w116, r117, w117, r118, w118, r119, w119, r120, w120, r121, w121, r122, w122, r123, w123, r124, w124, r125, w125, r126, w126, r127, w127, r128, w128, r129, w129, r130, w130, r131, w131, r132, w132, r133, w133, r134, w134, r135, w135, r136, w136, r137, w137, l1, l2, l3, l5, l6, l7, l8, l10, l11, l12, l31, l36, l63, l100, l1000, l1440, l1000000, l16777216, z2]
            · have hj2 := (gw_ok NS ST CT GT (rD n day D) W T v a3).2.2
              rcases f1 with ⟨_, f2⟩ | ⟨_, i0, f2, f3, f4⟩
              · exact f2 i (by omega) a2
              · have : i = i0 := (w.2.2.2.2 u hu).2.2.2 i i0 (by omega) (by omega) (by rw [← a2.1, f3.1])
                subst this
                exact f4 j2 a1 hj2 a3
        · cases o with
          | inl x => exact ok_some ⟨nI_1 u, step ho⟩
          | inr r =>
            obtain ⟨⟨i, j2, a1⟩, rfl⟩ := ho
            exact ok_some ⟨⟨u, i, j2, a1⟩, rfl⟩
      · rw [ind_f hb, if_pos (show nI 0 = 0 by decide)]
        exact ok_some ⟨nI_1 u, step (fun ⟨i, j2, a1, a2, a3⟩ => hb (gw_ok NS ST CT GT (rD n day D) W T v a3).1.2)⟩
    · obtain ⟨rfl, g1⟩ := hq
      refine ⟨.inr (.inl ()), ?_, fun ⟨u, i, j2, a1, a2, a3⟩ => g1 ⟨u, i, j2, (gw_ok NS ST CT GT (rD n day D) W T v a3).1.1, a1, a2, a3⟩⟩
      show cX8_canGoOn_3 N R I 111 (nI (7 * t + j)) (nI k) (nI day) (nI n) = _
      unfold cX8_canGoOn_3
      simp (disch := first | assumption | omega) only [obs, qle, ↓lm1, l0, qn_add, pk_mul, n_le, n_lt, n_eq, n_sM, n_Ms, n_Mlt, n_Mle, n_ltM, n_leM, ↓reduceIte, eq_self, if_pos, if_neg, qx, p111_3, p111_4, p111_5, p111_6, p111_7, p111_8, p111_11, p111_12, p111_13, p111_14, p111_15, p111_16, p111_17, p111_18, p111_19, p111_21, p111_22, p111_23, p111_24, p111_27, p111_28, p111_29, p111_30, p111_31, p111_32, p111_34, r112, w112, r113, w113, r114, w114, r115, w115, r116, w116, r117, w117, r118, w118, r119, w119, r120, w120, r121, w121, r122, w122, r123, w123, r124, w124, r125, w125, r126, w126, r127, w127, r128, w128, r129, w129, r130, w130, r131, w131, r132, w132, r133, w133, r134, w134, r135, w135, r136, w136, r137, w137, l1, l2, l3, l5, l6, l7, l8, l10, l11, l12, l31, l36, l63, l100, l1000, l1440, l1000000, l16777216, h1]
  obtain ⟨o, eo, ho⟩ := key
  unfold fX8_canGoOn
  rw [l0, eo, obs]
  cases o with
  | inl x => rw [ind_f (show ¬ gw NS ST CT GT (rD n day D) W T v (k + 1) t j from fun q => ho q.2.2.2)]; rfl
  | inr r =>
    obtain ⟨h6, rfl⟩ := ho
    rw [ind_t (show gw NS ST CT GT (rD n day D) W T v (k + 1) t j from ⟨ht, hj0, hj, h6⟩)]
    rfl
theorem findRest_ok {I : qI} (hN : 300000 ≤ N) (hL : LR R) (w : wb n NS ST CT GT (rD n day D) W F) (hF : FR I n NS ST CT GT D W day) (hv : I 111 26 = nI v) (hv2 : v < 1440) (hT : T < 12) : ok (fX8_findRest N R I 111 (nI T) (nI day)) (fun J => GO n NS ST CT GT D W day T v 11 J ∧ ∀ a, a ≠ 130 → J a = I a) := by
  have hn10 := w.1
  have l70 : (70 : Int32) = nI 70 := by decide
  have l770 : (770 : Int32) = nI 770 := by decide
  have hn0 : vp_nar .boolean (nI 0) = nI 0 := nar0
  have hn1 : vp_nar .boolean (nI 1) = nI 1 := nar1
  unfold fX8_findRest
  refine ok_bind (ok_mono (P := fun J => (∀ x, x < 770 → J 130 x = nI 0) ∧ ∀ a, a ≠ 130 → J a = I a) ?_ (fun J0 hJ0 => ?_))
  · refine ok_for (fun k q => ∃ J, q = (nI k, J) ∧ (∀ x, x < k → J 130 x = nI 0) ∧ ∀ a, a ≠ 130 → J a = I a) 770 (by omega) ⟨I, by rw [l0], fun x hx => by omega, fun _ _ => rfl⟩ (fun k q hk hq => ?_) (fun q hq => ?_)
    · obtain ⟨J, rfl, g1, g2⟩ := hq
      refine ⟨.inl (nI (k + 1), qup J 130 k (nI 0)), ?_, _, rfl, fun x hx => ?_, fun a ha => by rw [qup_ne _ _ _ ha]; exact g2 a ha⟩
      · show cX8_findRest_2 N R 111 (nI T) (nI day) (nI k) J = _
        unfold cX8_findRest_2
        simp (disch := first | assumption | omega) only [obs, qle, ↓lm1, l0, qn_add, pk_mul, n_le, n_lt, n_eq, n_sM, n_Ms, n_Mlt, n_Mle, n_ltM, n_leM, ↓reduceIte, eq_self, if_pos, if_neg, qx, p111_3, p111_4, p111_5, p111_6, p111_7, p111_8, p111_11, p111_12, p111_13, p111_14, p111_15, p111_16, p111_17, p111_18, p111_19, p111_21, p111_22, p111_23, p111_24, p111_27, p111_28, p111_29, p111_30, p111_31, p111_32, p111_34, r112, w112, r113, w113, r114, w114, r115, w115, r116, w116, r117, w117, r118, w118, r119, w119, r120, w120, r121, w121, r122, w122, r123, w123, r124, w124, r125, w125, r126, w126, r127, w127, r128, w128, r129, w129, r130, w130, r131, w131, r132, w132, r133, w133, r134, w134, r135, w135, r136, w136, r137, w137, l1, l2, l3, l5, l6, l7, l8, l10, l11, l12, l31, l36, l63, l100, l1000, l1440, l1000000, l16777216, l770, hn0]
      · by_cases e : x = k
        · subst e; exact qup_on
        · rw [qup_off (by omega)]; exact g1 x (by omega)
    · obtain ⟨J, rfl, g1, g2⟩ := hq
      refine ⟨.inr J, ?_, g1, g2⟩
      show cX8_findRest_2 N R 111 (nI T) (nI day) (nI 770) J = _
      unfold cX8_findRest_2
      simp (disch := first | assumption | omega) only [obs, qle, ↓lm1, l0, qn_add, pk_mul, n_le, n_lt, n_eq, n_sM, n_Ms, n_Mlt, n_Mle, n_ltM, n_leM, ↓reduceIte, eq_self, if_pos, if_neg, qx, p111_3, p111_4, p111_5, p111_6, p111_7, p111_8, p111_11, p111_12, p111_13, p111_14, p111_15, p111_16, p111_17, p111_18, p111_19, p111_21, p111_22, p111_23, p111_24, p111_27, p111_28, p111_29, p111_30, p111_31, p111_32, p111_34, r112, w112, r113, w113, r114, w114, r115, w115, r116, w116, r117, w117, r118, w118, r119, w119, r120, w120, r121, w121, r122, w122, r123, w123, r124, w124, r125, w125, r126, w126, r127, w127, r128, w128, r129, w129, r130, w130, r131, w131, r132, w132, r133, w133, r134, w134, r135, w135, r136, w136, r137, w137, l1, l2, l3, l5, l6, l7, l8, l10, l11, l12, l31, l36, l63, l100, l1000, l1440, l1000000, l16777216, l770]
  obtain ⟨j1, j2⟩ := hJ0
  refine ok_bind (ok_mono (P := fun J => GO n NS ST CT GT D W day T v 11 J ∧ ∀ a, a ≠ 130 → J a = I a) ?_ (fun r hr => ok_some hr))
  refine ok_for (fun k q => ∃ J, q = (nI k, J) ∧ GO n NS ST CT GT D W day T v k J ∧ (∀ x, 70 * k ≤ x → x < 770 → J 130 x = nI 0) ∧ ∀ a, a ≠ 130 → J a = I a) 11 (by omega) ⟨J0, by rw [l0], fun k t j h => by omega, fun x _ hx => j1 x hx, j2⟩ (fun k q hk hq => ?_) (fun q hq => ?_)
  · obtain ⟨J, rfl, g1, g2, g3⟩ := hq
    show ok (cX8_findRest_24 N R 111 (nI T) (nI day) (nI k) J) _
    unfold cX8_findRest_24
    rw [l11, if_neg (show ¬ nI 11 ≤ nI k by rw [n_le (by omega) (by omega)]; omega)]
    refine ok_bind (ok_mono (P := fun K => GO n NS ST CT GT D W day T v (k + 1) K ∧ (∀ x, 70 * (k + 1) ≤ x → x < 770 → K 130 x = nI 0) ∧ ∀ a, a ≠ 130 → K a = I a) ?_ (fun K hK => ok_some ⟨K, by rw [nI_1], hK⟩))
    refine ok_for (fun t q => ∃ K, q = (nI t, K) ∧ GO n NS ST CT GT D W day T v k K ∧ (∀ u j, u < t → u < n → j < NS u → K 130 (70 * k + (7 * u + j)) = nI (ind (gw NS ST CT GT (rD n day D) W T v k u j))) ∧ (∀ x, 70 * k + 7 * t ≤ x → x < 770 → K 130 x = nI 0) ∧ ∀ a, a ≠ 130 → K a = I a) n (by omega) ⟨J, by rw [l0], g1, fun u j hu => by omega, fun x hx => g2 x (by omega), g3⟩ (fun t q ht hq => ?_) (fun q hq => ?_)
    · obtain ⟨K, rfl, f1, f2, f3, f4⟩ := hq
      have hFK0 : FR K n NS ST CT GT D W day := hF.congr (fun a ha => f4 a (by omega)) (by rw [f4 111 (by omega)]) (by rw [f4 111 (by omega)])
      obtain ⟨z1, z2, z3, z4, z5, z6⟩ := hFK0.2.2.2.1 t (by omega)
      show ok (cX8_findRest_33 N R 111 (nI T) (nI day) (nI k) (nI t) K) _
      unfold cX8_findRest_33
      rw [hFK0.1, if_neg (show ¬ nI n ≤ nI t by rw [n_le (by omega) (by omega)]; omega), l1]
      refine ok_bind (ok_mono (P := fun Q => GO n NS ST CT GT D W day T v k Q ∧ (∀ u j, u < t + 1 → u < n → j < NS u → Q 130 (70 * k + (7 * u + j)) = nI (ind (gw NS ST CT GT (rD n day D) W T v k u j))) ∧ (∀ x, 70 * k + 7 * (t + 1) ≤ x → x < 770 → Q 130 x = nI 0) ∧ ∀ a, a ≠ 130 → Q a = I a) ?_ (fun Q hQ => ok_some ⟨Q, by rw [qn_add], hQ⟩))
      by_cases hb : (D t).testBit day = true
      · refine ok_for (fun j q => ∃ Q, q = (nI (j + 1), Q) ∧ GO n NS ST CT GT D W day T v k Q ∧ (∀ u j2, (u < t ∨ u = t ∧ j2 < j + 1) → u < n → j2 < NS u → Q 130 (70 * k + (7 * u + j2)) = nI (ind (gw NS ST CT GT (rD n day D) W T v k u j2))) ∧ (∀ x, 70 * k + 7 * t + (j + 1) ≤ x → x < 770 → Q 130 x = nI 0) ∧ ∀ a, a ≠ 130 → Q a = I a) (NS t - 1) (by omega) ⟨K, rfl, f1, fun u j2 h1 h2 h3 => ?_, fun x hx => f3 x (by omega), f4⟩ (fun j q hj hq => ?_) (fun q hq => ?_)
        · by_cases e : u = t
          · subst e
            obtain rfl : j2 = 0 := by omega
            rw [f3 _ (by omega) (by omega), ind_f (fun q => by have := (gw_ok NS ST CT GT (rD n day D) W T v q).2.1; omega)]
          · exact f2 u j2 (by omega) h2 h3
        · obtain ⟨Q, rfl, e1, e2, e3, e4⟩ := hq
          have hFQ : FR Q n NS ST CT GT D W day := hF.congr (fun a ha => e4 a (by omega)) (by rw [e4 111 (by omega)]) (by rw [e4 111 (by omega)])
          have hr := runs8 (R := R) hL hn10 hFQ ht
          rw [ind_t hb] at hr
          have z2' : Q 113 t = nI (NS t) := by rw [e4 113 (by omega)]; rw [← f4 113 (by omega)]; exact z2
          obtain ⟨a1, a2, a3, a4, a5, a6⟩ := (hFQ.2.2.2.1 t (by omega)).2.2.2.1 (j + 1) (by omega)
          have s12 := a1.2.2
          have hv3 : Q 111 26 = nI v := by rw [e4 111 (by omega)]; exact hv
          have key : cX8_findRest_45 N R 111 (nI T) (nI day) (nI k) (nI t) (nI (j + 1)) Q = some (.inl (nI (j + 1 + 1), qup Q 130 (70 * k + (7 * t + (j + 1))) (nI (ind (gw NS ST CT GT (rD n day D) W T v k t (j + 1)))))) := by
            unfold cX8_findRest_45
            by_cases hk0 : k = 0
            · subst hk0
              have hg0 : gw NS ST CT GT (rD n day D) W T v 0 t (j + 1) ↔ ST t (j + 1) = T ∧ CT t (j + 1) = v := ⟨fun q => ⟨q.2.2.2.1, q.2.2.2.2⟩, fun q => ⟨⟨ht, hb⟩, by omega, by omega, q.1, q.2⟩⟩
              by_cases hs : ST t (j + 1) = T
              · by_cases hc : CT t (j + 1) = v
                · rw [ind_t (hg0.mpr ⟨hs, hc⟩)]
                  simp (disch := first | assumption | omega) only [obs, qle, ↓lm1, l0, qn_add, pk_mul, n_le, n_lt, n_eq, n_sM, n_Ms, n_Mlt, n_Mle, n_ltM, n_leM, ↓reduceIte, eq_self, if_pos, if_neg, qx, p111_3, p111_4, p111_5, p111_6, p111_7, p111_8, p111_11, p111_12, p111_13, p111_14, p111_15, p111_16, p111_17, p111_18, p111_19, p111_21, p111_22, p111_23, p111_24, p111_27, p111_28, p111_29, p111_30, p111_31, p111_32, p111_34, r112, w112, r113, w113, r114, w114, r115, w115, r116, w116, r117, w117, r118, w118, r119, w119, r120, w120, r121, w121, r122, w122, r123, w123, r124, w124, r125, w125, r126, w126, r127, w127, r128, w128, r129, w129, r130, w130, r131, w131, r132, w132, r133, w133, r134, w134, r135, w135, r136, w136, r137, w137, l1, l2, l3, l5, l6, l7, l8, l10, l11, l12, l31, l36, l63, l100, l1000, l1440, l1000000, l16777216, z2', hr, a1.1, a2.1, hv3, l70, hn1]
                · rw [ind_f (fun q => hc (hg0.mp q).2)]
                  simp (disch := first | assumption | omega) only [obs, qle, ↓lm1, l0, qn_add, pk_mul, n_le, n_lt, n_eq, n_sM, n_Ms, n_Mlt, n_Mle, n_ltM, n_leM, ↓reduceIte, eq_self, if_pos, if_neg, qx, p111_3, p111_4, p111_5, p111_6, p111_7, p111_8, p111_11, p111_12, p111_13, p111_14, p111_15, p111_16, p111_17, p111_18, p111_19, p111_21, p111_22, p111_23, p111_24, p111_27, p111_28, p111_29, p111_30, p111_31, p111_32, p111_34, r112, w112, r113, w113, r114, w114, r115, w115, r116, w116, r117, w117, r118, w118, r119, w119, r120, w120, r121, w121, r122, w122, r123, w123, r124, w124, r125, w125, r126, w126, r127, w127, r128, w128, r129, w129, r130, w130, r131, w131, r132, w132, r133, w133, r134, w134, r135, w135, r136, w136, r137, w137, l1, l2, l3, l5, l6, l7, l8, l10, l11, l12, l31, l36, l63, l100, l1000, l1440, l1000000, l16777216, z2', hr, a1.1, a2.1, hv3, l70, hn0]
              · rw [ind_f (fun q => hs (hg0.mp q).1)]
                simp (disch := first | assumption | omega) only [obs, qle, ↓lm1, l0, qn_add, pk_mul, n_le, n_lt, n_eq, n_sM, n_Ms, n_Mlt, n_Mle, n_ltM, n_leM, ↓reduceIte, eq_self, if_pos, if_neg, qx, p111_3, p111_4, p111_5, p111_6, p111_7, p111_8, p111_11, p111_12, p111_13, p111_14, p111_15, p111_16, p111_17, p111_18, p111_19, p111_21, p111_22, p111_23, p111_24, p111_27, p111_28, p111_29, p111_30, p111_31, p111_32, p111_34, r112, w112, r113, w113, r114, w114, r115, w115, r116, w116, r117, w117, r118, w118, r119, w119, r120, w120, r121, w121, r122, w122, r123, w123, r124, w124, r125, w125, r126, w126, r127, w127, r128, w128, r129, w129, r130, w130, r131, w131, r132, w132, r133, w133, r134, w134, r135, w135, r136, w136, r137, w137, l1, l2, l3, l5, l6, l7, l8, l10, l11, l12, l31, l36, l63, l100, l1000, l1440, l1000000, l16777216, z2', hr, a1.1, l70, hn0]
            · obtain ⟨k', rfl⟩ : ∃ k', k = k' + 1 := ⟨k - 1, by omega⟩
              have cg := canGoOn_ok (N := N) (R := R) (j := j + 1) hN hL w hFQ (show GO n NS ST CT GT D W day T v (k' + 1) Q from e1) (by omega) ⟨ht, hb⟩ (by omega) (by omega)
              have hnr := nar_ind (gw NS ST CT GT (rD n day D) W T v (k' + 1) t (j + 1))
              have ek : k' + 1 - 1 = k' := by omega
              simp (disch := first | assumption | omega) only [obs, qle, ↓lm1, l0, qn_add, pk_mul, n_le, n_lt, n_eq, n_sM, n_Ms, n_Mlt, n_Mle, n_ltM, n_leM, ↓reduceIte, eq_self, if_pos, if_neg, qx, p111_3, p111_4, p111_5, p111_6, p111_7, p111_8, p111_11, p111_12, p111_13, p111_14, p111_15, p111_16, p111_17, p111_18, p111_19, p111_21, p111_22, p111_23, p111_24, p111_27, p111_28, p111_29, p111_30, p111_31, p111_32, p111_34, r112, w112, r113, w113, r114, w114, r115, w115, r116, w116, r117, w117, r118, w118, r119, w119, r120, w120, r121, w121, r122, w122, r123, w123, r124, w124, r125, w125, r126, w126, r127, w127, r128, w128, r129, w129, r130, w130, r131, w131, r132, w132, r133, w133, r134, w134, r135, w135, r136, w136, r137, w137, l1, l2, l3, l5, l6, l7, l8, l10, l11, l12, l31, l36, l63, l100, l1000, l1440, l1000000, l16777216, z2', hr, qn_sub, ek, cg, l70, hnr]
          refine ⟨_, key, _, rfl, fun k2 u j2 h1 h2 h3 => ?_, fun u j2 h1 h2 h3 => ?_, fun x h1 h2 => ?_, fun a ha => by rw [qup_ne _ _ _ ha]; exact e4 a ha⟩
          · have := (hFQ.2.2.2.1 u (by omega)).1
            rw [qup_off (by omega)]; exact e1 k2 u j2 h1 h2 h3
          · by_cases e : u = t ∧ j2 = j + 1
            · rw [e.1, e.2]; exact qup_on
            · have := (hFQ.2.2.2.1 u (by omega)).1
              rw [qup_off (by omega)]; exact e2 u j2 (by omega) h2 h3
          · rw [qup_off (by omega)]; exact e3 x (by omega) h2
        · obtain ⟨Q, rfl, e1, e2, e3, e4⟩ := hq
          have z2' : Q 113 t = nI (NS t) := by rw [e4 113 (by omega)]; rw [← f4 113 (by omega)]; exact z2
          refine ⟨.inr Q, ?_, e1, fun u j2 h1 h2 h3 => ?_, fun x h1 h2 => ?_, e4⟩
          · show cX8_findRest_45 N R 111 (nI T) (nI day) (nI k) (nI t) (nI (NS t - 1 + 1)) Q = _
            unfold cX8_findRest_45
            simp (disch := first | assumption | omega) only [obs, qle, ↓lm1, l0, qn_add, pk_mul, n_le, n_lt, n_eq, n_sM, n_Ms, n_Mlt, n_Mle, n_ltM, n_leM, ↓reduceIte, eq_self, if_pos, if_neg, qx, p111_3, p111_4, p111_5, p111_6, p111_7, p111_8, p111_11, p111_12, p111_13, p111_14, p111_15, p111_16, p111_17, p111_18, p111_19, p111_21, p111_22, p111_23, p111_24, p111_27, p111_28, p111_29, p111_30, p111_31, p111_32, p111_34, r112, w112, r113, w113, r114, w114, r115, w115, r116, w116, r117, w117, r118, w118, r119, w119, r120, w120, r121, w121, r122, w122, r123, w123, r124, w124, r125, w125, r126, w126, r127, w127, r128, w128, r129, w129, r130, w130, r131, w131, r132, w132, r133, w133, r134, w134, r135, w135, r136, w136, r137, w137, l1, l2, l3, l5, l6, l7, l8, l10, l11, l12, l31, l36, l63, l100, l1000, l1440, l1000000, l16777216, z2']
          · by_cases e : u = t
            · subst e; exact e2 u j2 (by omega) h2 h3
            · exact e2 u j2 (by omega) h2 h3
          · exact e3 x (by omega) h2
      · have hr := runs8 (R := R) hL hn10 hFK0 ht
        rw [ind_f hb] at hr
        have e0 : cX8_findRest_45 N R 111 (nI T) (nI day) (nI k) (nI t) (nI 1) K = some (.inr K) := by
          unfold cX8_findRest_45
          by_cases hns : NS t ≤ 1
          · simp (disch := first | assumption | omega) only [obs, qle, ↓lm1, l0, qn_add, pk_mul, n_le, n_lt, n_eq, n_sM, n_Ms, n_Mlt, n_Mle, n_ltM, n_leM, ↓reduceIte, eq_self, if_pos, if_neg, qx, p111_3, p111_4, p111_5, p111_6, p111_7, p111_8, p111_11, p111_12, p111_13, p111_14, p111_15, p111_16, p111_17, p111_18, p111_19, p111_21, p111_22, p111_23, p111_24, p111_27, p111_28, p111_29, p111_30, p111_31, p111_32, p111_34, r112, w112, r113, w113, r114, w114, r115, w115, r116, w116, r117, w117, r118, w118, r119, w119, r120, w120, r121, w121, r122, w122, r123, w123, r124, w124, r125, w125, r126, w126, r127, w127, r128, w128, r129, w129, r130, w130, r131, w131, r132, w132, r133, w133, r134, w134, r135, w135, r136, w136, r137, w137, l1, l2, l3, l5, l6, l7, l8, l10, l11, l12, l31, l36, l63, l100, l1000, l1440, l1000000, l16777216, z2]
          · simp (disch := first | assumption | omega) only [obs, qle, ↓lm1, l0, qn_add, pk_mul, n_le, n_lt, n_eq, n_sM, n_Ms, n_Mlt, n_Mle, n_ltM, n_leM, ↓reduceIte, eq_self, if_pos, if_neg, qx, p111_3, p111_4, p111_5, p111_6, p111_7, p111_8, p111_11, p111_12, p111_13, p111_14, p111_15, p111_16, p111_17, p111_18, p111_19, p111_21, p111_22, p111_23, p111_24, p111_27, p111_28, p111_29, p111_30, p111_31, p111_32, p111_34, r112, w112, r113, w113, r114, w114, r115, w115, r116, w116, r117, w117, r118, w118, r119, w119, r120, w120, r121, w121, r122, w122, r123, w123, r124, w124, r125, w125, r126, w126, r127, w127, r128, w128, r129, w129, r130, w130, r131, w131, r132, w132, r133, w133, r134, w134, r135, w135, r136, w136, r137, w137, l1, l2, l3, l5, l6, l7, l8, l10, l11, l12, l31, l36, l63, l100, l1000, l1440, l1000000, l16777216, z2, hr]
        refine ⟨K, qfor (fun _ => (nI 1, K)) _ 0 (by omega) (fun k hk => by omega) e0, f1, fun u j2 h1 h2 h3 => ?_, fun x h1 => f3 x (by omega), f4⟩
        by_cases e : u = t
        · subst e
          rw [f3 _ (by omega) (by omega), ind_f (fun q => hb (gw_ok NS ST CT GT (rD n day D) W T v q).1.2)]
        · exact f2 u j2 (by omega) h2 h3
    · obtain ⟨K, rfl, f1, f2, f3, f4⟩ := hq
      have e1 : K 111 1 = nI n := by rw [f4 111 (by omega)]; exact hF.1
      refine ⟨.inr K, ?_, fun k2 t j h1 h2 h3 => ?_, fun x h1 => f3 x (by omega), f4⟩
      · show cX8_findRest_33 N R 111 (nI T) (nI day) (nI k) (nI n) K = _
        unfold cX8_findRest_33
        simp (disch := first | assumption | omega) only [obs, qle, ↓lm1, l0, qn_add, pk_mul, n_le, n_lt, n_eq, n_sM, n_Ms, n_Mlt, n_Mle, n_ltM, n_leM, ↓reduceIte, eq_self, if_pos, if_neg, qx, p111_3, p111_4, p111_5, p111_6, p111_7, p111_8, p111_11, p111_12, p111_13, p111_14, p111_15, p111_16, p111_17, p111_18, p111_19, p111_21, p111_22, p111_23, p111_24, p111_27, p111_28, p111_29, p111_30, p111_31, p111_32, p111_34, r112, w112, r113, w113, r114, w114, r115, w115, r116, w116, r117, w117, r118, w118, r119, w119, r120, w120, r121, w121, r122, w122, r123, w123, r124, w124, r125, w125, r126, w126, r127, w127, r128, w128, r129, w129, r130, w130, r131, w131, r132, w132, r133, w133, r134, w134, r135, w135, r136, w136, r137, w137, l1, l2, l3, l5, l6, l7, l8, l10, l11, l12, l31, l36, l63, l100, l1000, l1440, l1000000, l16777216, e1]
      · by_cases e : k2 = k
        · subst e; exact f2 t j h2 h2 h3
        · exact f1 k2 t j (by omega) h2 h3
  · obtain ⟨J, rfl, g1, g2, g3⟩ := hq
    refine ⟨.inr J, ?_, g1, g3⟩
    show cX8_findRest_24 N R 111 (nI T) (nI day) (nI 11) J = _
    unfold cX8_findRest_24
    simp (disch := first | assumption | omega) only [obs, qle, ↓lm1, l0, qn_add, pk_mul, n_le, n_lt, n_eq, n_sM, n_Ms, n_Mlt, n_Mle, n_ltM, n_leM, ↓reduceIte, eq_self, if_pos, if_neg, qx, p111_3, p111_4, p111_5, p111_6, p111_7, p111_8, p111_11, p111_12, p111_13, p111_14, p111_15, p111_16, p111_17, p111_18, p111_19, p111_21, p111_22, p111_23, p111_24, p111_27, p111_28, p111_29, p111_30, p111_31, p111_32, p111_34, r112, w112, r113, w113, r114, w114, r115, w115, r116, w116, r117, w117, r118, w118, r119, w119, r120, w120, r121, w121, r122, w122, r123, w123, r124, w124, r125, w125, r126, w126, r127, w127, r128, w128, r129, w129, r130, w130, r131, w131, r132, w132, r133, w133, r134, w134, r135, w135, r136, w136, r137, w137, l1, l2, l3, l5, l6, l7, l8, l10, l11, l12, l31, l36, l63, l100, l1000, l1440, l1000000, l16777216]
end REST8
