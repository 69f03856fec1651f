/-! THE REFERENCE'S SOONEST ARRIVAL -/
def FR (I : qI) (n : Nat) (NS : Nat → Nat) (ST CT GT : Nat → Nat → Nat) (D : Nat → Nat) (W day : Nat) : Prop := I 111 1 = nI n ∧ I 111 2 = nI W ∧ day < 7 ∧ BK I NS ST CT GT ∧ ∀ t, t < n → I 112 t = nI (D t) ∧ D t < 128
theorem FR.congr {I J : qI} {n : Nat} {NS : Nat → Nat} {ST CT GT : Nat → Nat → Nat} {D : Nat → Nat} {W day : Nat} (h : FR I n NS ST CT GT D W day) (e : ∀ a, (61 ≤ a ∧ a < 111 ∨ 112 ≤ a ∧ a ≤ 116) → J a = I a) (e1 : J 111 1 = I 111 1) (e2 : J 111 2 = I 111 2) : FR J n NS ST CT GT D W day := by
  obtain ⟨h1, h2, h3, h4, h5⟩ := h
  exact ⟨by rw [e1]; exact h1, by rw [e2]; exact h2, h3, h4.congr e, fun t ht => by rw [e 112 (by omega)]; exact h5 t ht⟩
section SOON8
variable {n : Nat} {NS : Nat → Nat} {ST CT GT : Nat → Nat → Nat} {D : Nat → Nat} {W F day M N : Nat} {R : qR}
theorem runs8 {I : qI} {t : Nat} (hL : LR R) (hn : n ≤ 10) (hF : FR I n NS ST CT GT D W day) (ht : t < n) : fX8_runs R I 111 (nI t) (nI day) = some (nI (ind ((D t).testBit day = true))) := by
  obtain ⟨h1, h2, h3, h4, h5⟩ := hF
  have e := h5 t ht
  unfold fX8_runs
  refine bind_of (p111_3 hL) (bind_of (r112 hL (by omega)) ?_)
  rw [e.1]
  by_cases hb : (D t).testBit day = true
  · rw [if_pos (show ((nI (D t) >>> (nI day &&& 31)) &&& (1 : Int32)) = 1 by rw [l1, l31, n_bit1 _ _ (by omega) (by omega)]; exact hb), ind_t hb, l1]
  · rw [if_neg (show ¬ ((nI (D t) >>> (nI day &&& 31)) &&& (1 : Int32)) = 1 by rw [l1, l31, n_bit1 _ _ (by omega) (by omega)]; exact hb), ind_f hb, l0]
def cc (ST CT GT : Nat → Nat → Nat) (W t i u j : Nat) : Prop := ST t i = ST u j ∧ CT t i + W ≤ GT u j
theorem cc8 {I : qI} {t i u j : Nat} (hL : LR R) (w : wb n NS ST CT GT (rD n day D) W F) (hF : FR I n NS ST CT GT D W day) (ht : t < n) (hi : i < NS t) (hu : u < n) (hj : j < NS u) : fX8_canChange R I 111 (nI (7 * t + i)) (nI (7 * u + j)) = some (nI (ind (cc ST CT GT W t i u j))) := by
  have hn10 := w.1
  have hW := w.2.1
  obtain ⟨h1, h2, h3, h4, h5⟩ := hF
  obtain ⟨z1, z2, z3, z4, z5, z6⟩ := h4 t (by omega)
  obtain ⟨q1, q2, q3, q4, q5, q6⟩ := h4 u (by omega)
  obtain ⟨a1, a2, a3, a4, a5, a6⟩ := z4 i hi
  obtain ⟨b1, b2, b3, b4, b5, b6⟩ := q4 j hj
  have s1 := a1.2.2
  have s2 := b1.2.2
  unfold fX8_canChange
  by_cases hs : ST t i = ST u j
  · by_cases hg : CT t i + W ≤ GT u j
    · rw [ind_t ⟨hs, hg⟩]
      simp (disch := first | assumption | omega) only [obs, qle, ↓lm1, l0, qn_add, pk_mul, n_le, n_lt, n_eq, n_sM, n_Ms, n_Mlt, n_Mle, n_ltM, n_leM, ↓reduceIte, eq_self, if_pos, if_neg, qx, p111_3, p111_4, p111_5, p111_6, p111_7, p111_8, p111_11, p111_12, p111_13, p111_14, p111_15, p111_16, p111_17, p111_18, p111_19, p111_21, p111_22, p111_23, p111_24, p111_27, p111_28, p111_29, p111_30, p111_31, p111_32, p111_34, r112, w112, r113, w113, r114, w114, r115, w115, r116, w116, r117, w117, r118, w118, r119, w119, r120, w120, r121, w121, r122, w122, r123, w123, r124, w124, r125, w125, r126, w126, r127, w127, r128, w128, r129, w129, r130, w130, r131, w131, r132, w132, r133, w133, r134, w134, r135, w135, r136, w136, r137, w137, l1, l2, l3, l5, l6, l7, l8, l10, l11, l12, l31, l36, l63, l100, l1000, l1440, l1000000, l16777216, a1.1, b1.1, a2.1, b3.1, h2]
    · rw [ind_f (fun q => hg q.2)]
      simp (disch := first | assumption | omega) only [obs, qle, ↓lm1, l0, qn_add, pk_mul, n_le, n_lt, n_eq, n_sM, n_Ms, n_Mlt, n_Mle, n_ltM, n_leM, ↓reduceIte, eq_self, if_pos, if_neg, qx, p111_3, p111_4, p111_5, p111_6, p111_7, p111_8, p111_11, p111_12, p111_13, p111_14, p111_15, p111_16, p111_17, p111_18, p111_19, p111_21, p111_22, p111_23, p111_24, p111_27, p111_28, p111_29, p111_30, p111_31, p111_32, p111_34, r112, w112, r113, w113, r114, w114, r115, w115, r116, w116, r117, w117, r118, w118, r119, w119, r120, w120, r121, w121, r122, w122, r123, w123, r124, w124, r125, w125, r126, w126, r127, w127, r128, w128, r129, w129, r130, w130, r131, w131, r132, w132, r133, w133, r134, w134, r135, w135, r136, w136, r137, w137, l1, l2, l3, l5, l6, l7, l8, l10, l11, l12, l31, l36, l63, l100, l1000, l1440, l1000000, l16777216, a1.1, b1.1, a2.1, b3.1, h2]
  · rw [ind_f (fun q => hs q.1)]
    simp (disch := first | assumption | omega) only [obs, qle, ↓lm1, l0, qn_add, pk_mul, n_le, n_lt, n_eq, n_sM, n_Ms, n_Mlt, n_Mle, n_ltM, n_leM, ↓reduceIte, eq_self, if_pos, if_neg, qx, p111_3, p111_4, p111_5, p111_6, p111_7, p111_8, p111_11, p111_12, p111_13, p111_14, p111_15, p111_16, p111_17, p111_18, p111_19, p111_21, p111_22, p111_23, p111_24, p111_27, p111_28, p111_29, p111_30, p111_31, p111_32, p111_34, r112, w112, r113, w113, r114, w114, r115, w115, r116, w116, r117, w117, r118, w118, r119, w119, r120, w120, r121, w121, r122, w122, r123, w123, r124, w124, r125, w125, r126, w126, r127, w127, r128, w128, r129, w129, r130, w130, r131, w131, r132, w132, r133, w133, r134, w134, r135, w135, r136, w136, r137, w137, l1, l2, l3, l5, l6, l7, l8, l10, l11, l12, l31, l36, l63, l100, l1000, l1440, l1000000, l16777216, a1.1, b1.1]
/-- the marks are 0 or 1 -/
def Z1 (a len : Nat) (I : qI) : Prop := ∀ x, x < len → I a x = nI 0 ∨ I a x = nI 1
def BR8 (n : Nat) (NS : Nat → Nat) (ST CT GT : Nat → Nat → Nat) (D : Nat → Nat) (W F day M : Nat) (I : qI) (t i : Nat) : Prop := fb ST GT F M t i ∨ ∃ u j, rD n day D u ∧ 1 ≤ j ∧ j < NS u ∧ I 129 (7 * u + j) = nI 1 ∧ cc ST CT GT W u j t i
theorem isBoarded_ok {I : qI} {t i : Nat} (hN : 300000 ≤ N) (hL : LR R) (w : wb n NS ST CT GT (rD n day D) W F) (hF : FR I n NS ST CT GT D W day) (hM : M ≤ 1440) (hZ : Z1 129 70 I) (ht : t < n) (hi : i < NS t) : fX8_isBoarded N R I 111 (nI (7 * t + i)) (nI F) (nI M) (nI day) = some (nI (ind (BR8 n NS ST CT GT D W F day M I t i))) := by
  have hn10 := w.1
  have hF12 := w.2.2.1
  obtain ⟨h1, h2, h3, h4, h5⟩ := id hF
  obtain ⟨z1, z2, z3, z4, z5, z6⟩ := h4 t (by omega)
  obtain ⟨a1, a2, a3, a4, a5, a6⟩ := z4 i hi
  have s1 := a1.2.2
  -- the loop over trains
  have el : ok (qloop (fun s => cX8_isBoarded_25 N R I 111 (nI (7 * t + i)) (nI day) s) N (nI 0)) (fun o => match o with
      | .inl _ => ¬ ∃ u j, rD n day D u ∧ 1 ≤ j ∧ j < NS u ∧ I 129 (7 * u + j) = nI 1 ∧ cc ST CT GT W u j t i
      | .inr v => (∃ u j, rD n day D u ∧ 1 ≤ j ∧ j < NS u ∧ I 129 (7 * u + j) = nI 1 ∧ cc ST CT GT W u j t i) ∧ v = nI 1) := by
    refine ok_for (fun u q => q = nI u ∧ ¬ ∃ u2 j, u2 < u ∧ rD n day D u2 ∧ 1 ≤ j ∧ j < NS u2 ∧ I 129 (7 * u2 + j) = nI 1 ∧ cc ST CT GT W u2 j t i) n (by omega) ⟨rfl, fun ⟨u2, j, h, _⟩ => by omega⟩ (fun u q hu hq => ?_) (fun q hq => ?_)
    · obtain ⟨rfl, g1⟩ := hq
      have hr := runs8 (R := R) hL hn10 hF hu
      have hu7 := (h4 u (by omega)).1
      have e113 := (h4 u (by omega)).2.1
      show ok (cX8_isBoarded_25 N R I 111 (nI (7 * t + i)) (nI day) (nI u)) _
      unfold cX8_isBoarded_25
      rw [h1, if_neg (show ¬ nI n ≤ nI u by rw [n_le (by omega) (by omega)]; omega)]
      refine ok_bindv hr ?_
      by_cases hb : (D u).testBit day = true
      · rw [ind_t hb, if_neg (show ¬ nI 1 = 0 by decide)]
        refine ok_bind (ok_mono (P := fun o => match o with
          | .inl _ => ¬ ∃ j, 1 ≤ j ∧ j < NS u ∧ I 129 (7 * u + j) = nI 1 ∧ cc ST CT GT W u j t i
          | .inr v => (∃ j, 1 ≤ j ∧ j < NS u ∧ I 129 (7 * u + j) = nI 1 ∧ cc ST CT GT W u j t i) ∧ v = nI 1) ?_ (fun o ho => ?_))
        · rw [l1]
          refine ok_for (fun k q => q = nI (k + 1) ∧ ¬ ∃ j, 1 ≤ j ∧ j < k + 1 ∧ j < NS u ∧ I 129 (7 * u + j) = nI 1 ∧ cc ST CT GT W u j t i) (NS u - 1) (by omega) ⟨rfl, fun ⟨j, h, h', _⟩ => by omega⟩ (fun k q hk hq => ?_) (fun q hq => ?_)
          · obtain ⟨rfl, f1⟩ := hq
            have hc := cc8 (R := R) hL w hF hu (show k + 1 < NS u by omega) ht hi
            have hzz := hZ (7 * u + (k + 1)) (by omega)
            by_cases hz : I 129 (7 * u + (k + 1)) = nI 1
            · by_cases hcc : cc ST CT GT W u (k + 1) t i
              · rw [ind_t hcc] at hc
                refine ⟨.inr (.inr (nI 1)), ?_, ⟨k + 1, by omega, by omega, hz, hcc⟩, rfl⟩
                show cX8_isBoarded_48 N R I 111 (nI (7 * t + i)) (nI day) (nI u) (nI (k + 1)) = _
                unfold cX8_isBoarded_48
                simp (disch := first | assumption | omega) only [obs, qle, ↓lm1, l0, qn_add, pk_mul, n_le, n_lt, n_eq, n_sM, n_Ms, n_Mlt, n_Mle, n_ltM, n_leM, ↓reduceIte, eq_self, if_pos, if_neg, qx, p111_3, p111_4, p111_5, p111_6, p111_7, p111_8, p111_11, p111_12, p111_13, p111_14, p111_15, p111_16, p111_17, p111_18, p111_19, p111_21, p111_22, p111_23, p111_24, p111_27, p111_28, p111_29, p111_30, p111_31, p111_32, p111_34, r112, w112, r113, w113, r114, w114, r115, w115, r116, w116, r117, w117, r118, w118, r119, w119, r120, w120, r121, w121, r122, w122, r123, w123, r124, w124, r125, w125, r126, w126, r127, w127, r128, w128, r129, w129, r130, w130, r131, w131, r132, w132, r133, w133, r134, w134, r135, w135, r136, w136, r137, w137, l1, l2, l3, l5, l6, l7, l8, l10, l11, l12, l31, l36, l63, l100, l1000, l1440, l1000000, l16777216, e113, hz, hc]
              · rw [ind_f hcc] at hc
                refine ⟨.inl (nI (k + 1 + 1)), ?_, rfl, fun ⟨j, j1, j2, j3, j4, j5⟩ => ?_⟩
                · show cX8_isBoarded_48 N R I 111 (nI (7 * t + i)) (nI day) (nI u) (nI (k + 1)) = _
                  unfold cX8_isBoarded_48
                  simp (disch := first | assumption | omega) only [obs, qle, ↓lm1, l0, qn_add, pk_mul, n_le, n_lt, n_eq, n_sM, n_Ms, n_Mlt, n_Mle, n_ltM, n_leM, ↓reduceIte, eq_self, if_pos, if_neg, qx, p111_3, p111_4, p111_5, p111_6, p111_7, p111_8, p111_11, p111_12, p111_13, p111_14, p111_15, p111_16, p111_17, p111_18, p111_19, p111_21, p111_22, p111_23, p111_24, p111_27, p111_28, p111_29, p111_30, p111_31, p111_32, p111_34, r112, w112, r113, w113, r114, w114, r115, w115, r116, w116, r117, w117, r118, w118, r119, w119, r120, w120, r121, w121, r122, w122, r123, w123, r124, w124, r125, w125, r126, w126, r127, w127, r128, w128, r129, w129, r130, w130, r131, w131, r132, w132, r133, w133, r134, w134, r135, w135, r136, w136, r137, w137, l1, l2, l3, l5, l6, l7, l8, l10, l11, l12, l31, l36, l63, l100, l1000, l1440, l1000000, l16777216, e113, hz, hc]
                · by_cases e : j = k + 1
                  · subst e; exact hcc j5
                  · exact f1 ⟨j, j1, by omega, j3, j4, j5⟩
            · have hz0 : I 129 (7 * u + (k + 1)) = nI 0 := by
                rcases hzz with q | q
                · exact q
                · exact absurd q hz
              refine ⟨.inl (nI (k + 1 + 1)), ?_, rfl, fun ⟨j, j1, j2, j3, j4, j5⟩ => ?_⟩
              · show cX8_isBoarded_48 N R I 111 (nI (7 * t + i)) (nI day) (nI u) (nI (k + 1)) = _
                unfold cX8_isBoarded_48
                simp (disch := first | assumption | omega) only [obs, qle, ↓lm1, l0, qn_add, pk_mul, n_le, n_lt, n_eq, n_sM, n_Ms, n_Mlt, n_Mle, n_ltM, n_leM, ↓reduceIte, eq_self, if_pos, if_neg, qx, p111_3, p111_4, p111_5, p111_6, p111_7, p111_8, p111_11, p111_12, p111_13, p111_14, p111_15, p111_16, p111_17, p111_18, p111_19, p111_21, p111_22, p111_23, p111_24, p111_27, p111_28, p111_29, p111_30, p111_31, p111_32, p111_34, r112, w112, r113, w113, r114, w114, r115, w115, r116, w116, r117, w117, r118, w118, r119, w119, r120, w120, r121, w121, r122, w122, r123, w123, r124, w124, r125, w125, r126, w126, r127, w127, r128, w128, r129, w129, r130, w130, r131, w131, r132, w132, r133, w133, r134, w134, r135, w135, r136, w136, r137, w137, l1, l2, l3, l5, l6, l7, l8, l10, l11, l12, l31, l36, l63, l100, l1000, l1440, l1000000, l16777216, e113, hz0]
              · by_cases e : j = k + 1
                · subst e; exact hz j4
                · exact f1 ⟨j, j1, by omega, j3, j4, j5⟩
          · obtain ⟨rfl, f1⟩ := hq
            refine ⟨.inr (.inl ()), ?_, fun ⟨j, j1, j2, j3⟩ => f1 ⟨j, j1, by omega, j2, j3⟩⟩
            show cX8_isBoarded_48 N R I 111 (nI (7 * t + i)) (nI day) (nI u) (nI (NS u - 1 + 1)) = _
            unfold cX8_isBoarded_48
            simp (disch := first | assumption | omega) only [obs, qle, ↓lm1, l0, qn_add, pk_mul, n_le, n_lt, n_eq, n_sM, n_Ms, n_Mlt, n_Mle, n_ltM, n_leM, ↓reduceIte, eq_self, if_pos, if_neg, qx, p111_3, p111_4, p111_5, p111_6, p111_7, p111_8, p111_11, p111_12, p111_13, p111_14, p111_15, p111_16, p111_17, p111_18, p111_19, p111_21, p111_22, p111_23, p111_24, p111_27, p111_28, p111_29, p111_30, p111_31, p111_32, p111_34, r112, w112, r113, w113, r114, w114, r115, w115, r116, w116, r117, w117, r118, w118, r119, w119, r120, w120, r121, w121, r122, w122, r123, w123, r124, w124, r125, w125, r126, w126, r127, w127, r128, w128, r129, w129, r130, w130, r131, w131, r132, w132, r133, w133, r134, w134, r135, w135, r136, w136, r137, w137, l1, l2, l3, l5, l6, l7, l8, l10, l11, l12, l31, l36, l63, l100, l1000, l1440, l1000000, l16777216, e113]
        · cases o with
          | inl x =>
            refine ok_some ⟨nI_1 u, fun ⟨u2, j, j0, j1, j2⟩ => ?_⟩
            by_cases e : u2 = u
            · subst e; exact ho ⟨j, j2⟩
            · exact g1 ⟨u2, j, by omega, j1, j2⟩
          | inr v =>
            obtain ⟨⟨j, j1⟩, rfl⟩ := ho
            exact ok_some ⟨⟨u, j, ⟨hu, hb⟩, j1⟩, rfl⟩
      · rw [ind_f hb, if_pos (show nI 0 = 0 by decide)]
        refine ok_some ⟨nI_1 u, fun ⟨u2, j, j0, j1, j2⟩ => ?_⟩
        by_cases e : u2 = u
        · subst e; exact hb j1.2
        · exact g1 ⟨u2, j, by omega, j1, j2⟩
    · obtain ⟨rfl, g1⟩ := hq
      refine ⟨.inr (.inl ()), ?_, fun ⟨u, j, j1, j2⟩ => g1 ⟨u, j, j1.1, j1, j2⟩⟩
      show cX8_isBoarded_25 N R I 111 (nI (7 * t + i)) (nI day) (nI n) = _
      unfold cX8_isBoarded_25
      simp (disch := first | assumption | omega) only [obs, qle, ↓lm1, l0, qn_add, pk_mul, n_le, n_lt, n_eq, n_sM, n_Ms, n_Mlt, n_Mle, n_ltM, n_leM, ↓reduceIte, eq_self, if_pos, if_neg, qx, p111_3, p111_4, p111_5, p111_6, p111_7, p111_8, p111_11, p111_12, p111_13, p111_14, p111_15, p111_16, p111_17, p111_18, p111_19, p111_21, p111_22, p111_23, p111_24, p111_27, p111_28, p111_29, p111_30, p111_31, p111_32, p111_34, r112, w112, r113, w113, r114, w114, r115, w115, r116, w116, r117, w117, r118, w118, r119, w119, r120, w120, r121, w121, r122, w122, r123, w123, r124, w124, r125, w125, r126, w126, r127, w127, r128, w128, r129, w129, r130, w130, r131, w131, r132, w132, r133, w133, r134, w134, r135, w135, r136, w136, r137, w137, l1, l2, l3, l5, l6, l7, l8, l10, l11, l12, l31, l36, l63, l100, l1000, l1440, l1000000, l16777216, h1]
  obtain ⟨o, eo, ho⟩ := el
  have fin : ¬ fb ST GT F M t i → ((qloop (fun s => cX8_isBoarded_25 N R I 111 (nI (7 * t + i)) (nI day) s) N (nI 0)).bind fun o18 => qx o18 (fun _ => some (nI 0)) (fun q20 => some q20)) = some (nI (ind (BR8 n NS ST CT GT D W F day M I t i))) := by
    intro hfb
    rw [eo, obs]
    cases o with
    | inl x =>
      rw [ind_f (fun q => by rcases q with q | q; exact hfb q; exact ho q)]
      rfl
    | inr v =>
      obtain ⟨h6, rfl⟩ := ho
      rw [ind_t (show BR8 n NS ST CT GT D W F day M I t i from Or.inr h6)]
      rfl
  unfold fX8_isBoarded
  rw [l0]
  refine bind_of (p111_5 hL) (bind_of (r114 hL (by omega)) ?_)
  rw [a1.1]
  by_cases hs : ST t i = F
  · rw [if_pos (show nI (ST t i) = nI F by rw [hs])]
    refine bind_of (p111_7 hL) (bind_of (r116 hL (by omega)) ?_)
    rw [a3.1]
    by_cases hg : M ≤ GT t i
    · rw [if_neg (show ¬ nI (GT t i) < nI M by rw [n_lt (by omega) (by omega)]; omega), ind_t (show BR8 n NS ST CT GT D W F day M I t i from Or.inl ⟨hs, hg⟩), l1]
    · rw [if_pos (show nI (GT t i) < nI M by rw [n_lt (by omega) (by omega)]; omega)]
      exact fin (fun q => hg q.2)
  · rw [if_neg (show ¬ nI (ST t i) = nI F by rw [n_eq (by omega) (by omega)]; exact hs)]
    exact fin (fun q => hs q.1)
def mu8 (I : qI) : Nat := sm (fun x => if I 129 x = nI 1 then 0 else 1) 70
theorem mu8_le (I : qI) : mu8 I ≤ 70 := by
  have := sm_bound (f := fun x => if I 129 x = nI 1 then 0 else 1) (b := 1) 70 (fun k _ => by show (if I 129 k = nI 1 then 0 else 1) ≤ 1; split <;> omega)
  unfold mu8
  omega
theorem mu8_up {I : qI} {x : Nat} (hx : x < 70) (h : I 129 x = nI 0) : mu8 (qup I 129 x (nI 1)) < mu8 I := by
  refine sm_lt 70 (fun k hk => ?_) ⟨x, hx, ?_⟩
  · show (if qup I 129 x (nI 1) 129 k = nI 1 then 0 else 1) ≤ (if I 129 k = nI 1 then 0 else 1)
    by_cases e : k = x
    · subst e; rw [qup_on, if_pos rfl]; exact Nat.zero_le _
    · rw [qup_off (by omega)]; exact Nat.le_refl _
  · show (if qup I 129 x (nI 1) 129 x = nI 1 then 0 else 1) < (if I 129 x = nI 1 then 0 else 1)
    rw [qup_on, if_pos rfl, h, if_neg (show ¬ nI 0 = nI 1 by decide)]
    omega
theorem mu8_eq {I J : qI} (h : J 129 = I 129) : mu8 J = mu8 I := by unfold mu8; rw [h]
/-- the marks are right -/
def Sd (n : Nat) (NS : Nat → Nat) (ST CT GT : Nat → Nat → Nat) (D : Nat → Nat) (W F day M : Nat) (I : qI) : Prop := ∀ t j, t < n → j < NS t → I 129 (7 * t + j) = nI 1 → RC NS ST CT GT (rD n day D) W F M t j
def Cl (n : Nat) (NS : Nat → Nat) (ST CT GT : Nat → Nat → Nat) (D : Nat → Nat) (W F day M : Nat) (I : qI) (t : Nat) : Prop := ∀ i j, i < j → j < NS t → BR8 n NS ST CT GT D W F day M I t i → I 129 (7 * t + j) = nI 1
theorem BR8_BD {I : qI} {t i : Nat} (hS : Sd n NS ST CT GT D W F day M I) (h : BR8 n NS ST CT GT D W F day M I t i) : BD NS ST CT GT (rD n day D) W F M t i := by
  rcases h with h | ⟨u, j, h1, h2, h3, h4, h5⟩
  · exact Or.inl h
  · exact Or.inr ⟨u, j, hS u j h1.1 h3 h4, h5.1, h5.2⟩
theorem BR8_eq {I J : qI} {t i : Nat} (e : J 129 = I 129) (h : BR8 n NS ST CT GT D W F day M I t i) : BR8 n NS ST CT GT D W F day M J t i := by
  unfold BR8
  rw [e]
  exact h
theorem train8_ok {I : qI} {t m0 : Nat} {v2 : Int32} (hN : 300000 ≤ N) (hL : LR R) (w : wb n NS ST CT GT (rD n day D) W F) (hF : FR I n NS ST CT GT D W day) (hM : M ≤ 1440) (hZ : Z1 129 70 I) (hS : Sd n NS ST CT GT D W F day M I) (ht : t < n) (hm0 : m0 ≤ 1) : ok (qloop (fun s => cX8_soonest_53 N R 111 (nI F) v2 (nI day) (nI M) (nI t) s.1 s.2.1 s.2.2.1 s.2.2.2) N (nI m0, nI 0, nI 0, I)) (fun y => Z1 129 70 y.2 ∧ Sd n NS ST CT GT D W F day M y.2 ∧ (∀ a, a ≠ 129 → y.2 a = I a) ∧ (y.1 = nI m0 ∧ y.2 129 = I 129 ∧ (rD n day D t → Cl n NS ST CT GT D W F day M I t) ∨ y.1 = nI 1 ∧ mu8 y.2 < mu8 I)) := by
  have hn10 := w.1
  obtain ⟨h1, h2, h3, h4, h5⟩ := id hF
  obtain ⟨z1, z2, z3, z4, z5, z6⟩ := h4 t (by omega)
  have hr := runs8 (R := R) hL hn10 hF ht
  by_cases hb : (D t).testBit day = true
  · refine ok_for (fun i q => ∃ (mo on : Nat) (J : qI), q = (nI mo, nI on, nI i, J) ∧ (on = 0 ∨ on = 1 ∧ ∃ i2, i2 < i ∧ BD NS ST CT GT (rD n day D) W F M t i2) ∧ Z1 129 70 J ∧ Sd n NS ST CT GT D W F day M J ∧ (∀ a, a ≠ 129 → J a = I a) ∧ (mo = m0 ∧ J 129 = I 129 ∧ (∀ i2, i2 < i → BR8 n NS ST CT GT D W F day M I t i2 → on = 1 ∧ ∀ j, i2 < j → j < i → I 129 (7 * t + j) = nI 1) ∨ mo = 1 ∧ mu8 J < mu8 I)) (NS t) (by omega) ⟨m0, 0, I, rfl, Or.inl rfl, hZ, hS, fun _ _ => rfl, Or.inl ⟨rfl, rfl, fun i2 h => by omega⟩⟩ (fun i q hi hq => ?_) (fun q hq => ?_)
    · obtain ⟨mo, on, J, rfl, g1, g2, g3, g4, g5⟩ := hq
      have hFJ : FR J n NS ST CT GT D W day := hF.congr (fun a ha => g4 a (by omega)) (by rw [g4 111 (by omega)]) (by rw [g4 111 (by omega)])
      have hrJ := runs8 (R := R) hL hn10 hFJ ht
      rw [ind_t hb] at hrJ
      have e113 : J 113 t = nI (NS t) := by rw [g4 113 (by omega)]; exact z2
      rcases g1 with g1 | ⟨g1, i0, gb1, gb2⟩
      · subst g1
        have hib := isBoarded_ok (N := N) hN hL w hFJ hM g2 ht hi
        by_cases hB : BR8 n NS ST CT GT D W F day M J t i
        · rw [ind_t hB] at hib
          refine ⟨.inl (nI mo, nI 1, nI (i + 1), J), ?_, mo, 1, J, rfl, Or.inr ⟨rfl, i, by omega, BR8_BD g3 hB⟩, g2, g3, g4, ?_⟩
          · show cX8_soonest_53 N R 111 (nI F) v2 (nI day) (nI M) (nI t) (nI mo) (nI 0) (nI i) J = _
            unfold cX8_soonest_53
            simp (disch := first | assumption | omega) only [obs, qle, ↓lm1, l0, qn_add, pk_mul, n_le, n_lt, n_eq, n_sM, n_Ms, n_Mlt, n_Mle, n_ltM, n_leM, ↓reduceIte, eq_self, if_pos, if_neg, qx, p111_3, p111_4, p111_5, p111_6, p111_7, p111_8, p111_11, p111_12, p111_13, p111_14, p111_15, p111_16, p111_17, p111_18, p111_19, p111_21, p111_22, p111_23, p111_24, p111_27, p111_28, p111_29, p111_30, p111_31, p111_32, p111_34, r112, w112, r113, w113, r114, w114, r115, w115, r116, w116, r117, w117, r118, w118, r119, w119, r120, w120, r121, w121, r122, w122, r123, w123, r124, w124, r125, w125, r126, w126, r127, w127, r128, w128, r129, w129, r130, w130, r131, w131, r132, w132, r133, w133, r134, w134, r135, w135, r136, w136, r137, w137, l1, l2, l3, l5, l6, l7, l8, l10, l11, l12, l31, l36, l63, l100, l1000, l1440, l1000000, l16777216, e113, hrJ, hib]
          · rcases g5 with ⟨q1, q2, q3⟩ | q
            · refine Or.inl ⟨q1, q2, fun i2 hi2 hb2 => ⟨rfl, fun j h6 h7 => ?_⟩⟩
              by_cases e : i2 = i
              · omega
              · have := (q3 i2 (by omega) hb2).1
                omega
            · exact Or.inr q
        · rw [ind_f hB] at hib
          refine ⟨.inl (nI mo, nI 0, nI (i + 1), J), ?_, mo, 0, J, rfl, Or.inl rfl, g2, g3, g4, ?_⟩
          · show cX8_soonest_53 N R 111 (nI F) v2 (nI day) (nI M) (nI t) (nI mo) (nI 0) (nI i) J = _
            unfold cX8_soonest_53
            simp (disch := first | assumption | omega) only [obs, qle, ↓lm1, l0, qn_add, pk_mul, n_le, n_lt, n_eq, n_sM, n_Ms, n_Mlt, n_Mle, n_ltM, n_leM, ↓reduceIte, eq_self, if_pos, if_neg, qx, p111_3, p111_4, p111_5, p111_6, p111_7, p111_8, p111_11, p111_12, p111_13, p111_14, p111_15, p111_16, p111_17, p111_18, p111_19, p111_21, p111_22, p111_23, p111_24, p111_27, p111_28, p111_29, p111_30, p111_31, p111_32, p111_34, r112, w112, r113, w113, r114, w114, r115, w115, r116, w116, r117, w117, r118, w118, r119, w119, r120, w120, r121, w121, r122, w122, r123, w123, r124, w124, r125, w125, r126, w126, r127, w127, r128, w128, r129, w129, r130, w130, r131, w131, r132, w132, r133, w133, r134, w134, r135, w135, r136, w136, r137, w137, l1, l2, l3, l5, l6, l7, l8, l10, l11, l12, l31, l36, l63, l100, l1000, l1440, l1000000, l16777216, e113, hrJ, hib]
          · rcases g5 with ⟨q1, q2, q3⟩ | q
            · refine Or.inl ⟨q1, q2, fun i2 hi2 hb2 => ?_⟩
              by_cases e : i2 = i
              · subst e; exact absurd (BR8_eq q2 hb2) hB
              · have := (q3 i2 (by omega) hb2).1
                omega
            · exact Or.inr q
      · subst g1
        have hRC : RC NS ST CT GT (rD n day D) W F M t i := (RC_iff NS ST CT GT (rD n day D) W F).mpr ⟨⟨ht, hb⟩, hi, i0, gb1, gb2⟩
        rcases g2 (7 * t + i) (by omega) with hz | hz
        · have hnar : vp_nar .boolean (nI 1) = nI 1 := nar1
          refine ⟨.inl (nI 1, nI 1, nI (i + 1), qup J 129 (7 * t + i) (nI 1)), ?_, 1, 1, _, rfl, Or.inr ⟨rfl, i0, by omega, gb2⟩, fun x hx => ?_, fun u j hu hj hm => ?_, fun a ha => by rw [qup_ne _ _ _ ha]; exact g4 a ha, Or.inr ⟨rfl, ?_⟩⟩
          · show cX8_soonest_53 N R 111 (nI F) v2 (nI day) (nI M) (nI t) (nI mo) (nI 1) (nI i) J = _
            unfold cX8_soonest_53
            simp (disch := first | assumption | omega) only [obs, qle, ↓lm1, l0, qn_add, pk_mul, n_le, n_lt, n_eq, n_sM, n_Ms, n_Mlt, n_Mle, n_ltM, n_leM, ↓reduceIte, eq_self, if_pos, if_neg, qx, p111_3, p111_4, p111_5, p111_6, p111_7, p111_8, p111_11, p111_12, p111_13, p111_14, p111_15, p111_16, p111_17, p111_18, p111_19, p111_21, p111_22, p111_23, p111_24, p111_27, p111_28, p111_29, p111_30, p111_31, p111_32, p111_34, r112, w112, r113, w113, r114, w114, r115, w115, r116, w116, r117, w117, r118, w118, r119, w119, r120, w120, r121, w121, r122, w122, r123, w123, r124, w124, r125, w125, r126, w126, r127, w127, r128, w128, r129, w129, r130, w130, r131, w131, r132, w132, r133, w133, r134, w134, r135, w135, r136, w136, r137, w137, l1, l2, l3, l5, l6, l7, l8, l10, l11, l12, l31, l36, l63, l100, l1000, l1440, l1000000, l16777216, e113, hrJ, hz, hnar]
          · by_cases e : x = 7 * t + i
            · subst e; exact Or.inr qup_on
            · rw [qup_off (by omega)]; exact g2 x hx
          · by_cases e : u = t ∧ j = i
            · rw [e.1, e.2]; exact hRC
            · have hu7 := (h4 u (by omega)).1
              rw [qup_off (by omega)] at hm
              exact g3 u j hu hj hm
          · have h8 := mu8_up (I := J) (show 7 * t + i < 70 by omega) hz
            rcases g5 with ⟨q1, q2, q3⟩ | q
            · rw [mu8_eq q2] at h8; exact h8
            · omega
        · refine ⟨.inl (nI mo, nI 1, nI (i + 1), J), ?_, mo, 1, J, rfl, Or.inr ⟨rfl, i0, by omega, gb2⟩, g2, g3, g4, ?_⟩
          · show cX8_soonest_53 N R 111 (nI F) v2 (nI day) (nI M) (nI t) (nI mo) (nI 1) (nI i) J = _
            unfold cX8_soonest_53
            simp (disch := first | assumption | omega) only [obs, qle, ↓lm1, l0, qn_add, pk_mul, n_le, n_lt, n_eq, n_sM, n_Ms, n_Mlt, n_Mle, n_ltM, n_leM, ↓reduceIte, eq_self, if_pos, if_neg, qx, p111_3, p111_4, p111_5, p111_6, p111_7, p111_8, p111_11, p111_12, p111_13, p111_14, p111_15, p111_16, p111_17, p111_18, p111_19, p111_21, p111_22, p111_23, p111_24, p111_27, p111_28, p111_29, p111_30, p111_31, p111_32, p111_34, r112, w112, r113, w113, r114, w114, r115, w115, r116, w116, r117, w117, r118, w118, r119, w119, r120, w120, r121, w121, r122, w122, r123, w123, r124, w124, r125, w125, r126, w126, r127, w127, r128, w128, r129, w129, r130, w130, r131, w131, r132, w132, r133, w133, r134, w134, r135, w135, r136, w136, r137, w137, l1, l2, l3, l5, l6, l7, l8, l10, l11, l12, l31, l36, l63, l100, l1000, l1440, l1000000, l16777216, e113, hrJ, hz]
          · rcases g5 with ⟨q1, q2, q3⟩ | q
            · refine Or.inl ⟨q1, q2, fun i2 hi2 hb2 => ⟨rfl, fun j h6 h7 => ?_⟩⟩
              by_cases e : j = i
              · subst e; rw [← q2]; exact hz
              · exact (q3 i2 (by omega) hb2).2 j h6 (by omega)
            · exact Or.inr q
    · obtain ⟨mo, on, J, rfl, g1, g2, g3, g4, g5⟩ := hq
      have e113 : J 113 t = nI (NS t) := by rw [g4 113 (by omega)]; exact z2
      refine ⟨.inr (nI mo, J), ?_, g2, g3, g4, ?_⟩
      · show cX8_soonest_53 N R 111 (nI F) v2 (nI day) (nI M) (nI t) (nI mo) (nI on) (nI (NS t)) J = _
        unfold cX8_soonest_53
        simp (disch := first | assumption | omega) only [obs, qle, ↓lm1, l0, qn_add, pk_mul, n_le, n_lt, n_eq, n_sM, n_Ms, n_Mlt, n_Mle, n_ltM, n_leM, ↓reduceIte, eq_self, if_pos, if_neg, qx, p111_3, p111_4, p111_5, p111_6, p111_7, p111_8, p111_11, p111_12, p111_13, p111_14, p111_15, p111_16, p111_17, p111_18, p111_19, p111_21, p111_22, p111_23, p111_24, p111_27, p111_28, p111_29, p111_30, p111_31, p111_32, p111_34, r112, w112, r113, w113, r114, w114, r115, w115, r116, w116, r117, w117, r118, w118, r119, w119, r120, w120, r121, w121, r122, w122, r123, w123, r124, w124, r125, w125, r126, w126, r127, w127, r128, w128, r129, w129, r130, w130, r131, w131, r132, w132, r133, w133, r134, w134, r135, w135, r136, w136, r137, w137, l1, l2, l3, l5, l6, l7, l8, l10, l11, l12, l31, l36, l63, l100, l1000, l1440, l1000000, l16777216, e113]
      · rcases g5 with ⟨q1, q2, q3⟩ | ⟨q1, q2⟩
        · exact Or.inl ⟨by rw [q1], q2, fun _ i j hij hj hb2 => (q3 i (by omega) hb2).2 j hij hj⟩
        · exact Or.inr ⟨by rw [q1], q2⟩
  · rw [ind_f hb] at hr
    have e0 : cX8_soonest_53 N R 111 (nI F) v2 (nI day) (nI M) (nI t) (nI m0) (nI 0) (nI 0) I = some (.inr (nI m0, I)) := by
      unfold cX8_soonest_53
      by_cases hns : NS t = 0
      · simp (disch := first | assumption | omega) only [obs, qle, ↓lm1, l0, qn_add, pk_mul, n_le, n_lt, n_eq, n_sM, n_Ms, n_Mlt, n_Mle, n_ltM, n_leM, ↓reduceIte, eq_self, if_pos, if_neg, qx, p111_3, p111_4, p111_5, p111_6, p111_7, p111_8, p111_11, p111_12, p111_13, p111_14, p111_15, p111_16, p111_17, p111_18, p111_19, p111_21, p111_22, p111_23, p111_24, p111_27, p111_28, p111_29, p111_30, p111_31, p111_32, p111_34, r112, w112, r113, w113, r114, w114, r115, w115, r116, w116, r117, w117, r118, w118, r119, w119, r120, w120, r121, w121, r122, w122, r123, w123, r124, w124, r125, w125, r126, w126, r127, w127, r128, w128, r129, w129, r130, w130, r131, w131, r132, w132, r133, w133, r134, w134, r135, w135, r136, w136, r137, w137, l1, l2, l3, l5, l6, l7, l8, l10, l11, l12, l31, l36, l63, l100, l1000, l1440, l1000000, l16777216, z2, hns]
      · simp (disch := first | assumption | omega) only [obs, qle, ↓lm1, l0, qn_add, pk_mul, n_le, n_lt, n_eq, n_sM, n_Ms, n_Mlt, n_Mle, n_ltM, n_leM, ↓reduceIte, eq_self, if_pos, if_neg, qx, p111_3, p111_4, p111_5, p111_6, p111_7, p111_8, p111_11, p111_12, p111_13, p111_14, p111_15, p111_16, p111_17, p111_18, p111_19, p111_21, p111_22, p111_23, p111_24, p111_27, p111_28, p111_29, p111_30, p111_31, p111_32, p111_34, r112, w112, r113, w113, r114, w114, r115, w115, r116, w116, r117, w117, r118, w118, r119, w119, r120, w120, r121, w121, r122, w122, r123, w123, r124, w124, r125, w125, r126, w126, r127, w127, r128, w128, r129, w129, r130, w130, r131, w131, r132, w132, r133, w133, r134, w134, r135, w135, r136, w136, r137, w137, l1, l2, l3, l5, l6, l7, l8, l10, l11, l12, l31, l36, l63, l100, l1000, l1440, l1000000, l16777216, z2, hr]
    refine ⟨(nI m0, I), qfor (fun _ => (nI m0, nI 0, nI 0, I)) _ 0 (by omega) (fun k hk => by omega) e0, hZ, hS, fun _ _ => rfl, Or.inl ⟨rfl, rfl, fun q => absurd q.2 hb⟩⟩
end SOON8
