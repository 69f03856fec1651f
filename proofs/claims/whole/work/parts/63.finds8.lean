/-! THE REFERENCE'S BEST WAY -/
section FIND8
variable {n : Nat} {NS : Nat → Nat} {ST CT GT : Nat → Nat → Nat} {D : Nat → Nat} {W F day T v M N : Nat} {R : qR}
theorem boardOf_0 {I : qI} {t b : Nat} {rdy : Int32} (hN : 300000 ≤ N) (hL : LR R) (w : wb n NS ST CT GT (rD n day D) W F) (hF : FR I n NS ST CT GT D W day) (hM : M ≤ 1440) (ht : t < n) (hb : b < NS t) (hs : ST t b = F) (hg : M ≤ GT t b) : fX8_boardOf N R I 111 (nI t) (nI 0) rdy (nI F) (nI M) = some (nI b) := by
  have hn10 := w.1
  have hF12 := w.2.2.1
  obtain ⟨z1, z2, z3, z4, z5, z6⟩ := hF.2.2.2.1 t (by omega)
  unfold fX8_boardOf
  rw [l0]
  refine bind_of (x := Sum.inr (nI b)) (qfor (fun k => nI k) _ b (by omega) (fun k hk => ?_) ?_) rfl
  · have a := (z4 k (by omega)).1
    have s12 := a.2.2
    have hne : ST t k ≠ F := fun e => by have := (w.2.2.2.2 t ht).2.2.2 k b (by omega) hb (by omega); omega
    simp (disch := first | assumption | omega) only [obs, qle, ↓lm1, l0, qn_add, pk_mul, n_le, n_lt, n_eq, n_sM, n_Ms, n_Mlt, n_Mle, n_ltM, n_leM, ↓reduceIte, eq_self, if_pos, if_neg, qx, p111_3, p111_4, p111_5, p111_6, p111_7, p111_8, p111_11, p111_12, p111_13, p111_14, p111_15, p111_16, p111_17, p111_18, p111_19, p111_21, p111_22, p111_23, p111_24, p111_27, p111_28, p111_29, p111_30, p111_31, p111_32, p111_34, r112, w112, r113, w113, r114, w114, r115, w115, r116, w116, r117, w117, r118, w118, r119, w119, r120, w120, r121, w121, r122, w122, r123, w123, r124, w124, r125, w125, r126, w126, r127, w127, r128, w128, r129, w129, r130, w130, r131, w131, r132, w132, r133, w133, r134, w134, r135, w135, r136, w136, r137, w137, l1, l2, l3, l5, l6, l7, l8, l10, l11, l12, l31, l36, l63, l100, l1000, l1440, l1000000, l16777216, cX8_boardOf_3, z2, a.1]
  · obtain ⟨a1, a2, a3, a4, a5, a6⟩ := z4 b hb
    have s12 := a1.2.2
    simp (disch := first | assumption | omega) only [obs, qle, ↓lm1, l0, qn_add, pk_mul, n_le, n_lt, n_eq, n_sM, n_Ms, n_Mlt, n_Mle, n_ltM, n_leM, ↓reduceIte, eq_self, if_pos, if_neg, qx, p111_3, p111_4, p111_5, p111_6, p111_7, p111_8, p111_11, p111_12, p111_13, p111_14, p111_15, p111_16, p111_17, p111_18, p111_19, p111_21, p111_22, p111_23, p111_24, p111_27, p111_28, p111_29, p111_30, p111_31, p111_32, p111_34, r112, w112, r113, w113, r114, w114, r115, w115, r116, w116, r117, w117, r118, w118, r119, w119, r120, w120, r121, w121, r122, w122, r123, w123, r124, w124, r125, w125, r126, w126, r127, w127, r128, w128, r129, w129, r130, w130, r131, w131, r132, w132, r133, w133, r134, w134, r135, w135, r136, w136, r137, w137, l1, l2, l3, l5, l6, l7, l8, l10, l11, l12, l31, l36, l63, l100, l1000, l1440, l1000000, l16777216, cX8_boardOf_3, z2, a1.1, a3.1]
theorem boardOf_s {I : qI} {t b tp l m : Nat} (hN : 300000 ≤ N) (hL : LR R) (w : wb n NS ST CT GT (rD n day D) W F) (hF : FR I n NS ST CT GT D W day) (hm : m < 10) (ht : t < n) (hb : b < NS t) (htp : tp < n) (hl : l < NS tp) (hc : cc ST CT GT W tp l t b) : fX8_boardOf N R I 111 (nI t) (nI (m + 1)) (nI (7 * tp + l)) (nI F) (nI M) = some (nI b) := by
  have hn10 := w.1
  obtain ⟨z1, z2, z3, z4, z5, z6⟩ := hF.2.2.2.1 t (by omega)
  unfold fX8_boardOf
  rw [l0]
  refine bind_of (x := Sum.inr (nI b)) (qfor (fun k => nI k) _ b (by omega) (fun k hk => ?_) ?_) rfl
  · have c8 := cc8 (R := R) hL w hF htp hl ht (show k < NS t by omega)
    rw [ind_f (fun q => by have := (w.2.2.2.2 t ht).2.2.2 k b (by omega) hb (by rw [← q.1, hc.1]); omega)] at c8
    simp (disch := first | assumption | omega) only [obs, qle, ↓lm1, l0, qn_add, pk_mul, n_le, n_lt, n_eq, n_sM, n_Ms, n_Mlt, n_Mle, n_ltM, n_leM, ↓reduceIte, eq_self, if_pos, if_neg, qx, p111_3, p111_4, p111_5, p111_6, p111_7, p111_8, p111_11, p111_12, p111_13, p111_14, p111_15, p111_16, p111_17, p111_18, p111_19, p111_21, p111_22, p111_23, p111_24, p111_27, p111_28, p111_29, p111_30, p111_31, p111_32, p111_34, r112, w112, r113, w113, r114, w114, r115, w115, r116, w116, r117, w117, r118, w118, r119, w119, r120, w120, r121, w121, r122, w122, r123, w123, r124, w124, r125, w125, r126, w126, r127, w127, r128, w128, r129, w129, r130, w130, r131, w131, r132, w132, r133, w133, r134, w134, r135, w135, r136, w136, r137, w137, l1, l2, l3, l5, l6, l7, l8, l10, l11, l12, l31, l36, l63, l100, l1000, l1440, l1000000, l16777216, cX8_boardOf_3, z2, c8]
  · have c8 := cc8 (R := R) hL w hF htp hl ht hb
    rw [ind_t hc] at c8
    simp (disch := first | assumption | omega) only [obs, qle, ↓lm1, l0, qn_add, pk_mul, n_le, n_lt, n_eq, n_sM, n_Ms, n_Mlt, n_Mle, n_ltM, n_leM, ↓reduceIte, eq_self, if_pos, if_neg, qx, p111_3, p111_4, p111_5, p111_6, p111_7, p111_8, p111_11, p111_12, p111_13, p111_14, p111_15, p111_16, p111_17, p111_18, p111_19, p111_21, p111_22, p111_23, p111_24, p111_27, p111_28, p111_29, p111_30, p111_31, p111_32, p111_34, r112, w112, r113, w113, r114, w114, r115, w115, r116, w116, r117, w117, r118, w118, r119, w119, r120, w120, r121, w121, r122, w122, r123, w123, r124, w124, r125, w125, r126, w126, r127, w127, r128, w128, r129, w129, r130, w130, r131, w131, r132, w132, r133, w133, r134, w134, r135, w135, r136, w136, r137, w137, l1, l2, l3, l5, l6, l7, l8, l10, l11, l12, l31, l36, l63, l100, l1000, l1440, l1000000, l16777216, cX8_boardOf_3, z2, c8]
/-- the least station at which the rest still goes -/
theorem best220 {I : qI} {L m b : Nat} {tr : Nat → Nat} {rdy : Int32} (hN : 300000 ≤ N) (hL : LR R) (w : wb n NS ST CT GT (rD n day D) W F) (hF : FR I n NS ST CT GT D W day) (hv : I 111 26 = nI v) (hv2 : v < 1440) (hT : T < 12) (h25 : I 111 25 = nI L) (hL10 : L ≤ 10) (h131 : ∀ m, m < L → I 131 m = nI (tr m) ∧ tr m < n) (hm : m < L) (hb : b < NS (tr m)) (hbo : ∀ J : qI, (∀ a, a ≠ 135 → a ≠ 136 → J a = I a) → fX8_boardOf N R J 111 (nI (tr m)) (nI m) rdy (nI F) (nI M) = some (nI b)) (hex : ∃ j, b < j ∧ rgo NS ST CT GT W T v tr (L - 1 - m) m j) : ok (qloop (fun s => cX8_finds_220 N R 111 (nI F) (nI T) (nI M) rdy (nI m) (nI (tr m)) s.1 s.2.1 s.2.2) N (nM, nI 1, I)) (fun y => (∀ a, a ≠ 135 → a ≠ 136 → y.2 a = I a) ∧ ∃ l, y.1 = nI (7 * tr m + l) ∧ (b < l ∧ rgo NS ST CT GT W T v tr (L - 1 - m) m l) ∧ ∀ j, b < j → rgo NS ST CT GT W T v tr (L - 1 - m) m j → ST (tr m) l ≤ ST (tr m) j) := by
  have hn10 := w.1
  have htm := (h131 m hm).2
  obtain ⟨z1, z2, z3, z4, z5, z6⟩ := hF.2.2.2.1 (tr m) (by omega)
  refine ok_for (fun k q => ∃ (v8 : Int32) (J : qI), q = (v8, nI (k + 1), J) ∧ (∀ a, a ≠ 135 → a ≠ 136 → J a = I a) ∧ ((v8 = nM ∧ ∀ j, b < j → j < k + 1 → ¬ rgo NS ST CT GT W T v tr (L - 1 - m) m j) ∨ ∃ l, v8 = nI (7 * tr m + l) ∧ (b < l ∧ rgo NS ST CT GT W T v tr (L - 1 - m) m l) ∧ ∀ j, b < j → j < k + 1 → rgo NS ST CT GT W T v tr (L - 1 - m) m j → ST (tr m) l ≤ ST (tr m) j)) (NS (tr m) - 1) (by omega) ⟨nM, I, rfl, fun _ _ _ => rfl, Or.inl ⟨rfl, fun j h1 h2 => by omega⟩⟩ (fun k q hk hq => ?_) (fun q hq => ?_)
  · obtain ⟨v8, J, rfl, g1, g2⟩ := hq
    have hFJ : FR J n NS ST CT GT D W day := hF.congr (fun a ha => g1 a (by omega) (by omega)) (by rw [g1 111 (by omega) (by omega)]) (by rw [g1 111 (by omega) (by omega)])
    have e113 : J 113 (tr m) = nI (NS (tr m)) := by rw [g1 113 (by omega) (by omega)]; exact z2
    have ebo := hbo J g1
    show ok (cX8_finds_220 N R 111 (nI F) (nI T) (nI M) rdy (nI m) (nI (tr m)) v8 (nI (k + 1)) J) _
    unfold cX8_finds_220
    refine ok_bindv (p111_4 hL) (ok_bindv (r113 hL (by omega)) ?_)
    rw [e113, if_neg (show ¬ nI (NS (tr m)) ≤ nI (k + 1) by rw [n_le (by omega) (by omega)]; omega)]
    refine ok_bindv ebo ?_
    by_cases hle : k + 1 ≤ b
    · rw [if_pos (show nI (k + 1) ≤ nI b by rw [n_le (by omega) (by omega)]; exact hle), nI_1]
      refine ok_some ⟨v8, J, rfl, g1, ?_⟩
      rcases g2 with ⟨q1, q2⟩ | ⟨l, q1, q2, q3⟩
      · exact Or.inl ⟨q1, fun j h1 h2 => q2 j h1 (by omega)⟩
      · exact Or.inr ⟨l, q1, q2, fun j h1 h2 => q3 j h1 (by omega)⟩
    · rw [if_neg (show ¬ nI (k + 1) ≤ nI b by rw [n_le (by omega) (by omega)]; exact hle)]
      refine ok_bindv ebo ?_
      rw [if_neg (show ¬ nI b = -1 by rw [lm1, n_sM (by omega)]; exact fun q => q), l7, pk_mul, qn_add]
      refine ok_bind (ok_mono (restGoes_ok (N := N) (R := R) (j := k + 1) hN hL w hFJ (by rw [g1 111 (by omega) (by omega)]; exact hv) hv2 hT (by rw [g1 111 (by omega) (by omega)]; exact h25) hL10 (fun m hm => by rw [g1 131 (by omega) (by omega)]; exact h131 m hm) hm (by omega) (by omega)) (fun y hy => ?_))
      obtain ⟨y1, K⟩ := y
      obtain ⟨k1, k2⟩ := hy
      simp only at k1 k2 ⊢
      have hfr : ∀ a, a ≠ 135 → a ≠ 136 → K a = I a := fun a h1 h2 => (k2 a h1 h2).trans (g1 a h1 h2)
      by_cases hr : rgo NS ST CT GT W T v tr (L - 1 - m) m (k + 1)
      · rw [k1, ind_t hr, if_neg (show ¬ nI 1 = 0 by decide)]
        rcases g2 with ⟨rfl, q2⟩ | ⟨l, rfl, q2, q3⟩
        · rw [if_pos (show nM = -1 by rw [lm1]), nI_1]
          refine ok_some ⟨_, K, rfl, hfr, Or.inr ⟨k + 1, rfl, ⟨by omega, hr⟩, fun j h1 h2 h3 => ?_⟩⟩
          by_cases e : j = k + 1
          · rw [e]; exact Nat.le_refl _
          · exact absurd h3 (q2 j h1 (by omega))
        · have hl7 := (rgo_ok NS ST CT GT W T v q2.2).2
          obtain ⟨a1, _⟩ := z4 (k + 1) (by omega)
          obtain ⟨b1, _⟩ := z4 l hl7
          have s1 := a1.2.2
          have s2 := b1.2.2
          rw [if_neg (show ¬ nI (7 * tr m + l) = -1 by rw [lm1, n_sM (by omega)]; exact fun q => q)]
          refine ok_bindv (p111_5 hL) (ok_bindv (r114 hL (by omega)) (ok_bindv (r114 hL (by omega)) ?_))
          rw [hfr 114 (by omega) (by omega), a1.1, b1.1]
          by_cases hle2 : ST (tr m) l ≤ ST (tr m) (k + 1)
          · rw [if_pos (show nI (ST (tr m) l) ≤ nI (ST (tr m) (k + 1)) by rw [n_le (by omega) (by omega)]; exact hle2), nI_1]
            refine ok_some ⟨_, K, rfl, hfr, Or.inr ⟨l, rfl, q2, fun j h1 h2 h3 => ?_⟩⟩
            by_cases e : j = k + 1
            · rw [e]; exact hle2
            · exact q3 j h1 (by omega) h3
          · rw [if_neg (show ¬ nI (ST (tr m) l) ≤ nI (ST (tr m) (k + 1)) by rw [n_le (by omega) (by omega)]; exact hle2), nI_1]
            refine ok_some ⟨_, K, rfl, hfr, Or.inr ⟨k + 1, rfl, ⟨by omega, hr⟩, fun j h1 h2 h3 => ?_⟩⟩
            by_cases e : j = k + 1
            · rw [e]; exact Nat.le_refl _
            · have := q3 j h1 (by omega) h3; omega
      · rw [k1, ind_f hr, if_pos (show nI 0 = 0 by decide), nI_1]
        refine ok_some ⟨v8, K, rfl, hfr, ?_⟩
        rcases g2 with ⟨q1, q2⟩ | ⟨l, q1, q2, q3⟩
        · refine Or.inl ⟨q1, fun j h1 h2 => ?_⟩
          by_cases e : j = k + 1
          · rw [e]; exact hr
          · exact q2 j h1 (by omega)
        · refine Or.inr ⟨l, q1, q2, fun j h1 h2 h3 => ?_⟩
          by_cases e : j = k + 1
          · rw [e] at h3; exact absurd h3 hr
          · exact q3 j h1 (by omega) h3
  · obtain ⟨v8, J, rfl, g1, g2⟩ := hq
    have e113 : J 113 (tr m) = nI (NS (tr m)) := by rw [g1 113 (by omega) (by omega)]; exact z2
    refine ⟨.inr (v8, J), ?_, g1, ?_⟩
    · show cX8_finds_220 N R 111 (nI F) (nI T) (nI M) rdy (nI m) (nI (tr m)) v8 (nI (NS (tr m) - 1 + 1)) J = _
      unfold cX8_finds_220
      simp (disch := first | assumption | omega) only [obs, qle, ↓lm1, l0, qn_add, pk_mul, n_le, n_lt, n_eq, n_sM, n_Ms, n_Mlt, n_Mle, n_ltM, n_leM, ↓reduceIte, eq_self, if_pos, if_neg, qx, p111_3, p111_4, p111_5, p111_6, p111_7, p111_8, p111_11, p111_12, p111_13, p111_14, p111_15, p111_16, p111_17, p111_18, p111_19, p111_21, p111_22, p111_23, p111_24, p111_27, p111_28, p111_29, p111_30, p111_31, p111_32, p111_34, r112, w112, r113, w113, r114, w114, r115, w115, r116, w116, r117, w117, r118, w118, r119, w119, r120, w120, r121, w121, r122, w122, r123, w123, r124, w124, r125, w125, r126, w126, r127, w127, r128, w128, r129, w129, r130, w130, r131, w131, r132, w132, r133, w133, r134, w134, r135, w135, r136, w136, r137, w137, l1, l2, l3, l5, l6, l7, l8, l10, l11, l12, l31, l36, l63, l100, l1000, l1440, l1000000, l16777216, e113]
    · have hb2 : NS (tr m) - 1 + 1 = NS (tr m) := by omega
      rcases g2 with ⟨q1, q2⟩ | ⟨l, q1, q2, q3⟩
      · obtain ⟨j, h1, h2⟩ := hex
        exact absurd h2 (q2 j h1 (by have := (rgo_ok NS ST CT GT W T v h2).2; omega))
      · exact ⟨l, q1, q2, fun j h1 h2 => q3 j h1 (by have := (rgo_ok NS ST CT GT W T v h2).2; omega) h2⟩
theorem legs76 {I : qI} {kq : Nat} (hN : 300000 ≤ N) (hL : LR R) (w : wb n NS ST CT GT (rD n day D) W F) (hF : FR I n NS ST CT GT D W day) (hG : GO n NS ST CT GT D W day T v 11 I) (h25 : I 111 25 = nI 1) (hM : M ≤ 1440) (hk : kq < n) (hex : ∃ t, ft NS ST CT GT (rD n day D) W F T v M kq t) (hno : ∀ k, k < kq → ∀ t, ¬ ft NS ST CT GT (rD n day D) W F T v M k t) : ok (qloop (fun s => cX8_finds_76 N R 111 (nI F) (nI T) (nI day) (nI M) s) N I) (fun J => J 111 25 = nI (kq + 1) ∧ (∀ a, a ≠ 135 → a ≠ 111 → J a = I a) ∧ ∀ j, j ≠ 25 → J 111 j = I 111 j) := by
  have hn10 := w.1
  refine ok_for (fun r J => J 111 25 = nI (r + 1) ∧ (∀ a, a ≠ 135 → a ≠ 111 → J a = I a) ∧ ∀ j, j ≠ 25 → J 111 j = I 111 j) kq (by omega) ⟨h25, fun _ _ _ => rfl, fun _ _ => rfl⟩ (fun r J hr hq => ?_) (fun J hq => ?_)
  · obtain ⟨g1, g2, g3⟩ := hq
    have hFJ : FR J n NS ST CT GT D W day := hF.congr (fun a ha => g2 a (by omega) (by omega)) (g3 1 (by omega)) (g3 2 (by omega))
    have hGJ : GO n NS ST CT GT D W day T v 11 J := fun k t j h1 h2 h3 => by rw [g2 130 (by omega) (by omega)]; exact hG k t j h1 h2 h3
    have hC : cbp N R NS F M (nI 1) (fun t i => fb ST GT F M t i) n J := fun K hK t i ht hi => canBoard_1 hL w (hFJ.congr (fun a ha => hK a (by omega)) (by rw [hK 111 (by omega)]) (by rw [hK 111 (by omega)])) hM ht hi
    show ok (cX8_finds_76 N R 111 (nI F) (nI T) (nI day) (nI M) J) _
    unfold cX8_finds_76
    rw [g1, lm1, l1, qn_sub (show 1 ≤ r + 1 by omega), Nat.add_sub_cancel]
    refine ok_bind (ok_mono (firstTrain8_ok (N := N) (R := R) (v := v) (T := T) hN hL w hFJ hGJ (show r < 11 by omega) hC) (fun y hy => ?_))
    obtain ⟨y1, K⟩ := y
    obtain ⟨k1, k2⟩ := hy
    simp only at k1 k2 ⊢
    rcases k2 with ⟨q1, _⟩ | ⟨t, _, _, ⟨i, j, q1, q2, q3⟩, _⟩
    · rw [if_pos q1]
      refine ok_let (ok_some ⟨by rw [qup_on, k1 111 (by omega), g1, qn_add], fun a h1 h2 => by rw [qup_ne _ _ _ h2, k1 a h1]; exact g2 a h1 h2, fun j hj => by rw [qup_off (by omega), k1 111 (by omega)]; exact g3 j hj⟩)
    · exact absurd ⟨i, by have := (gw_ok NS ST CT GT (rD n day D) W T v q3).2.2; omega, q2, j, q1, q3⟩ (hno r hr t)
  · obtain ⟨g1, g2, g3⟩ := hq
    have hFJ : FR J n NS ST CT GT D W day := hF.congr (fun a ha => g2 a (by omega) (by omega)) (g3 1 (by omega)) (g3 2 (by omega))
    have hGJ : GO n NS ST CT GT D W day T v 11 J := fun k t j h1 h2 h3 => by rw [g2 130 (by omega) (by omega)]; exact hG k t j h1 h2 h3
    have hC : cbp N R NS F M (nI 1) (fun t i => fb ST GT F M t i) n J := fun K hK t i ht hi => canBoard_1 hL w (hFJ.congr (fun a ha => hK a (by omega)) (by rw [hK 111 (by omega)]) (by rw [hK 111 (by omega)])) hM ht hi
    show ok (cX8_finds_76 N R 111 (nI F) (nI T) (nI day) (nI M) J) _
    unfold cX8_finds_76
    rw [g1, lm1, l1, qn_sub (show 1 ≤ kq + 1 by omega), Nat.add_sub_cancel]
    refine ok_bind (ok_mono (firstTrain8_ok (N := N) (R := R) (v := v) (T := T) hN hL w hFJ hGJ (show kq < 11 by omega) hC) (fun y hy => ?_))
    obtain ⟨y1, K⟩ := y
    obtain ⟨k1, k2⟩ := hy
    simp only at k1 k2 ⊢
    rcases k2 with ⟨_, q1⟩ | ⟨t, q0, q1, _⟩
    · obtain ⟨t, i, a1, a2, j, a3, a4⟩ := hex
      exact absurd a4 (q1 t i j a3 a2)
    · have := q1.1
      rw [if_neg (show ¬ y1 = nM by rw [q0, n_sM (by omega)]; exact fun q => q)]
      exact ok_some ⟨by rw [k1 111 (by omega)]; exact g1, fun a h1 h2 => by rw [k1 a h1]; exact g2 a h1 h2, fun j hj => by rw [k1 111 (by omega)]; exact g3 j hj⟩
theorem trains111 {I : qI} {L : Nat} {tr b : Nat → Nat} (hN : 300000 ≤ N) (hL : LR R) (w : wb n NS ST CT GT (rD n day D) W F) (hF : FR I n NS ST CT GT D W day) (hG : GO n NS ST CT GT D W day T v 11 I) (h25 : I 111 25 = nI L) (hL0 : 0 < L) (hL10 : L ≤ 10) (hM : M ≤ 1440) (hc : chs NS ST CT GT (rD n day D) W F T v M L tr b L) (htr : ∀ m, m < L → tr m < n) : ok (qloop (fun s => cX8_finds_111 N R 111 (nI F) (nI T) (nI day) (nI M) s.1 s.2) N (nI 0, I)) (fun J => (∀ m, m < L → J 131 m = nI (tr m)) ∧ ∀ a, a ≠ 131 → a ≠ 134 → a ≠ 135 → J a = I a) := by
  have hn10 := w.1
  have l70 : (70 : Int32) = nI 70 := by decide
  refine ok_for (fun m q => ∃ J, q = (nI m, J) ∧ (∀ k, k < m → J 131 k = nI (tr k)) ∧ (0 < m → mk8 NS 134 (tr (m - 1)) (fun j => gw NS ST CT GT (rD n day D) W T v (L - 1 - (m - 1)) (tr (m - 1)) j ∧ b (m - 1) < j) J) ∧ ∀ a, a ≠ 131 → a ≠ 134 → a ≠ 135 → J a = I a) L (by omega) ⟨I, rfl, fun k hk => by omega, fun h => by omega, fun _ _ _ _ => rfl⟩ (fun m q hm hq => ?_) (fun q hq => ?_)
  · obtain ⟨J, rfl, g1, g2, g3⟩ := hq
    have hFJ : FR J n NS ST CT GT D W day := hF.congr (fun a ha => g3 a (by omega) (by omega) (by omega)) (by rw [g3 111 (by omega) (by omega) (by omega)]) (by rw [g3 111 (by omega) (by omega) (by omega)])
    have hGJ : GO n NS ST CT GT D W day T v 11 J := fun k t j h1 h2 h3 => by rw [g3 130 (by omega) (by omega) (by omega)]; exact hG k t j h1 h2 h3
    have e25 : J 111 25 = nI L := by rw [g3 111 (by omega) (by omega) (by omega)]; exact h25
    obtain ⟨c0, cs, ch, cb⟩ := hc m hm
    -- the copy behind a train that was found
    have fin : ∀ (C : Nat → Nat → Prop) (K : qI), (∀ a, a ≠ 135 → K a = J a) → mk8 NS 135 (tr m) (fun j => gw NS ST CT GT (rD n day D) W T v (L - 1 - m) (tr m) j ∧ ∃ i, i < j ∧ C (tr m) i) K → (∀ j, gw NS ST CT GT (rD n day D) W T v (L - 1 - m) (tr m) j → ((∃ i, i < j ∧ C (tr m) i) ↔ b m < j)) → ok ((qwr K R 131 (nI m) (nI (tr m))).bind fun I31 => (qloop (fun s => cX8_finds_157 N R 111 (nI F) (nI T) (nI day) (nI M) (nI m) s.1 s.2) N (nI 0, I31)).bind fun o32 => some (Sum.inl (nI m + nI 1, o32) : (Int32 × qI) ⊕ qI)) (fun x => ∃ Q, x = .inl (nI (m + 1), Q) ∧ (∀ k, k < m + 1 → Q 131 k = nI (tr k)) ∧ mk8 NS 134 (tr m) (fun j => gw NS ST CT GT (rD n day D) W T v (L - 1 - m) (tr m) j ∧ b m < j) Q ∧ ∀ a, a ≠ 131 → a ≠ 134 → a ≠ 135 → Q a = I a) := by
      intro C K hK hm135 hiff
      refine ok_bindv (w131 hL (by omega)) ?_
      refine ok_bind (ok_mono (P := fun Q => (∀ x, x < 70 → Q 134 x = K 135 x) ∧ ∀ a, a ≠ 134 → Q a = qup K 131 m (nI (tr m)) a) ?_ (fun Q hQ => ?_))
      · refine ok_for (fun k2 q => ∃ Q, q = (nI k2, Q) ∧ (∀ x, x < k2 → Q 134 x = K 135 x) ∧ ∀ a, a ≠ 134 → Q a = qup K 131 m (nI (tr m)) a) 70 (by omega) ⟨_, rfl, fun x hx => by omega, fun _ _ => rfl⟩ (fun k2 q hk2 hq => ?_) (fun q hq => ?_)
        · obtain ⟨Q, rfl, u1, u2⟩ := hq
          have e135 : Q 135 k2 = K 135 k2 := by rw [u2 135 (by omega), qup_off (by omega)]
          have hnr : vp_nar .boolean (K 135 k2) = K 135 k2 := by rw [hm135 k2 hk2]; exact nar_ind _
          refine ⟨.inl (nI (k2 + 1), qup Q 134 k2 (K 135 k2)), ?_, _, rfl, fun x hx => ?_, fun a ha => by rw [qup_ne _ _ _ ha]; exact u2 a ha⟩
          · show cX8_finds_157 N R 111 (nI F) (nI T) (nI day) (nI M) (nI m) (nI k2) Q = _
            unfold cX8_finds_157
            simp (disch := first | assumption | omega) only [obs, qle, ↓lm1, l0, qn_add, pk_mul, n_le, n_lt, n_eq, n_sM, n_Ms, n_Mlt, n_Mle, n_ltM, n_leM, ↓reduceIte, eq_self, if_pos, if_neg, qx, p111_3, p111_4, p111_5, p111_6, p111_7, p111_8, p111_11, p111_12, p111_13, p111_14, p111_15, p111_16, p111_17, p111_18, p111_19, p111_21, p111_22, p111_23, p111_24, p111_27, p111_28, p111_29, p111_30, p111_31, p111_32, p111_34, r112, w112, r113, w113, r114, w114, r115, w115, r116, w116, r117, w117, r118, w118, r119, w119, r120, w120, r121, w121, r122, w122, r123, w123, r124, w124, r125, w125, r126, w126, r127, w127, r128, w128, r129, w129, r130, w130, r131, w131, r132, w132, r133, w133, r134, w134, r135, w135, r136, w136, r137, w137, l1, l2, l3, l5, l6, l7, l8, l10, l11, l12, l31, l36, l63, l100, l1000, l1440, l1000000, l16777216, l70, e135, hnr]
          · by_cases e : x = k2
            · subst e; exact qup_on
            · rw [qup_off (by omega)]; exact u1 x (by omega)
        · obtain ⟨Q, rfl, u1, u2⟩ := hq
          refine ⟨.inr Q, ?_, u1, u2⟩
          show cX8_finds_157 N R 111 (nI F) (nI T) (nI day) (nI M) (nI m) (nI 70) Q = _
          unfold cX8_finds_157
          simp (disch := first | assumption | omega) only [obs, qle, ↓lm1, l0, qn_add, pk_mul, n_le, n_lt, n_eq, n_sM, n_Ms, n_Mlt, n_Mle, n_ltM, n_leM, ↓reduceIte, eq_self, if_pos, if_neg, qx, p111_3, p111_4, p111_5, p111_6, p111_7, p111_8, p111_11, p111_12, p111_13, p111_14, p111_15, p111_16, p111_17, p111_18, p111_19, p111_21, p111_22, p111_23, p111_24, p111_27, p111_28, p111_29, p111_30, p111_31, p111_32, p111_34, r112, w112, r113, w113, r114, w114, r115, w115, r116, w116, r117, w117, r118, w118, r119, w119, r120, w120, r121, w121, r122, w122, r123, w123, r124, w124, r125, w125, r126, w126, r127, w127, r128, w128, r129, w129, r130, w130, r131, w131, r132, w132, r133, w133, r134, w134, r135, w135, r136, w136, r137, w137, l1, l2, l3, l5, l6, l7, l8, l10, l11, l12, l31, l36, l63, l100, l1000, l1440, l1000000, l16777216, l70]
      · obtain ⟨u1, u2⟩ := hQ
        rw [qn_add]
        refine ok_some ⟨Q, rfl, fun k hk => ?_, fun x hx => ?_, fun a h1 h2 h3 => by rw [u2 a h2, qup_ne _ _ _ h1, hK a h3]; exact g3 a h1 h2 h3⟩
        · rw [u2 131 (by omega)]
          by_cases e : k = m
          · subst e; exact qup_on
          · rw [qup_off (by omega), hK 131 (by omega)]; exact g1 k (by omega)
        · rw [u1 x hx, hm135 x hx]
          congr 1
          exact ind_iff ⟨fun ⟨j, a1, a2, a3, a4⟩ => ⟨j, a1, a2, a3, (hiff j a3).mp a4⟩, fun ⟨j, a1, a2, a3, a4⟩ => ⟨j, a1, a2, a3, (hiff j a3).mpr a4⟩⟩
    show ok (cX8_finds_111 N R 111 (nI F) (nI T) (nI day) (nI M) (nI m) J) _
    unfold cX8_finds_111
    rw [e25, if_neg (show ¬ nI L ≤ nI m by rw [n_le (by omega) (by omega)]; omega)]
    refine ok_bindv (p111_27 hL) ?_
    rw [l0, l1, qn_sub (show 1 ≤ L by omega), qn_sub (show m ≤ L - 1 by omega)]
    by_cases hm0 : m = 0
    · subst hm0
      rw [if_pos rfl]
      obtain ⟨d1, d2, d3, d4, d5⟩ := c0 rfl
      have hC : cbp N R NS F M (nI 1) (fun t i => fb ST GT F M t i) n J := fun K hK t i ht hi => canBoard_1 hL w (hFJ.congr (fun a ha => hK a (by omega)) (by rw [hK 111 (by omega)]) (by rw [hK 111 (by omega)])) hM ht hi
      refine ok_bind (ok_mono (firstTrain8_ok (N := N) (R := R) (v := v) (T := T) hN hL w hFJ hGJ (show L - 1 - 0 < 11 by omega) hC) (fun y hy => ?_))
      obtain ⟨y1, K⟩ := y
      obtain ⟨k1, k2⟩ := hy
      simp only at k1 k2 ⊢
      rw [Nat.sub_zero] at k2 fin
      rcases k2 with ⟨_, q1⟩ | ⟨t, q0, q1, ⟨i, j, a1, a2, a3⟩, q3, q4⟩
      · obtain ⟨i, a1, a2, j, a3, a4⟩ := d1
        exact absurd a4 (q1 _ i j a3 a2)
      · have e : t = tr 0 := by
          apply Classical.byContradiction
          intro hne
          rcases Nat.lt_or_gt_of_ne hne with h | h
          · exact d2 t h ⟨i, by have := (gw_ok NS ST CT GT (rD n day D) W T v a3).2.2; omega, a2, j, a1, a3⟩
          · obtain ⟨i', b1, b2, j', b3, b4⟩ := d1
            exact q3 _ i' j' h b3 b2 b4
        subst e
        subst q0
        refine ok_mono (fin (fun t i => fb ST GT F M t i) K k1 q4 (fun j hj => ⟨fun ⟨i2, b1, b2⟩ => ?_, fun h => ⟨b 0, h, d4, d5⟩⟩)) (fun r hr => ?_)
        · have : i2 = b 0 := (w.2.2.2.2 _ (htr 0 hm)).2.2.2 i2 (b 0) (by have := (gw_ok NS ST CT GT (rD n day D) W T v hj).2.2; omega) d3 (by rw [b2.1, d4])
          omega
        · obtain ⟨Q, rfl, r1, r2, r3⟩ := hr
          exact ⟨Q, rfl, r1, fun _ => by rw [Nat.add_sub_cancel, Nat.sub_zero]; exact r2, r3⟩
    · rw [if_neg (show ¬ nI m = nI 0 by rw [n_eq (by omega) (by omega)]; exact hm0)]
      obtain ⟨d1, d2, d3⟩ := cs (by omega)
      have hh := g2 (by omega)
      have htp := htr (m - 1) (by omega)
      obtain ⟨_, _, chp, cbp'⟩ := hc (m - 1) (by omega)
      have hrp : rD n day D (tr (m - 1)) := by obtain ⟨j, _, h⟩ := chp; exact (gw_ok NS ST CT GT (rD n day D) W T v h).1
      have hd : L - 1 - (m - 1) = L - 1 - m + 1 := by omega
      have hC : cbp N R NS F M (nI 0) (fun t i => ∃ j, j < NS (tr (m - 1)) ∧ (gw NS ST CT GT (rD n day D) W T v (L - 1 - (m - 1)) (tr (m - 1)) j ∧ b (m - 1) < j) ∧ cc ST CT GT W (tr (m - 1)) j t i) n J := fun K hK t i ht hi => canBoard_0 hN hL w (hFJ.congr (fun a ha => hK a (by omega)) (by rw [hK 111 (by omega)]) (by rw [hK 111 (by omega)])) ht hi htp (fun x hx => by rw [hK 134 (by omega)]; exact hh x hx)
      -- found means: one can change into it
      have hfo : ∀ t i, (∃ j, i < j ∧ (∃ j, j < NS (tr (m - 1)) ∧ (gw NS ST CT GT (rD n day D) W T v (L - 1 - (m - 1)) (tr (m - 1)) j ∧ b (m - 1) < j) ∧ cc ST CT GT W (tr (m - 1)) j t i) ∧ gw NS ST CT GT (rD n day D) W T v (L - 1 - m) t j) ↔ nxt NS ST CT GT (rD n day D) W T v (tr (m - 1)) (b (m - 1)) (L - 1 - m) t i := fun t i => by
        constructor
        · rintro ⟨j, a1, ⟨j', a2, a3, a4⟩, a5⟩
          exact ⟨⟨j', a3.2, a2, a4⟩, by have := (gw_ok NS ST CT GT (rD n day D) W T v a5).2.2; omega, j, a1, a5⟩
        · rintro ⟨⟨j', a3, a2, a4⟩, _, j, a1, a5⟩
          refine ⟨j, a1, ⟨j', a2, ⟨?_, a3⟩, a4⟩, a5⟩
          rw [hd]
          exact ⟨hrp, by omega, a2, t, i, j, a1, a4, a5⟩
      refine ok_bind (ok_mono (firstTrain8_ok (N := N) (R := R) (v := v) (T := T) hN hL w hFJ hGJ (show L - 1 - m < 11 by omega) hC) (fun y hy => ?_))
      obtain ⟨y1, K⟩ := y
      obtain ⟨k1, k2⟩ := hy
      simp only at k1 k2 ⊢
      rcases k2 with ⟨_, q1⟩ | ⟨t, q0, q1, ⟨i, j, a1, a2, a3⟩, q3, q4⟩
      · obtain ⟨j, b1, b2, b3⟩ := (hfo _ _).mpr d1
        exact absurd b3 (q1 _ _ j b1 b2)
      · have e : t = tr m := by
          apply Classical.byContradiction
          intro hne
          rcases Nat.lt_or_gt_of_ne hne with h | h
          · exact d2 t i h ((hfo t i).mp ⟨j, a1, a2, a3⟩)
          · obtain ⟨j', b1, b2, b3⟩ := (hfo _ _).mpr d1
            exact q3 _ _ j' h b1 b2 b3
        subst e
        subst q0
        refine ok_mono (fin (fun t i => ∃ j, j < NS (tr (m - 1)) ∧ (gw NS ST CT GT (rD n day D) W T v (L - 1 - (m - 1)) (tr (m - 1)) j ∧ b (m - 1) < j) ∧ cc ST CT GT W (tr (m - 1)) j t i) K k1 q4 (fun j hj => ⟨fun ⟨i2, b1, b2⟩ => ?_, fun h => ?_⟩)) (fun r hr => ?_)
        · have hn := (hfo (tr m) i2).mp ⟨j, b1, b2, hj⟩
          have : b m ≤ i2 := Classical.byContradiction (fun q => d3 i2 (by omega) hn)
          omega
        · obtain ⟨j', b1, b2, b3⟩ := (hfo _ _).mpr d1
          exact ⟨b m, h, b2⟩
        · obtain ⟨Q, rfl, r1, r2, r3⟩ := hr
          exact ⟨Q, rfl, r1, fun _ => by rw [Nat.add_sub_cancel]; exact r2, r3⟩
  · obtain ⟨J, rfl, g1, g2, g3⟩ := hq
    have e25 : J 111 25 = nI L := by rw [g3 111 (by omega) (by omega) (by omega)]; exact h25
    refine ⟨.inr J, ?_, g1, g3⟩
    show cX8_finds_111 N R 111 (nI F) (nI T) (nI day) (nI M) (nI L) J = _
    unfold cX8_finds_111
    simp (disch := first | assumption | omega) only [obs, qle, ↓lm1, l0, qn_add, pk_mul, n_le, n_lt, n_eq, n_sM, n_Ms, n_Mlt, n_Mle, n_ltM, n_leM, ↓reduceIte, eq_self, if_pos, if_neg, qx, p111_3, p111_4, p111_5, p111_6, p111_7, p111_8, p111_11, p111_12, p111_13, p111_14, p111_15, p111_16, p111_17, p111_18, p111_19, p111_21, p111_22, p111_23, p111_24, p111_27, p111_28, p111_29, p111_30, p111_31, p111_32, p111_34, r112, w112, r113, w113, r114, w114, r115, w115, r116, w116, r117, w117, r118, w118, r119, w119, r120, w120, r121, w121, r122, w122, r123, w123, r124, w124, r125, w125, r126, w126, r127, w127, r128, w128, r129, w129, r130, w130, r131, w131, r132, w132, r133, w133, r134, w134, r135, w135, r136, w136, r137, w137, l1, l2, l3, l5, l6, l7, l8, l10, l11, l12, l31, l36, l63, l100, l1000, l1440, l1000000, l16777216, e25]
theorem stations196 {I : qI} {L : Nat} {tr B lv : Nat → Nat} (hN : 300000 ≤ N) (hL : LR R) (w : wb n NS ST CT GT (rD n day D) W F) (hF : FR I n NS ST CT GT D W day) (hv : I 111 26 = nI v) (hv2 : v < 1440) (hT : T < 12) (h25 : I 111 25 = nI L) (hL10 : L ≤ 10) (hM : M ≤ 1440) (h131 : ∀ m, m < L → I 131 m = nI (tr m) ∧ tr m < n) (hw : wy NS ST CT GT W T v L tr B lv) (hs0 : 0 < L → ST (tr 0) (B 0) = F ∧ M ≤ GT (tr 0) (B 0)) : ok (qloop (fun s => cX8_finds_196 N R 111 (nI F) (nI T) (nI M) s.1 s.2.1 s.2.2) N (nM, nI 0, I)) (fun J => (∀ m, m < L → J 132 m = nI (7 * tr m + B m) ∧ J 133 m = nI (7 * tr m + lv m)) ∧ ∀ a, a ≠ 132 → a ≠ 133 → a ≠ 135 → a ≠ 136 → J a = I a) := by
  have hn10 := w.1
  refine ok_for (fun m q => ∃ (rdy : Int32) (J : qI), q = (rdy, nI m, J) ∧ (0 < m → rdy = nI (7 * tr (m - 1) + lv (m - 1))) ∧ (∀ k, k < m → J 132 k = nI (7 * tr k + B k) ∧ J 133 k = nI (7 * tr k + lv k)) ∧ ∀ a, a ≠ 132 → a ≠ 133 → a ≠ 135 → a ≠ 136 → J a = I a) L (by omega) ⟨nM, I, rfl, fun h => by omega, fun k hk => by omega, fun _ _ _ _ _ => rfl⟩ (fun m q hm hq => ?_) (fun q hq => ?_)
  · obtain ⟨rdy, J, rfl, g1, g2, g3⟩ := hq
    have hFJ : FR J n NS ST CT GT D W day := hF.congr (fun a ha => g3 a (by omega) (by omega) (by omega) (by omega)) (by rw [g3 111 (by omega) (by omega) (by omega) (by omega)]) (by rw [g3 111 (by omega) (by omega) (by omega) (by omega)])
    have e25 : J 111 25 = nI L := by rw [g3 111 (by omega) (by omega) (by omega) (by omega)]; exact h25
    have e131 : ∀ m, m < L → J 131 m = nI (tr m) ∧ tr m < n := fun m hm => by rw [g3 131 (by omega) (by omega) (by omega) (by omega)]; exact h131 m hm
    obtain ⟨w1, ⟨⟨w2, w3⟩, w4⟩, w5⟩ := hw m hm
    have tm := (h131 m hm)
    have hns := (hF.2.2.2.1 (tr m) (by omega)).1
    have hbo : ∀ K : qI, (∀ a, a ≠ 135 → a ≠ 136 → K a = J a) → fX8_boardOf N R K 111 (nI (tr m)) (nI m) rdy (nI F) (nI M) = some (nI (B m)) := by
      intro K hK
      have hFK : FR K n NS ST CT GT D W day := hFJ.congr (fun a ha => hK a (by omega) (by omega)) (by rw [hK 111 (by omega) (by omega)]) (by rw [hK 111 (by omega) (by omega)])
      by_cases hm0 : m = 0
      · subst hm0
        have := hs0 hm
        exact boardOf_0 hN hL w hFK hM tm.2 w1 this.1 this.2
      · obtain ⟨m', rfl⟩ : ∃ m', m = m' + 1 := ⟨m - 1, by omega⟩
        have hr := g1 (by omega)
        rw [Nat.add_sub_cancel] at hr
        rw [hr]
        obtain ⟨_, ⟨⟨_, x3⟩, _⟩, x5⟩ := hw m' (by omega)
        exact boardOf_s hN hL w hFK (by omega) tm.2 w1 (h131 m' (by omega)).2 (rgo_ok NS ST CT GT W T v x3).2 (x5 (by omega))
    show ok (cX8_finds_196 N R 111 (nI F) (nI T) (nI M) rdy (nI m) J) _
    unfold cX8_finds_196
    rw [e25, if_neg (show ¬ nI L ≤ nI m by rw [n_le (by omega) (by omega)]; omega)]
    refine ok_bindv (p111_27 hL) (ok_bindv (r131 hL (by omega)) ?_)
    rw [(e131 m hm).1, lm1, l1, l7]
    refine ok_bind (ok_mono (best220 (N := N) (R := R) hN hL w hFJ (by rw [g3 111 (by omega) (by omega) (by omega) (by omega)]; exact hv) hv2 hT e25 hL10 e131 hm w1 hbo ⟨lv m, w2, w3⟩) (fun y hy => ?_))
    obtain ⟨y1, K⟩ := y
    obtain ⟨k1, l, k2, ⟨k3, k4⟩, k5⟩ := hy
    simp only at k1 k2 ⊢
    have hll : l = lv m := by
      have a1 := k5 (lv m) w2 w3
      have a2 := w4 l k3 k4
      exact (w.2.2.2.2 _ tm.2).2.2.2 l (lv m) (rgo_ok NS ST CT GT W T v k4).2 (rgo_ok NS ST CT GT W T v w3).2 (by omega)
    subst hll
    have hl7 := (rgo_ok NS ST CT GT W T v w3).2
    refine ok_bindv (p111_28 hL) (ok_bindv (hbo K k1) ?_)
    rw [pk_mul, qn_add, k2]
    refine ok_bindv (w132 hL (by omega)) (ok_bindv (p111_29 hL) (ok_bindv (w133 hL (by omega)) ?_))
    rw [qn_add]
    refine ok_some ⟨_, _, rfl, fun _ => by rw [Nat.add_sub_cancel], fun k hk => ?_, fun a h1 h2 h3 h4 => by rw [qup_ne _ _ _ h2, qup_ne _ _ _ h1, k1 a h3 h4]; exact g3 a h1 h2 h3 h4⟩
    by_cases e : k = m
    · subst e
      exact ⟨by rw [qup_off (by omega)]; exact qup_on, qup_on⟩
    · rw [qup_off (by omega), qup_off (by omega), qup_off (by omega), qup_off (by omega), k1 132 (by omega) (by omega), k1 133 (by omega) (by omega)]
      exact g2 k (by omega)
  · obtain ⟨rdy, J, rfl, g1, g2, g3⟩ := hq
    have e25 : J 111 25 = nI L := by rw [g3 111 (by omega) (by omega) (by omega) (by omega)]; exact h25
    refine ⟨.inr J, ?_, g2, g3⟩
    show cX8_finds_196 N R 111 (nI F) (nI T) (nI M) rdy (nI L) J = _
    unfold cX8_finds_196
    simp (disch := first | assumption | omega) only [obs, qle, ↓lm1, l0, qn_add, pk_mul, n_le, n_lt, n_eq, n_sM, n_Ms, n_Mlt, n_Mle, n_ltM, n_leM, ↓reduceIte, eq_self, if_pos, if_neg, qx, p111_3, p111_4, p111_5, p111_6, p111_7, p111_8, p111_11, p111_12, p111_13, p111_14, p111_15, p111_16, p111_17, p111_18, p111_19, p111_21, p111_22, p111_23, p111_24, p111_27, p111_28, p111_29, p111_30, p111_31, p111_32, p111_34, r112, w112, r113, w113, r114, w114, r115, w115, r116, w116, r117, w117, r118, w118, r119, w119, r120, w120, r121, w121, r122, w122, r123, w123, r124, w124, r125, w125, r126, w126, r127, w127, r128, w128, r129, w129, r130, w130, r131, w131, r132, w132, r133, w133, r134, w134, r135, w135, r136, w136, r137, w137, l1, l2, l3, l5, l6, l7, l8, l10, l11, l12, l31, l36, l63, l100, l1000, l1440, l1000000, l16777216, e25]
end FIND8
