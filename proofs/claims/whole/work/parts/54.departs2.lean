/-! DEPARTURES ON BOTH SIDES -/
section DEP2
variable {n : Nat} {NS : Nat → Nat} {ST CT GT : Nat → Nat → Nat} {D : Nat → Nat} {W F day T N : Nat} {R : qR}
theorem findDep7_ok {I : qI} (hN : 300000 ≤ N) (hL : LR R) (w : wb n NS ST CT GT (rD n day D) W F) (hF : FPx R I n NS ST CT GT D W day) (hT : T < 12) (hTF : T ≠ F) : ok (fX6_findDepartures N R I 51 (nI F) (nI T)) (fun y => ∃ (fc : Nat) (fd : Nat → Nat), fc ≤ 10 ∧ y.1 = nI fc ∧ y.2 51 15 = nI fc ∧ (∀ k, k < fc → y.2 60 k = nI (fd k) ∧ fd k < 1440) ∧ (∀ i j, i < j → j < fc → fd j < fd i) ∧ (∀ k, k < fc → Gd n NS ST CT GT D W F day T (fd k)) ∧ (∀ m, Gd n NS ST CT GT D W F day T m → ∃ k, k < fc ∧ fd k = m) ∧ ∀ a, a < 51 ∨ 60 < a → y.2 a = I a) := by
  have hn10 := w.1
  unfold fX6_findDepartures
  refine ok_bind (ok_mono (collect_ok (N := N) hN hL w hF) (fun J0 hJ0 => ?_))
  obtain ⟨c, f, h0, h1, h2, h3, h4, h5, h6, h7⟩ := hJ0
  rw [l0]
  refine ok_let ?_
  have e13 : qup J0 51 15 (nI 0) 51 13 = nI c := by rw [qup_off (by omega)]; exact h1
  rw [e13, l1, nP_sub]
  refine ok_bind (ok_mono (P := fun J => ∃ (fc : Nat) (fd : Nat → Nat), fc ≤ 10 ∧ J 51 15 = nI fc ∧ (∀ k, k < fc → J 60 k = nI (fd k) ∧ fd k < 1440) ∧ (∀ i j, i < j → j < fc → fd j < fd i) ∧ (∀ k, k < fc → Gd n NS ST CT GT D W F day T (fd k)) ∧ (∀ m, Gd n NS ST CT GT D W F day T m → ∃ k, k < fc ∧ fd k = m) ∧ ∀ a, a < 51 ∨ 60 < a → J a = I a) ?_ (fun J hJ => ?_))
  · refine ok_for (fun k q => ∃ (i : Nat) (J : qI) (fc : Nat) (fd : Nat → Nat), i + k = c ∧ q = (nI (if i = c then 1000000 else sv n NS ST CT GT D W F day T (f i)), nP i, J) ∧ fc ≤ k ∧ J 51 15 = nI fc ∧ (∀ k, k < fc → J 60 k = nI (fd k) ∧ fd k < 1440 ∧ i < c ∧ f i ≤ fd k) ∧ (∀ i j, i < j → j < fc → fd j < fd i) ∧ (∀ k, k < fc → Gd n NS ST CT GT D W F day T (fd k)) ∧ (∀ k2, i ≤ k2 → k2 < c → Gd n NS ST CT GT D W F day T (f k2) → ∃ k, k < fc ∧ fd k = f k2) ∧ (∀ a, (a < 51 ∨ 60 < a) ∨ a = 59 → J a = J0 a) ∧ ∀ j, j ≠ 15 → J 51 j = J0 51 j) c (by omega) ⟨c, _, 0, fun _ => 0, by omega, by rw [if_pos rfl, l1000000], by omega, qup_on, fun k hk => by omega, fun i j _ hj => by omega, fun k hk => by omega, fun k2 a1 a2 => by omega, fun a ha => qup_ne _ _ _ (by omega), fun j hj => qup_off (Or.inr hj)⟩ (fun k q hk hq => ?_) (fun q hq => ?_)
    · obtain ⟨i1, J, fc, fd, g0, rfl, g1, g2, g3, g4, g5, g6, g7, g8⟩ := hq
      obtain ⟨i, rfl⟩ : ∃ i, i1 = i + 1 := ⟨i1 - 1, by omega⟩
      have fi := h2 i (by omega)
      have hFJ : FPx R J n NS ST CT GT D W day := hF.congr hn10 (fun a ha => by rw [g7 a (by omega), h6 a (by omega) (by omega)]) (by rw [g8 1 (by omega), h7 1 (by omega)]) (by rw [g8 2 (by omega), h7 2 (by omega)]) (by rw [g8 3 (by omega), h7 3 (by omega)])
      have e59 : J 59 i = nI (f i) := by rw [g7 59 (by omega)]; exact fi.1
      generalize hB : (if i + 1 = c then 1000000 else sv n NS ST CT GT D W F day T (f (i + 1))) = B
      have hB1 : B ≤ 1000000 := by
        rw [← hB]
        split
        · omega
        · exact sv_le w _
      have hmono : sv n NS ST CT GT D W F day T (f i) ≤ B := by
        rw [← hB]
        split
        · exact sv_le w _
        · exact sv_mono w (h3 i (i + 1) (by omega) (by omega))
      show ok (cX6_findDepartures_21 N R 51 (nI F) (nI T) (nI B) (nI i) J) _
      unfold cX6_findDepartures_21
      rw [if_neg (show ¬ nI i < 0 by rw [l0, n_lt (by omega) (by omega)]; omega)]
      refine ok_bindv (p51_12 hL) (ok_bindv (r59 hL (by omega)) ?_)
      rw [e59]
      refine ok_bind (ok_mono (soonestAt_ok (N := N) hN hL w (show f i ≤ 1440 by omega) hFJ hT hTF) (fun y hy => ?_))
      obtain ⟨y1, K⟩ := y
      obtain ⟨k1, k2⟩ := hy
      simp only at k1 k2 ⊢
      have hy1 : y1 = nI (sv n NS ST CT GT D W F day T (f i)) := by
        rcases k1 with ⟨q1, q2⟩ | ⟨v, q1, q2⟩
        · rw [sv_no q1]; exact q2
        · rw [sv_sn q1]; exact q2
      subst hy1
      have hsl := sv_le (T := T) w (f i)
      by_cases hlt : sv n NS ST CT GT D W F day T (f i) < B
      · rw [if_neg (show ¬ nI B ≤ nI (sv n NS ST CT GT D W F day T (f i)) by rw [n_le (by omega) (by omega)]; omega)]
        have e15 : K 51 15 = nI fc := by rw [k2 51 (by omega)]; exact g2
        refine ok_bindv (p51_14 hL) (ok_bindv (r59 hL (by omega)) ?_)
        rw [k2 59 (by omega), e59, e15]
        refine ok_bindv (w60 hL (by omega)) (ok_let ?_)
        rw [qup_off (by omega), e15, lm1, l1, qn_add, nP_dec]
        -- a good minute
        have hgd : Gd n NS ST CT GT D W F day T (f i) := by
          refine ⟨h4 i (by omega), by omega, fun m2 hd hm2 => ?_⟩
          obtain ⟨k9, q1, q2⟩ := h5 m2 hd
          have hk9 : i + 1 ≤ k9 := by
            apply Classical.byContradiction
            intro q
            by_cases e : k9 = i
            · subst e; omega
            · have := h3 k9 i (by omega) (by omega); omega
          rw [if_neg (by omega)] at hB
          have : f (i + 1) ≤ f k9 := by
            by_cases e : k9 = i + 1
            · rw [e]; exact Nat.le_refl _
            · exact h3 (i + 1) k9 (by omega) q1
          have := sv_mono (T := T) w this
          rw [q2] at this
          omega
        have hdesc : ∀ k, k < fc → f i < fd k := fun k hk2 => by
          obtain ⟨q1, q2, q3, q4⟩ := g3 k hk2
          rw [if_neg (by omega)] at hB
          have h9 := h3 i (i + 1) (by omega) q3
          have : f i ≠ f (i + 1) := fun e => by rw [← e] at hB; omega
          omega
        refine ok_some ⟨i, _, fc + 1, fun k => if k = fc then f i else fd k, by omega, by rw [if_neg (by omega)], by omega, qup_on, fun k2' hk2 => ?_, fun a b hab hb => ?_, fun k2' hk2 => ?_, fun k2' a1 a2 a3 => ?_, fun a ha => by rw [qup_ne _ _ _ (by omega), qup_ne _ _ _ (by omega), k2 a (by omega)]; exact g7 a ha, fun j hj => by rw [qup_off (by omega), qup_off (by omega), k2 51 (by omega)]; exact g8 j hj⟩
        · show qup (qup K 60 fc (nI (f i))) 51 15 (nI (fc + 1)) 60 k2' = nI (if k2' = fc then f i else fd k2') ∧ (if k2' = fc then f i else fd k2') < 1440 ∧ i < c ∧ f i ≤ (if k2' = fc then f i else fd k2')
          rw [qup_off (by omega)]
          by_cases e : k2' = fc
          · subst e
            rw [if_pos rfl]
            exact ⟨qup_on, fi.2, by omega, Nat.le_refl _⟩
          · rw [if_neg e, qup_off (by omega), k2 60 (by omega)]
            have q := g3 k2' (by omega)
            have := hdesc k2' (by omega)
            exact ⟨q.1, q.2.1, by omega, by omega⟩
        · show (if b = fc then f i else fd b) < (if a = fc then f i else fd a)
          rw [if_neg (show ¬ a = fc by omega)]
          by_cases e : b = fc
          · rw [if_pos e]; exact hdesc a (by omega)
          · rw [if_neg e]; exact g4 a b hab (by omega)
        · show Gd n NS ST CT GT D W F day T (if k2' = fc then f i else fd k2')
          by_cases e : k2' = fc
          · rw [if_pos e]; exact hgd
          · rw [if_neg e]; exact g5 k2' (by omega)
        · by_cases e : k2' = i
          · subst e
            exact ⟨fc, by omega, by show (if fc = fc then f k2' else fd fc) = f k2'; rw [if_pos rfl]⟩
          · obtain ⟨k, q1, q2⟩ := g6 k2' (by omega) a2 a3
            exact ⟨k, by omega, by show (if k = fc then f i else fd k) = f k2'; rw [if_neg (by omega)]; exact q2⟩
      · rw [if_pos (show nI B ≤ nI (sv n NS ST CT GT D W F day T (f i)) by rw [n_le (by omega) (by omega)]; omega), lm1, nP_dec]
        have eB : B = sv n NS ST CT GT D W F day T (f i) := by omega
        refine ok_some ⟨i, K, fc, fd, by omega, by rw [if_neg (by omega), eB], by omega, by rw [k2 51 (by omega)]; exact g2, fun k2' hk2 => ?_, g4, g5, fun k2' a1 a2 a3 => ?_, fun a ha => by rw [k2 a (by omega)]; exact g7 a ha, fun j hj => by rw [k2 51 (by omega)]; exact g8 j hj⟩
        · rw [k2 60 (by omega)]
          obtain ⟨q1, q2, q3, q4⟩ := g3 k2' hk2
          have := h3 i (i + 1) (by omega) q3
          exact ⟨q1, q2, by omega, by omega⟩
        · by_cases e : k2' = i
          · subst e
            by_cases hic : k2' + 1 = c
            · rw [if_pos hic] at hB
              have := a3.2.1
              omega
            · rw [if_neg hic] at hB
              have hle := h3 k2' (k2' + 1) (by omega) (by omega)
              by_cases hf : f k2' = f (k2' + 1)
              · rw [hf] at a3 ⊢
                exact g6 (k2' + 1) (by omega) (by omega) a3
              · have := a3.2.2 (f (k2' + 1)) (h4 (k2' + 1) (by omega)) (by omega)
                omega
          · exact g6 k2' (by omega) a2 a3
    · obtain ⟨i1, J, fc, fd, g0, rfl, g1, g2, g3, g4, g5, g6, g7, g8⟩ := hq
      obtain rfl : i1 = 0 := by omega
      refine ⟨.inr J, ?_, fc, fd, by omega, g2, fun k hk => ⟨(g3 k hk).1, (g3 k hk).2.1⟩, g4, g5, fun m hm => ?_, fun a ha => ?_⟩
      · show cX6_findDepartures_21 N R 51 (nI F) (nI T) (nI (if 0 = c then 1000000 else sv n NS ST CT GT D W F day T (f 0))) nM J = _
        unfold cX6_findDepartures_21
        rw [if_pos (show nM < 0 by decide)]
      · obtain ⟨k, q1, q2⟩ := h5 m hm.1
        rw [← q2] at hm ⊢
        exact g6 k (by omega) q1 hm
      · rw [g7 a (Or.inl ha), h6 a (by omega) (by omega)]
  · obtain ⟨fc, fd, q1, q2, q3⟩ := hJ
    exact ok_some ⟨fc, fd, q1, q2, q2, q3⟩
theorem stopAt8_t {I : qI} {t i : Nat} (hN : 300000 ≤ N) (hL : LR R) (w : wb n NS ST CT GT (rD n day D) W F) (hK : BK I NS ST CT GT) (ht : t < n) (hi : i < NS t) (hs : ST t i = F) : fX8_stopAt N R I 111 (nI t) (nI F) = some (nI i) := by
  have hn10 := w.1
  have hF12 := w.2.2.1
  obtain ⟨z1, z2, z3, z4, z5, z6⟩ := hK t (by omega)
  unfold fX8_stopAt
  rw [l0]
  refine bind_of (x := Sum.inr (nI i)) (qfor (fun k => nI k) _ i (by omega) (fun k hk => ?_) ?_) rfl
  · have a := (z4 k (by omega)).1
    have s12 := a.2.2
    have hne : ST t k ≠ F := fun e => by have := (w.2.2.2.2 t ht).2.2.2 k i (by omega) hi (by omega); omega
    simp (disch := first | assumption | omega) only [obs, qle, ↓lm1, l0, qn_add, pk_mul, n_le, n_lt, n_eq, n_sM, n_Ms, n_Mlt, n_Mle, n_ltM, n_leM, ↓reduceIte, eq_self, if_pos, if_neg, qx, p111_3, p111_4, p111_5, p111_6, p111_7, p111_8, p111_11, p111_12, p111_13, p111_14, p111_15, p111_16, p111_17, p111_18, p111_19, p111_21, p111_22, p111_23, p111_24, p111_27, p111_28, p111_29, p111_30, p111_31, p111_32, p111_34, r112, w112, r113, w113, r114, w114, r115, w115, r116, w116, r117, w117, r118, w118, r119, w119, r120, w120, r121, w121, r122, w122, r123, w123, r124, w124, r125, w125, r126, w126, r127, w127, r128, w128, r129, w129, r130, w130, r131, w131, r132, w132, r133, w133, r134, w134, r135, w135, r136, w136, r137, w137, l1, l2, l3, l5, l6, l7, l8, l10, l11, l12, l31, l36, l63, l100, l1000, l1440, l1000000, l16777216, cX8_stopAt_2, z2, a.1]
  · have a := (z4 i hi).1
    have s12 := a.2.2
    simp (disch := first | assumption | omega) only [obs, qle, ↓lm1, l0, qn_add, pk_mul, n_le, n_lt, n_eq, n_sM, n_Ms, n_Mlt, n_Mle, n_ltM, n_leM, ↓reduceIte, eq_self, if_pos, if_neg, qx, p111_3, p111_4, p111_5, p111_6, p111_7, p111_8, p111_11, p111_12, p111_13, p111_14, p111_15, p111_16, p111_17, p111_18, p111_19, p111_21, p111_22, p111_23, p111_24, p111_27, p111_28, p111_29, p111_30, p111_31, p111_32, p111_34, r112, w112, r113, w113, r114, w114, r115, w115, r116, w116, r117, w117, r118, w118, r119, w119, r120, w120, r121, w121, r122, w122, r123, w123, r124, w124, r125, w125, r126, w126, r127, w127, r128, w128, r129, w129, r130, w130, r131, w131, r132, w132, r133, w133, r134, w134, r135, w135, r136, w136, r137, w137, l1, l2, l3, l5, l6, l7, l8, l10, l11, l12, l31, l36, l63, l100, l1000, l1440, l1000000, l16777216, cX8_stopAt_2, z2, a.1]
theorem stopAt8_f {I : qI} {t : Nat} (hN : 300000 ≤ N) (hL : LR R) (w : wb n NS ST CT GT (rD n day D) W F) (hK : BK I NS ST CT GT) (ht : t < n) (hno : ∀ i, i < NS t → ST t i ≠ F) : fX8_stopAt N R I 111 (nI t) (nI F) = some nM := by
  have hn10 := w.1
  have hF12 := w.2.2.1
  obtain ⟨z1, z2, z3, z4, z5, z6⟩ := hK t (by omega)
  unfold fX8_stopAt
  rw [l0]
  refine bind_of (x := Sum.inl ()) (qfor (fun k => nI k) _ (NS t) (by omega) (fun k hk => ?_) ?_) (by show some (-1 : Int32) = _; rw [lm1])
  · have a := (z4 k (by omega)).1
    have s12 := a.2.2
    have hne := hno k hk
    simp (disch := first | assumption | omega) only [obs, qle, ↓lm1, l0, qn_add, pk_mul, n_le, n_lt, n_eq, n_sM, n_Ms, n_Mlt, n_Mle, n_ltM, n_leM, ↓reduceIte, eq_self, if_pos, if_neg, qx, p111_3, p111_4, p111_5, p111_6, p111_7, p111_8, p111_11, p111_12, p111_13, p111_14, p111_15, p111_16, p111_17, p111_18, p111_19, p111_21, p111_22, p111_23, p111_24, p111_27, p111_28, p111_29, p111_30, p111_31, p111_32, p111_34, r112, w112, r113, w113, r114, w114, r115, w115, r116, w116, r117, w117, r118, w118, r119, w119, r120, w120, r121, w121, r122, w122, r123, w123, r124, w124, r125, w125, r126, w126, r127, w127, r128, w128, r129, w129, r130, w130, r131, w131, r132, w132, r133, w133, r134, w134, r135, w135, r136, w136, r137, w137, l1, l2, l3, l5, l6, l7, l8, l10, l11, l12, l31, l36, l63, l100, l1000, l1440, l1000000, l16777216, cX8_stopAt_2, z2, a.1]
  · simp (disch := first | assumption | omega) only [obs, qle, ↓lm1, l0, qn_add, pk_mul, n_le, n_lt, n_eq, n_sM, n_Ms, n_Mlt, n_Mle, n_ltM, n_leM, ↓reduceIte, eq_self, if_pos, if_neg, qx, p111_3, p111_4, p111_5, p111_6, p111_7, p111_8, p111_11, p111_12, p111_13, p111_14, p111_15, p111_16, p111_17, p111_18, p111_19, p111_21, p111_22, p111_23, p111_24, p111_27, p111_28, p111_29, p111_30, p111_31, p111_32, p111_34, r112, w112, r113, w113, r114, w114, r115, w115, r116, w116, r117, w117, r118, w118, r119, w119, r120, w120, r121, w121, r122, w122, r123, w123, r124, w124, r125, w125, r126, w126, r127, w127, r128, w128, r129, w129, r130, w130, r131, w131, r132, w132, r133, w133, r134, w134, r135, w135, r136, w136, r137, w137, l1, l2, l3, l5, l6, l7, l8, l10, l11, l12, l31, l36, l63, l100, l1000, l1440, l1000000, l16777216, cX8_stopAt_2, z2]
theorem isGone_ok {I : qI} {m : Nat} (hN : 300000 ≤ N) (hL : LR R) (w : wb n NS ST CT GT (rD n day D) W F) (hF : FR I n NS ST CT GT D W day) (hm : m < 1440) : fX8_isGone N R I 111 (nI F) (nI day) (nI m) = some (nI (ind (DpN n NS ST GT D F day m))) := by
  have hn10 := w.1
  obtain ⟨h1, h2, h3, h4, h5⟩ := id hF
  have key : ok (qloop (fun s => cX8_isGone_3 N R I 111 (nI F) (nI day) (nI m) s) N (nI 0)) (fun o => match o with
      | .inl _ => ¬ DpN n NS ST GT D F day m
      | .inr v => DpN n NS ST GT D F day m ∧ v = nI 1) := by
    refine ok_for (fun t q => q = nI t ∧ ∀ u i, u < t → rD n day D u → i + 1 < NS u → ST u i = F → GT u i ≠ m) n (by omega) ⟨rfl, fun u i hu => by omega⟩ (fun t q ht hq => ?_) (fun q hq => ?_)
    · obtain ⟨rfl, g1⟩ := hq
      obtain ⟨z1, z2, z3, z4, z5, z6⟩ := h4 t (by omega)
      have hr := runs8 (R := R) hL hn10 hF ht
      have step : (∀ i, rD n day D t → i + 1 < NS t → ST t i = F → GT t i ≠ m) → ∀ u i, u < t + 1 → rD n day D u → i + 1 < NS u → ST u i = F → GT u i ≠ m := fun hno u i hu => by
        by_cases e : u = t
        · subst e; exact hno i
        · exact g1 u i (by omega)
      by_cases hb : (D t).testBit day = true
      · rw [ind_t hb] at hr
        by_cases hex : ∃ i, i < NS t ∧ ST t i = F
        · obtain ⟨i, hi, hs⟩ := hex
          have es := stopAt8_t (N := N) (R := R) hN hL w h4 ht hi hs
          have ag := (z4 i hi).2.2.1.1
          have hg := (z4 i hi).2.2.2.2.1
          have huniq : ∀ j, j < NS t → ST t j = F → j = i := fun j hj hsj => (w.2.2.2.2 t ht).2.2.2 j i hj hi (by omega)
          by_cases hl : i + 1 < NS t
          · by_cases hgm : GT t i = m
            · refine ⟨.inr (.inr (nI 1)), ?_, ⟨t, i, ⟨ht, hb⟩, hl, hs, hgm⟩, rfl⟩
              show cX8_isGone_3 N R I 111 (nI F) (nI day) (nI m) (nI t) = _
              unfold cX8_isGone_3
              simp (disch := first | assumption | omega) only [obs, qle, ↓lm1, l0, qn_add, pk_mul, n_le, n_lt, n_eq, n_sM, n_Ms, n_Mlt, n_Mle, n_ltM, n_leM, ↓reduceIte, eq_self, if_pos, if_neg, qx, p111_3, p111_4, p111_5, p111_6, p111_7, p111_8, p111_11, p111_12, p111_13, p111_14, p111_15, p111_16, p111_17, p111_18, p111_19, p111_21, p111_22, p111_23, p111_24, p111_27, p111_28, p111_29, p111_30, p111_31, p111_32, p111_34, r112, w112, r113, w113, r114, w114, r115, w115, r116, w116, r117, w117, r118, w118, r119, w119, r120, w120, r121, w121, r122, w122, r123, w123, r124, w124, r125, w125, r126, w126, r127, w127, r128, w128, r129, w129, r130, w130, r131, w131, r132, w132, r133, w133, r134, w134, r135, w135, r136, w136, r137, w137, l1, l2, l3, l5, l6, l7, l8, l10, l11, l12, l31, l36, l63, l100, l1000, l1440, l1000000, l16777216, h1, es, hr, z2, qn_sub, ag]
            · refine ⟨.inl (nI (t + 1)), ?_, rfl, step (fun j _ hj hsj => by rw [huniq j (by omega) hsj]; exact hgm)⟩
              show cX8_isGone_3 N R I 111 (nI F) (nI day) (nI m) (nI t) = _
              unfold cX8_isGone_3
              simp (disch := first | assumption | omega) only [obs, qle, ↓lm1, l0, qn_add, pk_mul, n_le, n_lt, n_eq, n_sM, n_Ms, n_Mlt, n_Mle, n_ltM, n_leM, ↓reduceIte, eq_self, if_pos, if_neg, qx, p111_3, p111_4, p111_5, p111_6, p111_7, p111_8, p111_11, p111_12, p111_13, p111_14, p111_15, p111_16, p111_17, p111_18, p111_19, p111_21, p111_22, p111_23, p111_24, p111_27, p111_28, p111_29, p111_30, p111_31, p111_32, p111_34, r112, w112, r113, w113, r114, w114, r115, w115, r116, w116, r117, w117, r118, w118, r119, w119, r120, w120, r121, w121, r122, w122, r123, w123, r124, w124, r125, w125, r126, w126, r127, w127, r128, w128, r129, w129, r130, w130, r131, w131, r132, w132, r133, w133, r134, w134, r135, w135, r136, w136, r137, w137, l1, l2, l3, l5, l6, l7, l8, l10, l11, l12, l31, l36, l63, l100, l1000, l1440, l1000000, l16777216, h1, es, hr, z2, qn_sub, ag]
          · refine ⟨.inl (nI (t + 1)), ?_, rfl, step (fun j _ hj hsj => by have := huniq j (by omega) hsj; omega)⟩
            show cX8_isGone_3 N R I 111 (nI F) (nI day) (nI m) (nI t) = _
            unfold cX8_isGone_3
            simp (disch := first | assumption | omega) only [obs, qle, ↓lm1, l0, qn_add, pk_mul, n_le, n_lt, n_eq, n_sM, n_Ms, n_Mlt, n_Mle, n_ltM, n_leM, ↓reduceIte, eq_self, if_pos, if_neg, qx, p111_3, p111_4, p111_5, p111_6, p111_7, p111_8, p111_11, p111_12, p111_13, p111_14, p111_15, p111_16, p111_17, p111_18, p111_19, p111_21, p111_22, p111_23, p111_24, p111_27, p111_28, p111_29, p111_30, p111_31, p111_32, p111_34, r112, w112, r113, w113, r114, w114, r115, w115, r116, w116, r117, w117, r118, w118, r119, w119, r120, w120, r121, w121, r122, w122, r123, w123, r124, w124, r125, w125, r126, w126, r127, w127, r128, w128, r129, w129, r130, w130, r131, w131, r132, w132, r133, w133, r134, w134, r135, w135, r136, w136, r137, w137, l1, l2, l3, l5, l6, l7, l8, l10, l11, l12, l31, l36, l63, l100, l1000, l1440, l1000000, l16777216, h1, es, hr, z2, qn_sub]
        · have es := stopAt8_f (N := N) (R := R) hN hL w h4 ht (fun i hi hs => hex ⟨i, hi, hs⟩)
          refine ⟨.inl (nI (t + 1)), ?_, rfl, step (fun j _ hj hsj => absurd ⟨j, by omega, hsj⟩ hex)⟩
          show cX8_isGone_3 N R I 111 (nI F) (nI day) (nI m) (nI t) = _
          unfold cX8_isGone_3
          simp (disch := first | assumption | omega) only [obs, qle, ↓lm1, l0, qn_add, pk_mul, n_le, n_lt, n_eq, n_sM, n_Ms, n_Mlt, n_Mle, n_ltM, n_leM, ↓reduceIte, eq_self, if_pos, if_neg, qx, p111_3, p111_4, p111_5, p111_6, p111_7, p111_8, p111_11, p111_12, p111_13, p111_14, p111_15, p111_16, p111_17, p111_18, p111_19, p111_21, p111_22, p111_23, p111_24, p111_27, p111_28, p111_29, p111_30, p111_31, p111_32, p111_34, r112, w112, r113, w113, r114, w114, r115, w115, r116, w116, r117, w117, r118, w118, r119, w119, r120, w120, r121, w121, r122, w122, r123, w123, r124, w124, r125, w125, r126, w126, r127, w127, r128, w128, r129, w129, r130, w130, r131, w131, r132, w132, r133, w133, r134, w134, r135, w135, r136, w136, r137, w137, l1, l2, l3, l5, l6, l7, l8, l10, l11, l12, l31, l36, l63, l100, l1000, l1440, l1000000, l16777216, h1, es, hr]
      · rw [ind_f hb] at hr
        have es : ∃ v, fX8_stopAt N R I 111 (nI t) (nI F) = some v := by
          by_cases hex : ∃ i, i < NS t ∧ ST t i = F
          · obtain ⟨i, hi, hs⟩ := hex
            exact ⟨_, stopAt8_t (N := N) (R := R) hN hL w h4 ht hi hs⟩
          · exact ⟨_, stopAt8_f (N := N) (R := R) hN hL w h4 ht (fun i hi hs => hex ⟨i, hi, hs⟩)⟩
        obtain ⟨v, es⟩ := es
        refine ⟨.inl (nI (t + 1)), ?_, rfl, step (fun j q _ _ => absurd q.2 hb)⟩
        show cX8_isGone_3 N R I 111 (nI F) (nI day) (nI m) (nI t) = _
        unfold cX8_isGone_3
        simp (disch := first | assumption | omega) only [obs, qle, ↓lm1, l0, qn_add, pk_mul, n_le, n_lt, n_eq, n_sM, n_Ms, n_Mlt, n_Mle, n_ltM, n_leM, ↓reduceIte, eq_self, if_pos, if_neg, qx, p111_3, p111_4, p111_5, p111_6, p111_7, p111_8, p111_11, p111_12, p111_13, p111_14, p111_15, p111_16, p111_17, p111_18, p111_19, p111_21, p111_22, p111_23, p111_24, p111_27, p111_28, p111_29, p111_30, p111_31, p111_32, p111_34, r112, w112, r113, w113, r114, w114, r115, w115, r116, w116, r117, w117, r118, w118, r119, w119, r120, w120, r121, w121, r122, w122, r123, w123, r124, w124, r125, w125, r126, w126, r127, w127, r128, w128, r129, w129, r130, w130, r131, w131, r132, w132, r133, w133, r134, w134, r135, w135, r136, w136, r137, w137, l1, l2, l3, l5, l6, l7, l8, l10, l11, l12, l31, l36, l63, l100, l1000, l1440, l1000000, l16777216, h1, es, hr]
    · obtain ⟨rfl, g1⟩ := hq
      refine ⟨.inr (.inl ()), ?_, fun ⟨t, i, a1, a2, a3, a4⟩ => g1 t i a1.1 a1 a2 a3 a4⟩
      show cX8_isGone_3 N R I 111 (nI F) (nI day) (nI m) (nI n) = _
      unfold cX8_isGone_3
      simp (disch := first | assumption | omega) only [obs, qle, ↓lm1, l0, qn_add, pk_mul, n_le, n_lt, n_eq, n_sM, n_Ms, n_Mlt, n_Mle, n_ltM, n_leM, ↓reduceIte, eq_self, if_pos, if_neg, qx, p111_3, p111_4, p111_5, p111_6, p111_7, p111_8, p111_11, p111_12, p111_13, p111_14, p111_15, p111_16, p111_17, p111_18, p111_19, p111_21, p111_22, p111_23, p111_24, p111_27, p111_28, p111_29, p111_30, p111_31, p111_32, p111_34, r112, w112, r113, w113, r114, w114, r115, w115, r116, w116, r117, w117, r118, w118, r119, w119, r120, w120, r121, w121, r122, w122, r123, w123, r124, w124, r125, w125, r126, w126, r127, w127, r128, w128, r129, w129, r130, w130, r131, w131, r132, w132, r133, w133, r134, w134, r135, w135, r136, w136, r137, w137, l1, l2, l3, l5, l6, l7, l8, l10, l11, l12, l31, l36, l63, l100, l1000, l1440, l1000000, l16777216, h1]
  obtain ⟨o, eo, ho⟩ := key
  unfold fX8_isGone
  rw [l0, eo, obs]
  cases o with
  | inl x => rw [ind_f ho]; rfl
  | inr v =>
    obtain ⟨h6, rfl⟩ := ho
    rw [ind_t h6]
    rfl
theorem findDep8_ok {I : qI} {fc : Nat} {fd : Nat → Nat} (hN : 300000 ≤ N) (hL : LR R) (w : wb n NS ST CT GT (rD n day D) W F) (hF : FR I n NS ST CT GT D W day) (hT : T < 12) (hfc : fc ≤ 10) (hlt : ∀ k, k < fc → fd k < 1440) (hde : ∀ i j, i < j → j < fc → fd j < fd i) (hgd : ∀ k, k < fc → Gd n NS ST CT GT D W F day T (fd k)) (hall : ∀ m, Gd n NS ST CT GT D W F day T m → ∃ k, k < fc ∧ fd k = m) : ok (fX8_findDepartures N R I 111 (nI F) (nI T) (nI day)) (fun J => J 111 33 = nI fc ∧ (∀ k, k < fc → J 137 k = nI (fd (fc - 1 - k))) ∧ (∀ a, a ≠ 111 → a ≠ 129 → a ≠ 137 → J a = I a) ∧ ∀ j, j ≠ 33 → J 111 j = I 111 j) := by
  unfold fX8_findDepartures
  rw [l0]
  refine ok_let (ok_bind (ok_mono (P := fun J => J 111 33 = nI fc ∧ (∀ k, k < fc → J 137 k = nI (fd (fc - 1 - k))) ∧ (∀ a, a ≠ 111 → a ≠ 129 → a ≠ 137 → J a = I a) ∧ ∀ j, j ≠ 33 → J 111 j = I 111 j) ?_ (fun r hr => ok_some hr)))
  refine ok_for (fun m q => ∃ (J : qI) (e : Nat), q = (nI m, J) ∧ e ≤ fc ∧ J 111 33 = nI e ∧ (∀ k, k < e → J 137 k = nI (fd (fc - 1 - k)) ∧ fd (fc - 1 - k) < m) ∧ (∀ k, e ≤ k → k < fc → m ≤ fd (fc - 1 - k)) ∧ (∀ a, a ≠ 111 → a ≠ 129 → a ≠ 137 → J a = I a) ∧ ∀ j, j ≠ 33 → J 111 j = I 111 j) 1440 (by omega) ⟨_, 0, rfl, by omega, qup_on, fun k hk => by omega, fun k _ _ => Nat.zero_le _, fun a h1 _ _ => qup_ne _ _ _ h1, fun j hj => qup_off (Or.inr hj)⟩ (fun m q hm hq => ?_) (fun q hq => ?_)
  · obtain ⟨J, e, rfl, g0, g1, g2, g3, g4, g5⟩ := hq
    have hFJ : FR J n NS ST CT GT D W day := hF.congr (fun a ha => g4 a (by omega) (by omega) (by omega)) (g5 1 (by omega)) (g5 2 (by omega))
    have hsl := sv_le (T := T) w m
    have hsl2 := sv_le (T := T) w (m + 1)
    -- not taken
    have skip : ∀ K : qI, ¬ GdR n NS ST CT GT D W F day T m → K 137 = J 137 → K 111 = J 111 → (∀ a, a ≠ 111 → a ≠ 129 → a ≠ 137 → K a = J a) → ∃ (J : qI) (e : Nat), (nI (m + 1), K) = (nI (m + 1), J) ∧ e ≤ fc ∧ J 111 33 = nI e ∧ (∀ k, k < e → J 137 k = nI (fd (fc - 1 - k)) ∧ fd (fc - 1 - k) < m + 1) ∧ (∀ k, e ≤ k → k < fc → m + 1 ≤ fd (fc - 1 - k)) ∧ (∀ a, a ≠ 111 → a ≠ 129 → a ≠ 137 → J a = I a) ∧ ∀ j, j ≠ 33 → J 111 j = I 111 j := by
      intro K hno h1 h2 h3
      refine ⟨K, e, rfl, g0, by rw [h2]; exact g1, fun k hk => by rw [h1]; exact ⟨(g2 k hk).1, by have := (g2 k hk).2; omega⟩, fun k a1 a2 => ?_, fun a b1 b2 b3 => (h3 a b1 b2 b3).trans (g4 a b1 b2 b3), fun j hj => by rw [h2]; exact g5 j hj⟩
      have h4 := g3 k a1 a2
      by_cases em : fd (fc - 1 - k) = m
      · have := hgd (fc - 1 - k) (by omega)
        rw [em, gd_iff w hm] at this
        exact absurd this hno
      · omega
    have take : ∀ K : qI, GdR n NS ST CT GT D W F day T m → K 137 = J 137 → K 111 = J 111 → (∀ a, a ≠ 111 → a ≠ 129 → a ≠ 137 → K a = J a) → ok ((R.1 111 34).bind fun r8 => (qwr K R r8 (K 111 33) (nI m)).bind fun I9 => qlet (qup I9 111 33 ((I9 111 33) + nI 1)) fun I10 => some (Sum.inl (nI (m + 1), I10) : (Int32 × qI) ⊕ qI)) (fun x => ∃ K2 : qI, x = .inl (nI (m + 1), K2) ∧ ∃ (J : qI) (e : Nat), (nI (m + 1), K2) = (nI (m + 1), J) ∧ e ≤ fc ∧ J 111 33 = nI e ∧ (∀ k, k < e → J 137 k = nI (fd (fc - 1 - k)) ∧ fd (fc - 1 - k) < m + 1) ∧ (∀ k, e ≤ k → k < fc → m + 1 ≤ fd (fc - 1 - k)) ∧ (∀ a, a ≠ 111 → a ≠ 129 → a ≠ 137 → J a = I a) ∧ ∀ j, j ≠ 33 → J 111 j = I 111 j) := by
      intro K hyes h1 h2 h3
      obtain ⟨k, q1, q2⟩ := hall m ((gd_iff w hm).mpr hyes)
      -- it is the next one
      have hke : fc - 1 - k = e := by
        have a1 : e ≤ fc - 1 - k := by
          apply Classical.byContradiction
          intro q
          have := (g2 (fc - 1 - k) (by omega)).2
          rw [show fc - 1 - (fc - 1 - k) = k by omega] at this
          omega
        apply Classical.byContradiction
        intro q
        have := g3 e (Nat.le_refl _) (by omega)
        have := hde k (fc - 1 - e) (by omega) (by omega)
        omega
      have hfe : fd (fc - 1 - e) = m := by rw [show fc - 1 - e = k by omega]; exact q2
      have e33 : K 111 33 = nI e := by rw [h2]; exact g1
      refine ok_bindv (p111_34 hL) ?_
      rw [e33]
      refine ok_bindv (w137 hL (by omega)) (ok_let ?_)
      rw [qup_off (by omega), e33, qn_add]
      refine ok_some ⟨_, rfl, _, e + 1, rfl, by omega, qup_on, fun k2 hk2 => ?_, fun k2 a1 a2 => ?_, fun a b1 b2 b3 => by rw [qup_ne _ _ _ b1, qup_ne _ _ _ b3]; exact (h3 a b1 b2 b3).trans (g4 a b1 b2 b3), fun j hj => by rw [qup_off (by omega), qup_off (by omega), h2]; exact g5 j hj⟩
      · rw [qup_off (by omega)]
        by_cases em : k2 = e
        · subst em
          rw [qup_on, hfe]
          exact ⟨rfl, by omega⟩
        · rw [qup_off (by omega), h1]
          have := g2 k2 (by omega)
          exact ⟨this.1, by omega⟩
      · have := hde (fc - 1 - k2) (fc - 1 - e) (by omega) (by omega)
        omega
    have ig := isGone_ok (N := N) (R := R) hN hL w hFJ hm
    show ok (cX8_findDepartures_8 N R 111 (nI F) (nI T) (nI day) (nI m) J) _
    unfold cX8_findDepartures_8
    rw [lm1, l0, l1, l1440, if_neg (show ¬ nI 1440 ≤ nI m by rw [n_le (by omega) (by omega)]; omega)]
    refine ok_bindv ig ?_
    by_cases hdp : DpN n NS ST GT D F day m
    · rw [ind_t hdp, if_neg (show ¬ nI 1 = nI 0 by decide)]
      refine ok_bind (ok_mono (soonest8_ok (N := N) (R := R) hN hL w hFJ (show m ≤ 1440 by omega) hT) (fun y hy => ?_))
      obtain ⟨y1, K⟩ := y
      obtain ⟨k1, k2⟩ := hy
      simp only at k1 k2 ⊢
      rw [qn_add]
      have hFK : FR K n NS ST CT GT D W day := hFJ.congr (fun a ha => k2 a (by omega)) (by rw [k2 111 (by omega)]) (by rw [k2 111 (by omega)])
      by_cases hlast : 1440 ≤ m + 1
      · rw [if_pos (show nI 1440 ≤ nI (m + 1) by rw [n_le (by omega) (by omega)]; exact hlast)]
        rcases k1 with ⟨q1, q2⟩ | ⟨v, q1, q2⟩
        · rw [q2, if_pos rfl]
          refine ok_some (skip K (fun q => ?_) (k2 137 (by omega)) (k2 111 (by omega)) (fun a b1 b2 b3 => k2 a b2))
          have := q.2.1
          rw [sv_no q1] at this
          omega
        · have hv := sn_lt w q1
          rw [q2, if_neg (show ¬ nI v = nM by rw [n_sM (by omega)]; exact fun q => q)]
          refine ok_mono (take K ⟨hdp, by rw [sv_sn q1]; omega, fun h => by omega⟩ (k2 137 (by omega)) (k2 111 (by omega)) (fun a b1 b2 b3 => k2 a b2)) (fun r hr => ?_)
          obtain ⟨K2, rfl, hr⟩ := hr
          exact hr
      · rw [if_neg (show ¬ nI 1440 ≤ nI (m + 1) by rw [n_le (by omega) (by omega)]; exact hlast)]
        refine ok_bind (ok_mono (soonest8_ok (N := N) (R := R) hN hL w hFK (show m + 1 ≤ 1440 by omega) hT) (fun y hy => ?_))
        obtain ⟨y2, L⟩ := y
        obtain ⟨j1, j2⟩ := hy
        simp only at j1 j2 ⊢
        have l137 : L 137 = J 137 := by rw [j2 137 (by omega), k2 137 (by omega)]
        have l111 : L 111 = J 111 := by rw [j2 111 (by omega), k2 111 (by omega)]
        have lfr : ∀ a, a ≠ 111 → a ≠ 129 → a ≠ 137 → L a = J a := fun a b1 b2 b3 => by rw [j2 a b2, k2 a b2]
        rcases k1 with ⟨q1, q2⟩ | ⟨v, q1, q2⟩
        · rw [q2, if_pos rfl]
          refine ok_some (skip L (fun q => ?_) l137 l111 lfr)
          have := q.2.1
          rw [sv_no q1] at this
          omega
        · have hv := sn_lt w q1
          rw [q2, if_neg (show ¬ nI v = nM by rw [n_sM (by omega)]; exact fun q => q)]
          rcases j1 with ⟨r1, r2⟩ | ⟨v2, r1, r2⟩
          · rw [r2, if_pos rfl]
            refine ok_mono (take L ⟨hdp, by rw [sv_sn q1]; omega, fun h => by rw [sv_sn q1, sv_no r1]; omega⟩ l137 l111 lfr) (fun r hr => ?_)
            obtain ⟨K2, rfl, hr⟩ := hr
            exact hr
          · have hv2 := sn_lt w r1
            rw [r2, if_neg (show ¬ nI v2 = nM by rw [n_sM (by omega)]; exact fun q => q)]
            by_cases hvv : v < v2
            · rw [if_pos (show nI v < nI v2 by rw [n_lt (by omega) (by omega)]; exact hvv)]
              refine ok_mono (take L ⟨hdp, by rw [sv_sn q1]; omega, fun h => by rw [sv_sn q1, sv_sn r1]; exact hvv⟩ l137 l111 lfr) (fun r hr => ?_)
              obtain ⟨K2, rfl, hr⟩ := hr
              exact hr
            · rw [if_neg (show ¬ nI v < nI v2 by rw [n_lt (by omega) (by omega)]; exact hvv)]
              refine ok_some (skip L (fun q => ?_) l137 l111 lfr)
              have := q.2.2 (by omega)
              rw [sv_sn q1, sv_sn r1] at this
              exact hvv this
    · rw [ind_f hdp, if_pos rfl, qn_add]
      exact ok_some (skip J (fun q => hdp q.1) rfl rfl (fun _ _ _ _ => rfl))
  · obtain ⟨J, e, rfl, g0, g1, g2, g3, g4, g5⟩ := hq
    have he : e = fc := by
      apply Classical.byContradiction
      intro q
      have := g3 e (Nat.le_refl _) (by omega)
      have := hlt (fc - 1 - e) (by omega)
      omega
    subst he
    refine ⟨.inr J, ?_, g1, fun k hk => (g2 k hk).1, g4, g5⟩
    show cX8_findDepartures_8 N R 111 (nI F) (nI T) (nI day) (nI 1440) J = _
    unfold cX8_findDepartures_8
    rw [if_pos (show (1440 : Int32) ≤ nI 1440 by decide)]
end DEP2
