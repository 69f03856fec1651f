/-! THE REFERENCE'S SOONEST ARRIVAL, all of it -/
section SOON8
variable {n : Nat} {NS : Nat → Nat} {ST CT GT : Nat → Nat → Nat} {D : Nat → Nat} {W F day M N : Nat} {R : qR}
theorem round8_ok {I : qI} {v2 : Int32} (hN : 300000 ≤ N) (hL : LR R) (w : wb n NS ST CT GT (rD n day D) W F) (hF : FR I n NS ST CT GT D W day) (hM : M ≤ 1440) (hZ : Z1 129 70 I) (hS : Sd n NS ST CT GT D W F day M I) : ok (qloop (fun s => cX8_soonest_38 N R 111 (nI F) v2 (nI day) (nI M) s.1 s.2.1 s.2.2) N (nI 0, nI 0, I)) (fun y => Z1 129 70 y.2 ∧ Sd n NS ST CT GT D W F day M y.2 ∧ (∀ a, a ≠ 129 → y.2 a = I a) ∧ (y.1 = nI 0 ∧ y.2 129 = I 129 ∧ (∀ t, rD n day D t → Cl n NS ST CT GT D W F day M I t) ∨ y.1 = nI 1 ∧ mu8 y.2 < mu8 I)) := by
  have hn10 := w.1
  refine ok_for (fun k q => ∃ (mo : Nat) (J : qI), q = (nI mo, nI k, J) ∧ mo ≤ 1 ∧ Z1 129 70 J ∧ Sd n NS ST CT GT D W F day M J ∧ (∀ a, a ≠ 129 → J a = I a) ∧ (mo = 0 ∧ J 129 = I 129 ∧ (∀ t, t < k → rD n day D t → Cl n NS ST CT GT D W F day M I t) ∨ mo = 1 ∧ mu8 J < mu8 I)) n (by omega) ⟨0, I, rfl, by omega, hZ, hS, fun _ _ => rfl, Or.inl ⟨rfl, rfl, fun t h => by omega⟩⟩ (fun k q hk hq => ?_) (fun q hq => ?_)
  · obtain ⟨mo, J, rfl, g0, g1, g2, g3, g4⟩ := hq
    have hFJ : FR J n NS ST CT GT D W day := hF.congr (fun a ha => g3 a (by omega)) (by rw [g3 111 (by omega)]) (by rw [g3 111 (by omega)])
    show ok (cX8_soonest_38 N R 111 (nI F) v2 (nI day) (nI M) (nI mo) (nI k) J) _
    unfold cX8_soonest_38
    rw [hFJ.1, if_neg (show ¬ nI n ≤ nI k by rw [n_le (by omega) (by omega)]; omega), l0]
    refine ok_bind (ok_mono (train8_ok (N := N) (m0 := mo) hN hL w hFJ hM g1 g2 hk g0) (fun y hy => ?_))
    obtain ⟨y1, K⟩ := y
    obtain ⟨k1, k2, k3, k4⟩ := hy
    simp only at k1 k2 k3 k4 ⊢
    rw [nI_1]
    have hfr : ∀ a, a ≠ 129 → K a = I a := fun a ha => (k3 a ha).trans (g3 a ha)
    rcases k4 with ⟨q1, q2, q3⟩ | ⟨q1, q2⟩
    · subst q1
      refine ok_some ⟨mo, K, rfl, g0, k1, k2, hfr, ?_⟩
      rcases g4 with ⟨r1, r2, r3⟩ | ⟨r1, r2⟩
      · refine Or.inl ⟨r1, q2.trans r2, fun t ht hrt => ?_⟩
        by_cases e : t = k
        · subst e
          have h := q3 hrt
          intro i j h1 h2 h3
          rw [← r2]
          exact h i j h1 h2 (BR8_eq r2 h3)
        · exact r3 t (by omega) hrt
      · exact Or.inr ⟨r1, by rw [mu8_eq q2]; exact r2⟩
    · subst q1
      refine ok_some ⟨1, K, rfl, by omega, k1, k2, hfr, Or.inr ⟨rfl, ?_⟩⟩
      rcases g4 with ⟨r1, r2, r3⟩ | ⟨r1, r2⟩
      · rw [mu8_eq r2] at q2; exact q2
      · omega
  · obtain ⟨mo, J, rfl, g0, g1, g2, g3, g4⟩ := hq
    have e1 : J 111 1 = nI n := by rw [g3 111 (by omega)]; exact hF.1
    refine ⟨.inr (nI mo, J), ?_, g1, g2, g3, ?_⟩
    · show cX8_soonest_38 N R 111 (nI F) v2 (nI day) (nI M) (nI mo) (nI n) J = _
      unfold cX8_soonest_38
      simp (disch := first | assumption | omega) only [obs, qle, ↓lm1, l0, qn_add, pk_mul, n_le, n_lt, n_eq, n_sM, n_Ms, n_Mlt, n_Mle, n_ltM, n_leM, ↓reduceIte, eq_self, if_pos, if_neg, qx, p111_3, p111_4, p111_5, p111_6, p111_7, p111_8, p111_11, p111_12, p111_13, p111_14, p111_15, p111_16, p111_17, p111_18, p111_19, p111_21, p111_22, p111_23, p111_24, p111_27, p111_28, p111_29, p111_30, p111_31, p111_32, p111_34, r112, w112, r113, w113, r114, w114, r115, w115, r116, w116, r117, w117, r118, w118, r119, w119, r120, w120, r121, w121, r122, w122, r123, w123, r124, w124, r125, w125, r126, w126, r127, w127, r128, w128, r129, w129, r130, w130, r131, w131, r132, w132, r133, w133, r134, w134, r135, w135, r136, w136, r137, w137, l1, l2, l3, l5, l6, l7, l8, l10, l11, l12, l31, l36, l63, l100, l1000, l1440, l1000000, l16777216, e1]
    · rcases g4 with ⟨r1, r2, r3⟩ | ⟨r1, r2⟩
      · exact Or.inl ⟨by rw [r1], r2, fun t ht => r3 t ht.1 ht⟩
      · exact Or.inr ⟨by rw [r1], r2⟩
theorem Cl_all {I : qI} (h : ∀ t, rD n day D t → Cl n NS ST CT GT D W F day M I t) : ∀ k t j, rc NS ST CT GT (rD n day D) W F M k t j → I 129 (7 * t + j) = nI 1 := by
  intro k
  induction k with
  | zero => intro t j h; exact h.elim
  | succ k ih =>
    intro t j ⟨h1, h2, i, h3, h4⟩
    refine h t h1 i j h3 h2 ?_
    rcases h4 with h4 | ⟨u, j2, h5, h6, h7⟩
    · exact Or.inl h4
    · have hr := (RC_iff NS ST CT GT (rD n day D) W F).mp ⟨k, h5⟩
      obtain ⟨r1, r2, i2, r3, _⟩ := hr
      exact Or.inr ⟨u, j2, r1, by omega, r2, ih u j2 h5, h6, h7⟩
theorem soonest8_ok {I : qI} {T : Nat} (hN : 300000 ≤ N) (hL : LR R) (w : wb n NS ST CT GT (rD n day D) W F) (hF : FR I n NS ST CT GT D W day) (hM : M ≤ 1440) (hT : T < 12) : ok (fX8_soonest N R I 111 (nI F) (nI T) (nI day) (nI M)) (fun y => ((SNo NS ST CT GT (rD n day D) W F M T ∧ y.1 = nM) ∨ ∃ v, SN NS ST CT GT (rD n day D) W F M T v ∧ y.1 = nI v) ∧ ∀ a, a ≠ 129 → y.2 a = I a) := by
  have hn10 := w.1
  have l70 : (70 : Int32) = nI 70 := by decide
  unfold fX8_soonest
  refine ok_bind (ok_mono (P := fun J => (∀ x, x < 70 → J 129 x = nI 0) ∧ ∀ a, a ≠ 129 → J a = I a) ?_ (fun J0 hJ0 => ?_))
  · refine ok_for (fun k q => ∃ J, q = (nI k, J) ∧ (∀ x, x < k → J 129 x = nI 0) ∧ ∀ a, a ≠ 129 → J a = I a) 70 (by omega) ⟨I, by rw [l0], fun x hx => by omega, fun _ _ => rfl⟩ (fun k q hk hq => ?_) (fun q hq => ?_)
    · obtain ⟨J, rfl, g1, g2⟩ := hq
      have hnar : vp_nar .boolean (nI 0) = nI 0 := nar0
      refine ⟨.inl (nI (k + 1), qup J 129 k (nI 0)), ?_, _, rfl, fun x hx => ?_, fun a ha => by rw [qup_ne _ _ _ ha]; exact g2 a ha⟩
      · show cX8_soonest_3 N R 111 (nI F) (nI T) (nI day) (nI M) (nI k) J = _
        unfold cX8_soonest_3
        simp (disch := first | assumption | omega) only [obs, qle, ↓lm1, l0, qn_add, pk_mul, n_le, n_lt, n_eq, n_sM, n_Ms, n_Mlt, n_Mle, n_ltM, n_leM, ↓reduceIte, eq_self, if_pos, if_neg, qx, p111_3, p111_4, p111_5, p111_6, p111_7, p111_8, p111_11, p111_12, p111_13, p111_14, p111_15, p111_16, p111_17, p111_18, p111_19, p111_21, p111_22, p111_23, p111_24, p111_27, p111_28, p111_29, p111_30, p111_31, p111_32, p111_34, r112, w112, r113, w113, r114, w114, r115, w115, r116, w116, r117, w117, r118, w118, r119, w119, r120, w120, r121, w121, r122, w122, r123, w123, r124, w124, r125, w125, r126, w126, r127, w127, r128, w128, r129, w129, r130, w130, r131, w131, r132, w132, r133, w133, r134, w134, r135, w135, r136, w136, r137, w137, l1, l2, l3, l5, l6, l7, l8, l10, l11, l12, l31, l36, l63, l100, l1000, l1440, l1000000, l16777216, l70, hnar]
      · by_cases e : x = k
        · subst e; exact qup_on
        · rw [qup_off (by omega)]; exact g1 x (by omega)
    · obtain ⟨J, rfl, g1, g2⟩ := hq
      refine ⟨.inr J, ?_, g1, g2⟩
      show cX8_soonest_3 N R 111 (nI F) (nI T) (nI day) (nI M) (nI 70) J = _
      unfold cX8_soonest_3
      simp (disch := first | assumption | omega) only [obs, qle, ↓lm1, l0, qn_add, pk_mul, n_le, n_lt, n_eq, n_sM, n_Ms, n_Mlt, n_Mle, n_ltM, n_leM, ↓reduceIte, eq_self, if_pos, if_neg, qx, p111_3, p111_4, p111_5, p111_6, p111_7, p111_8, p111_11, p111_12, p111_13, p111_14, p111_15, p111_16, p111_17, p111_18, p111_19, p111_21, p111_22, p111_23, p111_24, p111_27, p111_28, p111_29, p111_30, p111_31, p111_32, p111_34, r112, w112, r113, w113, r114, w114, r115, w115, r116, w116, r117, w117, r118, w118, r119, w119, r120, w120, r121, w121, r122, w122, r123, w123, r124, w124, r125, w125, r126, w126, r127, w127, r128, w128, r129, w129, r130, w130, r131, w131, r132, w132, r133, w133, r134, w134, r135, w135, r136, w136, r137, w137, l1, l2, l3, l5, l6, l7, l8, l10, l11, l12, l31, l36, l63, l100, l1000, l1440, l1000000, l16777216, l70]
  obtain ⟨j1, j2⟩ := hJ0
  have hZ0 : Z1 129 70 J0 := fun x hx => Or.inl (j1 x hx)
  have hS0 : Sd n NS ST CT GT D W F day M J0 := fun t j ht hj hm => by
    have := (hF.2.2.2.1 t (by omega)).1
    rw [j1 _ (by omega)] at hm
    exact absurd hm (by decide)
  refine ok_bind (ok_mono (P := fun J => Z1 129 70 J ∧ Sd n NS ST CT GT D W F day M J ∧ (∀ a, a ≠ 129 → J a = I a) ∧ ∀ t, rD n day D t → Cl n NS ST CT GT D W F day M J t) ?_ (fun J hJ => ?_))
  · refine ok_loop (fun q => ∃ (mo : Nat) (J : qI), q = (nI mo, J) ∧ mo ≤ 1 ∧ Z1 129 70 J ∧ Sd n NS ST CT GT D W F day M J ∧ (∀ a, a ≠ 129 → J a = I a) ∧ (mo = 0 → ∀ t, rD n day D t → Cl n NS ST CT GT D W F day M J t)) (fun q => 2 * mu8 q.2 + q.1.toInt.toNat) ⟨1, J0, by rw [l1], by omega, hZ0, hS0, j2, fun h => by omega⟩ ?_ (fun q hq => ?_)
    · have := mu8_le J0
      show 2 * mu8 J0 + (1 : Int32).toInt.toNat < N
      rw [show (1 : Int32).toInt.toNat = 1 from by decide]
      omega
    · obtain ⟨mo, J, rfl, g0, g1, g2, g3, g4⟩ := hq
      show ok (cX8_soonest_27 N R 111 (nI F) (nI T) (nI day) (nI M) (nI mo) J) _
      unfold cX8_soonest_27
      by_cases h0 : mo = 0
      · subst h0
        rw [if_pos (show nI 0 = 0 by decide)]
        exact ok_some ⟨g1, g2, g3, g4 rfl⟩
      · obtain rfl : mo = 1 := by omega
        have hFJ : FR J n NS ST CT GT D W day := hF.congr (fun a ha => g3 a (by omega)) (by rw [g3 111 (by omega)]) (by rw [g3 111 (by omega)])
        rw [if_neg (show ¬ nI 1 = 0 by decide), l0]
        refine ok_bind (ok_mono (round8_ok (N := N) hN hL w hFJ hM g1 g2) (fun y hy => ?_))
        obtain ⟨y1, K⟩ := y
        obtain ⟨k1, k2, k3, k4⟩ := hy
        simp only at k1 k2 k3 k4 ⊢
        have hfr : ∀ a, a ≠ 129 → K a = I a := fun a ha => (k3 a ha).trans (g3 a ha)
        have t1 : (nI 1).toInt.toNat = 1 := by decide
        have t0 : (nI 0).toInt.toNat = 0 := by decide
        rcases k4 with ⟨q1, q2, q3⟩ | ⟨q1, q2⟩
        · subst q1
          refine ok_some ⟨⟨0, K, rfl, by omega, k1, k2, hfr, fun _ t ht i j h1 h2 h3 => ?_⟩, ?_⟩
          · rw [q2]
            exact q3 t ht i j h1 h2 (BR8_eq q2.symm h3)
          · show 2 * mu8 K + (nI 0).toInt.toNat < 2 * mu8 J + (nI 1).toInt.toNat
            rw [t0, t1, mu8_eq q2]
            omega
        · subst q1
          refine ok_some ⟨⟨1, K, rfl, by omega, k1, k2, hfr, fun h => by omega⟩, ?_⟩
          show 2 * mu8 K + (nI 1).toInt.toNat < 2 * mu8 J + (nI 1).toInt.toNat
          omega
  obtain ⟨g1, g2, g3, g4⟩ := hJ
  have hFJ : FR J n NS ST CT GT D W day := hF.congr (fun a ha => g3 a (by omega)) (by rw [g3 111 (by omega)]) (by rw [g3 111 (by omega)])
  obtain ⟨h1, h2, h3, h4, h5⟩ := id hFJ
  have hcomp : ∀ t j, RC NS ST CT GT (rD n day D) W F M t j → J 129 (7 * t + j) = nI 1 := fun t j ⟨k, hk⟩ => Cl_all g4 k t j hk
  refine ok_bind (ok_mono (P := fun v6 => (v6 = nM ∧ ∀ t j, t < n → 1 ≤ j → j < NS t → J 129 (7 * t + j) = nI 1 → ST t j ≠ T) ∨ ∃ v, v6 = nI v ∧ (∃ t j, t < n ∧ j < NS t ∧ J 129 (7 * t + j) = nI 1 ∧ ST t j = T ∧ CT t j = v) ∧ ∀ t j, t < n → 1 ≤ j → j < NS t → J 129 (7 * t + j) = nI 1 → ST t j = T → v ≤ CT t j) ?_ (fun v6 hv6 => ?_))
  · rw [lm1, l0]
    refine ok_for (fun k q => ∃ v6, q = (v6, nI k) ∧ ((v6 = nM ∧ ∀ t j, t < k → 1 ≤ j → j < NS t → J 129 (7 * t + j) = nI 1 → ST t j ≠ T) ∨ ∃ v, v6 = nI v ∧ (∃ t j, t < n ∧ j < NS t ∧ J 129 (7 * t + j) = nI 1 ∧ ST t j = T ∧ CT t j = v) ∧ ∀ t j, t < k → 1 ≤ j → j < NS t → J 129 (7 * t + j) = nI 1 → ST t j = T → v ≤ CT t j)) n (by omega) ⟨nM, rfl, Or.inl ⟨rfl, fun t j h => by omega⟩⟩ (fun t q ht hq => ?_) (fun q hq => ?_)
    · obtain ⟨v6, rfl, f1⟩ := hq
      obtain ⟨z1, z2, z3, z4, z5, z6⟩ := h4 t (by omega)
      show ok (cX8_soonest_157 N R J 111 (nI T) v6 (nI t)) _
      unfold cX8_soonest_157
      rw [h1, if_neg (show ¬ nI n ≤ nI t by rw [n_le (by omega) (by omega)]; omega), l1]
      refine ok_bind (ok_mono (P := fun v6 => (v6 = nM ∧ ∀ u j, u < t + 1 → 1 ≤ j → j < NS u → J 129 (7 * u + j) = nI 1 → ST u j ≠ T) ∨ ∃ v, v6 = nI v ∧ (∃ t j, t < n ∧ j < NS t ∧ J 129 (7 * t + j) = nI 1 ∧ ST t j = T ∧ CT t j = v) ∧ ∀ u j, u < t + 1 → 1 ≤ j → j < NS u → J 129 (7 * u + j) = nI 1 → ST u j = T → v ≤ CT u j) ?_ (fun r hr => ok_some ⟨r, by rw [qn_add], hr⟩))
      refine ok_for (fun k q => ∃ v6, q = (v6, nI (k + 1)) ∧ ((v6 = nM ∧ ∀ u j, (u < t ∨ u = t ∧ j < k + 1) → 1 ≤ j → j < NS u → J 129 (7 * u + j) = nI 1 → ST u j ≠ T) ∨ ∃ v, v6 = nI v ∧ (∃ t j, t < n ∧ j < NS t ∧ J 129 (7 * t + j) = nI 1 ∧ ST t j = T ∧ CT t j = v) ∧ ∀ u j, (u < t ∨ u = t ∧ j < k + 1) → 1 ≤ j → j < NS u → J 129 (7 * u + j) = nI 1 → ST u j = T → v ≤ CT u j)) (NS t - 1) (by omega) ⟨v6, rfl, ?_⟩ (fun k q hk hq => ?_) (fun q hq => ?_)
      · rcases f1 with ⟨q1, q2⟩ | ⟨v, q1, q2, q3⟩
        · exact Or.inl ⟨q1, fun u j hu hj => q2 u j (by omega) hj⟩
        · exact Or.inr ⟨v, q1, q2, fun u j hu hj => q3 u j (by omega) hj⟩
      · obtain ⟨v6, rfl, e1⟩ := hq
        obtain ⟨a1, a2, a3, a4, a5, a6⟩ := z4 (k + 1) (by omega)
        have s12 := a1.2.2
        -- skipped
        have skip : ¬ (J 129 (7 * t + (k + 1)) = nI 1 ∧ ST t (k + 1) = T) → ((v6 = nM ∧ ∀ u j, (u < t ∨ u = t ∧ j < k + 1 + 1) → 1 ≤ j → j < NS u → J 129 (7 * u + j) = nI 1 → ST u j ≠ T) ∨ ∃ v, v6 = nI v ∧ (∃ t j, t < n ∧ j < NS t ∧ J 129 (7 * t + j) = nI 1 ∧ ST t j = T ∧ CT t j = v) ∧ ∀ u j, (u < t ∨ u = t ∧ j < k + 1 + 1) → 1 ≤ j → j < NS u → J 129 (7 * u + j) = nI 1 → ST u j = T → v ≤ CT u j) := by
          intro hs
          rcases e1 with ⟨q1, q2⟩ | ⟨v, q1, q2, q3⟩
          · refine Or.inl ⟨q1, fun u j hu hj hj2 hm hst => ?_⟩
            by_cases e : u = t ∧ j = k + 1
            · exact hs (by rw [← e.1, ← e.2]; exact ⟨hm, hst⟩)
            · exact q2 u j (by omega) hj hj2 hm hst
          · refine Or.inr ⟨v, q1, q2, fun u j hu hj hj2 hm hst => ?_⟩
            by_cases e : u = t ∧ j = k + 1
            · exact absurd (by rw [← e.1, ← e.2]; exact ⟨hm, hst⟩) hs
            · exact q3 u j (by omega) hj hj2 hm hst
        rcases g1 (7 * t + (k + 1)) (by omega) with hz | hz
        · refine ⟨.inl (v6, nI (k + 1 + 1)), ?_, v6, rfl, skip (fun q => by rw [hz] at q; exact absurd q.1 (by decide))⟩
          show cX8_soonest_169 N R J 111 (nI T) (nI t) v6 (nI (k + 1)) = _
          unfold cX8_soonest_169
          simp (disch := first | assumption | omega) only [obs, qle, ↓lm1, l0, qn_add, pk_mul, n_le, n_lt, n_eq, n_sM, n_Ms, n_Mlt, n_Mle, n_ltM, n_leM, ↓reduceIte, eq_self, if_pos, if_neg, qx, p111_3, p111_4, p111_5, p111_6, p111_7, p111_8, p111_11, p111_12, p111_13, p111_14, p111_15, p111_16, p111_17, p111_18, p111_19, p111_21, p111_22, p111_23, p111_24, p111_27, p111_28, p111_29, p111_30, p111_31, p111_32, p111_34, r112, w112, r113, w113, r114, w114, r115, w115, r116, w116, r117, w117, r118, w118, r119, w119, r120, w120, r121, w121, r122, w122, r123, w123, r124, w124, r125, w125, r126, w126, r127, w127, r128, w128, r129, w129, r130, w130, r131, w131, r132, w132, r133, w133, r134, w134, r135, w135, r136, w136, r137, w137, l1, l2, l3, l5, l6, l7, l8, l10, l11, l12, l31, l36, l63, l100, l1000, l1440, l1000000, l16777216, z2, hz]
        · by_cases hst : ST t (k + 1) = T
          · rcases e1 with ⟨q1, q2⟩ | ⟨v, q1, q2, q3⟩
            · subst q1
              refine ⟨.inl (nI (CT t (k + 1)), nI (k + 1 + 1)), ?_, _, rfl, Or.inr ⟨_, rfl, ⟨t, k + 1, ht, by omega, hz, hst, rfl⟩, fun u j hu hj hj2 hm hst2 => ?_⟩⟩
              · show cX8_soonest_169 N R J 111 (nI T) (nI t) nM (nI (k + 1)) = _
                unfold cX8_soonest_169
                simp (disch := first | assumption | omega) only [obs, qle, ↓lm1, l0, qn_add, pk_mul, n_le, n_lt, n_eq, n_sM, n_Ms, n_Mlt, n_Mle, n_ltM, n_leM, ↓reduceIte, eq_self, if_pos, if_neg, qx, p111_3, p111_4, p111_5, p111_6, p111_7, p111_8, p111_11, p111_12, p111_13, p111_14, p111_15, p111_16, p111_17, p111_18, p111_19, p111_21, p111_22, p111_23, p111_24, p111_27, p111_28, p111_29, p111_30, p111_31, p111_32, p111_34, r112, w112, r113, w113, r114, w114, r115, w115, r116, w116, r117, w117, r118, w118, r119, w119, r120, w120, r121, w121, r122, w122, r123, w123, r124, w124, r125, w125, r126, w126, r127, w127, r128, w128, r129, w129, r130, w130, r131, w131, r132, w132, r133, w133, r134, w134, r135, w135, r136, w136, r137, w137, l1, l2, l3, l5, l6, l7, l8, l10, l11, l12, l31, l36, l63, l100, l1000, l1440, l1000000, l16777216, z2, hz, a1.1, a2.1]
              · by_cases e : u = t ∧ j = k + 1
                · rw [e.1, e.2]; exact Nat.le_refl _
                · exact absurd hst2 (q2 u j (by omega) hj hj2 hm)
            · subst q1
              obtain ⟨t9, j9, b1, b2, b3, b4, b5⟩ := id q2
              have hv : v < 1440 := by
                have := ((h4 t9 (by omega)).2.2.2.1 j9 b2)
                omega
              by_cases hle : v ≤ CT t (k + 1)
              · refine ⟨.inl (nI v, nI (k + 1 + 1)), ?_, _, rfl, Or.inr ⟨_, rfl, q2, fun u j hu hj hj2 hm hst2 => ?_⟩⟩
                · show cX8_soonest_169 N R J 111 (nI T) (nI t) (nI v) (nI (k + 1)) = _
                  unfold cX8_soonest_169
                  simp (disch := first | assumption | omega) only [obs, qle, ↓lm1, l0, qn_add, pk_mul, n_le, n_lt, n_eq, n_sM, n_Ms, n_Mlt, n_Mle, n_ltM, n_leM, ↓reduceIte, eq_self, if_pos, if_neg, qx, p111_3, p111_4, p111_5, p111_6, p111_7, p111_8, p111_11, p111_12, p111_13, p111_14, p111_15, p111_16, p111_17, p111_18, p111_19, p111_21, p111_22, p111_23, p111_24, p111_27, p111_28, p111_29, p111_30, p111_31, p111_32, p111_34, r112, w112, r113, w113, r114, w114, r115, w115, r116, w116, r117, w117, r118, w118, r119, w119, r120, w120, r121, w121, r122, w122, r123, w123, r124, w124, r125, w125, r126, w126, r127, w127, r128, w128, r129, w129, r130, w130, r131, w131, r132, w132, r133, w133, r134, w134, r135, w135, r136, w136, r137, w137, l1, l2, l3, l5, l6, l7, l8, l10, l11, l12, l31, l36, l63, l100, l1000, l1440, l1000000, l16777216, z2, hz, a1.1, a2.1]
                · by_cases e : u = t ∧ j = k + 1
                  · rw [e.1, e.2]; exact hle
                  · exact q3 u j (by omega) hj hj2 hm hst2
              · refine ⟨.inl (nI (CT t (k + 1)), nI (k + 1 + 1)), ?_, _, rfl, Or.inr ⟨_, rfl, ⟨t, k + 1, ht, by omega, hz, hst, rfl⟩, fun u j hu hj hj2 hm hst2 => ?_⟩⟩
                · show cX8_soonest_169 N R J 111 (nI T) (nI t) (nI v) (nI (k + 1)) = _
                  unfold cX8_soonest_169
                  simp (disch := first | assumption | omega) only [obs, qle, ↓lm1, l0, qn_add, pk_mul, n_le, n_lt, n_eq, n_sM, n_Ms, n_Mlt, n_Mle, n_ltM, n_leM, ↓reduceIte, eq_self, if_pos, if_neg, qx, p111_3, p111_4, p111_5, p111_6, p111_7, p111_8, p111_11, p111_12, p111_13, p111_14, p111_15, p111_16, p111_17, p111_18, p111_19, p111_21, p111_22, p111_23, p111_24, p111_27, p111_28, p111_29, p111_30, p111_31, p111_32, p111_34, r112, w112, r113, w113, r114, w114, r115, w115, r116, w116, r117, w117, r118, w118, r119, w119, r120, w120, r121, w121, r122, w122, r123, w123, r124, w124, r125, w125, r126, w126, r127, w127, r128, w128, r129, w129, r130, w130, r131, w131, r132, w132, r133, w133, r134, w134, r135, w135, r136, w136, r137, w137, l1, l2, l3, l5, l6, l7, l8, l10, l11, l12, l31, l36, l63, l100, l1000, l1440, l1000000, l16777216, z2, hz, a1.1, a2.1]
                · by_cases e : u = t ∧ j = k + 1
                  · rw [e.1, e.2]; exact Nat.le_refl _
                  · have := q3 u j (by omega) hj hj2 hm hst2
                    omega
          · refine ⟨.inl (v6, nI (k + 1 + 1)), ?_, v6, rfl, skip (fun q => hst q.2)⟩
            show cX8_soonest_169 N R J 111 (nI T) (nI t) v6 (nI (k + 1)) = _
            unfold cX8_soonest_169
            simp (disch := first | assumption | omega) only [obs, qle, ↓lm1, l0, qn_add, pk_mul, n_le, n_lt, n_eq, n_sM, n_Ms, n_Mlt, n_Mle, n_ltM, n_leM, ↓reduceIte, eq_self, if_pos, if_neg, qx, p111_3, p111_4, p111_5, p111_6, p111_7, p111_8, p111_11, p111_12, p111_13, p111_14, p111_15, p111_16, p111_17, p111_18, p111_19, p111_21, p111_22, p111_23, p111_24, p111_27, p111_28, p111_29, p111_30, p111_31, p111_32, p111_34, r112, w112, r113, w113, r114, w114, r115, w115, r116, w116, r117, w117, r118, w118, r119, w119, r120, w120, r121, w121, r122, w122, r123, w123, r124, w124, r125, w125, r126, w126, r127, w127, r128, w128, r129, w129, r130, w130, r131, w131, r132, w132, r133, w133, r134, w134, r135, w135, r136, w136, r137, w137, l1, l2, l3, l5, l6, l7, l8, l10, l11, l12, l31, l36, l63, l100, l1000, l1440, l1000000, l16777216, z2, hz, a1.1]
      · obtain ⟨v6, rfl, e1⟩ := hq
        refine ⟨.inr v6, ?_, ?_⟩
        · show cX8_soonest_169 N R J 111 (nI T) (nI t) v6 (nI (NS t - 1 + 1)) = _
          unfold cX8_soonest_169
          simp (disch := first | assumption | omega) only [obs, qle, ↓lm1, l0, qn_add, pk_mul, n_le, n_lt, n_eq, n_sM, n_Ms, n_Mlt, n_Mle, n_ltM, n_leM, ↓reduceIte, eq_self, if_pos, if_neg, qx, p111_3, p111_4, p111_5, p111_6, p111_7, p111_8, p111_11, p111_12, p111_13, p111_14, p111_15, p111_16, p111_17, p111_18, p111_19, p111_21, p111_22, p111_23, p111_24, p111_27, p111_28, p111_29, p111_30, p111_31, p111_32, p111_34, r112, w112, r113, w113, r114, w114, r115, w115, r116, w116, r117, w117, r118, w118, r119, w119, r120, w120, r121, w121, r122, w122, r123, w123, r124, w124, r125, w125, r126, w126, r127, w127, r128, w128, r129, w129, r130, w130, r131, w131, r132, w132, r133, w133, r134, w134, r135, w135, r136, w136, r137, w137, l1, l2, l3, l5, l6, l7, l8, l10, l11, l12, l31, l36, l63, l100, l1000, l1440, l1000000, l16777216, z2]
        · rcases e1 with ⟨q1, q2⟩ | ⟨v, q1, q2, q3⟩
          · refine Or.inl ⟨q1, fun u j hu hj hj2 => ?_⟩
            by_cases e : u = t
            · subst e; exact q2 u j (by omega) hj hj2
            · exact q2 u j (by omega) hj hj2
          · refine Or.inr ⟨v, q1, q2, fun u j hu hj hj2 => ?_⟩
            by_cases e : u = t
            · subst e; exact q3 u j (by omega) hj hj2
            · exact q3 u j (by omega) hj hj2
    · obtain ⟨v6, rfl, f1⟩ := hq
      refine ⟨.inr v6, ?_, f1⟩
      show cX8_soonest_157 N R J 111 (nI T) v6 (nI n) = _
      unfold cX8_soonest_157
      simp (disch := first | assumption | omega) only [obs, qle, ↓lm1, l0, qn_add, pk_mul, n_le, n_lt, n_eq, n_sM, n_Ms, n_Mlt, n_Mle, n_ltM, n_leM, ↓reduceIte, eq_self, if_pos, if_neg, qx, p111_3, p111_4, p111_5, p111_6, p111_7, p111_8, p111_11, p111_12, p111_13, p111_14, p111_15, p111_16, p111_17, p111_18, p111_19, p111_21, p111_22, p111_23, p111_24, p111_27, p111_28, p111_29, p111_30, p111_31, p111_32, p111_34, r112, w112, r113, w113, r114, w114, r115, w115, r116, w116, r117, w117, r118, w118, r119, w119, r120, w120, r121, w121, r122, w122, r123, w123, r124, w124, r125, w125, r126, w126, r127, w127, r128, w128, r129, w129, r130, w130, r131, w131, r132, w132, r133, w133, r134, w134, r135, w135, r136, w136, r137, w137, l1, l2, l3, l5, l6, l7, l8, l10, l11, l12, l31, l36, l63, l100, l1000, l1440, l1000000, l16777216, h1]
  · have hone : ∀ t j, RC NS ST CT GT (rD n day D) W F M t j → t < n ∧ 1 ≤ j ∧ j < NS t := fun t j h => by
      obtain ⟨r1, r2, i, r3, _⟩ := (RC_iff NS ST CT GT (rD n day D) W F).mp h
      exact ⟨r1.1, by omega, r2⟩
    refine ok_some ⟨?_, g3⟩
    rcases hv6 with ⟨q1, q2⟩ | ⟨v, q1, ⟨t0, j0, q2, q3, q4, q5, q6⟩, q7⟩
    · left
      refine ⟨fun t j h => ?_, q1⟩
      obtain ⟨a1, a2, a3⟩ := hone t j h
      exact q2 t j a1 a2 a3 (hcomp t j h)
    · right
      refine ⟨v, ⟨⟨t0, j0, g2 t0 j0 q2 q3 q4, q5, q6⟩, fun t j h hst => ?_⟩, q1⟩
      obtain ⟨a1, a2, a3⟩ := hone t j h
      exact q7 t j a1 a2 a3 (hcomp t j h) hst
end SOON8
