/-! STOP -/
theorem isStation7 (R : qR) (I : qI) (x : Int32) : fX7_isStation R I x = some (if 0 ≤ x.toInt ∧ x.toInt < 12 then 1 else 0) := by
  unfold fX7_isStation
  simp only [ilt, ile, i0, i12]
  split
  · rw [if_neg (by omega)]
  · split
    · rw [if_neg (by omega)]
    · rw [if_pos (by omega)]
theorem isStation8 (R : qR) (I : qI) (a : Nat) (x : Int32) : fX8_isStation R I a x = some (if 0 ≤ x.toInt ∧ x.toInt < 12 then 1 else 0) := by
  unfold fX8_isStation
  simp only [ilt, ile, i0, i12]
  split
  · rw [if_neg (by omega)]
  · split
    · rw [if_neg (by omega)]
    · rw [if_pos (by omega)]
theorem isMinute8 (R : qR) (I : qI) (a : Nat) (x : Int32) : fX8_isMinute R I a x = some (if 0 ≤ x.toInt ∧ x.toInt < 1440 then 1 else 0) := by
  unfold fX8_isMinute
  simp only [ilt, ile, i0, i1440]
  split
  · rw [if_neg (by omega)]
  · split
    · rw [if_neg (by omega)]
    · rw [if_pos (by omega)]
/-- when a stop can come -/
def stopC (I : qI) (t k : Nat) (s c g : Int32) : Prop := k < 7 ∧ (∀ i, i < k → I 114 (7 * t + i) ≠ s) ∧ 0 ≤ c.toInt ∧ c.toInt ≤ g.toInt ∧ g.toInt < 1440 ∧ (k = 0 ∨ (I 116 (7 * t + (k - 1))).toInt < c.toInt)
theorem stopAt_iff {I : qI} {t k : Nat} {s : Int32} (h : tOk I t) (hk : (I 113 t).toInt = k) (h0 : 0 ≤ s.toInt) (h12 : s.toInt < 12) : (I (61 + 5 * t + 4) s.toInt.toNat = -1) ↔ ∀ i, i < k → I 114 (7 * t + i) ≠ s := by
  obtain ⟨k1, k2, k3, k4, k5, k6, k7, k8⟩ := h
  rw [hk] at k7 k8
  constructor
  · intro he i hi hs
    have := k7 i (by omega)
    rw [hs, he, im1] at this
    omega
  · intro hn
    rw [ieq, im1]
    refine k8 s.toInt.toNat (by omega) (fun i hi he => hn i (by omega) ?_)
    rw [ieq]
    omega
theorem takes_yes {R : qR} {I : qI} (hL : LR R) {t k : Nat} {s c g : Int32} (ht : t < 10) (h : tOk I t) (hk : (I 113 t).toInt = k) (h0 : 0 ≤ s.toInt) (h12 : s.toInt < 12) (hC : stopC I t k s c g) : fX5_takes R I (61 + 5 * t) s c g = some 1 := by
  have hi := (stopAt_iff h hk h0 h12).mpr hC.2.1
  obtain ⟨k1, k2, k3, k4, k5, k6, k7, k8⟩ := h
  obtain ⟨c1, c2, c3, c4, c5, c6⟩ := hC
  rw [hk] at k4
  unfold fX5_takes
  rw [k1, if_neg (by rw [ile, i7]; omega), hL.t5 ht]
  simp only [Option.bind_some]
  rw [qrd_t (hL.tl4 ht) h0 (by omega)]
  simp only [Option.bind_some]
  rw [if_pos hi, if_neg (by rw [ilt, i0]; omega), if_neg (by rw [ilt]; omega), if_pos (by rw [ilt, i1440]; omega)]
  rcases c6 with rfl | c6
  · rw [if_pos (by rw [ieq, i0]; omega)]
  · by_cases hk0 : k = 0
    · rw [if_pos (by rw [ieq, i0]; omega)]
    · have hs1 : (I 113 t - 1).toInt = (k : Int) - 1 := by rw [isu (by rw [i1]; omega) (by rw [i1]; omega), i1, hk]
      rw [if_neg (by rw [ieq, i0]; omega), hL.t4 ht]
      simp only [Option.bind_some]
      rw [qrd_t (hL.tl3 ht) (by omega) (by omega)]
      simp only [Option.bind_some]
      rw [show (I 113 t - 1).toInt.toNat = k - 1 by omega, (k4 (k - 1) (by omega)).2.2, if_neg (by rw [ile]; omega)]
theorem takes_no {R : qR} {I : qI} (hL : LR R) {t k : Nat} {s c g : Int32} (ht : t < 10) (h : tOk I t) (hk : (I 113 t).toInt = k) (h0 : 0 ≤ s.toInt) (h12 : s.toInt < 12) (hC : ¬ stopC I t k s c g) : fX5_takes R I (61 + 5 * t) s c g = some 0 := by
  have hi := stopAt_iff h hk h0 h12
  obtain ⟨k1, k2, k3, k4, k5, k6, k7, k8⟩ := h
  rw [hk] at k4
  unfold fX5_takes
  rw [k1]
  by_cases h1 : k < 7
  · rw [if_neg (by rw [ile, i7]; omega), hL.t5 ht]
    simp only [Option.bind_some]
    rw [qrd_t (hL.tl4 ht) h0 (by omega)]
    simp only [Option.bind_some]
    by_cases h2 : I (61 + 5 * t + 4) s.toInt.toNat = -1
    · rw [if_pos h2]
      by_cases h3 : c.toInt < 0
      · rw [if_pos (by rw [ilt, i0]; exact h3)]
      · rw [if_neg (by rw [ilt, i0]; exact h3)]
        by_cases h4 : g.toInt < c.toInt
        · rw [if_pos (by rw [ilt]; exact h4)]
        · rw [if_neg (by rw [ilt]; exact h4)]
          by_cases h5 : g.toInt < 1440
          · rw [if_pos (by rw [ilt, i1440]; exact h5)]
            have hk0 : k ≠ 0 := fun q => hC ⟨h1, hi.mp h2, by omega, by omega, h5, Or.inl q⟩
            have hs1 : (I 113 t - 1).toInt = (k : Int) - 1 := by rw [isu (by rw [i1]; omega) (by rw [i1]; omega), i1, hk]
            rw [if_neg (by rw [ieq, i0]; omega), hL.t4 ht]
            simp only [Option.bind_some]
            rw [qrd_t (hL.tl3 ht) (by omega) (by omega)]
            simp only [Option.bind_some]
            rw [show (I 113 t - 1).toInt.toNat = k - 1 by omega, (k4 (k - 1) (by omega)).2.2, if_pos]
            rw [ile]
            exact Int.not_lt.mp fun q => hC ⟨h1, hi.mp h2, by omega, by omega, h5, Or.inr q⟩
          · rw [if_neg (by rw [ilt, i1440]; exact h5)]
    · rw [if_neg h2]
  · rw [if_pos (by rw [ile, i7]; omega)]
theorem add_eq {R : qR} {I : qI} (hL : LR R) {t k : Nat} {s c g : Int32} (ht : t < 10) (h1 : I (61 + 5 * t) 1 = I 113 t) (hk : (I 113 t).toInt = k) (hk7 : k < 7) (h0 : 0 ≤ s.toInt) (h12 : s.toInt < 12) :
    fX5_add R I (61 + 5 * t) s c g = some (qup (qup (qup (qup (qup I (61 + 5 * t + 1) k s) (61 + 5 * t + 2) k c) (61 + 5 * t + 3) k g) (61 + 5 * t + 4) s.toInt.toNat (I 113 t)) (61 + 5 * t) 1 (I 113 t + 1)) := by
  unfold fX5_add
  have hn : (I 113 t).toInt.toNat = k := by omega
  rw [h1, hL.t2 ht]
  simp only [Option.bind_some]
  rw [qwr_t (hL.tl1 ht) (by omega) (by omega), hn]
  simp only [Option.bind_some]
  rw [hL.t3 ht, qup_off (by omega), h1]
  simp only [Option.bind_some]
  rw [qwr_t (hL.tl2 ht) (by omega) (by omega), hn]
  simp only [Option.bind_some]
  rw [hL.t4 ht, qup_off (by omega), qup_off (by omega), h1]
  simp only [Option.bind_some]
  rw [qwr_t (hL.tl3 ht) (by omega) (by omega), hn]
  simp only [Option.bind_some]
  rw [hL.t5 ht, qup_off (by omega), qup_off (by omega), qup_off (by omega), h1]
  simp only [Option.bind_some]
  rw [qwr_t (hL.tl4 ht) (by omega) (by omega)]
  simp only [Option.bind_some, qlet]
  rw [qup_off (by omega), qup_off (by omega), qup_off (by omega), qup_off (by omega), h1]
theorem sim_stop {R : qR} {I : qI} {N : Nat} (hN : 8 < N) (hL : LR R) (hB : BookInv I) (hS : SignInv I) (x s c g : Int32) : Sim (fun I => fX7_stop R I 0 x s c g) (fun I => fX8_stop N R I 111 x s c g) I := by
  by_cases hT : isT I x
  · by_cases hs : 0 ≤ s.toInt ∧ s.toInt < 12
    · obtain ⟨t, htt⟩ : ∃ t : Nat, x.toInt = t := ⟨x.toInt.toNat, by have := hT.1; omega⟩
      have htl : (t : Int) < (I 111 1).toInt := by have := hT.2; omega
      have h10 := hB.2.2.2.1
      have ht : t < 10 := by omega
      obtain ⟨k1, k2, k3, k4, k5, k6, k7, k8⟩ := id (hB.tok ht)
      obtain ⟨k, hk⟩ : ∃ k : Nat, (I 113 t).toInt = k := ⟨(I 113 t).toInt.toNat, by omega⟩
      rw [hk] at k4 k5 k6 k7 k8
      have e7 : ((7 : Int32) * x).toInt = 7 * t := by rw [imu (by rw [i7]; omega) (by rw [i7]; omega), i7, htt]
      have e8 : ((7 : Int32) * x + I 113 t).toInt = 7 * t + k := by rw [ia (by omega) (by omega), e7, hk]
      have e8n : ((7 : Int32) * x + I 113 t).toInt.toNat = 7 * t + k := by omega
      by_cases hC : stopC I t k s c g
      · obtain ⟨c1, c2, c3, c4, c5, c6⟩ := id hC
        generalize hI1 : qup (qup (qup (qup (qup I (61 + 5 * t + 1) k s) (61 + 5 * t + 2) k c) (61 + 5 * t + 3) k g) (61 + 5 * t + 4) s.toInt.toNat (I 113 t)) (61 + 5 * t) 1 (I 113 t + 1) = I1
        have ex : fX7_stop R I 0 x s c g = some (I 113 t + 1, I1) := by
          unfold fX7_stop
          rw [trainOf_yes hL hB hT]
          simp only [Option.bind_some, qopt, isStation7]
          rw [if_pos hs, if_neg (by decide), htt, Int.toNat_natCast, takes_yes hL ht (hB.tok ht) hk hs.1 hs.2 hC]
          simp only [Option.bind_some]
          rw [if_neg (by decide), add_eq hL ht k1 hk c1 hs.1 hs.2, hI1]
          simp only [Option.bind_some]
          rw [← hI1, qup_on]
        have r1 : ∀ a j, ¬ (61 + 5 * t ≤ a ∧ a < 66 + 5 * t) → I1 a j = I a j := fun a j h => by rw [← hI1, qup_off (by omega), qup_off (by omega), qup_off (by omega), qup_off (by omega), qup_off (by omega)]
        generalize hJ : qup I1 111 0 0 = J
        have rJ : ∀ a j, ¬ (61 + 5 * t ≤ a ∧ a < 66 + 5 * t) → ¬ (a = 111 ∧ j = 0) → J a j = I a j := fun a j h h' => by rw [← hJ, qup_off (by omega), r1 a j h]
        generalize hI2 : qup (qup (qup (qup J 114 (7 * t + k) s) 115 (7 * t + k) c) 116 (7 * t + k) g) 113 t (I 113 t + 1) = I2
        have j113 : J 113 t = I 113 t := rJ _ _ (by omega) (by omega)
        have em : fX8_stop N R I1 111 x s c g = some (I 113 t + 1, I2) := by
          unfold fX8_stop
          simp only [qlet]
          rw [hJ, isTrain_yes (by unfold isT; rw [rJ _ _ (by omega) (by omega)]; exact hT)]
          simp only [Option.bind_some, isStation8, isMinute8]
          rw [if_neg (by decide), if_pos hs, if_neg (by decide), if_pos (show 0 ≤ c.toInt ∧ c.toInt < 1440 by omega), if_neg (by decide), if_pos (show 0 ≤ g.toInt ∧ g.toInt < 1440 by omega), if_neg (by decide), if_neg (by rw [ilt]; omega), hL.p 111 4 rfl]
          simp only [Option.bind_some]
          rw [qrd_t (hL.l 113 rfl) (by omega) (by omega), htt, Int.toNat_natCast, j113]
          simp only [Option.bind_some]
          rw [if_neg (by rw [ieq, i7]; omega)]
          obtain ⟨q, eq, hq⟩ := stopAt8 (R := R) (I := J) (s := s) hL ht htt (by rw [j113]; exact hk) (by omega) hN
          have hq1 : q = -1 := by
            rcases hq with hq | ⟨i, hi, -, he⟩
            · exact hq.1
            · rw [rJ _ _ (by omega) (by omega)] at he
              exact absurd he (c2 i hi)
          rw [eq]
          simp only [Option.bind_some]
          rw [if_pos hq1]
          have b1 : qwr J R 114 ((7 : Int32) * x + I 113 t) s = some (qup J 114 (7 * t + k) s) := by rw [qwr_t (hL.l 114 rfl) (by omega) (by omega), e8n]
          have b2 : ∀ K : qI, qwr K R 115 ((7 : Int32) * x + I 113 t) c = some (qup K 115 (7 * t + k) c) := fun K => by rw [qwr_t (hL.l 115 rfl) (by omega) (by omega), e8n]
          have b3 : ∀ K : qI, qwr K R 116 ((7 : Int32) * x + I 113 t) g = some (qup K 116 (7 * t + k) g) := fun K => by rw [qwr_t (hL.l 116 rfl) (by omega) (by omega), e8n]
          have b4 : qrd (qup (qup (qup J 114 (7 * t + k) s) 115 (7 * t + k) c) 116 (7 * t + k) g) R 113 x = some (I 113 t) := by
            rw [qrd_t (hL.l 113 rfl) (by omega) (by omega), htt, Int.toNat_natCast, qup_off (by omega), qup_off (by omega), qup_off (by omega), j113]
          have b5 : qwr (qup (qup (qup J 114 (7 * t + k) s) 115 (7 * t + k) c) 116 (7 * t + k) g) R 113 x (I 113 t + 1) = some I2 := by
            rw [qwr_t (hL.l 113 rfl) (by omega) (by omega), htt, Int.toNat_natCast, hI2]
          have b6 : qrd I2 R 113 x = some (I 113 t + 1) := by
            rw [qrd_t (hL.l 113 rfl) (by omega) (by omega), htt, Int.toNat_natCast, ← hI2, qup_on]
          by_cases hk0 : k = 0
          · rw [if_pos (by rw [ile, i0]; omega), hL.p 111 5 rfl, hL.p 111 6 rfl, hL.p 111 7 rfl]
            simp only [Option.bind_some, b1, b2, b3, b4, b5, b6]
          · rw [if_neg (by rw [ile, i0]; omega), hL.p 111 5 rfl, hL.p 111 6 rfl, hL.p 111 7 rfl]
            simp only [Option.bind_some]
            have e9 : ((7 : Int32) * x + I 113 t - 1).toInt = 7 * t + k - 1 := by rw [isu (by rw [i1]; omega) (by rw [i1]; omega), i1, e8]
            rw [qrd_t (hL.l 116 rfl) (by omega) (by omega), show ((7 : Int32) * x + I 113 t - 1).toInt.toNat = 7 * t + (k - 1) by omega, rJ _ _ (by omega) (by omega)]
            simp only [Option.bind_some]
            rw [if_pos (by rw [ilt]; omega)]
            simp only [Option.bind_some, b1, b2, b3, b4, b5, b6]
        have r2 : ∀ a j, ¬ (61 + 5 * t ≤ a ∧ a < 66 + 5 * t) → ¬ (a = 111 ∧ j = 0) → ¬ (a = 113 ∧ j = t) → ¬ (114 ≤ a ∧ a ≤ 116 ∧ j = 7 * t + k) → I2 a j = I a j := fun a j g1 g2 g3 g4 => by rw [← hI2, qup_off (by omega), qup_off (by omega), qup_off (by omega), qup_off (by omega), rJ a j g1 g2]
        have r3 : ∀ a j, (61 + 5 * t ≤ a ∧ a < 66 + 5 * t) → I2 a j = I1 a j := fun a j h => by rw [← hI2, qup_off (by omega), qup_off (by omega), qup_off (by omega), qup_off (by omega), ← hJ, qup_off (by omega)]
        have w113 : I2 113 t = I 113 t + 1 := by rw [← hI2, qup_on]
        have w114 : I2 114 (7 * t + k) = s := by rw [← hI2, qup_off (by omega), qup_off (by omega), qup_off (by omega), qup_on]
        have w115 : I2 115 (7 * t + k) = c := by rw [← hI2, qup_off (by omega), qup_off (by omega), qup_on]
        have w116 : I2 116 (7 * t + k) = g := by rw [← hI2, qup_off (by omega), qup_on]
        have u0 : I2 (61 + 5 * t) 1 = I 113 t + 1 := by rw [r3 _ _ (by omega), ← hI1, qup_on]
        have u00 : I2 (61 + 5 * t) 0 = I (61 + 5 * t) 0 := by rw [r3 _ _ (by omega), ← hI1, qup_off (by omega), qup_off (by omega), qup_off (by omega), qup_off (by omega), qup_off (by omega)]
        have u1 : ∀ j, I2 (61 + 5 * t + 1) j = if j = k then s else I (61 + 5 * t + 1) j := fun j => by
          rw [r3 _ _ (by omega), ← hI1, qup_off (by omega), qup_off (by omega), qup_off (by omega), qup_off (by omega), qup_at]
          by_cases hj : j = k
          · rw [if_pos ⟨rfl, hj⟩, if_pos hj]
          · rw [if_neg (by omega), if_neg hj]
        have u2 : ∀ j, I2 (61 + 5 * t + 2) j = if j = k then c else I (61 + 5 * t + 2) j := fun j => by
          rw [r3 _ _ (by omega), ← hI1, qup_off (by omega), qup_off (by omega), qup_off (by omega), qup_at]
          by_cases hj : j = k
          · rw [if_pos ⟨rfl, hj⟩, if_pos hj]
          · rw [if_neg (by omega), if_neg hj, qup_off (by omega)]
        have u3 : ∀ j, I2 (61 + 5 * t + 3) j = if j = k then g else I (61 + 5 * t + 3) j := fun j => by
          rw [r3 _ _ (by omega), ← hI1, qup_off (by omega), qup_off (by omega), qup_at]
          by_cases hj : j = k
          · rw [if_pos ⟨rfl, hj⟩, if_pos hj]
          · rw [if_neg (by omega), if_neg hj, qup_off (by omega), qup_off (by omega)]
        have u4 : ∀ j, I2 (61 + 5 * t + 4) j = if j = s.toInt.toNat then I 113 t else I (61 + 5 * t + 4) j := fun j => by
          rw [r3 _ _ (by omega), ← hI1, qup_off (by omega), qup_at]
          by_cases hj : j = s.toInt.toNat
          · rw [if_pos ⟨rfl, hj⟩, if_pos hj]
          · rw [if_neg (by omega), if_neg hj, qup_off (by omega), qup_off (by omega), qup_off (by omega)]
        have wk : (I 113 t + 1).toInt = (k : Int) + 1 := by rw [ia (by rw [i1]; omega) (by rw [i1]; omega), i1, hk]
        refine ⟨_, I1, I2, ex, em, book_train hB hS htl (fun a j g1 g2 g3 g4 => r2 a j g1 g2 (by omega) (by omega)) ⟨?_, ?_, ?_, ?_, ?_, ?_, ?_, ?_⟩ ?_⟩
        · rw [u0, w113]
        · rw [w113, wk]; omega
        · rw [w113, wk]; omega
        · intro i hi
          rw [w113, wk] at hi
          rw [u1, u2, u3]
          by_cases hik : i = k
          · subst hik
            rw [if_pos rfl, if_pos rfl, if_pos rfl, w114, w115, w116]
            exact ⟨rfl, rfl, rfl⟩
          · rw [if_neg hik, if_neg hik, if_neg hik, r2 _ _ (by omega) (by omega) (by omega) (by omega), r2 _ _ (by omega) (by omega) (by omega) (by omega), r2 _ _ (by omega) (by omega) (by omega) (by omega)]
            exact k4 i (by omega)
        · intro i hi
          rw [w113, wk] at hi
          by_cases hik : i = k
          · subst hik
            rw [w114, w115, w116]
            exact ⟨hs.1, hs.2, c3, c4, c5⟩
          · rw [r2 _ _ (by omega) (by omega) (by omega) (by omega), r2 _ _ (by omega) (by omega) (by omega) (by omega), r2 _ _ (by omega) (by omega) (by omega) (by omega)]
            exact k5 i (by omega)
        · intro i hi
          rw [w113, wk] at hi
          by_cases hik : i + 1 = k
          · rw [r2 116 _ (by omega) (by omega) (by omega) (by omega), hik, w115]
            rcases c6 with c6 | c6
            · omega
            · rw [show k - 1 = i by omega] at c6; exact c6
          · rw [r2 _ _ (by omega) (by omega) (by omega) (by omega), r2 _ _ (by omega) (by omega) (by omega) (by omega)]
            exact k6 i (by omega)
        · intro i hi
          rw [w113, wk] at hi
          rw [u4]
          by_cases hik : i = k
          · subst hik
            rw [w114, if_pos rfl, hk]
          · rw [r2 114 _ (by omega) (by omega) (by omega) (by omega), if_neg, k7 i (by omega)]
            intro he
            have h5 := (k5 i (by omega)).1
            exact c2 i (by omega) (by rw [ieq]; omega)
        · intro u hu hn
          rw [w113, wk] at hn
          rw [u4]
          have hus : u ≠ s.toInt.toNat := fun q => by
            have := hn k (by omega)
            rw [w114] at this
            omega
          rw [if_neg hus]
          refine k8 u hu (fun i hi => ?_)
          have := hn i (by omega)
          rw [r2 114 _ (by omega) (by omega) (by omega) (by omega)] at this
          exact this
        · rw [u00, r2 112 t (by omega) (by omega) (by omega) (by omega)]
          exact hB.day htl
      · refine ⟨-1, I, _, ?_, ?_, same_told hB hS 0⟩
        · show fX7_stop R I 0 x s c g = _
          unfold fX7_stop
          rw [trainOf_yes hL hB hT]
          simp only [Option.bind_some, qopt, isStation7]
          rw [if_pos hs, if_neg (by decide), htt, Int.toNat_natCast, takes_no hL ht (hB.tok ht) hk hs.1 hs.2 hC]
          rfl
        · show fX8_stop N R I 111 x s c g = _
          generalize hJ : qup I 111 0 0 = J
          have rJ : ∀ a j, ¬ (a = 111 ∧ j = 0) → J a j = I a j := fun a j h => by rw [← hJ, qup_off (by omega)]
          have j113 : J 113 t = I 113 t := rJ _ _ (by omega)
          unfold fX8_stop
          simp only [qlet]
          rw [hJ, isTrain_yes (by unfold isT; rw [rJ _ _ (by omega)]; exact hT)]
          simp only [Option.bind_some, isStation8, isMinute8]
          rw [if_neg (by decide), if_pos hs, if_neg (by decide)]
          by_cases m1 : 0 ≤ c.toInt ∧ c.toInt < 1440
          · rw [if_pos m1, if_neg (by decide)]
            by_cases m2 : 0 ≤ g.toInt ∧ g.toInt < 1440
            · rw [if_pos m2, if_neg (by decide)]
              by_cases m3 : g.toInt < c.toInt
              · rw [if_pos (by rw [ilt]; exact m3)]
              · rw [if_neg (by rw [ilt]; exact m3), hL.p 111 4 rfl]
                simp only [Option.bind_some]
                rw [qrd_t (hL.l 113 rfl) (by omega) (by omega), htt, Int.toNat_natCast, j113]
                simp only [Option.bind_some]
                by_cases m4 : k = 7
                · rw [if_pos (by rw [ieq, i7]; omega)]
                · rw [if_neg (by rw [ieq, i7]; omega)]
                  obtain ⟨q, eq, hq⟩ := stopAt8 (R := R) (I := J) (s := s) hL ht htt (by rw [j113]; exact hk) (by omega) hN
                  rw [eq]
                  simp only [Option.bind_some]
                  rcases hq with ⟨hq1, hq2⟩ | ⟨i, hi, hqi, -⟩
                  · rw [if_pos hq1]
                    have hk0 : k ≠ 0 := fun z => hC ⟨by omega, fun i hi he => hq2 i hi (by rw [rJ _ _ (by omega)]; exact he), by omega, by omega, by omega, Or.inl z⟩
                    have e9 : ((7 : Int32) * x + I 113 t - 1).toInt = 7 * t + k - 1 := by rw [isu (by rw [i1]; omega) (by rw [i1]; omega), i1, e8]
                    rw [if_neg (by rw [ile, i0]; omega), hL.p 111 7 rfl]
                    simp only [Option.bind_some]
                    rw [qrd_t (hL.l 116 rfl) (by omega) (by omega), show ((7 : Int32) * x + I 113 t - 1).toInt.toNat = 7 * t + (k - 1) by omega, rJ _ _ (by omega)]
                    simp only [Option.bind_some]
                    rw [if_neg]
                    rw [ilt]
                    exact fun z => hC ⟨by omega, fun i hi he => hq2 i hi (by rw [rJ _ _ (by omega)]; exact he), by omega, by omega, by omega, Or.inr z⟩
                  · rw [if_neg (by rw [ieq, im1]; omega)]
            · rw [if_neg m2]; rfl
          · rw [if_neg m1]; rfl
    · refine ⟨-1, I, _, ?_, ?_, same_told hB hS 0⟩
      · show fX7_stop R I 0 x s c g = _
        unfold fX7_stop
        rw [trainOf_yes hL hB hT]
        simp only [Option.bind_some, qopt, isStation7]
        rw [if_neg hs]
        rfl
      · show fX8_stop N R I 111 x s c g = _
        unfold fX8_stop
        simp only [qlet]
        rw [isTrain_yes (isT_told.mpr hT)]
        simp only [Option.bind_some, isStation8]
        rw [if_neg (by decide), if_neg hs]
        rfl
  · refine ⟨-1, I, _, ?_, ?_, same_told hB hS 0⟩
    · show fX7_stop R I 0 x s c g = _
      unfold fX7_stop
      rw [trainOf_no hB hT]
      rfl
    · show fX8_stop N R I 111 x s c g = _
      unfold fX8_stop
      simp only [qlet]
      rw [isTrain_no (fun q => hT (isT_told.mp q))]
      rfl
