/-! CUT AND STOP -/
theorem BookInv.tok {I : qI} (h : BookInv I) {t : Nat} (ht : t < 10) : tOk I t := h.2.2.2.2.2.2.1 t ht
theorem BookInv.day {I : qI} (h : BookInv I) {t : Nat} (ht : (t : Int) < (I 111 1).toInt) : I (61 + 5 * t) 0 = I 112 t ∧ 1 ≤ (I 112 t).toInt ∧ (I 112 t).toInt ≤ 127 := h.2.2.2.2.2.2.2.1 t ht
theorem LR.t2 {R : qR} (h : LR R) {t : Nat} (ht : t < 10) : R.1 (61 + 5 * t) 2 = some (61 + 5 * t + 1) := h.p _ _ (lP_tr t ht 2 (by omega) (by omega))
theorem LR.t3 {R : qR} (h : LR R) {t : Nat} (ht : t < 10) : R.1 (61 + 5 * t) 3 = some (61 + 5 * t + 2) := h.p _ _ (lP_tr t ht 3 (by omega) (by omega))
theorem LR.t4 {R : qR} (h : LR R) {t : Nat} (ht : t < 10) : R.1 (61 + 5 * t) 4 = some (61 + 5 * t + 3) := h.p _ _ (lP_tr t ht 4 (by omega) (by omega))
theorem LR.t5 {R : qR} (h : LR R) {t : Nat} (ht : t < 10) : R.1 (61 + 5 * t) 5 = some (61 + 5 * t + 4) := h.p _ _ (lP_tr t ht 5 (by omega) (by omega))
theorem LR.tl1 {R : qR} (h : LR R) {t : Nat} (ht : t < 10) : (R.2.1 (61 + 5 * t + 1)).2 = 7 := h.l _ (lK_tr t ht 1 (by omega))
theorem LR.tl2 {R : qR} (h : LR R) {t : Nat} (ht : t < 10) : (R.2.1 (61 + 5 * t + 2)).2 = 7 := h.l _ (lK_tr t ht 2 (by omega))
theorem LR.tl3 {R : qR} (h : LR R) {t : Nat} (ht : t < 10) : (R.2.1 (61 + 5 * t + 3)).2 = 7 := h.l _ (lK_tr t ht 3 (by omega))
theorem LR.tl4 {R : qR} (h : LR R) {t : Nat} (ht : t < 10) : (R.2.1 (61 + 5 * t + 4)).2 = 12 := h.l _ (lK_tr t ht 4 (by omega))
theorem sim_cut {R : qR} {I : qI} (hL : LR R) (hB : BookInv I) (hS : SignInv I) (x : Int32) : Sim (fun I => fX7_cut R I 0 x) (fun I => fX8_cut R I 111 x) I := by
  by_cases hT : isT I x
  · obtain ⟨t, htt⟩ : ∃ t : Nat, x.toInt = t := ⟨x.toInt.toNat, by have := hT.1; omega⟩
    have htl : (t : Int) < (I 111 1).toInt := by have := hT.2; omega
    have h10 := hB.2.2.2.1
    have ht : t < 10 := by omega
    obtain ⟨k1, k2, k3, k4, k5, k6, k7, k8⟩ := id (hB.tok ht)
    obtain ⟨k, hk⟩ : ∃ k : Nat, (I 113 t).toInt = k := ⟨(I 113 t).toInt.toNat, by omega⟩
    rw [hk] at k4 k5 k6 k7 k8
    by_cases h0 : k = 0
    · refine ⟨0, I, _, ?_, ?_, same_told hB hS 0⟩
      · show fX7_cut R I 0 x = _
        unfold fX7_cut
        rw [trainOf_yes hL hB hT]
        simp only [Option.bind_some, qopt]
        rw [htt, Int.toNat_natCast, k1, if_pos (by rw [ieq, i0]; omega)]
      · show fX8_cut R I 111 x = _
        unfold fX8_cut
        simp only [qlet]
        rw [isTrain_yes (isT_told.mpr hT)]
        simp only [Option.bind_some]
        rw [if_neg (by decide), hL.p 111 4 rfl]
        simp only [Option.bind_some]
        rw [qrd_t (hL.l 113 rfl) (by omega) (by omega)]
        simp only [Option.bind_some]
        rw [qup_off (by omega), htt, Int.toNat_natCast, if_pos (by rw [ieq, i0]; omega)]
    · have hs1 : (I 113 t - 1).toInt = (k : Int) - 1 := by rw [isu (by rw [i1]; omega) (by rw [i1]; omega), i1, hk]
      obtain ⟨s, hs⟩ : ∃ s : Nat, (I 114 (7 * t + (k - 1))).toInt = s := ⟨(I 114 (7 * t + (k - 1))).toInt.toNat, by have := (k5 (k - 1) (by omega)).1; omega⟩
      have hs12 : s < 12 := by have := (k5 (k - 1) (by omega)).2.1; omega
      have ex : fX7_cut R I 0 x = some (1, qup (qup I (61 + 5 * t) 1 (I 113 t - 1)) (61 + 5 * t + 4) s (-1)) := by
        unfold fX7_cut
        rw [trainOf_yes hL hB hT]
        simp only [Option.bind_some, qopt]
        rw [htt, Int.toNat_natCast, k1, if_neg (by rw [ieq, i0]; omega)]
        unfold fX5_dropLast
        simp only [qlet]
        rw [hL.t5 ht, hL.t2 ht, k1]
        simp only [Option.bind_some]
        rw [qup_on, qrd_t (hL.tl1 ht) (by omega) (by omega)]
        simp only [Option.bind_some]
        have e1 : qup I (61 + 5 * t) 1 (I 113 t - 1) (61 + 5 * t + 1) (I 113 t - 1).toInt.toNat = I 114 (7 * t + (k - 1)) := by
          rw [qup_off (by omega), show (I 113 t - 1).toInt.toNat = k - 1 by omega]
          exact (k4 (k - 1) (by omega)).1
        rw [e1, qwr_t (hL.tl4 ht) (by omega) (by omega), hs]
        rfl
      generalize hI1 : qup (qup I (61 + 5 * t) 1 (I 113 t - 1)) (61 + 5 * t + 4) s (-1) = I1 at ex
      have r1 : ∀ a j, ¬ (a = 61 + 5 * t ∧ j = 1) → ¬ (a = 61 + 5 * t + 4 ∧ j = s) → I1 a j = I a j := fun a j g1 g2 => by rw [← hI1, qup_off (by omega), qup_off (by omega)]
      have em : fX8_cut R I1 111 x = some (1, qup (qup I1 111 0 0) 113 t (I 113 t - 1)) := by
        unfold fX8_cut
        simp only [qlet]
        rw [isTrain_yes (isT_told.mpr (by unfold isT; rw [r1 _ _ (by omega) (by omega)]; exact hT))]
        simp only [Option.bind_some]
        rw [if_neg (by decide), hL.p 111 4 rfl]
        simp only [Option.bind_some]
        rw [qrd_t (hL.l 113 rfl) (by omega) (by omega)]
        simp only [Option.bind_some]
        rw [qup_off (by omega), htt, Int.toNat_natCast, r1 _ _ (by omega) (by omega), if_neg (by rw [ieq, i0]; omega), qwr_t (hL.l 113 rfl) (by omega) (by omega), htt, Int.toNat_natCast]
        rfl
      generalize hI2 : qup (qup I1 111 0 0) 113 t (I 113 t - 1) = I2 at em
      have r2 : ∀ a j, ¬ (a = 61 + 5 * t ∧ j = 1) → ¬ (a = 61 + 5 * t + 4 ∧ j = s) → ¬ (a = 111 ∧ j = 0) → ¬ (a = 113 ∧ j = t) → I2 a j = I a j := fun a j g1 g2 g3 g4 => by rw [← hI2, qup_off (by omega), qup_off (by omega), r1 a j g1 g2]
      have w1 : I2 113 t = I 113 t - 1 := by rw [← hI2]; exact qup_on
      have w2 : I2 (61 + 5 * t) 1 = I 113 t - 1 := by rw [← hI2, qup_off (by omega), qup_off (by omega), ← hI1, qup_off (by omega)]; exact qup_on
      have w3 : I2 (61 + 5 * t + 4) s = -1 := by rw [← hI2, qup_off (by omega), qup_off (by omega), ← hI1]; exact qup_on
      refine ⟨1, _, I2, ex, em, book_train hB hS htl (fun a j g1 g2 g3 g4 => r2 a j (by omega) (by omega) (by omega) (by omega)) ⟨?_, ?_, ?_, ?_, ?_, ?_, ?_, ?_⟩ ?_⟩
      · rw [w1, w2]
      · rw [w1, hs1]; omega
      · rw [w1, hs1]; omega
      · intro i hi
        rw [w1, hs1] at hi
        rw [r2 _ _ (by omega) (by omega) (by omega) (by omega), r2 _ _ (by omega) (by omega) (by omega) (by omega), r2 _ _ (by omega) (by omega) (by omega) (by omega), r2 _ _ (by omega) (by omega) (by omega) (by omega), r2 _ _ (by omega) (by omega) (by omega) (by omega), r2 _ _ (by omega) (by omega) (by omega) (by omega)]
        exact k4 i (by omega)
      · intro i hi
        rw [w1, hs1] at hi
        rw [r2 _ _ (by omega) (by omega) (by omega) (by omega), r2 _ _ (by omega) (by omega) (by omega) (by omega), r2 _ _ (by omega) (by omega) (by omega) (by omega)]
        exact k5 i (by omega)
      · intro i hi
        rw [w1, hs1] at hi
        rw [r2 _ _ (by omega) (by omega) (by omega) (by omega), r2 _ _ (by omega) (by omega) (by omega) (by omega)]
        exact k6 i (by omega)
      · intro i hi
        rw [w1, hs1] at hi
        have q1 := k7 i (by omega)
        have q2 := k7 (k - 1) (by omega)
        rw [hs] at q2
        rw [r2 114 _ (by omega) (by omega) (by omega) (by omega), r2 _ _ (by omega) (fun hh => by rw [hh.2] at q1; rw [Int.toNat_natCast] at q2; omega) (by omega) (by omega)]
        exact q1
      · intro u hu hn
        rw [w1, hs1] at hn
        by_cases hus : u = s
        · rw [hus, w3]; exact im1
        · rw [r2 _ _ (by omega) (by omega) (by omega) (by omega)]
          refine k8 u hu (fun i hi => ?_)
          by_cases hik : i = k - 1
          · rw [hik, hs]; omega
          · have := hn i (by omega)
            rw [r2 _ _ (by omega) (by omega) (by omega) (by omega)] at this
            exact this
      · rw [r2 _ _ (by omega) (by omega) (by omega) (by omega), r2 112 t (by omega) (by omega) (by omega) (by omega)]
        exact hB.day htl
  · refine ⟨0, I, _, ?_, ?_, same_told hB hS 0⟩
    · show fX7_cut R I 0 x = _
      unfold fX7_cut
      rw [trainOf_no hB hT]
      rfl
    · show fX8_cut R I 111 x = _
      unfold fX8_cut
      simp only [qlet]
      rw [isTrain_no (fun q => hT (isT_told.mp q))]
      rfl
/-- the reference's own search of a station among a train's stops -/
theorem stopAt8 {R : qR} {I : qI} (hL : LR R) {N t k : Nat} {x s : Int32} (ht : t < 10) (hx : x.toInt = t) (hk : (I 113 t).toInt = k) (hk7 : k ≤ 7) (hN : 8 < N) :
    ok (fX8_stopAt N R I 111 x s) (fun r => (r = -1 ∧ ∀ i, i < k → I 114 (7 * t + i) ≠ s) ∨ ∃ i, i < k ∧ r.toInt = i ∧ I 114 (7 * t + i) = s) := by
  unfold fX8_stopAt
  refine ok_bind (ok_loop (fun v : Int32 => 0 ≤ v.toInt ∧ v.toInt ≤ (k : Int) ∧ ∀ i : Nat, (i : Int) < v.toInt → I 114 (7 * t + i) ≠ s) (fun v : Int32 => (8 - v.toInt).toNat) ⟨by rw [i0]; omega, by rw [i0]; omega, fun i hi => by rw [i0] at hi; omega⟩ (by rw [i0]; show 8 < N; exact hN) (fun v hv => ?_))
  obtain ⟨v1, v2, v3⟩ := hv
  unfold cX8_stopAt_2
  rw [hL.p 111 4 rfl]
  refine ok_bindv rfl ?_
  refine ok_bindv (qrd_t (hL.l 113 rfl) (by omega) (by omega)) ?_
  rw [hx, Int.toNat_natCast]
  refine ok_if (fun c => ?_) (fun c => ?_)
  · rw [ile, hk] at c
    refine ok_some ?_
    show ok (some (-1)) _
    exact ok_some (Or.inl ⟨rfl, fun i hi => v3 i (by omega)⟩)
  · rw [ile, hk] at c
    rw [hL.p 111 5 rfl]
    refine ok_bindv rfl ?_
    have e7 : ((7 : Int32) * x).toInt = 7 * t := by rw [imu (by rw [i7]; omega) (by rw [i7]; omega), i7, hx]
    have e8 : ((7 : Int32) * x + v).toInt = 7 * t + v.toInt := by rw [ia (by omega) (by omega), e7]
    refine ok_bindv (qrd_t (hL.l 114 rfl) (by omega) (by omega)) ?_
    rw [e8, show (7 * (t : Int) + v.toInt).toNat = 7 * t + v.toInt.toNat by omega]
    refine ok_if (fun c2 => ?_) (fun c2 => ?_)
    · refine ok_some ?_
      show ok (some v) _
      exact ok_some (Or.inr ⟨v.toInt.toNat, by omega, by omega, c2⟩)
    · refine ok_some ?_
      have ev : (v + 1).toInt = v.toInt + 1 := by rw [ia (by rw [i1]; omega) (by rw [i1]; omega), i1]
      refine ⟨⟨by omega, by omega, fun i hi => ?_⟩, ?_⟩
      · by_cases hiv : (i : Int) < v.toInt
        · exact v3 i hiv
        · rw [show i = v.toInt.toNat by omega]; exact c2
      · show (8 - (v + 1).toInt).toNat < (8 - v.toInt).toNat
        omega
