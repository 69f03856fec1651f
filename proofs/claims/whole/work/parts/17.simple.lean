/-! CALLS THAT CHANGE ONE TRAIN, THE SIGNS, THE CHANGE -/
theorem tOk.congr7 {I I2 : qI} {t : Nat} (h : tOk I t) (e1 : ∀ r j, r < 5 → I2 (61 + 5 * t + r) j = I (61 + 5 * t + r) j) (e2 : I2 113 t = I 113 t) (e3 : ∀ i, i < 7 → I2 114 (7 * t + i) = I 114 (7 * t + i) ∧ I2 115 (7 * t + i) = I 115 (7 * t + i) ∧ I2 116 (7 * t + i) = I 116 (7 * t + i)) : tOk I2 t := by
  obtain ⟨h1, h2, h3, h4, h5, h6, h7, h8⟩ := h
  have a0 : ∀ j, I2 (61 + 5 * t) j = I (61 + 5 * t) j := fun j => e1 0 j (by omega)
  have a1 : ∀ j, I2 (61 + 5 * t + 1) j = I (61 + 5 * t + 1) j := fun j => e1 1 j (by omega)
  have a2 : ∀ j, I2 (61 + 5 * t + 2) j = I (61 + 5 * t + 2) j := fun j => e1 2 j (by omega)
  have a3 : ∀ j, I2 (61 + 5 * t + 3) j = I (61 + 5 * t + 3) j := fun j => e1 3 j (by omega)
  have a4 : ∀ j, I2 (61 + 5 * t + 4) j = I (61 + 5 * t + 4) j := fun j => e1 4 j (by omega)
  unfold tOk
  simp only [a0, a1, a2, a3, a4, e2]
  refine ⟨h1, h2, h3, fun i hi => ?_, fun i hi => ?_, fun i hi => ?_, fun i hi => ?_, fun s hs hn => ?_⟩
  · obtain ⟨b1, b2, b3⟩ := e3 i (by omega)
    rw [b1, b2, b3]; exact h4 i hi
  · obtain ⟨b1, b2, b3⟩ := e3 i (by omega)
    rw [b1, b2, b3]; exact h5 i hi
  · rw [(e3 i (by omega)).2.2, (e3 (i + 1) (by omega)).2.1]; exact h6 i hi
  · rw [(e3 i (by omega)).1]; exact h7 i hi
  · exact h8 s hs (fun i hi => by rw [← (e3 i (by omega)).1]; exact hn i hi)
/-- a train t has changed, nothing else -/
theorem book_train {I I2 : qI} {t : Nat} (hB : BookInv I) (hS : SignInv I) (ht : (t : Int) < (I 111 1).toInt) (r : ∀ a j, ¬ (61 + 5 * t ≤ a ∧ a < 66 + 5 * t) → ¬ (a = 111 ∧ j = 0) → ¬ ((a = 112 ∨ a = 113) ∧ j = t) → ¬ (114 ≤ a ∧ a ≤ 116 ∧ 7 * t ≤ j ∧ j < 7 * t + 7) → I2 a j = I a j)
    (h1 : tOk I2 t) (h2 : I2 (61 + 5 * t) 0 = I2 112 t ∧ 1 ≤ (I2 112 t).toInt ∧ (I2 112 t).toInt ≤ 127) : BookInv I2 ∧ SignInv I2 ∧ TSame I I2 := by
  obtain ⟨b1, b2, b3, b4, b5, b6, b7, b8, b9⟩ := hB
  have e1 : I2 111 1 = I 111 1 := r _ _ (by omega) (by omega) (by omega) (by omega)
  have e2 : I2 111 2 = I 111 2 := r _ _ (by omega) (by omega) (by omega) (by omega)
  refine ⟨⟨?_, ?_, ?_, ?_, ?_, ?_, ?_, ?_, ?_⟩, ?_, ?_, ?_, ?_, ?_⟩
  · rw [r 0 4 (by omega) (by omega) (by omega) (by omega), e1, b1]
  · rw [r 0 5 (by omega) (by omega) (by omega) (by omega), e2, b2]
  · rw [e1]; exact b3
  · rw [e1]; exact b4
  · rw [e2]; exact b5
  · rw [e2]; exact b6
  · intro u hu
    by_cases hut : u = t
    · subst hut; exact h1
    · refine (b7 u hu).congr7 (fun q j hq => ?_) ?_ (fun i hi => ⟨?_, ?_, ?_⟩)
      · exact r _ _ (by omega) (by omega) (by omega) (by omega)
      · exact r _ _ (by omega) (by omega) (by omega) (by omega)
      · exact r _ _ (by omega) (by omega) (by omega) (by omega)
      · exact r _ _ (by omega) (by omega) (by omega) (by omega)
      · exact r _ _ (by omega) (by omega) (by omega) (by omega)
  · intro u hu
    rw [e1] at hu
    by_cases hut : u = t
    · subst hut; exact h2
    · rw [r (61 + 5 * u) 0 (by omega) (by omega) (by omega) (by omega), r 112 u (by omega) (by omega) (by omega) (by omega)]
      exact b8 u hu
  · intro u hu hle
    rw [e1] at hle
    rw [r 113 u (by omega) (by omega) (by omega) (by omega)]
    exact b9 u hu hle
  · refine hS.congr ?_ ?_ <;> (funext j; exact r _ _ (by omega) (by omega) (by omega) (by omega))
  · intro a ha; funext j; exact r _ _ (by omega) (by omega) (by omega) (by omega)
  · exact r _ _ (by omega) (by omega) (by omega) (by omega)
  · exact r _ _ (by omega) (by omega) (by omega) (by omega)
  · exact r _ _ (by omega) (by omega) (by omega) (by omega)
def isT (I : qI) (x : Int32) : Prop := 0 ≤ x.toInt ∧ x.toInt < (I 111 1).toInt
theorem trainOf_yes {R : qR} {I : qI} (hL : LR R) (hB : BookInv I) {x : Int32} (h : isT I x) : fX7_trainOf R I 0 x = some (some (61 + 5 * x.toInt.toNat)) := by
  obtain ⟨g1, g2⟩ := h
  have hn : (I 0 4).toInt = (I 111 1).toInt := by rw [hB.1]
  have h4 := hB.2.2.2.1
  unfold fX7_trainOf
  rw [if_neg (by rw [ilt, i0]; omega), if_neg (by rw [ile]; omega), hL.p 0 0 rfl]
  simp only [Option.bind_some]
  rw [qra_t (hL.l 1 rfl) (by omega) (by omega), hL.p 1 x.toInt.toNat (lP_t1 (by omega)) (by omega) (by omega)]
  rfl
theorem trainOf_no {R : qR} {I : qI} (hB : BookInv I) {x : Int32} (h : ¬ isT I x) : fX7_trainOf R I 0 x = some none := by
  have hn : (I 0 4).toInt = (I 111 1).toInt := by rw [hB.1]
  unfold fX7_trainOf
  by_cases h0 : x.toInt < 0
  · rw [if_pos (by rw [ilt, i0]; exact h0)]
  · rw [if_neg (by rw [ilt, i0]; exact h0), if_pos]
    rw [ile, hn]
    exact Int.not_lt.mp fun q => h ⟨by omega, q⟩
theorem isTrain_yes {R : qR} {I : qI} {x : Int32} (h : isT I x) : fX8_isTrain R I 111 x = some 1 := by
  obtain ⟨g1, g2⟩ := h
  unfold fX8_isTrain
  rw [if_neg (by rw [ilt, i0]; omega), if_neg (by rw [ile]; omega)]
theorem isTrain_no {R : qR} {I : qI} {x : Int32} (h : ¬ isT I x) : fX8_isTrain R I 111 x = some 0 := by
  unfold fX8_isTrain
  by_cases h0 : x.toInt < 0
  · rw [if_pos (by rw [ilt, i0]; exact h0)]
  · rw [if_neg (by rw [ilt, i0]; exact h0), if_pos]
    rw [ile]
    exact Int.not_lt.mp fun q => h ⟨by omega, q⟩
theorem isT_told {I : qI} {x v : Int32} : isT (qup I 111 0 v) x ↔ isT I x := by
  unfold isT
  rw [qup_off (by omega)]
theorem sim_days {R : qR} {I : qI} (hL : LR R) (hB : BookInv I) (hS : SignInv I) (x y : Int32) : Sim (fun I => fX7_days R I 0 x y) (fun I => fX8_days R I 111 x y) I := by
  by_cases hT : isT I x
  · by_cases hd : 1 ≤ y.toInt ∧ y.toInt ≤ 127
    · obtain ⟨t, htt⟩ : ∃ t : Nat, x.toInt = t := ⟨x.toInt.toNat, by have := hT.1; omega⟩
      have htl : (t : Int) < (I 111 1).toInt := by have := hT.2; omega
      have h10 := hB.2.2.2.1
      have ex : fX7_days R I 0 x y = some (1, qup I (61 + 5 * t) 0 y) := by
        unfold fX7_days
        rw [trainOf_yes hL hB hT]
        simp only [Option.bind_some, qopt, areDays_eq]
        rw [if_pos hd, if_neg (by decide), htt]
        rfl
      have em : fX8_days R (qup I (61 + 5 * t) 0 y) 111 x y = some (1, qup (qup (qup I (61 + 5 * t) 0 y) 111 0 0) 112 t y) := by
        unfold fX8_days
        simp only [qlet]
        rw [isTrain_yes (by unfold isT; rw [qup_off (by omega), qup_off (by omega)]; exact hT)]
        simp only [Option.bind_some, isDays_eq]
        rw [if_neg (by decide), if_pos hd, if_neg (by decide), hL.p 111 3 rfl]
        simp only [Option.bind_some]
        rw [qwr_t (hL.l 112 rfl) (by omega) (by omega), htt]
        rfl
      refine ⟨1, _, _, ex, em, book_train hB hS htl (fun a j g1 g2 g3 g4 => ?_) ?_ ?_⟩
      · rw [qup_off (by omega), qup_off (by omega), qup_off (by omega)]
      · refine (hB.2.2.2.2.2.2.1 t (by omega)).congr (fun r j hr hj => ?_) ?_ ?_ ?_ ?_
        · rw [qup_off (by omega), qup_off (by omega), qup_off (by omega)]
        · rw [qup_off (by omega), qup_off (by omega), qup_off (by omega)]
        · exact fun i => by rw [qup_off (by omega), qup_off (by omega), qup_off (by omega)]
        · exact fun i => by rw [qup_off (by omega), qup_off (by omega), qup_off (by omega)]
        · exact fun i => by rw [qup_off (by omega), qup_off (by omega), qup_off (by omega)]
      · have w1 : qup (qup (qup I (61 + 5 * t) 0 y) 111 0 0) 112 t y 112 t = y := qup_on
        have w2 : qup (qup (qup I (61 + 5 * t) 0 y) 111 0 0) 112 t y (61 + 5 * t) 0 = y := by rw [qup_off (by omega), qup_off (by omega)]; exact qup_on
        rw [w1, w2]
        exact ⟨rfl, hd⟩
    · refine ⟨0, I, _, ?_, ?_, same_told hB hS 0⟩
      · show fX7_days R I 0 x y = _
        unfold fX7_days
        rw [trainOf_yes hL hB hT]
        simp only [Option.bind_some, qopt, areDays_eq]
        rw [if_neg hd]
        rfl
      · show fX8_days R I 111 x y = _
        unfold fX8_days
        simp only [qlet]
        rw [isTrain_yes (isT_told.mpr hT)]
        simp only [Option.bind_some, isDays_eq]
        rw [if_neg (by decide), if_neg hd]
        rfl
  · refine ⟨0, I, _, ?_, ?_, same_told hB hS 0⟩
    · show fX7_days R I 0 x y = _
      unfold fX7_days
      rw [trainOf_no hB hT]
      rfl
    · show fX8_days R I 111 x y = _
      unfold fX8_days
      simp only [qlet]
      rw [isTrain_no (fun q => hT (isT_told.mp q))]
      rfl
theorem i60 : (60 : Int32).toInt = 60 := by decide
theorem i13 : (13 : Int32).toInt = 13 := by decide
theorem sim_change {R : qR} {I : qI} (hB : BookInv I) (hS : SignInv I) (x : Int32) : Sim (fun I => fX7_change R I 0 x) (fun I => fX8_change R I 111 x) I := by
  by_cases h : 0 ≤ x.toInt ∧ x.toInt ≤ 60
  · obtain ⟨b1, b2, b3, b4, b5, b6, b7, b8, b9⟩ := id hB
    have ex : fX7_change R I 0 x = some (1, qup I 0 5 x) := by
      unfold fX7_change
      rw [if_neg (by rw [ilt, i0]; omega), if_pos (by rw [ile, i60]; omega)]
      rfl
    have em : fX8_change R (qup I 0 5 x) 111 x = some (1, qup (qup (qup I 0 5 x) 111 0 0) 111 2 x) := by
      unfold fX8_change
      simp only [qlet]
      rw [if_neg (by rw [ilt, i0]; omega), if_pos (by rw [ile, i60]; omega)]
    generalize hI2 : qup (qup (qup I 0 5 x) 111 0 0) 111 2 x = I2 at em
    have r : ∀ a j, ¬ (a = 0 ∧ j = 5) → ¬ (a = 111 ∧ j = 0) → ¬ (a = 111 ∧ j = 2) → I2 a j = I a j := fun a j g1 g2 g3 => by rw [← hI2, qup_off (by omega), qup_off (by omega), qup_off (by omega)]
    have w1 : I2 111 2 = x := by rw [← hI2]; exact qup_on
    have w2 : I2 0 5 = x := by rw [← hI2, qup_off (by omega), qup_off (by omega)]; exact qup_on
    have e1 : I2 111 1 = I 111 1 := r _ _ (by omega) (by omega) (by omega)
    refine ⟨1, _, I2, ex, em, ⟨?_, ?_, ?_, ?_, ?_, ?_, ?_, ?_, ?_⟩, ?_, ?_, ?_, ?_, ?_⟩
    · rw [r 0 4 (by omega) (by omega) (by omega), e1, b1]
    · rw [w1, w2]
    · rw [e1]; exact b3
    · rw [e1]; exact b4
    · rw [w1]; exact h.1
    · rw [w1]; exact h.2
    · intro t ht
      exact (b7 t ht).congr (fun q j _ _ => r _ _ (by omega) (by omega) (by omega)) (r _ _ (by omega) (by omega) (by omega)) (fun i => r _ _ (by omega) (by omega) (by omega)) (fun i => r _ _ (by omega) (by omega) (by omega)) (fun i => r _ _ (by omega) (by omega) (by omega))
    · intro t ht
      rw [e1] at ht
      rw [r (61 + 5 * t) 0 (by omega) (by omega) (by omega), r 112 t (by omega) (by omega) (by omega)]
      exact b8 t ht
    · intro t ht hle
      rw [e1] at hle
      rw [r 113 t (by omega) (by omega) (by omega)]
      exact b9 t ht hle
    · refine hS.congr ?_ ?_ <;> (funext j; exact r _ _ (by omega) (by omega) (by omega))
    · intro a ha; funext j; exact r _ _ (by omega) (by omega) (by omega)
    · exact r _ _ (by omega) (by omega) (by omega)
    · exact r _ _ (by omega) (by omega) (by omega)
    · exact r _ _ (by omega) (by omega) (by omega)
  · refine ⟨0, I, _, ?_, ?_, same_told hB hS 0⟩
    · show fX7_change R I 0 x = _
      unfold fX7_change
      by_cases h0 : x.toInt < 0
      · rw [if_pos (by rw [ilt, i0]; exact h0)]
      · rw [if_neg (by rw [ilt, i0]; exact h0), if_neg (by rw [ile, i60]; omega)]
    · show fX8_change R I 111 x = _
      unfold fX8_change
      simp only [qlet]
      by_cases h0 : x.toInt < 0
      · rw [if_pos (by rw [ilt, i0]; exact h0)]
      · rw [if_neg (by rw [ilt, i0]; exact h0), if_neg (by rw [ile, i60]; omega)]
theorem sim_sign {R : qR} {I : qI} (hL : LR R) (hB : BookInv I) (hS : SignInv I) (x y : Int32) : Sim (fun I => fX7_sign R I 0 x y) (fun I => fX8_sign R I 111 x y) I := by
  by_cases hx : 7 ≤ x.toInt ∧ x.toInt < 13
  · by_cases hy : 0 ≤ y.toInt ∧ y.toInt ≤ 127
    · obtain ⟨k, hk⟩ : ∃ k : Nat, x.toInt = 7 + k := ⟨(x.toInt - 7).toNat, by omega⟩
      have ex7 : (x - 7).toInt = k := by rw [isu (by rw [i7]; omega) (by rw [i7]; omega), i7]; omega
      have ex : fX7_sign R I 0 x y = some (1, qup I 3 k y) := by
        unfold fX7_sign
        rw [if_neg (by rw [ilt, i7]; omega), if_neg (by rw [ile, i13]; omega), if_neg (by rw [ilt, i0]; omega), if_pos (by rw [ile, i127]; omega), hL.p 0 1 rfl]
        simp only [Option.bind_some]
        unfold fX3_tell
        rw [hL.p 2 0 rfl]
        simp only [Option.bind_some]
        rw [qwr_t (hL.l 3 rfl) (by omega) (by omega), ex7]
        rfl
      have em : fX8_sign R (qup I 3 k y) 111 x y = some (1, qup (qup (qup I 3 k y) 111 0 0) 117 (7 + k) y) := by
        unfold fX8_sign
        simp only [qlet]
        rw [if_neg (by rw [ilt, i7]; omega), if_neg (by rw [ilt, i12]; omega), if_neg (by rw [ilt, i0]; omega), if_pos (by rw [ile, i127]; omega), hL.p 111 8 rfl]
        simp only [Option.bind_some]
        rw [qwr_t (hL.l 117 rfl) (by omega) (by omega), show x.toInt.toNat = 7 + k by omega]
        rfl
      generalize hI2 : qup (qup (qup I 3 k y) 111 0 0) 117 (7 + k) y = I2 at em
      have r : ∀ a j, ¬ (a = 3 ∧ j = k) → ¬ (a = 111 ∧ j = 0) → ¬ (a = 117 ∧ j = 7 + k) → I2 a j = I a j := fun a j g1 g2 g3 => by rw [← hI2, qup_off (by omega), qup_off (by omega), qup_off (by omega)]
      have w1 : I2 117 (7 + k) = y := by rw [← hI2]; exact qup_on
      have w2 : I2 3 k = y := by rw [← hI2, qup_off (by omega), qup_off (by omega)]; exact qup_on
      refine ⟨1, _, I2, ex, em, ?_, ⟨?_, ?_⟩, ?_, ?_, ?_, ?_⟩
      · exact hB.congr (fun a ha => by funext j; exact r _ _ (by omega) (by omega) (by omega)) (r _ _ (by omega) (by omega) (by omega)) (r _ _ (by omega) (by omega) (by omega)) (r _ _ (by omega) (by omega) (by omega)) (r _ _ (by omega) (by omega) (by omega))
      · intro i hi
        rw [r 117 i (by omega) (by omega) (by omega)]
        exact hS.1 i hi
      · intro i hi
        by_cases hik : i = k
        · subst hik
          rw [w1, w2]
          exact ⟨rfl, hy⟩
        · rw [r 117 (7 + i) (by omega) (by omega) (by omega), r 3 i (by omega) (by omega) (by omega)]
          exact hS.2 i hi
      · intro a ha; funext j; exact r _ _ (by omega) (by omega) (by omega)
      · exact r _ _ (by omega) (by omega) (by omega)
      · exact r _ _ (by omega) (by omega) (by omega)
      · exact r _ _ (by omega) (by omega) (by omega)
    · refine ⟨0, I, _, ?_, ?_, same_told hB hS 0⟩
      · show fX7_sign R I 0 x y = _
        unfold fX7_sign
        rw [if_neg (by rw [ilt, i7]; omega), if_neg (by rw [ile, i13]; omega)]
        by_cases h0 : y.toInt < 0
        · rw [if_pos (by rw [ilt, i0]; exact h0)]
        · rw [if_neg (by rw [ilt, i0]; exact h0), if_neg (by rw [ile, i127]; omega)]
      · show fX8_sign R I 111 x y = _
        unfold fX8_sign
        simp only [qlet]
        rw [if_neg (by rw [ilt, i7]; omega), if_neg (by rw [ilt, i12]; omega)]
        by_cases h0 : y.toInt < 0
        · rw [if_pos (by rw [ilt, i0]; exact h0)]
        · rw [if_neg (by rw [ilt, i0]; exact h0), if_neg (by rw [ile, i127]; omega)]
  · refine ⟨0, I, _, ?_, ?_, same_told hB hS 0⟩
    · show fX7_sign R I 0 x y = _
      unfold fX7_sign
      by_cases h0 : x.toInt < 7
      · rw [if_pos (by rw [ilt, i7]; exact h0)]
      · rw [if_neg (by rw [ilt, i7]; exact h0), if_pos (by rw [ile, i13]; omega)]
    · show fX8_sign R I 111 x y = _
      unfold fX8_sign
      simp only [qlet]
      by_cases h0 : x.toInt < 7
      · rw [if_pos (by rw [ilt, i7]; exact h0)]
      · rw [if_neg (by rw [ilt, i7]; exact h0), if_pos (by rw [ilt, i12]; omega)]
