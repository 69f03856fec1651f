/-! THE BOOK: what class (cells 0, 61 ..) and reference (cells 111 ..) hold alike -/
def tOk (I : qI) (t : Nat) : Prop :=
  I (61 + 5 * t) 1 = I 113 t ∧ 0 ≤ (I 113 t).toInt ∧ (I 113 t).toInt ≤ 7 ∧
  (∀ i : Nat, (i : Int) < (I 113 t).toInt → I (61 + 5 * t + 1) i = I 114 (7 * t + i) ∧ I (61 + 5 * t + 2) i = I 115 (7 * t + i) ∧ I (61 + 5 * t + 3) i = I 116 (7 * t + i)) ∧
  (∀ i : Nat, (i : Int) < (I 113 t).toInt → 0 ≤ (I 114 (7 * t + i)).toInt ∧ (I 114 (7 * t + i)).toInt < 12 ∧ 0 ≤ (I 115 (7 * t + i)).toInt ∧ (I 115 (7 * t + i)).toInt ≤ (I 116 (7 * t + i)).toInt ∧ (I 116 (7 * t + i)).toInt < 1440) ∧
  (∀ i : Nat, (i : Int) + 1 < (I 113 t).toInt → (I 116 (7 * t + i)).toInt < (I 115 (7 * t + (i + 1))).toInt) ∧
  (∀ i : Nat, (i : Int) < (I 113 t).toInt → (I (61 + 5 * t + 4) (I 114 (7 * t + i)).toInt.toNat).toInt = i) ∧
  (∀ s : Nat, s < 12 → (∀ i : Nat, (i : Int) < (I 113 t).toInt → (I 114 (7 * t + i)).toInt ≠ s) → (I (61 + 5 * t + 4) s).toInt = -1)
def BookInv (I : qI) : Prop :=
  I 0 4 = I 111 1 ∧ I 0 5 = I 111 2 ∧ 0 ≤ (I 111 1).toInt ∧ (I 111 1).toInt ≤ 10 ∧ 0 ≤ (I 111 2).toInt ∧ (I 111 2).toInt ≤ 60 ∧
  (∀ t : Nat, t < 10 → tOk I t) ∧
  (∀ t : Nat, (t : Int) < (I 111 1).toInt → I (61 + 5 * t) 0 = I 112 t ∧ 1 ≤ (I 112 t).toInt ∧ (I 112 t).toInt ≤ 127) ∧
  (∀ t : Nat, t < 10 → (I 111 1).toInt ≤ t → (I 113 t).toInt = 0)
def SignInv (I : qI) : Prop := (∀ i : Nat, i < 7 → I 117 i = Int32.ofNat (2 ^ i)) ∧ (∀ i : Nat, i < 6 → I 117 (7 + i) = I 3 i ∧ 0 ≤ (I 3 i).toInt ∧ (I 3 i).toInt ≤ 127)
/-- what the table's part reads is the same -/
def TSame (I I2 : qI) : Prop := (∀ a, (4 ≤ a ∧ a ≤ 50 ∨ 118 ≤ a ∧ a ≤ 126 ∨ 138 ≤ a) → I2 a = I a) ∧ I2 111 9 = I 111 9 ∧ I2 111 10 = I 111 10 ∧ I2 111 20 = I 111 20
theorem TSame.rf {I : qI} : TSame I I := ⟨fun _ _ => rfl, rfl, rfl, rfl⟩
theorem TSame.trans {I I2 I3 : qI} (h : TSame I I2) (h2 : TSame I2 I3) : TSame I I3 := ⟨fun a ha => (h2.1 a ha).trans (h.1 a ha), h2.2.1.trans h.2.1, h2.2.2.1.trans h.2.2.1, h2.2.2.2.trans h.2.2.2⟩
theorem TSame.up {I : qI} {a j : Nat} {v : Int32} (h : (a < 4 ∨ 51 ≤ a ∧ a < 111 ∨ 112 ≤ a ∧ a < 118 ∨ 127 ≤ a ∧ a < 138) ∨ a = 111 ∧ j ≠ 9 ∧ j ≠ 10 ∧ j ≠ 20) : TSame I (qup I a j v) := by
  refine ⟨fun b hb => qup_ne I j v (by omega), ?_, ?_, ?_⟩ <;> exact qup_off (by omega)
/-- the book reads only these -/
theorem tOk.congr {I I2 : qI} {t : Nat} (h : tOk I t) (e1 : ∀ r j, r < 5 → ¬ (r = 0 ∧ j = 0) → I2 (61 + 5 * t + r) j = I (61 + 5 * t + r) j) (e2 : I2 113 t = I 113 t) (e3 : ∀ i, I2 114 (7 * t + i) = I 114 (7 * t + i)) (e4 : ∀ i, I2 115 (7 * t + i) = I 115 (7 * t + i)) (e5 : ∀ i, I2 116 (7 * t + i) = I 116 (7 * t + i)) : tOk I2 t := by
  have a0 : I2 (61 + 5 * t) 1 = I (61 + 5 * t) 1 := e1 0 1 (by omega) (by omega)
  have a1 : ∀ j, I2 (61 + 5 * t + 1) j = I (61 + 5 * t + 1) j := fun j => e1 1 j (by omega) (by omega)
  have a2 : ∀ j, I2 (61 + 5 * t + 2) j = I (61 + 5 * t + 2) j := fun j => e1 2 j (by omega) (by omega)
  have a3 : ∀ j, I2 (61 + 5 * t + 3) j = I (61 + 5 * t + 3) j := fun j => e1 3 j (by omega) (by omega)
  have a4 : ∀ j, I2 (61 + 5 * t + 4) j = I (61 + 5 * t + 4) j := fun j => e1 4 j (by omega) (by omega)
  unfold tOk
  simp only [a0, a1, a2, a3, a4, e2, e3, e4, e5]
  exact h
theorem BookInv.congr {I I2 : qI} (h : BookInv I) (e : ∀ a, (61 ≤ a ∧ a < 111 ∨ 112 ≤ a ∧ a ≤ 116) → I2 a = I a) (e1 : I2 0 4 = I 0 4) (e2 : I2 0 5 = I 0 5) (e3 : I2 111 1 = I 111 1) (e4 : I2 111 2 = I 111 2) : BookInv I2 := by
  obtain ⟨h1, h2, h3, h4, h5, h6, h7, h8, h9⟩ := h
  have c112 := e 112 (by omega)
  have c113 := e 113 (by omega)
  have c114 := e 114 (by omega)
  have c115 := e 115 (by omega)
  have c116 := e 116 (by omega)
  refine ⟨by rw [e1, e3, h1], by rw [e2, e4, h2], by rw [e3]; exact h3, by rw [e3]; exact h4, by rw [e4]; exact h5, by rw [e4]; exact h6, fun t ht => (h7 t ht).congr (fun r j hr _ => by rw [e _ (by omega)]) (by rw [c113]) (fun i => by rw [c114]) (fun i => by rw [c115]) (fun i => by rw [c116]), fun t ht => ?_, fun t ht h => ?_⟩
  · rw [e3] at ht
    rw [c112, e _ (by omega)]
    exact h8 t ht
  · rw [e3] at h
    rw [c113]
    exact h9 t ht h
theorem SignInv.congr {I I2 : qI} (h : SignInv I) (e1 : I2 3 = I 3) (e2 : I2 117 = I 117) : SignInv I2 := by
  unfold SignInv
  rw [e1, e2]
  exact h
/-- one call on both sides: the same answer, the book and the signs go on, the table's cells stay -/
def Sim (fx fm : qI → Option (Int32 × qI)) (I : qI) : Prop := ∃ r I1 I2, fx I = some (r, I1) ∧ fm I1 = some (r, I2) ∧ BookInv I2 ∧ SignInv I2 ∧ TSame I I2
/-- nothing changes but 'told' -/
theorem same_told {I : qI} (hB : BookInv I) (hS : SignInv I) (v : Int32) : BookInv (qup I 111 0 v) ∧ SignInv (qup I 111 0 v) ∧ TSame I (qup I 111 0 v) :=
  ⟨hB.congr (fun a ha => qup_ne _ _ _ (by omega)) (qup_off (by omega)) (qup_off (by omega)) (qup_off (by omega)) (qup_off (by omega)), hS.congr (qup_ne _ _ _ (by omega)) (qup_ne _ _ _ (by omega)), TSame.up (by omega)⟩
theorem areDays_eq (R : qR) (I : qI) (x : Int32) : fX7_areDays R I x = some (if 1 ≤ x.toInt ∧ x.toInt ≤ 127 then 1 else 0) := by
  unfold fX7_areDays
  simp only [ile, ilt, i0, i127]
  split
  · rw [if_neg (by omega)]
  · split
    · rw [if_neg (by omega)]
    · rw [if_pos (by omega)]
theorem isDays_eq (R : qR) (I : qI) (a : Nat) (x : Int32) : fX8_isDays R I a x = some (if 1 ≤ x.toInt ∧ x.toInt ≤ 127 then 1 else 0) := by
  unfold fX8_isDays
  simp only [ilt, i1, i127]
  split
  · rw [if_neg (by omega)]
  · split
    · rw [if_neg (by omega)]
    · rw [if_pos (by omega)]
theorem sim_train {R : qR} {I : qI} (hL : LR R) (hB : BookInv I) (hS : SignInv I) (x : Int32) : Sim (fun I => fX7_train R I 0 x) (fun I => fX8_train R I 111 x) I := by
  obtain ⟨h1, h2, h3, h4, h5, h6, h7, h8, h9⟩ := id hB
  have hn4 : (I 0 4).toInt = (I 111 1).toInt := by rw [h1]
  by_cases hd : 1 ≤ x.toInt ∧ x.toInt ≤ 127
  · by_cases hn : (I 111 1).toInt < 10
    · -- a train comes
      obtain ⟨n, hnn⟩ : ∃ n : Nat, (I 111 1).toInt = n := ⟨(I 111 1).toInt.toNat, by omega⟩
      have hra : qra R 1 (I 0 4) = some (61 + 5 * n) := by
        rw [qra_t (hL.l 1 rfl) (by omega) (by omega), hn4, hnn]
        exact hL.p 1 _ (lP_t1 (by omega))
      generalize hI1 : qup (qup I (61 + 5 * n) 0 x) 0 4 (I 0 4 + 1) = I1
      have ex : fX7_train R I 0 x = some (I 0 4 + 1 - 1, I1) := by
        unfold fX7_train
        rw [areDays_eq, if_pos hd]
        simp only [Option.bind_some]
        rw [if_neg (by decide), if_pos (by rw [ilt, i10]; omega), hL.p 0 0 rfl]
        simp only [Option.bind_some, hra, qlet]
        have e0 : qup I (61 + 5 * n) 0 x 0 4 = I 0 4 := qup_off (by omega)
        rw [e0, hI1]
        have e1 : I1 0 4 = I 0 4 + 1 := by rw [← hI1]; exact qup_on
        rw [e1]
      have r1 : ∀ a j, ¬ (a = 61 + 5 * n ∧ j = 0) → ¬ (a = 0 ∧ j = 4) → I1 a j = I a j := fun a j g1 g2 => by
        rw [← hI1, qup_off (by omega), qup_off (by omega)]
      have e111 : I1 111 1 = I 111 1 := r1 _ _ (by omega) (by omega)
      generalize hI2 : qup (qup (qup I1 111 0 0) 112 n x) 111 1 (I 111 1 + 1) = I2
      have em : fX8_train R I1 111 x = some (I 111 1 + 1 - 1, I2) := by
        unfold fX8_train
        simp only [qlet]
        rw [isDays_eq, if_pos hd]
        simp only [Option.bind_some]
        have e2 : qup I1 111 0 0 111 1 = I 111 1 := by rw [qup_off (by omega), e111]
        rw [if_neg (by decide), e2, if_neg (by rw [ieq, i10]; omega), hL.p 111 3 rfl]
        simp only [Option.bind_some]
        rw [qwr_t (hL.l 112 rfl) (by omega) (by omega)]
        simp only [Option.bind_some]
        have e3 : qup (qup I1 111 0 0) 112 (I 111 1).toInt.toNat x 111 1 = I 111 1 := by rw [qup_off (by omega), e2]
        rw [e3, hnn, Int.toNat_natCast, hI2]
        have e4 : I2 111 1 = I 111 1 + 1 := by rw [← hI2]; exact qup_on
        rw [e4]
      have r2 : ∀ a j, ¬ (a = 61 + 5 * n ∧ j = 0) → ¬ (a = 0 ∧ j = 4) → ¬ (a = 111 ∧ j = 0) → ¬ (a = 112 ∧ j = n) → ¬ (a = 111 ∧ j = 1) → I2 a j = I a j := fun a j g1 g2 g3 g4 g5 => by
        rw [← hI2, qup_off (by omega), qup_off (by omega), qup_off (by omega), r1 a j g1 g2]
      have w1 : I2 111 1 = I 111 1 + 1 := by rw [← hI2]; exact qup_on
      have w2 : I2 112 n = x := by rw [← hI2, qup_off (by omega)]; exact qup_on
      have w3 : I2 (61 + 5 * n) 0 = x := by rw [← hI2, qup_off (by omega), qup_off (by omega), qup_off (by omega), ← hI1, qup_off (by omega)]; exact qup_on
      have w4 : I2 0 4 = I 0 4 + 1 := by rw [← hI2, qup_off (by omega), qup_off (by omega), qup_off (by omega), ← hI1]; exact qup_on
      have wn : (I 111 1 + 1).toInt = n + 1 := by rw [ia (by rw [i1]; omega) (by rw [i1]; omega), i1, hnn]
      refine ⟨_, I1, I2, ex, by rw [h1]; exact em, ⟨?_, ?_, ?_, ?_, ?_, ?_, ?_, ?_, ?_⟩, ?_, ?_, ?_, ?_, ?_⟩
      · rw [w4, w1, h1]
      · rw [r2 0 5 (by omega) (by omega) (by omega) (by omega) (by omega), r2 111 2 (by omega) (by omega) (by omega) (by omega) (by omega), h2]
      · rw [w1, wn]; omega
      · rw [w1, wn]; omega
      · rw [r2 111 2 (by omega) (by omega) (by omega) (by omega) (by omega)]; exact h5
      · rw [r2 111 2 (by omega) (by omega) (by omega) (by omega) (by omega)]; exact h6
      · intro t ht
        refine (h7 t ht).congr (fun r j hr hj => ?_) ?_ ?_ ?_ ?_
        · exact r2 _ _ (by omega) (by omega) (by omega) (by omega) (by omega)
        · exact r2 _ _ (by omega) (by omega) (by omega) (by omega) (by omega)
        · exact fun i => r2 _ _ (by omega) (by omega) (by omega) (by omega) (by omega)
        · exact fun i => r2 _ _ (by omega) (by omega) (by omega) (by omega) (by omega)
        · exact fun i => r2 _ _ (by omega) (by omega) (by omega) (by omega) (by omega)
      · intro t ht
        rw [w1, wn] at ht
        by_cases htn : t = n
        · subst htn
          rw [w3, w2]
          exact ⟨rfl, hd⟩
        · rw [r2 _ _ (by omega) (by omega) (by omega) (by omega) (by omega), r2 112 t (by omega) (by omega) (by omega) (by omega) (by omega)]
          exact h8 t (by omega)
      · intro t ht hle
        rw [w1, wn] at hle
        rw [r2 113 t (by omega) (by omega) (by omega) (by omega) (by omega)]
        exact h9 t ht (by omega)
      · refine hS.congr ?_ ?_ <;> (funext j; exact r2 _ _ (by omega) (by omega) (by omega) (by omega) (by omega))
      · intro a ha; funext j; exact r2 _ _ (by omega) (by omega) (by omega) (by omega) (by omega)
      · exact r2 _ _ (by omega) (by omega) (by omega) (by omega) (by omega)
      · exact r2 _ _ (by omega) (by omega) (by omega) (by omega) (by omega)
      · exact r2 _ _ (by omega) (by omega) (by omega) (by omega) (by omega)
    · refine ⟨-1, I, _, ?_, ?_, same_told hB hS 0⟩
      · show fX7_train R I 0 x = _
        unfold fX7_train
        rw [areDays_eq, if_pos hd]
        simp only [Option.bind_some]
        rw [if_neg (by decide), if_neg (by rw [ilt, i10]; omega)]
      · show fX8_train R I 111 x = _
        unfold fX8_train
        simp only [qlet]
        rw [isDays_eq, if_pos hd]
        simp only [Option.bind_some]
        rw [if_neg (by decide), qup_off (by omega), if_pos (by rw [ieq, i10]; omega)]
  · refine ⟨-1, I, _, ?_, ?_, same_told hB hS 0⟩
    · show fX7_train R I 0 x = _
      unfold fX7_train
      rw [areDays_eq, if_neg hd]
      rfl
    · show fX8_train R I 111 x = _
      unfold fX8_train
      simp only [qlet]
      rw [isDays_eq, if_neg hd]
      rfl
