/-! READS OF THE TABLE: what both sides hold alike of it (the first half of the table's invariant) -/
def TabA (I : qI) : Prop :=
  I 4 6 = I 111 10 ∧ I 8 0 = I 111 9 ∧ 0 ≤ (I 111 10).toInt ∧ (I 111 10).toInt ≤ 6 ∧ 0 ≤ (I 111 9).toInt ∧ (I 111 9).toInt ≤ 42 ∧
  (∀ i : Nat, (i : Int) < (I 111 9).toInt → I 9 i = I 118 i) ∧
  (∀ m : Nat, (m : Int) < (I 111 10).toInt → I 6 m = I 119 m ∧ I 19 m = I 126 m) ∧
  (∀ j : Nat, (j : Int) < (I 111 10).toInt → I 15 j = I 125 j ∧ 0 ≤ (I 125 j).toInt ∧ (I 125 j).toInt < (I 111 10).toInt) ∧
  I 18 0 = I 111 20
theorem sim_row {R : qR} {I : qI} (hL : LR R) (hT : TabA I) (x : Int32) : SimP (fun I => fX7_row R I 0 x) (fun I => fX8_row R I 111 x) I := by
  obtain ⟨t1, t2, t3, t4, t5, t6, t7, t8, t9, t10⟩ := hT
  generalize hJ : qup I 111 0 0 = J
  have rJ : ∀ a j, ¬ (a = 111 ∧ j = 0) → J a j = I a j := fun a j g2 => by rw [← hJ, qup_off (by omega)]
  unfold SimP
  rw [hJ]
  show ∃ r, fX7_row R I 0 x = some r ∧ fX8_row R I 111 x = some (r, J)
  unfold fX7_row fX8_row fX4_hasRow fX4_stationOf
  simp only [qlet]
  rw [hJ, hL.p 0 2 rfl]
  simp only [Option.bind_some]
  rw [hL.p 4 3 rfl]
  simp only [Option.bind_some]
  rw [rJ 111 9 (by omega), t2]
  by_cases c0 : x < 0
  · rw [if_pos c0, if_pos c0]
    exact ⟨_, rfl, rfl⟩
  · rw [if_neg c0, if_neg c0]
    by_cases c1 : I 111 9 ≤ x
    · rw [if_pos c1, if_pos c1]
      exact ⟨_, rfl, rfl⟩
    · rw [if_neg c1, if_neg c1]
      rw [ilt, i0] at c0
      rw [ile] at c1
      simp only [Option.bind_some]
      rw [if_neg (show ¬ (1 : Int32) = 0 by decide), hL.p 8 1 rfl, hL.p 111 11 rfl]
      simp only [Option.bind_some]
      rw [qrd_t (hL.l 9 rfl) (by omega) (by omega), qrd_t (hL.l 118 rfl) (by omega) (by omega), rJ _ _ (by omega), t7 _ (by omega)]
      exact ⟨_, rfl, rfl⟩
theorem sim_lanes {R : qR} {I : qI} (hL : LR R) (hT : TabA I) : SimP (fun I => fX7_lanes R I 0) (fun I => fX8_lanes R I 111) I := by
  obtain ⟨t1, t2, t3, t4, t5, t6, t7, t8, t9, t10⟩ := hT
  generalize hJ : qup I 111 0 0 = J
  have rJ : ∀ a j, ¬ (a = 111 ∧ j = 0) → J a j = I a j := fun a j g2 => by rw [← hJ, qup_off (by omega)]
  unfold SimP
  rw [hJ]
  show ∃ r, fX7_lanes R I 0 = some r ∧ fX8_lanes R I 111 = some (r, J)
  unfold fX7_lanes fX8_lanes fX4_isMade fX4_laneCount
  simp only [qlet]
  rw [hJ, hL.p 0 2 rfl]
  simp only [Option.bind_some]
  rw [t1, rJ 111 10 (by omega), rJ 111 20 (by omega)]
  by_cases c0 : (I 111 10).toInt = 0
  · rw [if_pos (show I 111 10 ≤ 0 by rw [ile, i0]; omega), if_pos (show I 111 10 = 0 by rw [ieq, i0]; omega)]
    exact ⟨_, rfl, rfl⟩
  · rw [if_neg (show ¬ I 111 10 ≤ 0 by rw [ile, i0]; omega), if_neg (show ¬ I 111 10 = 0 by rw [ieq, i0]; omega)]
    simp only [Option.bind_some]
    rw [if_neg (show ¬ (1 : Int32) = 0 by decide), hL.p 4 5 rfl]
    simp only [Option.bind_some]
    exact ⟨_, rfl, by rw [t10]⟩
theorem sim_column {R : qR} {I : qI} (hL : LR R) (hT : TabA I) (x : Int32) : SimP (fun I => fX7_column R I 0 x) (fun I => fX8_column R I 111 x) I := by
  obtain ⟨t1, t2, t3, t4, t5, t6, t7, t8, t9, t10⟩ := hT
  generalize hJ : qup I 111 0 0 = J
  have rJ : ∀ a j, ¬ (a = 111 ∧ j = 0) → J a j = I a j := fun a j g2 => by rw [← hJ, qup_off (by omega)]
  unfold SimP
  rw [hJ]
  show ∃ r, fX7_column R I 0 x = some r ∧ fX8_column R I 111 x = some (r, J)
  unfold fX7_column fX8_column fX4_hasColumn fX4_trainOf fX8_isColumn
  simp only [qlet]
  rw [hJ, hL.p 0 2 rfl]
  simp only [Option.bind_some]
  rw [t1, rJ 111 10 (by omega)]
  by_cases c0 : x < 0
  · rw [if_pos c0]
    exact ⟨_, rfl, rfl⟩
  · rw [if_neg c0]
    by_cases c1 : I 111 10 ≤ x
    · rw [if_pos c1]
      exact ⟨_, rfl, rfl⟩
    · rw [if_neg c1]
      rw [ilt, i0] at c0
      rw [ile] at c1
      simp only [Option.bind_some]
      rw [if_neg (show ¬ (1 : Int32) = 0 by decide), hL.p 4 1 rfl, hL.p 4 4 rfl, hL.p 111 12 rfl, hL.p 111 18 rfl, if_neg (show ¬ (1 : Int32) = 0 by decide)]
      simp only [Option.bind_some]
      rw [hL.p 14 0 rfl]
      simp only [Option.bind_some]
      have k9 := t9 x.toInt.toNat (by omega)
      rw [qrd_t (hL.l 15 rfl) (by omega) (by omega), qrd_t (hL.l 125 rfl) (by omega) (by omega), rJ _ _ (by omega), k9.1]
      simp only [Option.bind_some]
      rw [qrd_t (hL.l 6 rfl) k9.2.1 (by omega), qrd_t (hL.l 119 rfl) k9.2.1 (by omega), rJ _ _ (by omega), (t8 _ (by omega)).1]
      exact ⟨_, rfl, rfl⟩
theorem sim_lane {R : qR} {I : qI} (hL : LR R) (hT : TabA I) (x : Int32) : SimP (fun I => fX7_lane R I 0 x) (fun I => fX8_lane R I 111 x) I := by
  obtain ⟨t1, t2, t3, t4, t5, t6, t7, t8, t9, t10⟩ := hT
  generalize hJ : qup I 111 0 0 = J
  have rJ : ∀ a j, ¬ (a = 111 ∧ j = 0) → J a j = I a j := fun a j g2 => by rw [← hJ, qup_off (by omega)]
  unfold SimP
  rw [hJ]
  show ∃ r, fX7_lane R I 0 x = some r ∧ fX8_lane R I 111 x = some (r, J)
  unfold fX7_lane fX8_lane fX4_hasColumn fX4_laneOf fX8_isColumn
  simp only [qlet]
  rw [hJ, hL.p 0 2 rfl]
  simp only [Option.bind_some]
  rw [t1, rJ 111 10 (by omega)]
  by_cases c0 : x < 0
  · rw [if_pos c0]
    exact ⟨_, rfl, rfl⟩
  · rw [if_neg c0]
    by_cases c1 : I 111 10 ≤ x
    · rw [if_pos c1]
      exact ⟨_, rfl, rfl⟩
    · rw [if_neg c1]
      rw [ilt, i0] at c0
      rw [ile] at c1
      simp only [Option.bind_some]
      rw [if_neg (show ¬ (1 : Int32) = 0 by decide), hL.p 4 5 rfl, hL.p 4 4 rfl, hL.p 111 19 rfl, hL.p 111 18 rfl, if_neg (show ¬ (1 : Int32) = 0 by decide)]
      simp only [Option.bind_some]
      rw [hL.p 18 1 rfl, hL.p 14 0 rfl]
      simp only [Option.bind_some]
      have k9 := t9 x.toInt.toNat (by omega)
      rw [qrd_t (hL.l 15 rfl) (by omega) (by omega), qrd_t (hL.l 125 rfl) (by omega) (by omega), rJ _ _ (by omega), k9.1]
      simp only [Option.bind_some]
      rw [qrd_t (hL.l 19 rfl) k9.2.1 (by omega), qrd_t (hL.l 126 rfl) k9.2.1 (by omega), rJ _ _ (by omega), (t8 _ (by omega)).2]
      exact ⟨_, rfl, rfl⟩
