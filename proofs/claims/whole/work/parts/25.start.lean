/-! THE START meets the invariants -/
theorem make_wt {N : Nat} {q : Nat × qI × qR} (h : fL_make N = some q) : qWT q.2.2 := by
  unfold fL_make at h
  obtain ⟨I1, eI1, h⟩ := qletE h
  obtain ⟨R1, eR1, h⟩ := qletE h
  obtain ⟨_, hc1, h⟩ := qbind h
  obtain ⟨y1, ey1, h⟩ := qbind h
  obtain ⟨_, hc2, h⟩ := qbind h
  obtain ⟨I2, eI2, h⟩ := qletE h
  obtain ⟨R2, eR2, h⟩ := qletE h
  obtain ⟨_, hc3, h⟩ := qbind h
  obtain ⟨y2, ey2, h⟩ := qbind h
  obtain ⟨_, hc4, h⟩ := qbind h
  have hq : (y1.2.2.2.1, y2.1, y2.2) = q := Option.some.inj h
  subst hq
  have W1 := q0WT.z eR1
  have X1 := eX7_init W1 (qok.z eR1) ey1
  have W3 := X1.1.z eR2
  exact (eX8_init W3 (qok.z eR2) ey2).1
theorem lI_z1 : ∀ t, t < 10 → lI (61 + 5 * t) 1 = 0 ∧ lI 113 t = 0 ∧ ∀ s, s < 12 → lI (61 + 5 * t + 4) s = -1 := by decide +kernel
theorem lI_sg : (∀ i, i < 7 → lI 117 i = Int32.ofNat (2 ^ i)) ∧ ∀ i, i < 6 → lI 117 (7 + i) = 0 ∧ lI 3 i = 0 := by decide +kernel
theorem make_ok : ∃ I R, fL_make 300000 = some (111, I, R) ∧ LR R ∧ BookInv I ∧ SignInv I ∧ R.2.2.1 = 138 ∧ R.2.2.2 = 265860 ∧ R.1 8 8 = some 13 ∧ R.1 51 0 = some 52 ∧ ∀ a j, a < 138 → j < 13 → I a j = lI a j := by
  cases hq : fL_make 300000 with
  | none =>
    have := make_chk
    rw [hq] at this
    cases this
  | some q =>
    have hc := make_chk
    rw [hq] at hc
    have hc : lchk q = true := Option.some.inj hc
    have hW := make_wt hq
    obtain ⟨am, I, R⟩ := q
    unfold lchk at hc
    simp only [Bool.and_eq_true, List.all_eq_true, List.mem_range, beq_iff_eq, decide_eq_true_eq] at hc
    obtain ⟨h1, h2, h3, h4⟩ := hc
    have hI : ∀ a j, a < 138 → j < 13 → I a j = lI a j := fun a j ha hj => (h4 a ha).2.2 j hj
    have hP : ∀ a j, a < 138 → j < 35 → R.1 a j = lP a j := fun a j ha hj => (h4 a ha).2.1 j hj
    subst h1
    refine ⟨I, R, rfl, ⟨fun a j ha hj _ _ => hP a j ha hj, fun a ha => (h4 a ha).1, by omega, hW⟩, ⟨?_, ?_, ?_, ?_, ?_, ?_, fun t ht => ?_, fun t ht => ?_, fun t ht _ => ?_⟩, ⟨fun i hi => ?_, fun i hi => ?_⟩, h2, h3, ?_, ?_, hI⟩
    · rw [hI 0 4 (by omega) (by omega), hI 111 1 (by omega) (by omega)]; rfl
    · rw [hI 0 5 (by omega) (by omega), hI 111 2 (by omega) (by omega)]; rfl
    · rw [hI 111 1 (by omega) (by omega)]; decide
    · rw [hI 111 1 (by omega) (by omega)]; decide
    · rw [hI 111 2 (by omega) (by omega)]; decide
    · rw [hI 111 2 (by omega) (by omega)]; decide
    · obtain ⟨z1, z2, z3⟩ := lI_z1 t ht
      have e3 : I 113 t = 0 := by rw [hI 113 t (by omega) (by omega), z2]
      have e4 : (I 113 t).toInt = 0 := by rw [e3]; exact i0
      refine ⟨?_, by omega, by omega, fun i hi => by omega, fun i hi => by omega, fun i hi => by omega, fun i hi => by omega, fun s hs _ => ?_⟩
      · rw [hI _ 1 (by omega) (by omega), z1, e3]
      · rw [hI _ s (by omega) (by omega), z3 s hs]; exact im1
    · rw [hI 111 1 (by omega) (by omega), show lI 111 1 = 0 from rfl, i0] at ht
      omega
    · rw [hI 113 t (by omega) (by omega), (lI_z1 t ht).2.1]; exact i0
    · rw [hI 117 i (by omega) (by omega)]; exact lI_sg.1 i hi
    · have := lI_sg.2 i hi
      rw [hI 117 (7 + i) (by omega) (by omega), hI 3 i (by omega) (by omega), this.1, this.2]
      exact ⟨rfl, by decide, by decide⟩
    · exact hP 8 8 (by omega) (by omega)
    · exact hP 51 0 (by omega) (by omega)
