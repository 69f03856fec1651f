/-! WAYS: what can be reached -/
noncomputable def ind (P : Prop) : Nat := @ite Nat P (Classical.propDecidable P) 1 0
theorem ind_t {P : Prop} (h : P) : ind P = 1 := by unfold ind; exact if_pos h
theorem ind_f {P : Prop} (h : ¬ P) : ind P = 0 := by unfold ind; exact if_neg h
theorem ind_le {P Q : Prop} (h : P → Q) : ind P ≤ ind Q := by
  by_cases hp : P
  · rw [ind_t hp, ind_t (h hp)]; exact Nat.le_refl _
  · rw [ind_f hp]; exact Nat.zero_le _
section WAYS
variable (n : Nat) (NS : Nat → Nat) (ST CT GT : Nat → Nat → Nat) (rn : Nat → Prop) (W F : Nat)
def wb : Prop := n ≤ 10 ∧ W ≤ 60 ∧ F < 12 ∧ (∀ t, rn t → t < n) ∧ ∀ t, t < n → NS t ≤ 7 ∧ (∀ i, i < NS t → ST t i < 12 ∧ CT t i ≤ GT t i ∧ GT t i < 1440) ∧ (∀ i, i + 1 < NS t → GT t i < CT t (i + 1)) ∧ ∀ i j, i < NS t → j < NS t → ST t i = ST t j → i = j
def fb (M t i : Nat) : Prop := ST t i = F ∧ M ≤ GT t i
def rc (M : Nat) : Nat → Nat → Nat → Prop
  | 0, _, _ => False
  | k + 1, t, j => rn t ∧ j < NS t ∧ ∃ i, i < j ∧ (fb ST GT F M t i ∨ ∃ u j2, rc M k u j2 ∧ ST u j2 = ST t i ∧ CT u j2 + W ≤ GT t i)
def RC (M t j : Nat) : Prop := ∃ k, rc NS ST CT GT rn W F M k t j
def bk (M k t i : Nat) : Prop := fb ST GT F M t i ∨ ∃ u j2, rc NS ST CT GT rn W F M k u j2 ∧ ST u j2 = ST t i ∧ CT u j2 + W ≤ GT t i
def BD (M t i : Nat) : Prop := fb ST GT F M t i ∨ ∃ u j2, RC NS ST CT GT rn W F M u j2 ∧ ST u j2 = ST t i ∧ CT u j2 + W ≤ GT t i
theorem inc (w : wb n NS ST CT GT rn W F) {t : Nat} (ht : t < n) : ∀ d i, i + d + 1 < NS t → GT t i < CT t (i + d + 1) := by
  intro d
  induction d with
  | zero => intro i h; exact (w.2.2.2.2 t ht).2.2.1 i h
  | succ d ih =>
    intro i h
    have h1 := ih i (by omega)
    have h2 := (w.2.2.2.2 t ht).2.2.1 (i + d + 1) (by omega)
    have h3 := ((w.2.2.2.2 t ht).2.1 (i + d + 1) (by omega)).2.1
    show GT t i < CT t (i + d + 1 + 1)
    omega
theorem inc2 (w : wb n NS ST CT GT rn W F) {t i j : Nat} (ht : t < n) (hij : i < j) (hj : j < NS t) : GT t i < CT t j := by
  have := inc n NS ST CT GT rn W F w ht (j - i - 1) i (by omega)
  rw [show i + (j - i - 1) + 1 = j by omega] at this
  exact this
theorem inc3 (w : wb n NS ST CT GT rn W F) {t i j : Nat} (ht : t < n) (hij : i < j) (hj : j < NS t) : GT t i < GT t j := by
  have h1 := inc2 n NS ST CT GT rn W F w ht hij hj
  have h2 := ((w.2.2.2.2 t ht).2.1 j hj).2.1
  omega
theorem rc_up {M : Nat} : ∀ k t j, rc NS ST CT GT rn W F M k t j → rc NS ST CT GT rn W F M (k + 1) t j := by
  intro k
  induction k with
  | zero => intro t j h; exact h.elim
  | succ k ih =>
    intro t j ⟨h1, h2, i, h3, h4⟩
    refine ⟨h1, h2, i, h3, ?_⟩
    rcases h4 with h4 | ⟨u, j2, h5, h6⟩
    · exact Or.inl h4
    · exact Or.inr ⟨u, j2, ih u j2 h5, h6⟩
theorem rc_le {M k m t j : Nat} (hkm : k ≤ m) (h : rc NS ST CT GT rn W F M k t j) : rc NS ST CT GT rn W F M m t j := by
  obtain ⟨d, rfl⟩ : ∃ d, m = k + d := ⟨m - k, by omega⟩
  induction d with
  | zero => exact h
  | succ d ih => exact rc_up NS ST CT GT rn W F _ _ _ (ih (by omega))
theorem RC_iff {M t j : Nat} : RC NS ST CT GT rn W F M t j ↔ rn t ∧ j < NS t ∧ ∃ i, i < j ∧ BD NS ST CT GT rn W F M t i := by
  constructor
  · rintro ⟨k, h⟩
    cases k with
    | zero => exact h.elim
    | succ k =>
      obtain ⟨h1, h2, i, h3, h4⟩ := h
      refine ⟨h1, h2, i, h3, ?_⟩
      rcases h4 with h4 | ⟨u, j2, h5, h6⟩
      · exact Or.inl h4
      · exact Or.inr ⟨u, j2, ⟨k, h5⟩, h6⟩
  · rintro ⟨h1, h2, i, h3, h4⟩
    rcases h4 with h4 | ⟨u, j2, ⟨k, h5⟩, h6⟩
    · exact ⟨1, h1, h2, i, h3, Or.inl h4⟩
    · exact ⟨k + 1, h1, h2, i, h3, Or.inr ⟨u, j2, h5, h6⟩⟩
theorem bk_BD {M k t i : Nat} (h : bk NS ST CT GT rn W F M k t i) : BD NS ST CT GT rn W F M t i := by
  rcases h with h | ⟨u, j2, h5, h6⟩
  · exact Or.inl h
  · exact Or.inr ⟨u, j2, ⟨k, h5⟩, h6⟩
noncomputable def rk (M x : Nat) : Nat := sm (fun u => ind (rn u ∧ ∃ i, i < NS u ∧ BD NS ST CT GT rn W F M u i ∧ GT u i < x)) n
theorem sm_one : ∀ c, sm (fun _ => 1) c = c := by
  intro c
  induction c with
  | zero => rfl
  | succ c ih => rw [sm, ih]
theorem first_bd (w : wb n NS ST CT GT rn W F) (M : Nat) : ∀ x t i, rn t → i < NS t → BD NS ST CT GT rn W F M t i → GT t i = x → ∃ i0, i0 ≤ i ∧ (∀ i2, i2 < i0 → ¬ BD NS ST CT GT rn W F M t i2) ∧ bk NS ST CT GT rn W F M (rk n NS ST CT GT rn W F M (GT t i0)) t i0 := by
  intro x
  induction x using Nat.strongRecOn with
  | ind x ih =>
    intro t i ht hi hb hx
    have htn := w.2.2.2.1 t ht
    obtain ⟨i0, h0, hl⟩ := pk_least (fun i => BD NS ST CT GT rn W F M t i) ⟨i, hb⟩
    have hi0 : i0 ≤ i := Classical.byContradiction (fun q => hl i (by omega) hb)
    refine ⟨i0, hi0, hl, ?_⟩
    rcases h0 with h0 | ⟨u, j2, h5, h6, h7⟩
    · exact Or.inl h0
    · have hg0 : GT t i0 ≤ x := by
        by_cases e : i0 = i
        · rw [e]; omega
        · have := inc3 n NS ST CT GT rn W F w htn (show i0 < i by omega) hi; omega
      obtain ⟨r1, r2, i1, r3, r4⟩ := (RC_iff NS ST CT GT rn W F).mp h5
      have hun := w.2.2.2.1 u r1
      have hgt := inc2 n NS ST CT GT rn W F w hun r3 r2
      obtain ⟨i2, a1, a2, a3⟩ := ih (GT u i1) (by omega) u i1 r1 (by omega) r4 rfl
      have hg2 : GT u i2 ≤ GT u i1 := by
        by_cases e : i2 = i1
        · rw [e]; exact Nat.le_refl _
        · exact Nat.le_of_lt (inc3 n NS ST CT GT rn W F w hun (by omega) (by omega))
      have hr : rk n NS ST CT GT rn W F M (GT u i2) < rk n NS ST CT GT rn W F M (GT t i0) := by
        refine sm_lt n (fun v hv => ind_le ?_) ⟨u, hun, ?_⟩
        · rintro ⟨v1, i3, v2, v3, v4⟩
          exact ⟨v1, i3, v2, v3, by omega⟩
        · show ind _ < ind _
          rw [ind_f, ind_t]
          · omega
          · exact ⟨r1, i2, by omega, bk_BD NS ST CT GT rn W F a3, by omega⟩
          · rintro ⟨_, i3, v2, v3, v4⟩
            refine a2 i3 ?_ v3
            apply Classical.byContradiction
            intro q
            by_cases e : i2 = i3
            · subst e; omega
            · have := inc3 n NS ST CT GT rn W F w hun (show i2 < i3 by omega) v2; omega
      refine Or.inr ⟨u, j2, ?_, h6, h7⟩
      refine rc_le NS ST CT GT rn W F (show rk n NS ST CT GT rn W F M (GT u i2) + 1 ≤ _ by omega) ?_
      exact ⟨r1, r2, i2, by omega, a3⟩
/-- no way needs more trains than there are -/
theorem RC_n (w : wb n NS ST CT GT rn W F) {M t j : Nat} (h : RC NS ST CT GT rn W F M t j) : rc NS ST CT GT rn W F M n t j := by
  obtain ⟨h1, h2, i, h3, h4⟩ := (RC_iff NS ST CT GT rn W F).mp h
  have htn := w.2.2.2.1 t h1
  obtain ⟨i0, a1, a2, a3⟩ := first_bd n NS ST CT GT rn W F w M _ t i h1 (by omega) h4 rfl
  have hr : rk n NS ST CT GT rn W F M (GT t i0) < n := by
    have := sm_lt (f := fun u => ind (rn u ∧ ∃ i, i < NS u ∧ BD NS ST CT GT rn W F M u i ∧ GT u i < GT t i0)) (g := fun _ => 1) n (fun v hv => by
      by_cases q : (rn v ∧ ∃ i, i < NS v ∧ BD NS ST CT GT rn W F M v i ∧ GT v i < GT t i0)
      · show ind _ ≤ 1
        rw [ind_t q]; exact Nat.le_refl _
      · show ind _ ≤ 1
        rw [ind_f q]; omega) ⟨t, htn, by
      show ind _ < 1
      rw [ind_f]
      · omega
      · rintro ⟨_, i3, v2, v3, v4⟩
        refine a2 i3 ?_ v3
        apply Classical.byContradiction
        intro q
        by_cases e : i0 = i3
        · subst e; omega
        · have := inc3 n NS ST CT GT rn W F w htn (show i0 < i3 by omega) v2; omega⟩
    rw [sm_one] at this
    exact this
  exact rc_le NS ST CT GT rn W F (show rk n NS ST CT GT rn W F M (GT t i0) + 1 ≤ n by omega) ⟨h1, h2, i0, by omega, a3⟩
/-- the soonest arrival -/
def SN (M T v : Nat) : Prop := (∃ t j, RC NS ST CT GT rn W F M t j ∧ ST t j = T ∧ CT t j = v) ∧ ∀ t j, RC NS ST CT GT rn W F M t j → ST t j = T → v ≤ CT t j
def SNo (M T : Nat) : Prop := ∀ t j, RC NS ST CT GT rn W F M t j → ST t j ≠ T
theorem SN_or (M T : Nat) : SNo NS ST CT GT rn W F M T ∨ ∃ v, SN NS ST CT GT rn W F M T v := by
  by_cases h : ∃ v t j, RC NS ST CT GT rn W F M t j ∧ ST t j = T ∧ CT t j = v
  · obtain ⟨v, h1, h2⟩ := pk_least (fun v => ∃ t j, RC NS ST CT GT rn W F M t j ∧ ST t j = T ∧ CT t j = v) h
    exact Or.inr ⟨v, h1, fun t j h3 h4 => Classical.byContradiction (fun q => h2 (CT t j) (by omega) ⟨t, j, h3, h4, rfl⟩)⟩
  · exact Or.inl (fun t j h1 h2 => h ⟨_, t, j, h1, h2, rfl⟩)
theorem RC_later {M M2 : Nat} (hM : M ≤ M2) : ∀ k t j, rc NS ST CT GT rn W F M2 k t j → rc NS ST CT GT rn W F M k t j := by
  intro k
  induction k with
  | zero => intro t j h; exact h.elim
  | succ k ih =>
    intro t j ⟨h1, h2, i, h3, h4⟩
    refine ⟨h1, h2, i, h3, ?_⟩
    rcases h4 with h4 | ⟨u, j2, h5, h6⟩
    · exact Or.inl ⟨h4.1, by have := h4.2; omega⟩
    · exact Or.inr ⟨u, j2, ih u j2 h5, h6⟩
/-- a minute at which nothing goes from there makes no difference -/
theorem RC_same {M : Nat} (h : ∀ t i, rn t → i + 1 < NS t → ST t i = F → GT t i ≠ M) : ∀ k t j, rc NS ST CT GT rn W F M k t j → rc NS ST CT GT rn W F (M + 1) k t j := by
  intro k
  induction k with
  | zero => intro t j h; exact h.elim
  | succ k ih =>
    intro t j ⟨h1, h2, i, h3, h4⟩
    refine ⟨h1, h2, i, h3, ?_⟩
    rcases h4 with h4 | ⟨u, j2, h5, h6⟩
    · have := h t i h1 (by omega) h4.1
      exact Or.inl ⟨h4.1, by have := h4.2; omega⟩
    · exact Or.inr ⟨u, j2, ih u j2 h5, h6⟩
theorem RC_min (w : wb n NS ST CT GT rn W F) {M : Nat} : ∀ k t j, rc NS ST CT GT rn W F M k t j → M < CT t j := by
  intro k
  induction k with
  | zero => intro t j h; exact h.elim
  | succ k ih =>
    intro t j ⟨h1, h2, i, h3, h4⟩
    have := inc2 n NS ST CT GT rn W F w (w.2.2.2.1 t h1) h3 h2
    rcases h4 with h4 | ⟨u, j2, h5, h6, h7⟩
    · have := h4.2; omega
    · have := ih u j2 h5; omega
end WAYS
