/-! WAYS: legs from the end back -/
section LEGS
variable (n : Nat) (NS : Nat → Nat) (ST CT GT : Nat → Nat → Nat) (rn : Nat → Prop) (W F T v : Nat)
/-- who leaves there comes to the end as soon as can be, with so many trains more -/
def gw : Nat → Nat → Nat → Prop
  | 0, t, j => rn t ∧ 1 ≤ j ∧ j < NS t ∧ ST t j = T ∧ CT t j = v
  | k + 1, t, j => rn t ∧ 1 ≤ j ∧ j < NS t ∧ ∃ u i j2, i < j2 ∧ cc ST CT GT W t j u i ∧ gw k u j2
theorem gw_ok {k t j : Nat} (h : gw NS ST CT GT rn W T v k t j) : rn t ∧ 1 ≤ j ∧ j < NS t := by
  cases k with
  | zero => exact ⟨h.1, h.2.1, h.2.2.1⟩
  | succ k => exact ⟨h.1, h.2.1, h.2.2.1⟩
def hw (k t i : Nat) : Prop := ∃ j, i < j ∧ gw NS ST CT GT rn W T v k t j
def isMx (k t m : Nat) : Prop := (m = 0 ∧ ∀ j, ¬ gw NS ST CT GT rn W T v k t j) ∨ (gw NS ST CT GT rn W T v k t m ∧ ∀ j, gw NS ST CT GT rn W T v k t j → j ≤ m)
theorem hw_iff {k t i m : Nat} (h : isMx NS ST CT GT rn W T v k t m) : hw NS ST CT GT rn W T v k t i ↔ i < m := by
  constructor
  · rintro ⟨j, h1, h2⟩
    rcases h with ⟨_, h3⟩ | ⟨_, h3⟩
    · exact absurd h2 (h3 j)
    · have := h3 j h2; omega
  · intro hi
    rcases h with ⟨h3, _⟩ | ⟨h3, _⟩
    · omega
    · exact ⟨m, hi, h3⟩
theorem mx_lt {k t m : Nat} (h : isMx NS ST CT GT rn W T v k t m) : m = 0 ∨ m < NS t := by
  rcases h with ⟨h3, _⟩ | ⟨h3, _⟩
  · exact Or.inl h3
  · exact Or.inr (gw_ok NS ST CT GT rn W T v h3).2.2
theorem gw_succ {k t j : Nat} : gw NS ST CT GT rn W T v (k + 1) t j ↔ rn t ∧ 1 ≤ j ∧ j < NS t ∧ ∃ u i, cc ST CT GT W t j u i ∧ hw NS ST CT GT rn W T v k u i := by
  constructor
  · rintro ⟨h1, h2, h3, u, i, j2, h4, h5, h6⟩
    exact ⟨h1, h2, h3, u, i, h5, j2, h4, h6⟩
  · rintro ⟨h1, h2, h3, u, i, h5, j2, h4, h6⟩
    exact ⟨h1, h2, h3, u, i, j2, h4, h5, h6⟩
/-- a first train with so many behind it -/
def ft (M k t : Nat) : Prop := ∃ i, i < NS t ∧ fb ST GT F M t i ∧ hw NS ST CT GT rn W T v k t i
theorem ft_ex {M : Nat} : ∀ k r t j, rc NS ST CT GT rn W F M (k + 1) t j → gw NS ST CT GT rn W T v r t j → ∃ k2, k2 ≤ k ∧ ∃ t, ft NS ST CT GT rn W F T v M (r + k2) t := by
  intro k
  induction k with
  | zero =>
    intro r t j ⟨h1, h2, i, h3, h4⟩ hg
    rcases h4 with h4 | ⟨u, j2, h5, _⟩
    · exact ⟨0, by omega, t, i, by omega, h4, j, h3, hg⟩
    · exact h5.elim
  | succ k ih =>
    intro r t j ⟨h1, h2, i, h3, h4⟩ hg
    rcases h4 with h4 | ⟨u, j2, h5, h6, h7⟩
    · exact ⟨0, by omega, t, i, by omega, h4, j, h3, hg⟩
    · obtain ⟨r1, r2, i2, r3, _⟩ := id h5
      have hg2 : gw NS ST CT GT rn W T v (r + 1) u j2 := ⟨r1, by omega, r2, t, i, j, h3, ⟨h6, h7⟩, hg⟩
      obtain ⟨k2, a1, a2⟩ := ih (r + 1) u j2 h5 hg2
      exact ⟨k2 + 1, by omega, by rw [show r + (k2 + 1) = r + 1 + k2 by omega]; exact a2⟩
theorem ft_n (w : wb n NS ST CT GT rn W F) {M : Nat} (h : SN NS ST CT GT rn W F M T v) : ∃ k, k < n ∧ ∃ t, ft NS ST CT GT rn W F T v M k t := by
  obtain ⟨⟨t, j, h1, h2, h3⟩, _⟩ := h
  have hr := RC_n n NS ST CT GT rn W F w h1
  obtain ⟨r1, r2, i, r3, _⟩ := (RC_iff NS ST CT GT rn W F).mp h1
  have htn := w.2.2.2.1 t r1
  obtain ⟨m, hm⟩ : ∃ m, n = m + 1 := ⟨n - 1, by omega⟩
  rw [hm] at hr
  obtain ⟨k2, a1, a2⟩ := ft_ex NS ST CT GT rn W F T v m 0 t j hr ⟨r1, by omega, r2, h2, h3⟩
  exact ⟨k2, by omega, by rw [Nat.zero_add] at a2; exact a2⟩
/-- the trains of the way, chosen one by one: each the least that serves, boarded as early as can be -/
def nxt (tr b rest t i : Nat) : Prop := (∃ j, b < j ∧ j < NS tr ∧ cc ST CT GT W tr j t i) ∧ i < NS t ∧ hw NS ST CT GT rn W T v rest t i
def chs (M L : Nat) (tr b : Nat → Nat) (k : Nat) : Prop := ∀ m, m < k → (m = 0 → (ft NS ST CT GT rn W F T v M (L - 1) (tr 0) ∧ (∀ t, t < tr 0 → ¬ ft NS ST CT GT rn W F T v M (L - 1) t) ∧ b 0 < NS (tr 0) ∧ ST (tr 0) (b 0) = F ∧ M ≤ GT (tr 0) (b 0))) ∧ (0 < m → nxt NS ST CT GT rn W T v (tr (m - 1)) (b (m - 1)) (L - 1 - m) (tr m) (b m) ∧ (∀ t i, t < tr m → ¬ nxt NS ST CT GT rn W T v (tr (m - 1)) (b (m - 1)) (L - 1 - m) t i) ∧ ∀ i, i < b m → ¬ nxt NS ST CT GT rn W T v (tr (m - 1)) (b (m - 1)) (L - 1 - m) (tr m) i) ∧ hw NS ST CT GT rn W T v (L - 1 - m) (tr m) (b m) ∧ b m < NS (tr m)
/-- the rest of the way by these trains -/
def rgo (tr : Nat → Nat) : Nat → Nat → Nat → Prop
  | 0, m, j => 1 ≤ j ∧ j < NS (tr m) ∧ ST (tr m) j = T ∧ CT (tr m) j = v
  | d + 1, m, j => 1 ≤ j ∧ j < NS (tr m) ∧ ∃ i j2, i < j2 ∧ cc ST CT GT W (tr m) j (tr (m + 1)) i ∧ rgo tr d (m + 1) j2
theorem rgo_ok {tr : Nat → Nat} {d m j : Nat} (h : rgo NS ST CT GT W T v tr d m j) : 1 ≤ j ∧ j < NS (tr m) := by
  cases d with
  | zero => exact ⟨h.1, h.2.1⟩
  | succ d => exact ⟨h.1, h.2.1⟩
theorem chs_rgo {M L : Nat} {tr b : Nat → Nat} (hc : chs NS ST CT GT rn W F T v M L tr b L) : ∀ d m, m + d + 1 = L → ∃ j, b m < j ∧ rgo NS ST CT GT W T v tr d m j := by
  intro d
  induction d with
  | zero =>
    intro m hm
    obtain ⟨_, _, ⟨j, h1, h2⟩, _⟩ := hc m (by omega)
    rw [show L - 1 - m = 0 by omega] at h2
    exact ⟨j, h1, h2.2.1, h2.2.2.1, h2.2.2.2.1, h2.2.2.2.2⟩
  | succ d ih =>
    intro m hm
    obtain ⟨j2, a1, a2⟩ := ih (m + 1) (by omega)
    obtain ⟨_, h2, _⟩ := hc (m + 1) (by omega)
    obtain ⟨⟨⟨j, b1, b2, b3⟩, _, _⟩, _⟩ := h2 (by omega)
    rw [Nat.add_sub_cancel] at b1 b2 b3
    exact ⟨j, b1, by omega, b2, b (m + 1), j2, a1, b3, a2⟩
/-- the stations of the way -/
def sel (tr B lv : Nat → Nat) (d m : Nat) : Prop := (B m < lv m ∧ rgo NS ST CT GT W T v tr d m (lv m)) ∧ ∀ j, B m < j → rgo NS ST CT GT W T v tr d m j → ST (tr m) (lv m) ≤ ST (tr m) j
end LEGS
