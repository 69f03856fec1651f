/-! DIGITS of codes, steps, and how far the end is -/
def enc (f : Nat → Nat) : Nat → Nat
  | 0 => 0
  | k + 1 => enc f k + f k * 8 ^ k
theorem enc_lt {f : Nat → Nat} : ∀ c, (∀ k, k < c → f k < 8) → enc f c < 8 ^ c := by
  intro c
  induction c with
  | zero => intro _; exact Nat.one_pos
  | succ c ih =>
    intro h
    have h1 := ih (fun k hk => h k (by omega))
    have h2 : f c * 8 ^ c ≤ 7 * 8 ^ c := Nat.mul_le_mul_right _ (by have := h c (by omega); omega)
    rw [enc, Nat.pow_succ]
    omega
theorem enc_add (f g : Nat → Nat) : ∀ c, enc (fun k => f k + g k) c = enc f c + enc g c := by
  intro c
  induction c with
  | zero => rfl
  | succ c ih => simp only [enc, ih, Nat.add_mul]; omega
theorem enc_congr {f g : Nat → Nat} : ∀ c, (∀ k, k < c → f k = g k) → enc f c = enc g c := by
  intro c
  induction c with
  | zero => intro _; rfl
  | succ c ih => intro h; rw [enc, enc, ih (fun k hk => h k (by omega)), h c (by omega)]
theorem enc_le {f g : Nat → Nat} : ∀ c, (∀ k, k < c → f k ≤ g k) → enc f c ≤ enc g c := by
  intro c
  induction c with
  | zero => intro _; exact Nat.le_refl _
  | succ c ih =>
    intro h
    have h1 := ih (fun k hk => h k (by omega))
    have h2 : f c * 8 ^ c ≤ g c * 8 ^ c := Nat.mul_le_mul_right _ (h c (by omega))
    rw [enc, enc]
    omega
theorem enc_zero : ∀ c, enc (fun _ => 0) c = 0 := by
  intro c
  induction c with
  | zero => rfl
  | succ c ih => rw [enc, ih]; omega
theorem enc_dg (code : Nat) : ∀ c, enc (dg code) c = code % 8 ^ c := by
  intro c
  induction c with
  | zero => rw [enc, Nat.pow_zero, Nat.mod_one]
  | succ c ih =>
    rw [enc, ih, Nat.pow_succ, Nat.mod_mul, dg, Nat.mul_comm (8 ^ c)]
theorem enc_dgs {code c : Nat} (h : code < 8 ^ c) : enc (dg code) c = code := by rw [enc_dg, Nat.mod_eq_of_lt h]
theorem dg_enc {f : Nat → Nat} : ∀ c, (∀ k, k < c → f k < 8) → ∀ k, k < c → dg (enc f c) k = f k := by
  intro c
  induction c with
  | zero => intro _ k hk; omega
  | succ c ih =>
    intro h k hk
    have h1 := enc_lt c (fun k hk => h k (by omega))
    have hp : 0 < 8 ^ k := Nat.pow_pos (by omega)
    rw [enc, dg]
    by_cases he : k = c
    · subst he
      rw [Nat.add_mul_div_right _ _ hp, Nat.div_eq_of_lt h1, Nat.zero_add]
      exact Nat.mod_eq_of_lt (h k (by omega))
    · have e : f c * 8 ^ c = f c * 8 ^ (c - k - 1) * 8 * 8 ^ k := by
        rw [Nat.mul_assoc, Nat.mul_assoc, ← Nat.pow_succ', ← Nat.pow_add]
        congr 2
        omega
      rw [e, Nat.add_mul_div_right _ _ hp, Nat.add_mul_mod_self_right]
      exact ih (fun k hk => h k (by omega)) k (by omega)
theorem dg_ext {a b c : Nat} (ha : a < 8 ^ c) (hb : b < 8 ^ c) (h : ∀ k, k < c → dg a k = dg b k) : a = b := by
  rw [← enc_dgs ha, ← enc_dgs hb]
  exact enc_congr c h
def adv (ns : Nat → Nat) (st : Nat → Nat → Nat) (code s k : Nat) : Nat := if dg code k < ns k ∧ st k (dg code k) = s then 1 else 0
theorem bh_adv (ns : Nat → Nat) (st : Nat → Nat → Nat) (code s : Nat) : ∀ c, bh ns st code s c = code + enc (adv ns st code s) c := by
  intro c
  induction c with
  | zero => rfl
  | succ c ih =>
    rw [bh, enc, ih, adv]
    split <;> omega
def sm (f : Nat → Nat) : Nat → Nat
  | 0 => 0
  | k + 1 => sm f k + f k
theorem sm_le {f g : Nat → Nat} : ∀ c, (∀ k, k < c → f k ≤ g k) → sm f c ≤ sm g c := by
  intro c
  induction c with
  | zero => intro _; exact Nat.le_refl _
  | succ c ih =>
    intro h
    have h1 := ih (fun k hk => h k (by omega))
    have := h c (by omega)
    rw [sm, sm]
    omega
theorem sm_lt {f g : Nat → Nat} : ∀ c, (∀ k, k < c → f k ≤ g k) → (∃ k, k < c ∧ f k < g k) → sm f c < sm g c := by
  intro c
  induction c with
  | zero => intro _ ⟨k, hk, _⟩; omega
  | succ c ih =>
    intro h ⟨k, hk, hlt⟩
    rw [sm, sm]
    have h0 := h c (by omega)
    by_cases he : k = c
    · subst he
      have h1 := sm_le k (fun j hj => h j (by omega))
      omega
    · have := ih (fun j hj => h j (by omega)) ⟨k, by omega, hlt⟩
      omega
theorem sm_bound {f : Nat → Nat} {b : Nat} : ∀ c, (∀ k, k < c → f k ≤ b) → sm f c ≤ c * b := by
  intro c
  induction c with
  | zero => intro _; exact Nat.zero_le _
  | succ c ih =>
    intro h
    have h1 := ih (fun k hk => h k (by omega))
    have := h c (by omega)
    rw [sm, Nat.succ_mul]
    omega
section ROWS
variable (c : Nat) (ns : Nat → Nat) (st : Nat → Nat → Nat)
/-- the trains of a table are well formed -/
def wf : Prop := c ≤ 6 ∧ (∀ k, k < c → ns k ≤ 7) ∧ (∀ k i, k < c → i < ns k → st k i < 12)
def pl (code : Nat) : Prop := code < 8 ^ c ∧ ∀ k, k < c → dg code k ≤ ns k
theorem adv_le (code s k : Nat) : adv ns st code s k ≤ 1 := by unfold adv; split <;> omega
theorem bh_enc {code : Nat} (s : Nat) (h : code < 8 ^ c) : bh ns st code s c = enc (fun k => dg code k + adv ns st code s k) c := by
  rw [bh_adv, enc_add, enc_dgs h]
theorem bh_f {code : Nat} (s : Nat) (w : wf c ns st) : ∀ k, k < c → dg code k + adv ns st code s k < 8 := by
  intro k hk
  have h1 := w.2.1 k hk
  have h2 := dg_lt code k
  unfold adv
  split <;> omega
theorem dg_bh {code : Nat} (s : Nat) (w : wf c ns st) (h : code < 8 ^ c) : ∀ k, k < c → dg (bh ns st code s c) k = dg code k + adv ns st code s k := by
  rw [bh_enc c ns st s h]
  exact dg_enc c (bh_f c ns st s w)
theorem bh_lt {code : Nat} (s : Nat) (w : wf c ns st) (h : code < 8 ^ c) : bh ns st code s c < 8 ^ c := by
  rw [bh_enc c ns st s h]
  exact enc_lt c (bh_f c ns st s w)
theorem pl_bh {code : Nat} (s : Nat) (w : wf c ns st) (h : pl c ns code) : pl c ns (bh ns st code s c) := by
  refine ⟨bh_lt c ns st s w h.1, fun k hk => ?_⟩
  rw [dg_bh c ns st s w h.1 k hk]
  have := h.2 k hk
  unfold adv
  split <;> omega
theorem bh_ge (code s : Nat) : code ≤ bh ns st code s c := by rw [bh_adv]; omega
theorem bh_ne {code s k : Nat} (w : wf c ns st) (h : code < 8 ^ c) (hk : k < c) (ha : adv ns st code s k = 1) : bh ns st code s c ≠ code := by
  intro e
  have := dg_bh c ns st s w h k hk
  rw [e, ha] at this
  omega
theorem bh_adv1 {code s : Nat} (hn : bh ns st code s c ≠ code) : ∃ k, k < c ∧ adv ns st code s k = 1 := by
  apply Classical.byContradiction
  intro hx
  apply hn
  rw [bh_adv, enc_congr (g := fun _ => 0) c, enc_zero]
  · rfl
  · intro k hk
    have h1 := adv_le ns st code s k
    have h2 : adv ns st code s k ≠ 1 := fun e => hx ⟨k, hk, e⟩
    omega
theorem p8c {c : Nat} (h : c ≤ 6) : 8 ^ c ≤ 262144 := p8_le c (by omega)
theorem en_lt (w : wf c ns st) : enc ns c < 8 ^ c := enc_lt c (fun k hk => by have := w.2.1 k hk; omega)
theorem en_pl (w : wf c ns st) : pl c ns (enc ns c) := ⟨en_lt c ns st w, fun k hk => by rw [dg_enc c (fun k hk => by have := w.2.1 k hk; omega) k hk]; exact Nat.le_refl _⟩
theorem en_dg (w : wf c ns st) {k : Nat} (hk : k < c) : dg (enc ns c) k = ns k := dg_enc c (fun k hk => by have := w.2.1 k hk; omega) k hk
theorem pl_le {code : Nat} (h : pl c ns code) : code ≤ enc ns c := by
  rw [← enc_dgs h.1]
  exact enc_le c h.2
theorem pl_next {code : Nat} (w : wf c ns st) (h : pl c ns code) (hn : code ≠ enc ns c) : ∃ k, k < c ∧ dg code k < ns k := by
  apply Classical.byContradiction
  intro hx
  apply hn
  refine dg_ext h.1 (en_lt c ns st w) (fun k hk => ?_)
  rw [en_dg c ns st w hk]
  have h1 := h.2 k hk
  have h2 : ¬ dg code k < ns k := fun q => hx ⟨k, hk, q⟩
  omega
theorem pl_step {code : Nat} (w : wf c ns st) (h : pl c ns code) (hn : code ≠ enc ns c) : ∃ s, s < 12 ∧ bh ns st code s c ≠ code := by
  obtain ⟨k, hk, hlt⟩ := pl_next c ns st w h hn
  exact ⟨st k (dg code k), w.2.2 k _ hk hlt, bh_ne c ns st w h.1 hk (by rw [adv, if_pos ⟨hlt, rfl⟩])⟩
/-- the end is reached in so many rows -/
def rch : Nat → Nat → Prop
  | 0, code => code = enc ns c
  | n + 1, code => code = enc ns c ∨ ∃ s, s < 12 ∧ bh ns st code s c ≠ code ∧ rch n (bh ns st code s c)
theorem rch_up : ∀ n code, rch c ns st n code → rch c ns st (n + 1) code := by
  intro n
  induction n with
  | zero => intro code h; exact Or.inl h
  | succ n ih =>
    intro code h
    rcases h with h | ⟨s, h1, h2, h3⟩
    · exact Or.inl h
    · exact Or.inr ⟨s, h1, h2, ih _ h3⟩
theorem rch_le {n m code : Nat} (hnm : n ≤ m) (h : rch c ns st n code) : rch c ns st m code := by
  obtain ⟨d, rfl⟩ : ∃ d, m = n + d := ⟨m - n, by omega⟩
  induction d with
  | zero => exact h
  | succ d ih => exact rch_up c ns st _ _ (ih (by omega))
def rem (code : Nat) : Nat := sm (fun k => ns k - dg code k) c
theorem rem_bh {code s : Nat} (w : wf c ns st) (h : pl c ns code) (hn : bh ns st code s c ≠ code) : rem c ns (bh ns st code s c) < rem c ns code := by
  refine sm_lt c (fun k hk => ?_) ?_
  · show ns k - dg _ k ≤ ns k - dg code k
    rw [dg_bh c ns st s w h.1 k hk]
    omega
  · obtain ⟨k, hk, ha⟩ := bh_adv1 c ns st hn
    refine ⟨k, hk, ?_⟩
    show ns k - dg _ k < ns k - dg code k
    rw [dg_bh c ns st s w h.1 k hk, ha]
    have : dg code k < ns k := by
      unfold adv at ha
      split at ha
      next q => exact q.1
      next => omega
    omega
theorem rch_rem (w : wf c ns st) : ∀ n code, pl c ns code → rem c ns code ≤ n → rch c ns st n code := by
  intro n
  induction n with
  | zero =>
    intro code h hr
    apply Classical.byContradiction
    intro hn
    obtain ⟨s, hs, hb⟩ := pl_step c ns st w h hn
    have := rem_bh c ns st w h hb
    omega
  | succ n ih =>
    intro code h hr
    by_cases hn : code = enc ns c
    · exact Or.inl hn
    · obtain ⟨s, hs, hb⟩ := pl_step c ns st w h hn
      have := rem_bh c ns st w h hb
      exact Or.inr ⟨s, hs, hb, ih _ (pl_bh c ns st s w h) (by omega)⟩
theorem rem_42 {code : Nat} (w : wf c ns st) : rem c ns code ≤ 42 := by
  have h1 : rem c ns code ≤ c * 7 := sm_bound c (fun k hk => by show ns k - dg code k ≤ 7; have := w.2.1 k hk; omega)
  have h2 := w.1
  omega
/-- the least number of rows -/
def isD (code d : Nat) : Prop := rch c ns st d code ∧ ∀ n, rch c ns st n code → d ≤ n
theorem isD_42 {code d : Nat} (w : wf c ns st) (h : pl c ns code) (hd : isD c ns st code d) : d ≤ 42 := Nat.le_trans (hd.2 _ (rch_rem c ns st w _ code h (Nat.le_refl _))) (rem_42 c ns st w)
theorem isD_ex {code : Nat} (w : wf c ns st) (h : pl c ns code) : ∃ d, isD c ns st code d := by
  obtain ⟨d, h1, h2⟩ := pk_least (fun n => rch c ns st n code) ⟨_, rch_rem c ns st w _ code h (Nat.le_refl _)⟩
  exact ⟨d, h1, fun n hn => Classical.byContradiction (fun q => h2 n (by omega) hn)⟩
theorem isD_un {code d e : Nat} (h : isD c ns st code d) (h2 : isD c ns st code e) : d = e := by
  have := h.2 _ h2.1
  have := h2.2 _ h.1
  omega
theorem isD_end : isD c ns st (enc ns c) 0 := ⟨rfl, fun _ _ => Nat.zero_le _⟩
theorem rch_iff {code d n : Nat} (h : isD c ns st code d) : rch c ns st n code ↔ d ≤ n := ⟨h.2 n, fun q => rch_le c ns st q h.1⟩
theorem isD_rec {code least : Nat} (F : Nat → Nat) (hn : code ≠ enc ns c) (hF : ∀ s, s < 12 → bh ns st code s c ≠ code → isD c ns st (bh ns st code s c) (F (bh ns st code s c))) (h1 : ∃ s, s < 12 ∧ bh ns st code s c ≠ code ∧ least = F (bh ns st code s c) + 1) (h2 : ∀ s, s < 12 → bh ns st code s c ≠ code → least ≤ F (bh ns st code s c) + 1) : isD c ns st code least := by
  constructor
  · obtain ⟨s, hs, hb, e⟩ := h1
    rw [e]
    exact Or.inr ⟨s, hs, hb, (hF s hs hb).1⟩
  · intro n hr
    cases n with
    | zero => exact absurd hr hn
    | succ n =>
      rcases hr with hr | ⟨s, hs, hb, hr⟩
      · exact absurd hr hn
      · have := (hF s hs hb).2 n hr
        have := h2 s hs hb
        omega
/-- a bound that falls by one at most at each step bounds how far the end is -/
theorem low_rch {h : Nat → Nat} (w : wf c ns st) (h0 : h (enc ns c) = 0) (hs : ∀ code s, pl c ns code → s < 12 → bh ns st code s c ≠ code → h code ≤ h (bh ns st code s c) + 1) : ∀ n code, pl c ns code → rch c ns st n code → h code ≤ n := by
  intro n
  induction n with
  | zero => intro code _ hr; rw [show code = enc ns c from hr, h0]; exact Nat.le_refl _
  | succ n ih =>
    intro code hp hr
    rcases hr with hr | ⟨s, h1, h2, h3⟩
    · rw [hr, h0]; exact Nat.zero_le _
    · have := hs code s hp h1 h2
      have := ih _ (pl_bh c ns st s w hp) h3
      omega
/-- the first of the shortest rows -/
def pw (p : Nat → Nat) : Nat → Nat → Nat → Prop
  | _, 0, code => code = enc ns c
  | pos, n + 1, code => code = enc ns c ∨ (p pos < 12 ∧ bh ns st code (p pos) c ≠ code ∧ rch c ns st n (bh ns st code (p pos) c) ∧ (∀ s, s < p pos → bh ns st code s c ≠ code → ¬ rch c ns st n (bh ns st code s c)) ∧ pw p (pos + 1) n (bh ns st code (p pos) c))
theorem pw_congr {p q : Nat → Nat} : ∀ n pos code, (∀ i, pos ≤ i → i < pos + n → p i = q i) → pw c ns st p pos n code → pw c ns st q pos n code := by
  intro n
  induction n with
  | zero => intro pos code _ h; exact h
  | succ n ih =>
    intro pos code he h
    have e0 := he pos (by omega) (by omega)
    rcases h with h | ⟨h1, h2, h3, h4, h5⟩
    · exact Or.inl h
    · refine Or.inr ?_
      rw [← e0]
      exact ⟨h1, h2, h3, h4, ih (pos + 1) _ (fun i h6 h7 => he i (by omega) (by omega)) h5⟩
theorem isD_step {code d s : Nat} (w : wf c ns st) (hp : pl c ns code) (h : isD c ns st code (d + 1)) (hs : s < 12) (hb : bh ns st code s c ≠ code) (hr : rch c ns st d (bh ns st code s c)) : isD c ns st (bh ns st code s c) d := by
  refine ⟨hr, fun n hn => ?_⟩
  have := h.2 (n + 1) (Or.inr ⟨s, hs, hb, hn⟩)
  omega
theorem pw_un (w : wf c ns st) {p q : Nat → Nat} : ∀ n pos code, pl c ns code → isD c ns st code n → pw c ns st p pos n code → pw c ns st q pos n code → ∀ i, pos ≤ i → i < pos + n → p i = q i := by
  intro n
  induction n with
  | zero => intro pos code _ _ _ _ i h1 h2; omega
  | succ n ih =>
    intro pos code hpl hd hp hq i h1 h2
    have hne : code ≠ enc ns c := fun e => by have := hd.2 0 e; omega
    rcases hp with h | ⟨a1, a2, a3, a4, a5⟩
    · exact absurd h hne
    rcases hq with h | ⟨b1, b2, b3, b4, b5⟩
    · exact absurd h hne
    have e : p pos = q pos := by
      apply Classical.byContradiction
      intro hx
      rcases Nat.lt_or_gt_of_ne hx with hlt | hlt
      · exact b4 _ hlt a2 a3
      · exact a4 _ hlt b2 b3
    by_cases hi : i = pos
    · rw [hi]; exact e
    · rw [← e] at b5
      exact ih (pos + 1) _ (pl_bh c ns st _ w hpl) (isD_step c ns st w hpl hd a1 a2 a3) a5 b5 i (by omega) (by omega)
end ROWS
