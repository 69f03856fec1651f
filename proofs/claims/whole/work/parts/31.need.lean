/-! WHAT THE ROWS NEED AT LEAST: two trains, and each station beside theirs once -/
def an (a b : Nat) : Nat := a &&& (8191 ^^^ b)
theorem bit8191 (i : Nat) : (8191 : Nat).testBit i = decide (i < 13) := by
  have h := Nat.testBit_two_pow_sub_one 13 i
  rw [show (2 : Nat) ^ 13 - 1 = 8191 from rfl] at h
  exact h
theorem an_bit {a b i : Nat} (ha : a < 8192) : (an a b).testBit i = (a.testBit i && !b.testBit i) := by
  unfold an
  rw [Nat.testBit_and, Nat.testBit_xor, bit8191]
  by_cases h : i < 13
  · simp [h]
  · rw [Nat.testBit_lt_two_pow (x := a) (i := i) (Nat.lt_of_lt_of_le ha (Nat.pow_le_pow_right (n := 2) (by decide) (show 13 ≤ i by omega)))]
    simp
theorem n_an {a b : Nat} (ha : a < 8192) : nI a &&& (nI b ^^^ nM) = nI (an a b) := by
  refine b_ext (fun i hi => ?_)
  rw [b_and, b_xor, show bt nM i = true from b_m1 i hi, bt_nI _ _ hi, bt_nI _ _ hi, bt_nI _ _ hi, an_bit ha]
  cases b.testBit i <;> rfl
theorem an_le (a b : Nat) : an a b ≤ a := Nat.and_le_left
theorem bc_one : ∀ k x e s, (∀ j, x.testBit j = true → e.testBit j = true ∨ j = s) → bc k x ≤ bc k e + 1 := by
  intro k
  induction k with
  | zero => intro x e s _; exact Nat.zero_le _
  | succ k ih =>
    intro x e s h
    rw [bc, bc]
    have hx : x % 2 < 2 := Nat.mod_lt _ (by omega)
    cases s with
    | zero =>
      have h1 := bc_sub k (x / 2) (e / 2) (fun j hj => by
        rw [← Nat.testBit_succ] at hj ⊢
        rcases h (j + 1) hj with q | q
        · exact q
        · omega)
      omega
    | succ s =>
      have h1 := ih (x / 2) (e / 2) s (fun j hj => by
        rw [← Nat.testBit_succ] at hj ⊢
        rcases h (j + 1) hj with q | q
        · exact Or.inl q
        · exact Or.inr (by omega))
      have h2 : x % 2 ≤ e % 2 := by
        have h3 := h 0
        rw [Nat.testBit_zero, Nat.testBit_zero] at h3
        by_cases hx1 : x % 2 = 1
        · rcases h3 (by simpa using hx1) with q | q
          · have : e % 2 = 1 := by simpa using q
            omega
          · omega
        · omega
      omega
/-- the shortest row of two trains' last stops -/
def sc (x y : Nat → Nat) (na nb : Nat) : Nat → Nat → Nat
  | 0, m => m
  | n + 1, 0 => n + 1
  | n + 1, m + 1 => if x (na - (n + 1)) = y (nb - (m + 1)) then 1 + sc x y na nb n m else 1 + (if sc x y na nb (n + 1) m < sc x y na nb n (m + 1) then sc x y na nb (n + 1) m else sc x y na nb n (m + 1))
theorem sc_n0 (x y : Nat → Nat) (na nb n : Nat) : sc x y na nb n 0 = n := by
  cases n <;> rw [sc]
theorem sc_0m (x y : Nat → Nat) (na nb m : Nat) : sc x y na nb 0 m = m := by rw [sc]
theorem sc_le (x y : Nat → Nat) (na nb : Nat) : ∀ n m, sc x y na nb n m ≤ n + m := by
  intro n
  induction n with
  | zero => intro m; rw [sc_0m]; omega
  | succ n ih =>
    intro m
    induction m with
    | zero => rw [sc_n0]; omega
    | succ m ih2 =>
      rw [sc]
      have := ih m
      have := ih (m + 1)
      split
      · omega
      · split <;> omega
section NEED
variable (c : Nat) (ns : Nat → Nat) (st : Nat → Nat → Nat)
def mk (m : Nat) : Nat → Nat
  | 0 => 0
  | n + 1 => mk m n ||| 2 ^ (st m (ns m - 1 - n))
def ah (m i : Nat) : Nat := mk ns st m (ns m - i)
theorem mk_bit {m x : Nat} : ∀ n, n ≤ ns m → ((mk ns st m n).testBit x = true ↔ ∃ j, ns m - n ≤ j ∧ j < ns m ∧ st m j = x) := by
  intro n
  induction n with
  | zero =>
    intro _
    rw [mk, Nat.zero_testBit]
    exact ⟨fun h => by simp at h, fun ⟨j, h1, h2, _⟩ => by omega⟩
  | succ n ih =>
    intro hn
    rw [mk, Nat.testBit_or, Bool.or_eq_true, ih (by omega), Nat.testBit_two_pow]
    constructor
    · rintro (⟨j, h1, h2, h3⟩ | h)
      · exact ⟨j, by omega, h2, h3⟩
      · exact ⟨ns m - 1 - n, by omega, by omega, by simpa using h⟩
    · rintro ⟨j, h1, h2, h3⟩
      by_cases e : j = ns m - 1 - n
      · subst e; exact Or.inr (by simpa using h3)
      · exact Or.inl ⟨j, by omega, h2, h3⟩
theorem ah_bit {m i x : Nat} (h : i ≤ ns m) : (ah ns st m i).testBit x = true ↔ ∃ j, i ≤ j ∧ j < ns m ∧ st m j = x := by
  unfold ah
  rw [mk_bit ns st _ (by omega)]
  constructor
  · rintro ⟨j, h1, h2⟩; exact ⟨j, by omega, h2⟩
  · rintro ⟨j, h1, h2⟩; exact ⟨j, by omega, h2⟩
theorem mk_lt {m : Nat} (h : ∀ j, j < ns m → st m j < 12) : ∀ n, n ≤ ns m → mk ns st m n < 4096 := by
  intro n
  induction n with
  | zero => intro _; rw [mk]; omega
  | succ n ih =>
    intro hn
    rw [mk]
    refine Nat.or_lt_two_pow (n := 12) (ih (by omega)) ?_
    exact Nat.pow_lt_pow_right (by omega) (h _ (by omega))
theorem ah_lt {m i : Nat} (w : wf c ns st) (hm : m < c) : ah ns st m i < 4096 := mk_lt ns st (fun j hj => w.2.2 m j hm hj) _ (by omega)
theorem ah_end (m : Nat) : ah ns st m (ns m) = 0 := by unfold ah; rw [Nat.sub_self]; rfl
theorem ah_rec {m i : Nat} (h : i < ns m) : ah ns st m i = ah ns st m (i + 1) ||| 2 ^ (st m i) := by
  unfold ah
  obtain ⟨n, hn⟩ : ∃ n, ns m - i = n + 1 := ⟨ns m - i - 1, by omega⟩
  rw [hn, mk, show ns m - (i + 1) = n by omega, show ns m - 1 - n = i by omega]
def al (code : Nat) : Nat → Nat
  | 0 => 0
  | k + 1 => al code k ||| ah ns st k (dg code k)
theorem al_lt (w : wf c ns st) (code : Nat) : ∀ n, n ≤ c → al ns st code n < 4096 := by
  intro n
  induction n with
  | zero => intro _; rw [al]; omega
  | succ n ih =>
    intro hn
    rw [al]
    exact Nat.or_lt_two_pow (n := 12) (ih (by omega)) (ah_lt c ns st w (by omega))
theorem al_bit {code x : Nat} : ∀ n, (al ns st code n).testBit x = true ↔ ∃ k, k < n ∧ (ah ns st k (dg code k)).testBit x = true := by
  intro n
  induction n with
  | zero =>
    rw [al, Nat.zero_testBit]
    exact ⟨fun h => by simp at h, fun ⟨j, h1, _⟩ => by omega⟩
  | succ n ih =>
    rw [al, Nat.testBit_or, Bool.or_eq_true, ih]
    constructor
    · rintro (⟨j, h1, h2⟩ | h)
      · exact ⟨j, by omega, h2⟩
      · exact ⟨n, by omega, h⟩
    · rintro ⟨j, h1, h2⟩
      by_cases e : j = n
      · subst e; exact Or.inr h2
      · exact Or.inl ⟨j, by omega, h2⟩
def sS (a b i j : Nat) : Nat := sc (st a) (st b) (ns a) (ns b) (ns a - i) (ns b - j)
def eP (code a b : Nat) : Nat := bc 13 (an (al ns st code c) (ah ns st a (dg code a) ||| ah ns st b (dg code b))) + sS ns st a b (dg code a) (dg code b)
def nin (code a x : Nat) : Nat → Nat
  | 0 => x
  | b + 1 => if nin code a x b < eP c ns st code a b then eP c ns st code a b else nin code a x b
def nou (code : Nat) : Nat → Nat
  | 0 => bc 13 (al ns st code c)
  | k + 1 => nin c ns st code (k + 1) (nou code k) (k + 1)
def lN0 (code : Nat) : Nat := nou c ns st code (c - 1)
theorem nin_up {code a x X : Nat} : ∀ n, x ≤ X → (∀ b, b < n → eP c ns st code a b ≤ X) → nin c ns st code a x n ≤ X := by
  intro n
  induction n with
  | zero => intro h _; exact h
  | succ n ih =>
    intro h h2
    have := ih h (fun b hb => h2 b (by omega))
    have := h2 n (by omega)
    rw [nin]
    split <;> omega
theorem nin_low {code a x : Nat} : ∀ n, x ≤ nin c ns st code a x n ∧ ∀ b, b < n → eP c ns st code a b ≤ nin c ns st code a x n := by
  intro n
  induction n with
  | zero => exact ⟨Nat.le_refl _, fun b hb => by omega⟩
  | succ n ih =>
    rw [nin]
    refine ⟨by split <;> omega, fun b hb => ?_⟩
    by_cases e : b = n
    · subst e; split <;> omega
    · have := ih.2 b (by omega)
      split <;> omega
theorem nou_up {code X : Nat} : ∀ n, bc 13 (al ns st code c) ≤ X → (∀ a b, a ≤ n → b < a → eP c ns st code a b ≤ X) → nou c ns st code n ≤ X := by
  intro n
  induction n with
  | zero => intro h _; exact h
  | succ n ih =>
    intro h h2
    rw [nou]
    exact nin_up c ns st _ (ih h (fun a b ha hb => h2 a b (by omega) hb)) (fun b hb => h2 (n + 1) b (by omega) hb)
theorem nou_low {code : Nat} : ∀ n, bc 13 (al ns st code c) ≤ nou c ns st code n ∧ ∀ a b, a ≤ n → b < a → eP c ns st code a b ≤ nou c ns st code n := by
  intro n
  induction n with
  | zero => exact ⟨Nat.le_refl _, fun a b ha hb => by omega⟩
  | succ n ih =>
    rw [nou]
    have q := nin_low c ns st (code := code) (a := n + 1) (x := nou c ns st code n) (n + 1)
    refine ⟨Nat.le_trans ih.1 q.1, fun a b ha hb => ?_⟩
    by_cases e : a = n + 1
    · subst e; exact q.2 b hb
    · exact Nat.le_trans (ih.2 a b (by omega) hb) q.1
theorem eP_26 {code a b : Nat} (w : wf c ns st) (ha : a < c) (hb : b < c) : eP c ns st code a b ≤ 27 := by
  have h1 := bc_le 13 (an (al ns st code c) (ah ns st a (dg code a) ||| ah ns st b (dg code b)))
  have h2 := sc_le (st a) (st b) (ns a) (ns b) (ns a - dg code a) (ns b - dg code b)
  have h3 := w.2.1 a ha
  have h4 := w.2.1 b hb
  unfold eP sS
  omega
theorem lN_26 {code : Nat} (w : wf c ns st) (hc : 0 < c) : lN0 c ns st code ≤ 27 := by
  refine nou_up c ns st _ (by have := bc_le 13 (al ns st code c); omega) (fun a b ha hb => eP_26 c ns st w (by omega) (by omega))
theorem sS_step {code s a b : Nat} (hpa : dg code a ≤ ns a) (hpb : dg code b ≤ ns b) : sS ns st a b (dg code a) (dg code b) ≤ 1 + sS ns st a b (dg code a + adv ns st code s a) (dg code b + adv ns st code s b) := by
  have h1 := adv_le ns st code s a
  have h2 := adv_le ns st code s b
  by_cases ha : adv ns st code s a = 1
  · obtain ⟨a1, a2⟩ := adv_1 ha
    obtain ⟨n, hn⟩ : ∃ n, ns a - dg code a = n + 1 := ⟨ns a - dg code a - 1, by omega⟩
    have hn2 : ns a - (dg code a + 1) = n := by omega
    have hn3 : ns a - (n + 1) = dg code a := by omega
    by_cases hb : adv ns st code s b = 1
    · obtain ⟨b1, b2⟩ := adv_1 hb
      obtain ⟨m, hm⟩ : ∃ m, ns b - dg code b = m + 1 := ⟨ns b - dg code b - 1, by omega⟩
      have hm2 : ns b - (dg code b + 1) = m := by omega
      have hm3 : ns b - (m + 1) = dg code b := by omega
      unfold sS
      rw [ha, hb, hn, hm, hn2, hm2, sc, hn3, hm3, if_pos (by omega)]
      omega
    · have hb0 : adv ns st code s b = 0 := by omega
      by_cases hbe : dg code b = ns b
      · unfold sS
        rw [ha, hb0]
        simp only [Nat.add_zero]
        rw [hn, hn2, hbe, Nat.sub_self, sc_n0, sc_n0]
        omega
      · obtain ⟨m, hm⟩ : ∃ m, ns b - dg code b = m + 1 := ⟨ns b - dg code b - 1, by omega⟩
        have hm3 : ns b - (m + 1) = dg code b := by omega
        have hne : ¬ st b (dg code b) = s := fun q => hb (by unfold adv; rw [if_pos ⟨by omega, q⟩])
        unfold sS
        rw [ha, hb0]
        simp only [Nat.add_zero]
        rw [hn, hn2, hm, sc, hn3, hm3, if_neg (by omega)]
        split <;> omega
  · have ha0 : adv ns st code s a = 0 := by omega
    by_cases hb : adv ns st code s b = 1
    · obtain ⟨b1, b2⟩ := adv_1 hb
      obtain ⟨m, hm⟩ : ∃ m, ns b - dg code b = m + 1 := ⟨ns b - dg code b - 1, by omega⟩
      have hm2 : ns b - (dg code b + 1) = m := by omega
      have hm3 : ns b - (m + 1) = dg code b := by omega
      by_cases hae : dg code a = ns a
      · unfold sS
        rw [ha0, hb]
        simp only [Nat.add_zero]
        rw [hm, hm2, hae, Nat.sub_self, sc_0m, sc_0m]
        omega
      · obtain ⟨n, hn⟩ : ∃ n, ns a - dg code a = n + 1 := ⟨ns a - dg code a - 1, by omega⟩
        have hn3 : ns a - (n + 1) = dg code a := by omega
        have hne : ¬ st a (dg code a) = s := fun q => ha (by unfold adv; rw [if_pos ⟨by omega, q⟩])
        unfold sS
        rw [ha0, hb]
        simp only [Nat.add_zero]
        rw [hn, hm2, hm, sc, hn3, hm3, if_neg (by omega)]
        split <;> omega
    · have hb0 : adv ns st code s b = 0 := by omega
      rw [ha0, hb0]
      simp only [Nat.add_zero]
      omega
theorem ah_step {code s m x : Nat} (hp : dg code m ≤ ns m) (hx : x ≠ s) (h : (ah ns st m (dg code m)).testBit x = true) : (ah ns st m (dg code m + adv ns st code s m)).testBit x = true := by
  rw [ah_bit ns st hp] at h
  have h1 := adv_le ns st code s m
  obtain ⟨j, h2, h3, h4⟩ := h
  by_cases ha : adv ns st code s m = 1
  · obtain ⟨a1, a2⟩ := adv_1 ha
    rw [ah_bit ns st (by omega)]
    refine ⟨j, ?_, h3, h4⟩
    by_cases e : j = dg code m
    · subst e; omega
    · omega
  · rw [show adv ns st code s m = 0 by omega, Nat.add_zero, ah_bit ns st hp]
    exact ⟨j, h2, h3, h4⟩
theorem ah_back {code s m x : Nat} (hp : dg code m ≤ ns m) (h : (ah ns st m (dg code m + adv ns st code s m)).testBit x = true) : (ah ns st m (dg code m)).testBit x = true := by
  have h1 : dg code m + adv ns st code s m ≤ ns m := by unfold adv; split <;> omega
  rw [ah_bit ns st h1] at h
  rw [ah_bit ns st hp]
  obtain ⟨j, h2, h3⟩ := h
  exact ⟨j, by omega, h3⟩
theorem lN_step (w : wf c ns st) (code s : Nat) (hp : pl c ns code) : lN0 c ns st code ≤ lN0 c ns st (bh ns st code s c) + 1 := by
  have hdg := dg_bh c ns st s w hp.1
  have hal : ∀ x, x ≠ s → (al ns st code c).testBit x = true → (al ns st (bh ns st code s c) c).testBit x = true := by
    intro x hx h
    rw [al_bit] at h ⊢
    obtain ⟨k, hk, h⟩ := h
    refine ⟨k, hk, ?_⟩
    rw [hdg k hk]
    exact ah_step ns st (hp.2 k hk) hx h
  have q := nou_low c ns st (code := bh ns st code s c) (c - 1)
  refine nou_up c ns st _ ?_ (fun a b ha hb => ?_)
  · refine Nat.le_trans (bc_one 13 _ (al ns st (bh ns st code s c) c) s (fun j hj => ?_)) (Nat.add_le_add_right q.1 1)
    by_cases e : j = s
    · exact Or.inr e
    · exact Or.inl (hal j e hj)
  · have hac : a < c := by omega
    have hbc : b < c := by omega
    have l1 := al_lt c ns st w code c (Nat.le_refl _)
    have l2 := al_lt c ns st w (bh ns st code s c) c (Nat.le_refl _)
    refine Nat.le_trans ?_ (Nat.add_le_add_right (q.2 a b ha hb) 1)
    have pa := hp.2 a hac
    have pb := hp.2 b hbc
    unfold eP
    rw [hdg a hac, hdg b hbc]
    by_cases hs : (ah ns st a (dg code a) ||| ah ns st b (dg code b)).testBit s = true
    · have h1 := sS_step ns st (code := code) (s := s) pa pb
      have h2 := bc_sub 13 (an (al ns st code c) (ah ns st a (dg code a) ||| ah ns st b (dg code b))) (an (al ns st (bh ns st code s c) c) (ah ns st a (dg code a + adv ns st code s a) ||| ah ns st b (dg code b + adv ns st code s b))) (fun j hj => by
        rw [an_bit (by omega)] at hj ⊢
        rw [Bool.and_eq_true, Bool.not_eq_true'] at hj ⊢
        have hjs : j ≠ s := fun e => by rw [e, hs] at hj; exact absurd hj.2 (by simp)
        refine ⟨hal j hjs hj.1, ?_⟩
        have h3 := hj.2
        rw [Nat.testBit_or, Bool.or_eq_false_iff] at h3 ⊢
        refine ⟨Bool.eq_false_iff.mpr (fun q => ?_), Bool.eq_false_iff.mpr (fun q => ?_)⟩
        · have := ah_back ns st pa q
          rw [h3.1] at this
          simp at this
        · have := ah_back ns st pb q
          rw [h3.2] at this
          simp at this)
      omega
    · have hs2 : (ah ns st a (dg code a)).testBit s = false ∧ (ah ns st b (dg code b)).testBit s = false := by
        rw [Nat.testBit_or, Bool.not_eq_true, Bool.or_eq_false_iff] at hs
        exact hs
      have ha0 : adv ns st code s a = 0 := by
        have := adv_le ns st code s a
        have h3 : adv ns st code s a ≠ 1 := fun e => by
          obtain ⟨a1, a2⟩ := adv_1 e
          have := (ah_bit ns st pa).mpr ⟨_, Nat.le_refl _, a1, a2⟩
          rw [hs2.1] at this
          simp at this
        omega
      have hb0 : adv ns st code s b = 0 := by
        have := adv_le ns st code s b
        have h3 : adv ns st code s b ≠ 1 := fun e => by
          obtain ⟨a1, a2⟩ := adv_1 e
          have := (ah_bit ns st pb).mpr ⟨_, Nat.le_refl _, a1, a2⟩
          rw [hs2.2] at this
          simp at this
        omega
      rw [ha0, hb0]
      simp only [Nat.add_zero]
      have h2 := bc_one 13 (an (al ns st code c) (ah ns st a (dg code a) ||| ah ns st b (dg code b))) (an (al ns st (bh ns st code s c) c) (ah ns st a (dg code a) ||| ah ns st b (dg code b))) s (fun j hj => by
        by_cases e : j = s
        · exact Or.inr e
        · refine Or.inl ?_
          rw [an_bit (by omega)] at hj ⊢
          rw [Bool.and_eq_true] at hj ⊢
          exact ⟨hal j e hj.1, hj.2⟩)
      omega
theorem bc_0 : ∀ k, bc k 0 = 0 := by
  intro k
  induction k with
  | zero => rfl
  | succ k ih => rw [bc, Nat.zero_div, ih]
theorem lN_end (w : wf c ns st) (hc : 0 < c) : lN0 c ns st (enc ns c) = 0 := by
  have hal : al ns st (enc ns c) c = 0 := by
    apply Nat.eq_of_testBit_eq
    intro i
    rw [Nat.zero_testBit]
    refine Bool.eq_false_iff.mpr (fun h => ?_)
    rw [al_bit] at h
    obtain ⟨k, hk, h⟩ := h
    rw [en_dg c ns st w hk, ah_end, Nat.zero_testBit] at h
    simp at h
  have : lN0 c ns st (enc ns c) ≤ 0 := by
    refine nou_up c ns st _ ?_ (fun a b ha hb => ?_)
    · rw [hal, bc_0]; exact Nat.le_refl _
    · unfold eP sS
      rw [hal, en_dg c ns st w (show a < c by omega), en_dg c ns st w (show b < c by omega), Nat.sub_self, Nat.sub_self, sc_0m]
      rw [show an 0 (ah ns st a (ns a) ||| ah ns st b (ns b)) = 0 from Nat.le_zero.mp (an_le _ _), bc_0]
      exact Nat.le_refl _
  omega
theorem lN_low (w : wf c ns st) (hc : 0 < c) {n code : Nat} (hp : pl c ns code) (h : rch c ns st n code) : lN0 c ns st code ≤ n :=
  low_rch c ns st w (lN_end c ns st w hc) (fun code s hp _ _ => lN_step c ns st w code s hp) n code hp h
end NEED
