/-! NUMBERS: an Int32 is read by its toInt -/
theorem ia {x y : Int32} (h1 : -2147483648 ≤ x.toInt + y.toInt) (h2 : x.toInt + y.toInt < 2147483648) : (x + y).toInt = x.toInt + y.toInt := by
  rw [Int32.toInt_add]
  exact Int.bmod_eq_of_le (by omega) (by omega)
theorem isu {x y : Int32} (h1 : -2147483648 ≤ x.toInt - y.toInt) (h2 : x.toInt - y.toInt < 2147483648) : (x - y).toInt = x.toInt - y.toInt := by
  rw [Int32.toInt_sub]
  exact Int.bmod_eq_of_le (by omega) (by omega)
theorem imu {x y : Int32} (h1 : -2147483648 ≤ x.toInt * y.toInt) (h2 : x.toInt * y.toInt < 2147483648) : (x * y).toInt = x.toInt * y.toInt := by
  rw [Int32.toInt_mul]
  exact Int.bmod_eq_of_le (by omega) (by omega)
theorem ilt {x y : Int32} : x < y ↔ x.toInt < y.toInt := Int32.lt_iff_toInt_lt
theorem ile {x y : Int32} : x ≤ y ↔ x.toInt ≤ y.toInt := Int32.le_iff_toInt_le
theorem ieq {x y : Int32} : x = y ↔ x.toInt = y.toInt := Int32.toInt_inj.symm
theorem irng (x : Int32) : -2147483648 ≤ x.toInt ∧ x.toInt < 2147483648 := ⟨Int32.le_toInt x, Int32.toInt_lt x⟩
theorem iof {z : Int} (h1 : -2147483648 ≤ z) (h2 : z < 2147483648) : (Int32.ofInt z).toInt = z := Int32.toInt_ofInt_of_le (by omega) (by omega)
theorem inat (x : Int32) : x.toNatClampNeg = x.toInt.toNat := rfl
theorem i0 : (0 : Int32).toInt = 0 := by decide
theorem i1 : (1 : Int32).toInt = 1 := by decide
theorem im1 : (-1 : Int32).toInt = -1 := by decide
theorem i6 : (6 : Int32).toInt = 6 := by decide
theorem i7 : (7 : Int32).toInt = 7 := by decide
theorem i10 : (10 : Int32).toInt = 10 := by decide
theorem i12 : (12 : Int32).toInt = 12 := by decide
theorem i100 : (100 : Int32).toInt = 100 := by decide
theorem i127 : (127 : Int32).toInt = 127 := by decide
theorem i1440 : (1440 : Int32).toInt = 1440 := by decide
theorem qin_t {i : Int32} {n : Nat} (h1 : 0 ≤ i.toInt) (h2 : i.toInt < n) : qin i n = true := by
  rw [qin_iff]
  unfold vp_in
  rw [ilt, i0, inat]
  omega
theorem qrd_t {I : qI} {R : qR} {a : Nat} {i : Int32} {n : Nat} (hk : (R.2.1 a).2 = n) (h1 : 0 ≤ i.toInt) (h2 : i.toInt < n) : qrd I R a i = some (I a i.toInt.toNat) := by
  unfold qrd
  rw [hk, if_pos (qin_t h1 h2)]
  rfl
theorem qwr_t {I : qI} {R : qR} {a : Nat} {i x : Int32} {n : Nat} (hk : (R.2.1 a).2 = n) (h1 : 0 ≤ i.toInt) (h2 : i.toInt < n) : qwr I R a i x = some (qup I a i.toInt.toNat x) := by
  unfold qwr
  rw [hk, if_pos (qin_t h1 h2)]
  rfl
theorem qra_t {R : qR} {a : Nat} {i : Int32} {n : Nat} (hk : (R.2.1 a).2 = n) (h1 : 0 ≤ i.toInt) (h2 : i.toInt < n) : qra R a i = R.1 a i.toInt.toNat := by
  unfold qra
  rw [hk, if_pos (qin_t h1 h2)]
  rfl
/-- total correctness of the printed functions -/
def ok {α : Type} (o : Option α) (P : α → Prop) : Prop := ∃ r, o = some r ∧ P r
theorem ok_some {α : Type} {r : α} {P : α → Prop} (h : P r) : ok (some r) P := ⟨r, rfl, h⟩
theorem ok_bind {α β : Type} {o : Option α} {f : α → Option β} {P : β → Prop} (h : ok o (fun x => ok (f x) P)) : ok (o.bind f) P := by
  obtain ⟨x, rfl, r, e, h⟩ := h
  exact ⟨r, e, h⟩
theorem ok_bindv {α β : Type} {o : Option α} {x : α} {f : α → Option β} {P : β → Prop} (e : o = some x) (h : ok (f x) P) : ok (o.bind f) P := by
  subst e; exact h
theorem ok_let {α β : Type} {x : α} {f : α → Option β} {P : β → Prop} (h : ok (f x) P) : ok (qlet x f) P := h
theorem ok_mono {α : Type} {o : Option α} {P Q : α → Prop} (h : ok o P) (hi : ∀ r, P r → Q r) : ok o Q := by
  obtain ⟨r, e, h⟩ := h
  exact ⟨r, e, hi r h⟩
theorem ok_if {α : Type} {c : Prop} {dc : Decidable c} {a b : Option α} {P : α → Prop} (h1 : c → ok a P) (h2 : ¬ c → ok b P) : ok (if c then a else b) P := by
  by_cases hc : c
  · rw [if_pos hc]; exact h1 hc
  · rw [if_neg hc]; exact h2 hc
theorem ok_eq {α : Type} {o : Option α} {P : α → Prop} {r : α} (h : ok o P) (e : o = some r) : P r := by
  obtain ⟨r', e', h⟩ := h
  rw [e] at e'
  cases e'
  exact h
theorem ok_loop {S O : Type} {body : S → Option (S ⊕ O)} {P : O → Prop} (Inv : S → Prop) (mu : S → Nat) {n : Nat} {s : S} (hi : Inv s) (hm : mu s < n) (h : ∀ s, Inv s → ok (body s) (fun x => match x with | .inl s' => Inv s' ∧ mu s' < mu s | .inr o => P o)) : ok (qloop body n s) P := by
  obtain ⟨o, e, hp⟩ := qloop_spec Inv mu P (fun s hs => by
    obtain ⟨x, e, hx⟩ := h s hs
    cases x with
    | inl s' => exact Or.inl ⟨s', e, hx.1, hx.2⟩
    | inr o => exact Or.inr ⟨o, e, hx⟩) n s hi hm
  exact ⟨o, e, hp⟩
theorem ok_rd {I : qI} {R : qR} {a n : Nat} {i : Int32} {P : Int32 → Prop} (hk : (R.2.1 a).2 = n) (h1 : 0 ≤ i.toInt) (h2 : i.toInt < n) (h : P (I a i.toInt.toNat)) : ok (qrd I R a i) P := ⟨_, qrd_t hk h1 h2, h⟩
theorem ok_wr {I : qI} {R : qR} {a n : Nat} {i x : Int32} {P : qI → Prop} (hk : (R.2.1 a).2 = n) (h1 : 0 ≤ i.toInt) (h2 : i.toInt < n) (h : P (qup I a i.toInt.toNat x)) : ok (qwr I R a i x) P := ⟨_, qwr_t hk h1 h2, h⟩
/-- reads of what was written -/
theorem qup_at (I : qI) (a j : Nat) (v : Int32) (b i : Nat) : qup I a j v b i = if b = a ∧ i = j then v else I b i := by
  unfold qup upd
  by_cases h : b = a
  · subst h
    rw [if_pos rfl]
    by_cases h2 : i = j
    · rw [if_pos h2, if_pos ⟨rfl, h2⟩]
    · rw [if_neg h2, if_neg (fun q => h2 q.2)]
  · rw [if_neg h, if_neg (fun q => h q.1)]
theorem qup_off {I : qI} {a j : Nat} {v : Int32} {b i : Nat} (h : b ≠ a ∨ i ≠ j) : qup I a j v b i = I b i := by
  rw [qup_at, if_neg (by omega)]
theorem qup_on {I : qI} {a j : Nat} {v : Int32} : qup I a j v a j = v := by
  rw [qup_at, if_pos ⟨rfl, rfl⟩]
/-- THE LAYOUT, as all later pictures keep it: but for the cell of 'known' and the finder's trains -/
def LR (R : qR) : Prop := (∀ a j, a < 138 → j < 35 → ¬ (a = 8 ∧ j = 8) → ¬ (a = 51 ∧ j = 0) → R.1 a j = lP a j) ∧ (∀ a, a < 138 → R.2.1 a = lK a) ∧ 138 ≤ R.2.2.1 ∧ qWT R
theorem LR.p {R : qR} (h : LR R) (a j : Nat) {r : Nat} (hl : lP a j = some r) (ha : a < 138 := by omega) (hj : j < 35 := by omega) (h1 : ¬ (a = 8 ∧ j = 8) := by omega) (h2 : ¬ (a = 51 ∧ j = 0) := by omega) : R.1 a j = some r := (h.1 a j ha hj h1 h2).trans hl
theorem LR.k {R : qR} (h : LR R) (a : Nat) {q : Nat × Nat} (hl : lK a = q) (ha : a < 138 := by omega) : R.2.1 a = q := (h.2.1 a ha).trans hl
theorem LR.l {R : qR} (h : LR R) (a : Nat) {kd n : Nat} (hl : lK a = (kd, n)) (ha : a < 138 := by omega) : (R.2.1 a).2 = n := by rw [h.k a hl ha]
theorem lP_t1 {t : Nat} (h : t < 10) : lP 1 t = some (61 + 5 * t) := by
  show (if t < 10 then some (61 + 5 * t) else none) = _
  rw [if_pos h]
theorem lP_t5 {t : Nat} (h : t < 6) : lP 5 t = some (21 + 5 * t) := by
  show (if t < 6 then some (21 + 5 * t) else none) = _
  rw [if_pos h]
theorem lP_tr : ∀ t, t < 10 → ∀ j, j < 6 → 2 ≤ j → lP (61 + 5 * t) j = some (61 + 5 * t + j - 1) := by decide +kernel
theorem lP_mr : ∀ t, t < 6 → ∀ j, j < 6 → 2 ≤ j → lP (21 + 5 * t) j = some (21 + 5 * t + j - 1) := by decide +kernel
theorem lK_tr : ∀ t, t < 10 → ∀ r, r < 5 → lK (61 + 5 * t + r) = lKt r := by decide +kernel
theorem lK_mr : ∀ t, t < 6 → ∀ r, r < 5 → lK (21 + 5 * t + r) = lKt r := by decide +kernel
