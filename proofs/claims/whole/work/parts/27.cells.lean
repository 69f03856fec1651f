/-! POINTERS, READS AND WRITES by cell -/
def nM : Int32 := -1
theorem lm1 : (-1 : Int32) = nM := by decide
theorem n_le {a b : Nat} (ha : a < 2147483648) (hb : b < 2147483648) : (nI a ≤ nI b) ↔ a ≤ b := nI_leI ha hb
theorem n_lt {a b : Nat} (ha : a < 2147483648) (hb : b < 2147483648) : (nI a < nI b) ↔ a < b := nI_ltI ha hb
theorem n_eq {a b : Nat} (ha : a < 2147483648) (hb : b < 2147483648) : (nI a = nI b) ↔ a = b := nI_eq ha hb
theorem n_dec (a : Nat) : nI (a + 1) + nM = nI a := pk_m1 a
theorem n_dec0 : nI 0 + nM = nM := by decide
theorem n_dec1 : nI 0 - nI 1 = nM := by decide
theorem n_sM {n : Nat} (h : n < 2147483648) : (nI n = nM) ↔ False := by
  refine ⟨fun h2 => ?_, False.elim⟩
  have := congrArg Int32.toInt h2
  rw [tI_nI h, show nM.toInt = -1 from by decide] at this
  omega
theorem n_Ms {n : Nat} (h : n < 2147483648) : (nM = nI n) ↔ False := by rw [eq_comm]; exact n_sM h
theorem n_Mlt {n : Nat} (h : n < 2147483648) : (nM < nI n) ↔ True := by
  rw [ilt, tI_nI h, show nM.toInt = -1 from by decide]
  exact ⟨fun _ => trivial, fun _ => by omega⟩
theorem n_Mle {n : Nat} (h : n < 2147483648) : (nM ≤ nI n) ↔ True := by
  rw [ile, tI_nI h, show nM.toInt = -1 from by decide]
  exact ⟨fun _ => trivial, fun _ => by omega⟩
theorem n_ltM {n : Nat} (h : n < 2147483648) : (nI n < nM) ↔ False := by
  rw [ilt, tI_nI h, show nM.toInt = -1 from by decide]
  exact ⟨fun q => by omega, False.elim⟩
theorem n_leM {n : Nat} (h : n < 2147483648) : (nI n ≤ nM) ↔ False := by
  rw [ile, tI_nI h, show nM.toInt = -1 from by decide]
  exact ⟨fun q => by omega, False.elim⟩
theorem n_Minc : nM + nI 1 = nI 0 := by decide
theorem n_bit (n j : Nat) (hj : j < 32) : ((nI n >>> (nI j &&& nI 31)) &&& nI 1) = nI 0 ↔ n.testBit j = false := q_bit n j hj
theorem n_shr {n j : Nat} (h : n < 2147483648) (hj : j < 32) : nI n >>> (nI j &&& nI 31) = nI (n / 2 ^ j) := pk_shrN h _ j (s_l j hj)
theorem n_shl {n j : Nat} (hj : j < 32) (h : n * 2 ^ j < 2 ^ 32) : nI n <<< (nI j &&& nI 31) = nI (n * 2 ^ j) := pk_shlN _ j (s_l j hj) h
theorem n_and7 {n : Nat} (h : n < 4294967296) : nI n &&& nI 7 = nI (n % 8) := pk_andN h 3 (by decide)
theorem n_and1 {n : Nat} (h : n < 4294967296) : nI n &&& nI 1 = nI (n % 2) := pk_andN h 1 (by decide)
theorem n_and63 {n : Nat} (h : n < 4294967296) : nI n &&& nI 63 = nI (n % 64) := pk_andN h 6 (by decide)
theorem n_bit1 (n j : Nat) (hn : n < 2147483648) (hj : j < 32) : ((nI n >>> (nI j &&& nI 31)) &&& nI 1) = nI 1 ↔ n.testBit j = true := by
  have h := n_bit n j hj
  rw [n_shr hn hj, n_and1 (by have := Nat.div_le_self n (2 ^ j); omega)] at h ⊢
  have h2 : n / 2 ^ j % 2 < 2 := Nat.mod_lt _ (by omega)
  rw [n_eq (by omega) (by omega)] at h ⊢
  cases hb : n.testBit j with
  | false => rw [hb] at h; simp at h; simp; omega
  | true => rw [hb] at h; simp at h; simp; omega
def dg (code k : Nat) : Nat := code / 8 ^ k % 8
theorem p8 (k : Nat) : 2 ^ (3 * k) = 8 ^ k := by rw [Nat.pow_mul]
theorem p8_le : ∀ k, k < 7 → 8 ^ k ≤ 262144 := by decide
theorem n_dig {code k : Nat} (h : code < 2147483648) (hk : k < 10) : (nI code >>> (nI (3 * k) &&& nI 31)) &&& nI 7 = nI (dg code k) := by
  rw [n_shr h (by omega), p8, n_and7 (by have := Nat.div_le_self code (8 ^ k); omega)]
  rfl
theorem n_sh8 {n k : Nat} (hn : n < 8) (hk : k < 7) : nI n <<< (nI (3 * k) &&& nI 31) = nI (n * 8 ^ k) := by
  have := p8_le k hk
  rw [n_shl (by omega) (by rw [p8]; have : n * 8 ^ k ≤ 8 * 262144 := Nat.mul_le_mul (by omega) this; omega), p8]
theorem n_18 {k : Nat} (hk : k < 7) : nI 1 <<< (nI (3 * k) &&& nI 31) = nI (8 ^ k) := by
  rw [n_sh8 (by omega) hk, Nat.one_mul]
theorem n_1s {k : Nat} (hk : k < 31) : nI 1 <<< (nI k &&& nI 31) = nI (2 ^ k) := by
  rw [n_shl (by omega) (by rw [Nat.one_mul]; exact Nat.pow_lt_pow_right (by omega) (by omega)), Nat.one_mul]
theorem dg_lt (code k : Nat) : dg code k < 8 := Nat.mod_lt _ (by omega)
theorem rdn {R : qR} {I : qI} {a len n : Nat} (hk : (R.2.1 a).2 = len) (h : n < len) (hb : len < 2147483648) : qrd I R a (nI n) = some (I a n) := by
  rw [qrd_t hk (by rw [tI_nI (by omega)]; omega) (by rw [tI_nI (by omega)]; omega), tI_nI (by omega)]
  rfl
theorem wrn {R : qR} {I : qI} {a len n : Nat} {v : Int32} (hk : (R.2.1 a).2 = len) (h : n < len) (hb : len < 2147483648) : qwr I R a (nI n) v = some (qup I a n v) := by
  rw [qwr_t hk (by rw [tI_nI (by omega)]; omega) (by rw [tI_nI (by omega)]; omega), tI_nI (by omega)]
  rfl
theorem wzn {R : qR} {I : qI} {a len n : Nat} {v : Int32} (hk : (R.2.1 a).2 = len) (h : n < len) (hb : len < 2147483648) : qwz I R a (nI n) v = some (qup I a n (vp_nar .boolean v)) := by
  unfold qwz
  rw [hk, if_pos (qin_t (by rw [tI_nI (by omega)]; omega) (by rw [tI_nI (by omega)]; omega)), inat, tI_nI (by omega)]
  rfl
theorem ran {R : qR} {a len n : Nat} (hk : (R.2.1 a).2 = len) (h : n < len) (hb : len < 2147483648) : qra R a (nI n) = R.1 a n := by
  rw [qra_t hk (by rw [tI_nI (by omega)]; omega) (by rw [tI_nI (by omega)]; omega), tI_nI (by omega)]
  rfl
theorem nar0 : vp_nar .boolean (nI 0) = nI 0 := by decide
theorem nar1 : vp_nar .boolean (nI 1) = nI 1 := by decide
theorem l0 : (0 : Int32) = nI 0 := by decide
theorem obs {α β : Type} {a : α} {f : α → Option β} : (some a).bind f = f a := (fun (o : Option α) (e : o = some a) => (by subst e; rfl : o.bind f = f a)) _ rfl
theorem qle {α β : Type} {x : α} {f : α → Option β} : qlet x f = f x := (fun (y : α) (e : y = x) => (by subst e; rfl : qlet y f = f x)) _ rfl
/-- loops: all states named -/
theorem qfor {S O : Type} {body : S → Option (S ⊕ O)} (f : Nat → S) (o : O) (n : Nat) {N : Nat} (hN : n < N) (h : ∀ k, k < n → body (f k) = some (.inl (f (k + 1)))) (he : body (f n) = some (.inr o)) : qloop body N (f 0) = some o := by
  have key : ∀ m k, k + m = n → ∀ M, m < M → qloop body M (f k) = some o := by
    intro m
    induction m with
    | zero =>
      intro k hk M hM
      obtain ⟨M, rfl⟩ : ∃ M', M = M' + 1 := ⟨M - 1, by omega⟩
      have : k = n := by omega
      subst this
      show (body (f k)).bind _ = _
      rw [he]
      rfl
    | succ m ih =>
      intro k hk M hM
      obtain ⟨M, rfl⟩ : ∃ M', M = M' + 1 := ⟨M - 1, by omega⟩
      show (body (f k)).bind _ = _
      rw [h k (by omega)]
      exact ih (k + 1) (by omega) M (by omega)
  exact key n 0 (by omega) N hN
/-- loops: an invariant that counts -/
theorem ok_for {S O : Type} {body : S → Option (S ⊕ O)} {P : O → Prop} (Inv : Nat → S → Prop) (n : Nat) {N : Nat} (hN : n < N) {s : S} (h0 : Inv 0 s) (hs : ∀ k s, k < n → Inv k s → ok (body s) (fun x => match x with | .inl s' => Inv (k + 1) s' | .inr o => P o)) (he : ∀ s, Inv n s → ok (body s) (fun x => match x with | .inl _ => False | .inr o => P o)) : ok (qloop body N s) P := by
  have key : ∀ m k, k + m = n → ∀ M s, m < M → Inv k s → ok (qloop body M s) P := by
    intro m
    induction m with
    | zero =>
      intro k hk M s hM hi
      obtain ⟨M, rfl⟩ : ∃ M', M = M' + 1 := ⟨M - 1, by omega⟩
      have : k = n := by omega
      subst this
      obtain ⟨x, e, hx⟩ := he s hi
      cases x with
      | inl s' => exact hx.elim
      | inr o => exact ⟨o, by show (body s).bind _ = _; rw [e]; rfl, hx⟩
    | succ m ih =>
      intro k hk M s hM hi
      obtain ⟨M, rfl⟩ : ∃ M', M = M' + 1 := ⟨M - 1, by omega⟩
      obtain ⟨x, e, hx⟩ := hs k s (by omega) hi
      cases x with
      | inl s' =>
        obtain ⟨o, e2, ho⟩ := ih (k + 1) (by omega) M s' (by omega) hx
        exact ⟨o, by show (body s).bind _ = _; rw [e]; exact e2, ho⟩
      | inr o => exact ⟨o, by show (body s).bind _ = _; rw [e]; rfl, hx⟩
  exact key n 0 (by omega) N s hN h0
theorem ok_is {α : Type} {o : Option α} {x : α} (h : ok o (fun r => r = x)) : o = some x := by
  obtain ⟨r, e, rfl⟩ := h
  exact e

theorem l1 : (1 : Int32) = nI 1 := by decide
theorem l2 : (2 : Int32) = nI 2 := by decide
theorem l3 : (3 : Int32) = nI 3 := by decide
theorem l5 : (5 : Int32) = nI 5 := by decide
theorem l6 : (6 : Int32) = nI 6 := by decide
theorem l7 : (7 : Int32) = nI 7 := by decide
theorem l8 : (8 : Int32) = nI 8 := by decide
theorem l10 : (10 : Int32) = nI 10 := by decide
theorem l11 : (11 : Int32) = nI 11 := by decide
theorem l12 : (12 : Int32) = nI 12 := by decide
theorem l31 : (31 : Int32) = nI 31 := by decide
theorem l36 : (36 : Int32) = nI 36 := by decide
theorem l63 : (63 : Int32) = nI 63 := by decide
theorem l100 : (100 : Int32) = nI 100 := by decide
theorem l1000 : (1000 : Int32) = nI 1000 := by decide
theorem l1440 : (1440 : Int32) = nI 1440 := by decide
theorem l1000000 : (1000000 : Int32) = nI 1000000 := by decide
theorem l16777216 : (16777216 : Int32) = nI 16777216 := by decide
theorem p0_0 {R : qR} (hL : LR R) : R.1 0 0 = some 1 := hL.p 0 0 rfl
theorem p0_1 {R : qR} (hL : LR R) : R.1 0 1 = some 2 := hL.p 0 1 rfl
theorem p0_2 {R : qR} (hL : LR R) : R.1 0 2 = some 4 := hL.p 0 2 rfl
theorem p0_3 {R : qR} (hL : LR R) : R.1 0 3 = some 51 := hL.p 0 3 rfl
theorem p2_0 {R : qR} (hL : LR R) : R.1 2 0 = some 3 := hL.p 2 0 rfl
theorem p4_0 {R : qR} (hL : LR R) : R.1 4 0 = some 5 := hL.p 4 0 rfl
theorem p4_1 {R : qR} (hL : LR R) : R.1 4 1 = some 6 := hL.p 4 1 rfl
theorem p4_2 {R : qR} (hL : LR R) : R.1 4 2 = some 7 := hL.p 4 2 rfl
theorem p4_3 {R : qR} (hL : LR R) : R.1 4 3 = some 8 := hL.p 4 3 rfl
theorem p4_4 {R : qR} (hL : LR R) : R.1 4 4 = some 14 := hL.p 4 4 rfl
theorem p4_5 {R : qR} (hL : LR R) : R.1 4 5 = some 18 := hL.p 4 5 rfl
theorem p8_1 {R : qR} (hL : LR R) : R.1 8 1 = some 9 := hL.p 8 1 rfl
theorem p8_5 {R : qR} (hL : LR R) : R.1 8 5 = some 10 := hL.p 8 5 rfl
theorem p8_6 {R : qR} (hL : LR R) : R.1 8 6 = some 11 := hL.p 8 6 rfl
theorem p8_7 {R : qR} (hL : LR R) : R.1 8 7 = some 12 := hL.p 8 7 rfl
theorem p14_0 {R : qR} (hL : LR R) : R.1 14 0 = some 15 := hL.p 14 0 rfl
theorem p14_4 {R : qR} (hL : LR R) : R.1 14 4 = some 16 := hL.p 14 4 rfl
theorem p14_5 {R : qR} (hL : LR R) : R.1 14 5 = some 17 := hL.p 14 5 rfl
theorem p18_1 {R : qR} (hL : LR R) : R.1 18 1 = some 19 := hL.p 18 1 rfl
theorem p18_2 {R : qR} (hL : LR R) : R.1 18 2 = some 20 := hL.p 18 2 rfl
theorem p51_4 {R : qR} (hL : LR R) : R.1 51 4 = some 53 := hL.p 51 4 rfl
theorem p51_5 {R : qR} (hL : LR R) : R.1 51 5 = some 54 := hL.p 51 5 rfl
theorem p51_8 {R : qR} (hL : LR R) : R.1 51 8 = some 55 := hL.p 51 8 rfl
theorem p51_9 {R : qR} (hL : LR R) : R.1 51 9 = some 56 := hL.p 51 9 rfl
theorem p51_10 {R : qR} (hL : LR R) : R.1 51 10 = some 57 := hL.p 51 10 rfl
theorem p51_11 {R : qR} (hL : LR R) : R.1 51 11 = some 58 := hL.p 51 11 rfl
theorem p51_12 {R : qR} (hL : LR R) : R.1 51 12 = some 59 := hL.p 51 12 rfl
theorem p51_14 {R : qR} (hL : LR R) : R.1 51 14 = some 60 := hL.p 51 14 rfl
theorem p111_3 {R : qR} (hL : LR R) : R.1 111 3 = some 112 := hL.p 111 3 rfl
theorem p111_4 {R : qR} (hL : LR R) : R.1 111 4 = some 113 := hL.p 111 4 rfl
theorem p111_5 {R : qR} (hL : LR R) : R.1 111 5 = some 114 := hL.p 111 5 rfl
theorem p111_6 {R : qR} (hL : LR R) : R.1 111 6 = some 115 := hL.p 111 6 rfl
theorem p111_7 {R : qR} (hL : LR R) : R.1 111 7 = some 116 := hL.p 111 7 rfl
theorem p111_8 {R : qR} (hL : LR R) : R.1 111 8 = some 117 := hL.p 111 8 rfl
theorem p111_11 {R : qR} (hL : LR R) : R.1 111 11 = some 118 := hL.p 111 11 rfl
theorem p111_12 {R : qR} (hL : LR R) : R.1 111 12 = some 119 := hL.p 111 12 rfl
theorem p111_13 {R : qR} (hL : LR R) : R.1 111 13 = some 120 := hL.p 111 13 rfl
theorem p111_14 {R : qR} (hL : LR R) : R.1 111 14 = some 121 := hL.p 111 14 rfl
theorem p111_15 {R : qR} (hL : LR R) : R.1 111 15 = some 122 := hL.p 111 15 rfl
theorem p111_16 {R : qR} (hL : LR R) : R.1 111 16 = some 123 := hL.p 111 16 rfl
theorem p111_17 {R : qR} (hL : LR R) : R.1 111 17 = some 124 := hL.p 111 17 rfl
theorem p111_18 {R : qR} (hL : LR R) : R.1 111 18 = some 125 := hL.p 111 18 rfl
theorem p111_19 {R : qR} (hL : LR R) : R.1 111 19 = some 126 := hL.p 111 19 rfl
theorem p111_21 {R : qR} (hL : LR R) : R.1 111 21 = some 127 := hL.p 111 21 rfl
theorem p111_22 {R : qR} (hL : LR R) : R.1 111 22 = some 128 := hL.p 111 22 rfl
theorem p111_23 {R : qR} (hL : LR R) : R.1 111 23 = some 129 := hL.p 111 23 rfl
theorem p111_24 {R : qR} (hL : LR R) : R.1 111 24 = some 130 := hL.p 111 24 rfl
theorem p111_27 {R : qR} (hL : LR R) : R.1 111 27 = some 131 := hL.p 111 27 rfl
theorem p111_28 {R : qR} (hL : LR R) : R.1 111 28 = some 132 := hL.p 111 28 rfl
theorem p111_29 {R : qR} (hL : LR R) : R.1 111 29 = some 133 := hL.p 111 29 rfl
theorem p111_30 {R : qR} (hL : LR R) : R.1 111 30 = some 134 := hL.p 111 30 rfl
theorem p111_31 {R : qR} (hL : LR R) : R.1 111 31 = some 135 := hL.p 111 31 rfl
theorem p111_32 {R : qR} (hL : LR R) : R.1 111 32 = some 136 := hL.p 111 32 rfl
theorem p111_34 {R : qR} (hL : LR R) : R.1 111 34 = some 137 := hL.p 111 34 rfl
theorem r3 {R : qR} {I : qI} {n : Nat} (hL : LR R) (h : n < 6) : qrd I R 3 (nI n) = some (I 3 n) := rdn (hL.l 3 rfl) h (by omega)
theorem w3 {R : qR} {I : qI} {n : Nat} {v : Int32} (hL : LR R) (h : n < 6) : qwr I R 3 (nI n) v = some (qup I 3 n v) := wrn (hL.l 3 rfl) h (by omega)
theorem r6 {R : qR} {I : qI} {n : Nat} (hL : LR R) (h : n < 6) : qrd I R 6 (nI n) = some (I 6 n) := rdn (hL.l 6 rfl) h (by omega)
theorem w6 {R : qR} {I : qI} {n : Nat} {v : Int32} (hL : LR R) (h : n < 6) : qwr I R 6 (nI n) v = some (qup I 6 n v) := wrn (hL.l 6 rfl) h (by omega)
theorem r7 {R : qR} {I : qI} {n : Nat} (hL : LR R) (h : n < 42) : qrd I R 7 (nI n) = some (I 7 n) := rdn (hL.l 7 rfl) h (by omega)
theorem w7 {R : qR} {I : qI} {n : Nat} {v : Int32} (hL : LR R) (h : n < 42) : qwr I R 7 (nI n) v = some (qup I 7 n v) := wrn (hL.l 7 rfl) h (by omega)
theorem r9 {R : qR} {I : qI} {n : Nat} (hL : LR R) (h : n < 42) : qrd I R 9 (nI n) = some (I 9 n) := rdn (hL.l 9 rfl) h (by omega)
theorem w9 {R : qR} {I : qI} {n : Nat} {v : Int32} (hL : LR R) (h : n < 42) : qwr I R 9 (nI n) v = some (qup I 9 n v) := wrn (hL.l 9 rfl) h (by omega)
theorem r10 {R : qR} {I : qI} {n : Nat} (hL : LR R) (h : n < 48) : qrd I R 10 (nI n) = some (I 10 n) := rdn (hL.l 10 rfl) h (by omega)
theorem w10 {R : qR} {I : qI} {n : Nat} {v : Int32} (hL : LR R) (h : n < 48) : qwr I R 10 (nI n) v = some (qup I 10 n v) := wrn (hL.l 10 rfl) h (by omega)
theorem r11 {R : qR} {I : qI} {n : Nat} (hL : LR R) (h : n < 48) : qrd I R 11 (nI n) = some (I 11 n) := rdn (hL.l 11 rfl) h (by omega)
theorem w11 {R : qR} {I : qI} {n : Nat} {v : Int32} (hL : LR R) (h : n < 48) : qwr I R 11 (nI n) v = some (qup I 11 n v) := wrn (hL.l 11 rfl) h (by omega)
theorem r12 {R : qR} {I : qI} {n : Nat} (hL : LR R) (h : n < 960) : qrd I R 12 (nI n) = some (I 12 n) := rdn (hL.l 12 rfl) h (by omega)
theorem w12 {R : qR} {I : qI} {n : Nat} {v : Int32} (hL : LR R) (h : n < 960) : qwr I R 12 (nI n) v = some (qup I 12 n v) := wrn (hL.l 12 rfl) h (by omega)
theorem r15 {R : qR} {I : qI} {n : Nat} (hL : LR R) (h : n < 6) : qrd I R 15 (nI n) = some (I 15 n) := rdn (hL.l 15 rfl) h (by omega)
theorem w15 {R : qR} {I : qI} {n : Nat} {v : Int32} (hL : LR R) (h : n < 6) : qwr I R 15 (nI n) v = some (qup I 15 n v) := wrn (hL.l 15 rfl) h (by omega)
theorem r16 {R : qR} {I : qI} {n : Nat} (hL : LR R) (h : n < 6) : qrd I R 16 (nI n) = some (I 16 n) := rdn (hL.l 16 rfl) h (by omega)
theorem w16 {R : qR} {I : qI} {n : Nat} {v : Int32} (hL : LR R) (h : n < 6) : qwr I R 16 (nI n) v = some (qup I 16 n v) := wrn (hL.l 16 rfl) h (by omega)
theorem r17 {R : qR} {I : qI} {n : Nat} (hL : LR R) (h : n < 64) : qrd I R 17 (nI n) = some (I 17 n) := rdn (hL.l 17 rfl) h (by omega)
theorem w17 {R : qR} {I : qI} {n : Nat} {v : Int32} (hL : LR R) (h : n < 64) : qwr I R 17 (nI n) v = some (qup I 17 n v) := wrn (hL.l 17 rfl) h (by omega)
theorem r19 {R : qR} {I : qI} {n : Nat} (hL : LR R) (h : n < 6) : qrd I R 19 (nI n) = some (I 19 n) := rdn (hL.l 19 rfl) h (by omega)
theorem w19 {R : qR} {I : qI} {n : Nat} {v : Int32} (hL : LR R) (h : n < 6) : qwr I R 19 (nI n) v = some (qup I 19 n v) := wrn (hL.l 19 rfl) h (by omega)
theorem r20 {R : qR} {I : qI} {n : Nat} (hL : LR R) (h : n < 6) : qrd I R 20 (nI n) = some (I 20 n) := rdn (hL.l 20 rfl) h (by omega)
theorem w20 {R : qR} {I : qI} {n : Nat} {v : Int32} (hL : LR R) (h : n < 6) : qwr I R 20 (nI n) v = some (qup I 20 n v) := wrn (hL.l 20 rfl) h (by omega)
theorem r53 {R : qR} {I : qI} {n : Nat} (hL : LR R) (h : n < 12) : qrd I R 53 (nI n) = some (I 53 n) := rdn (hL.l 53 rfl) h (by omega)
theorem w53 {R : qR} {I : qI} {n : Nat} {v : Int32} (hL : LR R) (h : n < 12) : qwr I R 53 (nI n) v = some (qup I 53 n v) := wrn (hL.l 53 rfl) h (by omega)
theorem r54 {R : qR} {I : qI} {n : Nat} (hL : LR R) (h : n < 100) : qrd I R 54 (nI n) = some (I 54 n) := rdn (hL.l 54 rfl) h (by omega)
theorem w54 {R : qR} {I : qI} {n : Nat} {v : Int32} (hL : LR R) (h : n < 100) : qwr I R 54 (nI n) v = some (qup I 54 n v) := wrn (hL.l 54 rfl) h (by omega)
theorem r55 {R : qR} {I : qI} {n : Nat} (hL : LR R) (h : n < 10) : qrd I R 55 (nI n) = some (I 55 n) := rdn (hL.l 55 rfl) h (by omega)
theorem w55 {R : qR} {I : qI} {n : Nat} {v : Int32} (hL : LR R) (h : n < 10) : qwr I R 55 (nI n) v = some (qup I 55 n v) := wrn (hL.l 55 rfl) h (by omega)
theorem r56 {R : qR} {I : qI} {n : Nat} (hL : LR R) (h : n < 10) : qrd I R 56 (nI n) = some (I 56 n) := rdn (hL.l 56 rfl) h (by omega)
theorem w56 {R : qR} {I : qI} {n : Nat} {v : Int32} (hL : LR R) (h : n < 10) : qwr I R 56 (nI n) v = some (qup I 56 n v) := wrn (hL.l 56 rfl) h (by omega)
theorem r57 {R : qR} {I : qI} {n : Nat} (hL : LR R) (h : n < 10) : qrd I R 57 (nI n) = some (I 57 n) := rdn (hL.l 57 rfl) h (by omega)
theorem w57 {R : qR} {I : qI} {n : Nat} {v : Int32} (hL : LR R) (h : n < 10) : qwr I R 57 (nI n) v = some (qup I 57 n v) := wrn (hL.l 57 rfl) h (by omega)
theorem r58 {R : qR} {I : qI} {n : Nat} (hL : LR R) (h : n < 10) : qrd I R 58 (nI n) = some (I 58 n) := rdn (hL.l 58 rfl) h (by omega)
theorem w58 {R : qR} {I : qI} {n : Nat} {v : Int32} (hL : LR R) (h : n < 10) : qwr I R 58 (nI n) v = some (qup I 58 n v) := wrn (hL.l 58 rfl) h (by omega)
theorem r59 {R : qR} {I : qI} {n : Nat} (hL : LR R) (h : n < 10) : qrd I R 59 (nI n) = some (I 59 n) := rdn (hL.l 59 rfl) h (by omega)
theorem w59 {R : qR} {I : qI} {n : Nat} {v : Int32} (hL : LR R) (h : n < 10) : qwr I R 59 (nI n) v = some (qup I 59 n v) := wrn (hL.l 59 rfl) h (by omega)
theorem r60 {R : qR} {I : qI} {n : Nat} (hL : LR R) (h : n < 10) : qrd I R 60 (nI n) = some (I 60 n) := rdn (hL.l 60 rfl) h (by omega)
theorem w60 {R : qR} {I : qI} {n : Nat} {v : Int32} (hL : LR R) (h : n < 10) : qwr I R 60 (nI n) v = some (qup I 60 n v) := wrn (hL.l 60 rfl) h (by omega)
theorem r112 {R : qR} {I : qI} {n : Nat} (hL : LR R) (h : n < 10) : qrd I R 112 (nI n) = some (I 112 n) := rdn (hL.l 112 rfl) h (by omega)
theorem w112 {R : qR} {I : qI} {n : Nat} {v : Int32} (hL : LR R) (h : n < 10) : qwr I R 112 (nI n) v = some (qup I 112 n v) := wrn (hL.l 112 rfl) h (by omega)
theorem r113 {R : qR} {I : qI} {n : Nat} (hL : LR R) (h : n < 10) : qrd I R 113 (nI n) = some (I 113 n) := rdn (hL.l 113 rfl) h (by omega)
theorem w113 {R : qR} {I : qI} {n : Nat} {v : Int32} (hL : LR R) (h : n < 10) : qwr I R 113 (nI n) v = some (qup I 113 n v) := wrn (hL.l 113 rfl) h (by omega)
theorem r114 {R : qR} {I : qI} {n : Nat} (hL : LR R) (h : n < 70) : qrd I R 114 (nI n) = some (I 114 n) := rdn (hL.l 114 rfl) h (by omega)
theorem w114 {R : qR} {I : qI} {n : Nat} {v : Int32} (hL : LR R) (h : n < 70) : qwr I R 114 (nI n) v = some (qup I 114 n v) := wrn (hL.l 114 rfl) h (by omega)
theorem r115 {R : qR} {I : qI} {n : Nat} (hL : LR R) (h : n < 70) : qrd I R 115 (nI n) = some (I 115 n) := rdn (hL.l 115 rfl) h (by omega)
theorem w115 {R : qR} {I : qI} {n : Nat} {v : Int32} (hL : LR R) (h : n < 70) : qwr I R 115 (nI n) v = some (qup I 115 n v) := wrn (hL.l 115 rfl) h (by omega)
theorem r116 {R : qR} {I : qI} {n : Nat} (hL : LR R) (h : n < 70) : qrd I R 116 (nI n) = some (I 116 n) := rdn (hL.l 116 rfl) h (by omega)
theorem w116 {R : qR} {I : qI} {n : Nat} {v : Int32} (hL : LR R) (h : n < 70) : qwr I R 116 (nI n) v = some (qup I 116 n v) := wrn (hL.l 116 rfl) h (by omega)
theorem r117 {R : qR} {I : qI} {n : Nat} (hL : LR R) (h : n < 13) : qrd I R 117 (nI n) = some (I 117 n) := rdn (hL.l 117 rfl) h (by omega)
theorem w117 {R : qR} {I : qI} {n : Nat} {v : Int32} (hL : LR R) (h : n < 13) : qwr I R 117 (nI n) v = some (qup I 117 n v) := wrn (hL.l 117 rfl) h (by omega)
theorem r118 {R : qR} {I : qI} {n : Nat} (hL : LR R) (h : n < 42) : qrd I R 118 (nI n) = some (I 118 n) := rdn (hL.l 118 rfl) h (by omega)
theorem w118 {R : qR} {I : qI} {n : Nat} {v : Int32} (hL : LR R) (h : n < 42) : qwr I R 118 (nI n) v = some (qup I 118 n v) := wrn (hL.l 118 rfl) h (by omega)
theorem r119 {R : qR} {I : qI} {n : Nat} (hL : LR R) (h : n < 6) : qrd I R 119 (nI n) = some (I 119 n) := rdn (hL.l 119 rfl) h (by omega)
theorem w119 {R : qR} {I : qI} {n : Nat} {v : Int32} (hL : LR R) (h : n < 6) : qwr I R 119 (nI n) v = some (qup I 119 n v) := wrn (hL.l 119 rfl) h (by omega)
theorem r120 {R : qR} {I : qI} {n : Nat} (hL : LR R) (h : n < 6) : qrd I R 120 (nI n) = some (I 120 n) := rdn (hL.l 120 rfl) h (by omega)
theorem w120 {R : qR} {I : qI} {n : Nat} {v : Int32} (hL : LR R) (h : n < 6) : qwr I R 120 (nI n) v = some (qup I 120 n v) := wrn (hL.l 120 rfl) h (by omega)
theorem r121 {R : qR} {I : qI} {n : Nat} (hL : LR R) (h : n < 42) : qrd I R 121 (nI n) = some (I 121 n) := rdn (hL.l 121 rfl) h (by omega)
theorem w121 {R : qR} {I : qI} {n : Nat} {v : Int32} (hL : LR R) (h : n < 42) : qwr I R 121 (nI n) v = some (qup I 121 n v) := wrn (hL.l 121 rfl) h (by omega)
theorem r122 {R : qR} {I : qI} {n : Nat} (hL : LR R) (h : n < 42) : qrd I R 122 (nI n) = some (I 122 n) := rdn (hL.l 122 rfl) h (by omega)
theorem w122 {R : qR} {I : qI} {n : Nat} {v : Int32} (hL : LR R) (h : n < 42) : qwr I R 122 (nI n) v = some (qup I 122 n v) := wrn (hL.l 122 rfl) h (by omega)
theorem r123 {R : qR} {I : qI} {n : Nat} (hL : LR R) (h : n < 42) : qrd I R 123 (nI n) = some (I 123 n) := rdn (hL.l 123 rfl) h (by omega)
theorem w123 {R : qR} {I : qI} {n : Nat} {v : Int32} (hL : LR R) (h : n < 42) : qwr I R 123 (nI n) v = some (qup I 123 n v) := wrn (hL.l 123 rfl) h (by omega)
theorem r124 {R : qR} {I : qI} {n : Nat} (hL : LR R) (h : n < 42) : qrd I R 124 (nI n) = some (I 124 n) := rdn (hL.l 124 rfl) h (by omega)
theorem w124 {R : qR} {I : qI} {n : Nat} {v : Int32} (hL : LR R) (h : n < 42) : qwr I R 124 (nI n) v = some (qup I 124 n v) := wrn (hL.l 124 rfl) h (by omega)
theorem r125 {R : qR} {I : qI} {n : Nat} (hL : LR R) (h : n < 6) : qrd I R 125 (nI n) = some (I 125 n) := rdn (hL.l 125 rfl) h (by omega)
theorem w125 {R : qR} {I : qI} {n : Nat} {v : Int32} (hL : LR R) (h : n < 6) : qwr I R 125 (nI n) v = some (qup I 125 n v) := wrn (hL.l 125 rfl) h (by omega)
theorem r126 {R : qR} {I : qI} {n : Nat} (hL : LR R) (h : n < 6) : qrd I R 126 (nI n) = some (I 126 n) := rdn (hL.l 126 rfl) h (by omega)
theorem w126 {R : qR} {I : qI} {n : Nat} {v : Int32} (hL : LR R) (h : n < 6) : qwr I R 126 (nI n) v = some (qup I 126 n v) := wrn (hL.l 126 rfl) h (by omega)
theorem r127 {R : qR} {I : qI} {n : Nat} (hL : LR R) (h : n < 262144) : qrd I R 127 (nI n) = some (I 127 n) := rdn (hL.l 127 rfl) h (by omega)
theorem w127 {R : qR} {I : qI} {n : Nat} {v : Int32} (hL : LR R) (h : n < 262144) : qwr I R 127 (nI n) v = some (qup I 127 n v) := wrn (hL.l 127 rfl) h (by omega)
theorem r128 {R : qR} {I : qI} {n : Nat} (hL : LR R) (h : n < 6) : qrd I R 128 (nI n) = some (I 128 n) := rdn (hL.l 128 rfl) h (by omega)
theorem w128 {R : qR} {I : qI} {n : Nat} {v : Int32} (hL : LR R) (h : n < 6) : qwr I R 128 (nI n) v = some (qup I 128 n v) := wrn (hL.l 128 rfl) h (by omega)
theorem r129 {R : qR} {I : qI} {n : Nat} (hL : LR R) (h : n < 70) : qrd I R 129 (nI n) = some (I 129 n) := rdn (hL.l 129 rfl) h (by omega)
theorem w129 {R : qR} {I : qI} {n : Nat} {v : Int32} (hL : LR R) (h : n < 70) : qwz I R 129 (nI n) v = some (qup I 129 n (vp_nar .boolean v)) := wzn (hL.l 129 rfl) h (by omega)
theorem r130 {R : qR} {I : qI} {n : Nat} (hL : LR R) (h : n < 770) : qrd I R 130 (nI n) = some (I 130 n) := rdn (hL.l 130 rfl) h (by omega)
theorem w130 {R : qR} {I : qI} {n : Nat} {v : Int32} (hL : LR R) (h : n < 770) : qwz I R 130 (nI n) v = some (qup I 130 n (vp_nar .boolean v)) := wzn (hL.l 130 rfl) h (by omega)
theorem r131 {R : qR} {I : qI} {n : Nat} (hL : LR R) (h : n < 10) : qrd I R 131 (nI n) = some (I 131 n) := rdn (hL.l 131 rfl) h (by omega)
theorem w131 {R : qR} {I : qI} {n : Nat} {v : Int32} (hL : LR R) (h : n < 10) : qwr I R 131 (nI n) v = some (qup I 131 n v) := wrn (hL.l 131 rfl) h (by omega)
theorem r132 {R : qR} {I : qI} {n : Nat} (hL : LR R) (h : n < 10) : qrd I R 132 (nI n) = some (I 132 n) := rdn (hL.l 132 rfl) h (by omega)
theorem w132 {R : qR} {I : qI} {n : Nat} {v : Int32} (hL : LR R) (h : n < 10) : qwr I R 132 (nI n) v = some (qup I 132 n v) := wrn (hL.l 132 rfl) h (by omega)
theorem r133 {R : qR} {I : qI} {n : Nat} (hL : LR R) (h : n < 10) : qrd I R 133 (nI n) = some (I 133 n) := rdn (hL.l 133 rfl) h (by omega)
theorem w133 {R : qR} {I : qI} {n : Nat} {v : Int32} (hL : LR R) (h : n < 10) : qwr I R 133 (nI n) v = some (qup I 133 n v) := wrn (hL.l 133 rfl) h (by omega)
theorem r134 {R : qR} {I : qI} {n : Nat} (hL : LR R) (h : n < 70) : qrd I R 134 (nI n) = some (I 134 n) := rdn (hL.l 134 rfl) h (by omega)
theorem w134 {R : qR} {I : qI} {n : Nat} {v : Int32} (hL : LR R) (h : n < 70) : qwz I R 134 (nI n) v = some (qup I 134 n (vp_nar .boolean v)) := wzn (hL.l 134 rfl) h (by omega)
theorem r135 {R : qR} {I : qI} {n : Nat} (hL : LR R) (h : n < 70) : qrd I R 135 (nI n) = some (I 135 n) := rdn (hL.l 135 rfl) h (by omega)
theorem w135 {R : qR} {I : qI} {n : Nat} {v : Int32} (hL : LR R) (h : n < 70) : qwz I R 135 (nI n) v = some (qup I 135 n (vp_nar .boolean v)) := wzn (hL.l 135 rfl) h (by omega)
theorem r136 {R : qR} {I : qI} {n : Nat} (hL : LR R) (h : n < 70) : qrd I R 136 (nI n) = some (I 136 n) := rdn (hL.l 136 rfl) h (by omega)
theorem w136 {R : qR} {I : qI} {n : Nat} {v : Int32} (hL : LR R) (h : n < 70) : qwz I R 136 (nI n) v = some (qup I 136 n (vp_nar .boolean v)) := wzn (hL.l 136 rfl) h (by omega)
theorem r137 {R : qR} {I : qI} {n : Nat} (hL : LR R) (h : n < 10) : qrd I R 137 (nI n) = some (I 137 n) := rdn (hL.l 137 rfl) h (by omega)
theorem w137 {R : qR} {I : qI} {n : Nat} {v : Int32} (hL : LR R) (h : n < 10) : qwr I R 137 (nI n) v = some (qup I 137 n v) := wrn (hL.l 137 rfl) h (by omega)
theorem a1 {R : qR} {n : Nat} (hL : LR R) (h : n < 10) : qra R 1 (nI n) = some (61 + 5 * n) := (ran (hL.l 1 rfl) h (by omega)).trans (hL.p 1 n (lP_t1 h))
theorem a5 {R : qR} {n : Nat} (hL : LR R) (h : n < 6) : qra R 5 (nI n) = some (21 + 5 * n) := (ran (hL.l 5 rfl) h (by omega)).trans (hL.p 5 n (lP_t5 h))
theorem pt2 {R : qR} {n : Nat} (hL : LR R) (h : n < 10) : R.1 (61 + 5 * n) 2 = some (61 + 5 * n + 1) := hL.p _ 2 (lP_tr n h 2 (by omega) (by omega))
theorem rt2 {R : qR} {I : qI} {m n : Nat} (hL : LR R) (hm : m < 10) (h : n < 7) : qrd I R (61 + 5 * m + 1) (nI n) = some (I (61 + 5 * m + 1) n) := rdn (hL.l _ (lK_tr m hm 1 (by omega))) h (by omega)
theorem wt2 {R : qR} {I : qI} {m n : Nat} {v : Int32} (hL : LR R) (hm : m < 10) (h : n < 7) : qwr I R (61 + 5 * m + 1) (nI n) v = some (qup I (61 + 5 * m + 1) n v) := wrn (hL.l _ (lK_tr m hm 1 (by omega))) h (by omega)
theorem pt3 {R : qR} {n : Nat} (hL : LR R) (h : n < 10) : R.1 (61 + 5 * n) 3 = some (61 + 5 * n + 2) := hL.p _ 3 (lP_tr n h 3 (by omega) (by omega))
theorem rt3 {R : qR} {I : qI} {m n : Nat} (hL : LR R) (hm : m < 10) (h : n < 7) : qrd I R (61 + 5 * m + 2) (nI n) = some (I (61 + 5 * m + 2) n) := rdn (hL.l _ (lK_tr m hm 2 (by omega))) h (by omega)
theorem wt3 {R : qR} {I : qI} {m n : Nat} {v : Int32} (hL : LR R) (hm : m < 10) (h : n < 7) : qwr I R (61 + 5 * m + 2) (nI n) v = some (qup I (61 + 5 * m + 2) n v) := wrn (hL.l _ (lK_tr m hm 2 (by omega))) h (by omega)
theorem pt4 {R : qR} {n : Nat} (hL : LR R) (h : n < 10) : R.1 (61 + 5 * n) 4 = some (61 + 5 * n + 3) := hL.p _ 4 (lP_tr n h 4 (by omega) (by omega))
theorem rt4 {R : qR} {I : qI} {m n : Nat} (hL : LR R) (hm : m < 10) (h : n < 7) : qrd I R (61 + 5 * m + 3) (nI n) = some (I (61 + 5 * m + 3) n) := rdn (hL.l _ (lK_tr m hm 3 (by omega))) h (by omega)
theorem wt4 {R : qR} {I : qI} {m n : Nat} {v : Int32} (hL : LR R) (hm : m < 10) (h : n < 7) : qwr I R (61 + 5 * m + 3) (nI n) v = some (qup I (61 + 5 * m + 3) n v) := wrn (hL.l _ (lK_tr m hm 3 (by omega))) h (by omega)
theorem pt5 {R : qR} {n : Nat} (hL : LR R) (h : n < 10) : R.1 (61 + 5 * n) 5 = some (61 + 5 * n + 4) := hL.p _ 5 (lP_tr n h 5 (by omega) (by omega))
theorem rt5 {R : qR} {I : qI} {m n : Nat} (hL : LR R) (hm : m < 10) (h : n < 12) : qrd I R (61 + 5 * m + 4) (nI n) = some (I (61 + 5 * m + 4) n) := rdn (hL.l _ (lK_tr m hm 4 (by omega))) h (by omega)
theorem wt5 {R : qR} {I : qI} {m n : Nat} {v : Int32} (hL : LR R) (hm : m < 10) (h : n < 12) : qwr I R (61 + 5 * m + 4) (nI n) v = some (qup I (61 + 5 * m + 4) n v) := wrn (hL.l _ (lK_tr m hm 4 (by omega))) h (by omega)
theorem pm2 {R : qR} {n : Nat} (hL : LR R) (h : n < 6) : R.1 (21 + 5 * n) 2 = some (21 + 5 * n + 1) := hL.p _ 2 (lP_mr n h 2 (by omega) (by omega))
theorem rm2 {R : qR} {I : qI} {m n : Nat} (hL : LR R) (hm : m < 6) (h : n < 7) : qrd I R (21 + 5 * m + 1) (nI n) = some (I (21 + 5 * m + 1) n) := rdn (hL.l _ (lK_mr m hm 1 (by omega))) h (by omega)
theorem wm2 {R : qR} {I : qI} {m n : Nat} {v : Int32} (hL : LR R) (hm : m < 6) (h : n < 7) : qwr I R (21 + 5 * m + 1) (nI n) v = some (qup I (21 + 5 * m + 1) n v) := wrn (hL.l _ (lK_mr m hm 1 (by omega))) h (by omega)
theorem pm3 {R : qR} {n : Nat} (hL : LR R) (h : n < 6) : R.1 (21 + 5 * n) 3 = some (21 + 5 * n + 2) := hL.p _ 3 (lP_mr n h 3 (by omega) (by omega))
theorem rm3 {R : qR} {I : qI} {m n : Nat} (hL : LR R) (hm : m < 6) (h : n < 7) : qrd I R (21 + 5 * m + 2) (nI n) = some (I (21 + 5 * m + 2) n) := rdn (hL.l _ (lK_mr m hm 2 (by omega))) h (by omega)
theorem wm3 {R : qR} {I : qI} {m n : Nat} {v : Int32} (hL : LR R) (hm : m < 6) (h : n < 7) : qwr I R (21 + 5 * m + 2) (nI n) v = some (qup I (21 + 5 * m + 2) n v) := wrn (hL.l _ (lK_mr m hm 2 (by omega))) h (by omega)
theorem pm4 {R : qR} {n : Nat} (hL : LR R) (h : n < 6) : R.1 (21 + 5 * n) 4 = some (21 + 5 * n + 3) := hL.p _ 4 (lP_mr n h 4 (by omega) (by omega))
theorem rm4 {R : qR} {I : qI} {m n : Nat} (hL : LR R) (hm : m < 6) (h : n < 7) : qrd I R (21 + 5 * m + 3) (nI n) = some (I (21 + 5 * m + 3) n) := rdn (hL.l _ (lK_mr m hm 3 (by omega))) h (by omega)
theorem wm4 {R : qR} {I : qI} {m n : Nat} {v : Int32} (hL : LR R) (hm : m < 6) (h : n < 7) : qwr I R (21 + 5 * m + 3) (nI n) v = some (qup I (21 + 5 * m + 3) n v) := wrn (hL.l _ (lK_mr m hm 3 (by omega))) h (by omega)
theorem pm5 {R : qR} {n : Nat} (hL : LR R) (h : n < 6) : R.1 (21 + 5 * n) 5 = some (21 + 5 * n + 4) := hL.p _ 5 (lP_mr n h 5 (by omega) (by omega))
theorem rm5 {R : qR} {I : qI} {m n : Nat} (hL : LR R) (hm : m < 6) (h : n < 12) : qrd I R (21 + 5 * m + 4) (nI n) = some (I (21 + 5 * m + 4) n) := rdn (hL.l _ (lK_mr m hm 4 (by omega))) h (by omega)
theorem wm5 {R : qR} {I : qI} {m n : Nat} {v : Int32} (hL : LR R) (hm : m < 6) (h : n < 12) : qwr I R (21 + 5 * m + 4) (nI n) v = some (qup I (21 + 5 * m + 4) n v) := wrn (hL.l _ (lK_mr m hm 4 (by omega))) h (by omega)
