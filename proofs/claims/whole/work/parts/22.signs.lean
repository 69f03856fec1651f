/-! SIGNS, the class's side -/
def uN (f : Nat → Nat) (c : Nat) : Nat → Nat
  | 0 => 0
  | k + 1 => if c.testBit k then uN f c k ||| f k else uN f c k
theorem uN_lt {f : Nat → Nat} {c : Nat} : ∀ k, (∀ i, i < k → f i < 128) → uN f c k < 128 := by
  intro k
  induction k with
  | zero => intro _; show 0 < 128; decide
  | succ k ih =>
    intro h
    have h1 := ih (fun i hi => h i (by omega))
    unfold uN
    split
    · exact Nat.or_lt_two_pow (n := 7) h1 (h k (by omega))
    · exact h1
theorem nI_t {x : Int32} {n : Nat} (h : x.toInt = n) : x = nI n := by
  have hr := irng x
  rw [ieq, h, tI_nI (by omega)]
theorem union_eq {R : qR} {I : qI} (hL : LR R) {N c : Nat} {f : Nat → Nat} (hc : c < 64) (hf : ∀ i, i < 6 → I 3 i = nI (f i) ∧ f i < 128) (hN : 10 < N) : fX3_unionOf N R I 2 (nI c) = some (nI (uN f c 6)) := by
  have key : ok (fX3_unionOf N R I 2 (nI c)) (fun r => r = nI (uN f c 6)) := by
    unfold fX3_unionOf
    refine ok_bind (ok_loop (fun s : Int32 × Int32 => ∃ k : Nat, k ≤ 6 ∧ s = (nI (uN f c k), nI k)) (fun s => (6 - s.2.toInt).toNat) ⟨0, by omega, rfl⟩ (by show (6 - (0 : Int32).toInt).toNat < N; rw [i0]; show 6 < N; omega) (fun s hs => ?_))
    obtain ⟨k, hk, rfl⟩ := hs
    show ok (cX3_unionOf_4 N R I 2 (nI c) (nI (uN f c k)) (nI k)) _
    unfold cX3_unionOf_4
    have ek : (nI k).toInt = k := tI_nI (by omega)
    have e1 : (nI k + 1) = nI (k + 1) := qn_add k 1
    have ek1 : (nI (k + 1)).toInt = (k : Int) + 1 := tI_nI (by omega)
    refine ok_if (fun q => ?_) (fun q => ?_)
    · rw [ile, i6, ek] at q
      rw [show k = 6 by omega]
      exact ok_some (ok_some rfl)
    · rw [ile, i6, ek] at q
      refine ok_if (fun b => ?_) (fun b => ?_)
      · rw [q_bit _ _ (by omega)] at b
        refine ok_some ⟨⟨k + 1, by omega, ?_⟩, by show (6 - (nI k + 1).toInt).toNat < (6 - (nI k).toInt).toNat; rw [e1, ek1, ek]; omega⟩
        rw [e1]
        unfold uN
        rw [if_neg (by rw [b]; decide)]
        cases k <;> rfl
      · rw [q_bit _ _ (by omega)] at b
        rw [hL.p 2 0 rfl]
        refine ok_bindv rfl (ok_bindv (qrd_t (hL.l 3 rfl) (by omega) (by omega)) (ok_some ⟨⟨k + 1, by omega, ?_⟩, by show (6 - (nI k + 1).toInt).toNat < (6 - (nI k).toInt).toNat; rw [e1, ek1, ek]; omega⟩))
        rw [e1, ek, Int.toNat_natCast, (hf k (by omega)).1, fa_or]
        have hb : c.testBit k = true := by
          cases hq : c.testBit k
          · exact absurd hq b
          · rfl
        have : uN f c (k + 1) = uN f c k ||| f k := by
          rw [uN, if_pos hb]
        rw [this]
  obtain ⟨r, e, rfl⟩ := key
  exact e
/-- fewer bits first, then the lesser number -/
def le2 (a b : Nat) : Prop := bc 13 a < bc 13 b ∨ (bc 13 a = bc 13 b ∧ a ≤ b)
theorem le2.trans {a b c : Nat} (h : le2 a b) (h2 : le2 b c) : le2 a c := by unfold le2 at *; omega
theorem le2.rf {a : Nat} : le2 a a := Or.inr ⟨rfl, Nat.le_refl _⟩
theorem le2.anti {a b : Nat} (h : le2 a b) (h2 : le2 b a) : a = b := by unfold le2 at *; omega
theorem bc_le : ∀ k n, bc k n ≤ k := by
  intro k
  induction k with
  | zero => intro n; exact Nat.le_refl _
  | succ k ih =>
    intro n
    have := ih (n / 2)
    rw [bc]
    omega
theorem lesser_ok {R : qR} {I : qI} {a b : Nat} (ha : a < 8192) (hb : b < 8192) : ok (fX3_lesser R I (nI a) (nI b)) (fun r => ∃ m, r = nI m ∧ (m = a ∨ m = b) ∧ le2 m a ∧ le2 m b) := by
  have h1 := bc_le 13 a
  have h2 := bc_le 13 b
  have e : (nI (bc 13 a) - nI (bc 13 b)).toInt = (bc 13 a : Int) - bc 13 b := by rw [isu (by rw [tI_nI (by omega), tI_nI (by omega)]; omega) (by rw [tI_nI (by omega), tI_nI (by omega)]; omega), tI_nI (by omega), tI_nI (by omega)]
  unfold fX3_lesser
  refine ok_bindv (bitc ha) (ok_bindv (bitc hb) ?_)
  refine ok_if (fun q => ?_) (fun q => ?_)
  · rw [ieq, i0, e] at q
    by_cases hlt : b < a
    · rw [if_pos (by rw [ilt, tI_nI (by omega), tI_nI (by omega)]; omega)]
      exact ok_some ⟨b, rfl, Or.inr rfl, Or.inr ⟨by omega, by omega⟩, le2.rf⟩
    · rw [if_neg (by rw [ilt, tI_nI (by omega), tI_nI (by omega)]; omega)]
      exact ok_some ⟨a, rfl, Or.inl rfl, le2.rf, Or.inr ⟨by omega, by omega⟩⟩
  · rw [ieq, i0, e] at q
    refine ok_if (fun q2 => ?_) (fun q2 => ?_)
    · rw [ile, i0, e] at q2
      exact ok_some ⟨b, rfl, Or.inr rfl, Or.inl (by omega), le2.rf⟩
    · rw [ile, i0, e] at q2
      exact ok_some ⟨a, rfl, Or.inl rfl, le2.rf, Or.inl (by omega)⟩
/-- a without b, for sets of seven -/
theorem nI_andnot {a b : Nat} (ha : a < 128) : nI a &&& (nI b ^^^ (-1)) = nI (a &&& (127 ^^^ b)) := by
  refine b_ext (fun i hi => ?_)
  rw [b_and, b_xor, b_m1 i hi, bt_nI _ _ hi, bt_nI _ _ hi, bt_nI _ _ hi, Nat.testBit_and, Nat.testBit_xor]
  by_cases h7 : i < 7
  · have : (127 : Nat).testBit i = true := by
      have h := Nat.testBit_two_pow_sub_one 7 i
      rw [show (2 : Nat) ^ 7 - 1 = 127 from rfl] at h
      rw [h]
      simpa using h7
    rw [this]
    cases b.testBit i <;> cases a.testBit i <;> rfl
  · rw [Nat.testBit_lt_two_pow (x := a) (i := i) (Nat.lt_of_lt_of_le ha (Nat.pow_le_pow_right (n := 2) (by decide) (show 7 ≤ i by omega)))]
    simp
theorem nI_shl7 {c : Nat} : nI c <<< ((7 : Int32) &&& 31) = nI (c * 128) := by
  refine b_ext (fun i hi => ?_)
  rw [show (7 : Int32) = nI 7 from rfl, b_shl 7 (by omega) (nI c) hi, bt_nI _ _ hi, show c * 128 = c <<< 7 from (Nat.shiftLeft_eq c 7).symm, Nat.testBit_shiftLeft]
  by_cases h7 : 7 ≤ i
  · rw [bt_nI _ _ (by omega)]
  · simp [h7]
def cand (f : Nat → Nat) (d c : Nat) : Nat := c * 128 + (d &&& (127 ^^^ uN f c 6))
def isC (f : Nat → Nat) (d c : Nat) : Prop := uN f c 6 &&& (127 ^^^ d) = 0
theorem cand_lt {f : Nat → Nat} {d c : Nat} (hd : d < 128) (hc : c < 64) : cand f d c < 8192 := by
  have : (d &&& (127 ^^^ uN f c 6)) ≤ d := Nat.and_le_left
  unfold cand
  omega
theorem cand_0 {f : Nat → Nat} {d : Nat} (hd : d < 128) : cand f d 0 = d := by
  have h0 : uN f 0 6 = 0 := by
    have : ∀ k, uN f 0 k = 0 := by
      intro k
      induction k with
      | zero => rfl
      | succ k ih => rw [uN, if_neg (by simp), ih]
    exact this 6
  unfold cand
  rw [h0, show 127 ^^^ 0 = 2 ^ 7 - 1 from rfl, Nat.and_two_pow_sub_one_eq_mod, Nat.mod_eq_of_lt hd]
  omega
theorem fewest_ok {R : qR} {I : qI} (hL : LR R) {N d : Nat} {f : Nat → Nat} (hd : d < 128) (hf : ∀ i, i < 6 → I 3 i = nI (f i) ∧ f i < 128) (hN : 100 < N) :
    ok (fX3_fewestFor N R I 2 (nI d)) (fun r => ∃ c, c < 64 ∧ (c = 0 ∨ isC f d c) ∧ r = nI (cand f d c) ∧ ∀ c2, c2 < 64 → c2 = 0 ∨ isC f d c2 → le2 (cand f d c) (cand f d c2)) := by
  unfold fX3_fewestFor
  refine ok_bind (ok_loop (fun s : Int32 × Int32 => ∃ k c : Nat, 1 ≤ k ∧ k ≤ 64 ∧ s = (nI (cand f d c), nI k) ∧ c < 64 ∧ (c = 0 ∨ isC f d c) ∧ ∀ c2, c2 < k → c2 = 0 ∨ isC f d c2 → le2 (cand f d c) (cand f d c2)) (fun s => (64 - s.2.toInt).toNat) ⟨1, 0, by omega, by omega, by rw [cand_0 hd]; rfl, by omega, Or.inl rfl, fun c2 h2 _ => by rw [show c2 = 0 by omega]; exact le2.rf⟩ (by show (64 - (1 : Int32).toInt).toNat < N; rw [i1]; show 63 < N; omega) (fun s hs => ?_))
  obtain ⟨k, c, hk1, hk, rfl, hc, hcC, hmin⟩ := hs
  show ok (cX3_fewestFor_4 N R I 2 (nI d) (nI (cand f d c)) (nI k)) _
  unfold cX3_fewestFor_4
  have ek : (nI k).toInt = k := tI_nI (by omega)
  have e1 : (nI k + 1) = nI (k + 1) := qn_add k 1
  have ek1 : (nI (k + 1)).toInt = (k : Int) + 1 := tI_nI (by omega)
  have i64 : (64 : Int32).toInt = 64 := by decide
  refine ok_if (fun q => ?_) (fun q => ?_)
  · rw [ile, i64, ek] at q
    exact ok_some (ok_some ⟨c, hc, hcC, rfl, fun c2 h2 h3 => hmin c2 (by omega) h3⟩)
  · rw [ile, i64, ek] at q
    have hu : uN f k 6 < 128 := uN_lt 6 (fun i hi => (hf i hi).2)
    refine ok_bindv (union_eq hL (by omega) hf (by omega)) ?_
    rw [nI_andnot hu, show (0 : Int32) = nI 0 from rfl]
    have hle : (uN f k 6 &&& (127 ^^^ d)) ≤ uN f k 6 := Nat.and_le_left
    refine ok_if (fun b => ?_) (fun b => ?_)
    · rw [qn_eq (by omega) (by omega)] at b
      have hle2 : (d &&& (127 ^^^ uN f k 6)) < 128 := Nat.lt_of_le_of_lt Nat.and_le_left hd
      rw [nI_andnot hd, nI_shl7, fa_or, show k * 128 ||| (d &&& (127 ^^^ uN f k 6)) = cand f d k by
        unfold cand
        rw [Nat.mul_comm k 128]
        exact (Nat.two_pow_add_eq_or_of_lt (i := 7) hle2 k).symm]
      refine ok_bind (ok_mono (lesser_ok (cand_lt hd hc) (cand_lt hd (by omega))) (fun r hr => ?_))
      obtain ⟨m, rfl, hm, l1, l2⟩ := hr
      have hm2 : ∃ c3, c3 < 64 ∧ (c3 = 0 ∨ isC f d c3) ∧ m = cand f d c3 := by
        rcases hm with rfl | rfl
        · exact ⟨c, hc, hcC, rfl⟩
        · exact ⟨k, by omega, Or.inr b, rfl⟩
      obtain ⟨c3, h31, h32, rfl⟩ := hm2
      refine ok_some ⟨⟨k + 1, c3, by omega, by omega, by rw [e1], h31, h32, fun c2 h2 h3 => ?_⟩, by show (64 - (nI k + 1).toInt).toNat < (64 - (nI k).toInt).toNat; rw [e1, ek1, ek]; omega⟩
      by_cases hck : c2 = k
      · rw [hck]; exact l2
      · exact l1.trans (hmin c2 (by omega) h3)
    · rw [qn_eq (by omega) (by omega)] at b
      refine ok_some ⟨⟨k + 1, c, by omega, by omega, by rw [e1], hc, hcC, fun c2 h2 h3 => ?_⟩, by show (64 - (nI k + 1).toInt).toNat < (64 - (nI k).toInt).toNat; rw [e1, ek1, ek]; omega⟩
      by_cases hck : c2 = k
      · subst hck
        rcases h3 with h3 | h3
        · omega
        · exact absurd h3 b
      · exact hmin c2 (by omega) h3
