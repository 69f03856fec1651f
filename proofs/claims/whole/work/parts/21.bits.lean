/-! rows on bits, shifts and unsigned numbers, to paste: each family out of a closed proof of our own, whole with what it rests on; each by itself clean at Lean in its own claim (generation 39, form 5). Take a family whole -/
/-! ===== Int32 by its bits: bt x i ===== -/
def bt (x : Int32) (i : Nat) : Bool := x.toBitVec.getLsbD i
theorem b_ext {x y : Int32} (h : ∀ i, i < 32 → bt x i = bt y i) : x = y := Int32.toBitVec_inj.mp (BitVec.eq_of_getLsbD_eq (fun i hi => h i hi))
theorem b_or (x y : Int32) (i : Nat) : bt (x ||| y) i = (bt x i || bt y i) := by unfold bt; rw [Int32.toBitVec_or, BitVec.getLsbD_or]
theorem b_and (x y : Int32) (i : Nat) : bt (x &&& y) i = (bt x i && bt y i) := by unfold bt; rw [Int32.toBitVec_and, BitVec.getLsbD_and]
theorem b_xor (x y : Int32) (i : Nat) : bt (x ^^^ y) i = (bt x i ^^ bt y i) := by unfold bt; rw [Int32.toBitVec_xor, BitVec.getLsbD_xor]
theorem b_big {x : Int32} {i : Nat} (h : 32 ≤ i) : bt x i = false := BitVec.getLsbD_of_ge _ _ h
theorem b_255 (i : Nat) : bt 255 i = decide (i < 8) := by
  rcases Nat.lt_or_ge i 32 with h | h
  · exact (by decide +kernel : ∀ i, i < 32 → bt 255 i = decide (i < 8)) i h
  · rw [b_big h, decide_eq_false (by omega)]
theorem b_65535 (i : Nat) : bt 65535 i = decide (i < 16) := by
  rcases Nat.lt_or_ge i 32 with h | h
  · exact (by decide +kernel : ∀ i, i < 32 → bt 65535 i = decide (i < 16)) i h
  · rw [b_big h, decide_eq_false (by omega)]
theorem b_m1 : ∀ i, i < 32 → bt (-1) i = true := by decide +kernel
theorem b_0 (i : Nat) : bt 0 i = false := BitVec.getLsbD_zero
theorem s_l : ∀ n, n < 32 → ((nI n &&& 31).toBitVec.smod 32).toNat = n := by decide +kernel
theorem s_u : ∀ n, n < 32 → (((nI n).toUInt32 &&& Int32.toUInt32 31).toBitVec % 32).toNat = n := by decide +kernel
theorem b_shl (n : Nat) (hn : n < 32) (x : Int32) {i : Nat} (hi : i < 32) : bt (x <<< (nI n &&& 31)) i = (decide (n ≤ i) && bt x (i - n)) := by
  unfold bt
  rw [Int32.toBitVec_shiftLeft]
  show (x.toBitVec <<< ((nI n &&& 31).toBitVec.smod 32).toNat).getLsbD i = _
  rw [s_l n hn, BitVec.getLsbD_shiftLeft]
  rcases Nat.lt_or_ge i n with h | h
  · simp [h, Nat.not_le.mpr h]
  · simp [hi, h, Nat.not_lt.mpr h]
theorem b_ushr (n : Nat) (hn : n < 32) (x : Int32) (i : Nat) : bt ((x.toUInt32 >>> ((nI n).toUInt32 &&& Int32.toUInt32 31)).toInt32) i = bt x (n + i) := by
  show (x.toUInt32 >>> ((nI n).toUInt32 &&& Int32.toUInt32 31)).toBitVec.getLsbD i = x.toUInt32.toBitVec.getLsbD (n + i)
  rw [UInt32.toBitVec_shiftRight]
  show (x.toUInt32.toBitVec >>> (((nI n).toUInt32 &&& Int32.toUInt32 31).toBitVec % 32).toNat).getLsbD i = _
  rw [s_u n hn, BitVec.getLsbD_ushiftRight]
theorem b_sshr (n : Nat) (hn : n < 32) (x : Int32) {i : Nat} (hi : i < 32) : bt (x >>> (nI n &&& 31)) i = if n + i < 32 then bt x (n + i) else bt x 31 := by
  unfold bt
  rw [Int32.toBitVec_shiftRight]
  show (x.toBitVec.sshiftRight ((nI n &&& 31).toBitVec.smod 32).toNat).getLsbD i = _
  rw [s_l n hn, BitVec.getLsbD_sshiftRight, BitVec.msb_eq_getLsbD_last]
  simp [hi]
theorem b_shl8 (x : Int32) {i : Nat} (hi : i < 32) : bt (x <<< ((8 : Int32) &&& 31)) i = (decide (8 ≤ i) && bt x (i - 8)) := b_shl 8 (by omega) x hi
theorem b_shl16 (x : Int32) {i : Nat} (hi : i < 32) : bt (x <<< ((16 : Int32) &&& 31)) i = (decide (16 ≤ i) && bt x (i - 16)) := b_shl 16 (by omega) x hi
theorem b_shl24 (x : Int32) {i : Nat} (hi : i < 32) : bt (x <<< ((24 : Int32) &&& 31)) i = (decide (24 ≤ i) && bt x (i - 24)) := b_shl 24 (by omega) x hi
theorem b_sshr8 (x : Int32) {i : Nat} (hi : i < 32) : bt (x >>> ((8 : Int32) &&& 31)) i = if 8 + i < 32 then bt x (8 + i) else bt x 31 := b_sshr 8 (by omega) x hi
/-! ===== nI under and, xor, >>>, one bit, 65535 ===== -/
theorem nx_and (a b : Nat) : nI a &&& nI b = nI (a &&& b) := by
  apply Int32.toBitVec_inj.1
  show BitVec.ofNat 32 a &&& BitVec.ofNat 32 b = BitVec.ofNat 32 (a &&& b)
  apply BitVec.eq_of_getLsbD_eq
  intro i hi
  simp [hi]
theorem nx_xor (a b : Nat) : nI a ^^^ nI b = nI (a ^^^ b) := by
  apply Int32.toBitVec_inj.1
  show BitVec.ofNat 32 a ^^^ BitVec.ofNat 32 b = BitVec.ofNat 32 (a ^^^ b)
  apply BitVec.eq_of_getLsbD_eq
  intro i hi
  simp [hi]
theorem nx_cnt : ∀ j : Fin 32, (UInt32.ofNat j.val &&& Int32.toUInt32 31).toNat % 32 = j.val := by decide +kernel
theorem nx_ush {k j : Nat} (hk : k < 65536) (hj : j < 32) : ((nI k).toUInt32 >>> ((nI j).toUInt32 &&& Int32.toUInt32 31)).toInt32 = nI (k >>> j) := by
  have hs : k >>> j ≤ k := by
    rw [Nat.shiftRight_eq_div_pow]
    exact Nat.div_le_self _ _
  have e2 : UInt32.ofNat k >>> (UInt32.ofNat j &&& Int32.toUInt32 31) = UInt32.ofNat (k >>> j) := by
    apply UInt32.toNat_inj.1
    have h1 : (UInt32.ofNat k).toNat = k := Nat.mod_eq_of_lt (by omega)
    have h2 : (UInt32.ofNat (k >>> j)).toNat = k >>> j := Nat.mod_eq_of_lt (by omega)
    rw [UInt32.toNat_shiftRight, nx_cnt ⟨j, hj⟩, h1, h2]
  show (UInt32.ofNat k >>> (UInt32.ofNat j &&& Int32.toUInt32 31)).toInt32 = _
  rw [e2]
  rfl
theorem fa_or (a b : Nat) : nI a ||| nI b = nI (a ||| b) := by
  apply Int32.toBitVec_inj.1
  show BitVec.ofNat 32 a ||| BitVec.ofNat 32 b = BitVec.ofNat 32 (a ||| b)
  apply BitVec.eq_of_getLsbD_eq
  intro i hi
  simp [hi]

theorem bt_nI (n i : Nat) (hi : i < 32) : bt (nI n) i = n.testBit i := by
  show (BitVec.ofNat 32 n).getLsbD i = _
  rw [BitVec.getLsbD_ofNat]
  simp [hi]
theorem bt_1 (i : Nat) (hi : i < 32) : bt 1 i = decide (i = 0) := by
  have := bt_nI 1 i hi
  rw [show (1 : Int32) = nI 1 from rfl, this]
  cases i with
  | zero => rfl
  | succ i => simp [Nat.testBit_succ]
/-- a bit, read by a shift -/
theorem q_bit (n j : Nat) (hj : j < 32) : ((nI n >>> (nI j &&& 31)) &&& 1) = 0 ↔ n.testBit j = false := by
  have hb : ∀ i, i < 32 → bt ((nI n >>> (nI j &&& 31)) &&& 1) i = (decide (i = 0) && n.testBit j) := by
    intro i hi
    rw [b_and, bt_1 i hi, b_sshr j hj (nI n) hi]
    by_cases h0 : i = 0
    · subst h0
      rw [if_pos (by omega), bt_nI _ _ (by omega)]
      simp
    · simp [h0]
  constructor
  · intro h
    have := hb 0 (by omega)
    rw [h, b_0] at this
    simpa using this.symm
  · intro h
    refine b_ext (fun i hi => ?_)
    rw [hb i hi, b_0, h]
    simp
def bc : Nat → Nat → Nat
  | 0, _ => 0
  | k + 1, n => n % 2 + bc k (n / 2)
/-- the count of bits, as the JDK has it, on numbers -/
def bcJ1 (n : Nat) : Nat := n - (n >>> 1 &&& 1431655765)
def bcJ2 (n : Nat) : Nat := (n &&& 858993459) + (n >>> 2 &&& 858993459)
def bcJ3 (n : Nat) : Nat := (n + n >>> 4) &&& 252645135
def bcJ4 (n : Nat) : Nat := n + n >>> 8
def bcJ5 (n : Nat) : Nat := (n + n >>> 16) &&& 63
def allN (p : Nat → Bool) : Nat → Bool
  | 0 => true
  | n + 1 => p n && allN p n
theorem allN_at {p : Nat → Bool} : ∀ {N : Nat}, allN p N = true → ∀ n, n < N → p n = true := by
  intro N
  induction N with
  | zero => intro _ n h; omega
  | succ N ih =>
    intro h n hn
    rw [allN, Bool.and_eq_true] at h
    by_cases he : n = N
    · rw [he]; exact h.1
    · exact ih h.2 n (by omega)
set_option maxRecDepth 1000000 in
theorem bcJ_chk : allN (fun n => Nat.beq (bcJ5 (bcJ4 (bcJ3 (bcJ2 (bcJ1 n))))) (bc 13 n)) 8192 = true := by decide +kernel
set_option maxRecDepth 1000000 in
theorem bc_low_chk : allN (fun n => n == 0 || Nat.beq (bc 13 (n &&& (n - 1)) + 1) (bc 13 n)) 8192 = true := by decide +kernel
theorem bcJ_all (n : Nat) (h : n < 8192) : bcJ5 (bcJ4 (bcJ3 (bcJ2 (bcJ1 n)))) = bc 13 n := Nat.eq_of_beq_eq_true (allN_at bcJ_chk n h)
theorem bc_low (n : Nat) (h : n < 8192) (h0 : n ≠ 0) : bc 13 (n &&& (n - 1)) + 1 = bc 13 n := by
  have := allN_at bc_low_chk n h
  rw [Bool.or_eq_true] at this
  rcases this with q | q
  · exact absurd (by simpa using q) h0
  · exact Nat.eq_of_beq_eq_true q
theorem qn_add (a b : Nat) : nI a + nI b = nI (a + b) := (Int32.ofNat_add a b).symm
theorem qn_sub {a b : Nat} (h : b ≤ a) : nI a - nI b = nI (a - b) := pk_sub h
theorem shr_le (n k : Nat) : n >>> k ≤ n := by rw [Nat.shiftRight_eq_div_pow]; exact Nat.div_le_self _ _
theorem bitc {R : qR} {I : qI} {n : Nat} (h : n < 8192) : fJ6_bitCount_0f7a4 R I (nI n) = some (nI (bc 13 n)) := by
  have a1 : (n >>> 1 &&& 1431655765) ≤ n := Nat.le_trans Nat.and_le_left (shr_le _ _)
  have l1 : bcJ1 n ≤ n := Nat.sub_le _ _
  have e1 : nI n - ((((nI n).toUInt32 >>> (((1 : Int32)).toUInt32 &&& Int32.toUInt32 31)).toInt32) &&& (1431655765 : Int32)) = nI (bcJ1 n) := by
    rw [show (1 : Int32) = nI 1 from rfl, nx_ush (by omega) (by omega), show (1431655765 : Int32) = nI 1431655765 from rfl, nx_and, qn_sub a1]
    rfl
  have l2 : bcJ2 (bcJ1 n) ≤ 2 * n := by
    have q1 : (bcJ1 n &&& 858993459) ≤ bcJ1 n := Nat.and_le_left
    have q2 : (bcJ1 n >>> 2 &&& 858993459) ≤ bcJ1 n := Nat.le_trans Nat.and_le_left (shr_le _ _)
    unfold bcJ2
    omega
  have e2 : (nI (bcJ1 n) &&& (858993459 : Int32)) + ((((nI (bcJ1 n)).toUInt32 >>> (((2 : Int32)).toUInt32 &&& Int32.toUInt32 31)).toInt32) &&& (858993459 : Int32)) = nI (bcJ2 (bcJ1 n)) := by
    rw [show (2 : Int32) = nI 2 from rfl, nx_ush (by omega) (by omega), show (858993459 : Int32) = nI 858993459 from rfl, nx_and, nx_and, qn_add]
    rfl
  have l3 : bcJ3 (bcJ2 (bcJ1 n)) ≤ 4 * n := by
    have q1 : ((bcJ2 (bcJ1 n) + bcJ2 (bcJ1 n) >>> 4) &&& 252645135) ≤ bcJ2 (bcJ1 n) + bcJ2 (bcJ1 n) >>> 4 := Nat.and_le_left
    have q2 := shr_le (bcJ2 (bcJ1 n)) 4
    unfold bcJ3
    omega
  have e3 : (nI (bcJ2 (bcJ1 n)) + (((nI (bcJ2 (bcJ1 n))).toUInt32 >>> (((4 : Int32)).toUInt32 &&& Int32.toUInt32 31)).toInt32)) &&& (252645135 : Int32) = nI (bcJ3 (bcJ2 (bcJ1 n))) := by
    rw [show (4 : Int32) = nI 4 from rfl, nx_ush (by omega) (by omega), qn_add, show (252645135 : Int32) = nI 252645135 from rfl, nx_and]
    rfl
  have l4 : bcJ4 (bcJ3 (bcJ2 (bcJ1 n))) ≤ 8 * n := by
    have q2 := shr_le (bcJ3 (bcJ2 (bcJ1 n))) 8
    unfold bcJ4
    omega
  have e4 : nI (bcJ3 (bcJ2 (bcJ1 n))) + (((nI (bcJ3 (bcJ2 (bcJ1 n)))).toUInt32 >>> (((8 : Int32)).toUInt32 &&& Int32.toUInt32 31)).toInt32) = nI (bcJ4 (bcJ3 (bcJ2 (bcJ1 n)))) := by
    rw [show (8 : Int32) = nI 8 from rfl, nx_ush (by omega) (by omega), qn_add]
    rfl
  have e5 : (nI (bcJ4 (bcJ3 (bcJ2 (bcJ1 n)))) + (((nI (bcJ4 (bcJ3 (bcJ2 (bcJ1 n))))).toUInt32 >>> (((16 : Int32)).toUInt32 &&& Int32.toUInt32 31)).toInt32)) &&& (63 : Int32) = nI (bcJ5 (bcJ4 (bcJ3 (bcJ2 (bcJ1 n))))) := by
    rw [show (16 : Int32) = nI 16 from rfl, nx_ush (by omega) (by omega), qn_add, show (63 : Int32) = nI 63 from rfl, nx_and]
    rfl
  unfold fJ6_bitCount_0f7a4
  rw [e1, e2, e3, e4, e5, bcJ_all n h]
theorem tI_nI {n : Nat} (h : n < 2147483648) : (nI n).toInt = n := nI_toInt h
theorem qn_eq {a b : Nat} (ha : a < 2147483648) (hb : b < 2147483648) : nI a = nI b ↔ a = b := by rw [ieq, tI_nI ha, tI_nI hb]; omega
theorem ones_eq {R : qR} {I : qI} {N a n : Nat} (hN : 8192 ≤ N) (h : n < 8192) : fX8_ones N R I a (nI n) = some (nI (bc 13 n)) := by
  have key : ok (fX8_ones N R I a (nI n)) (fun r => r = nI (bc 13 n)) := by
    unfold fX8_ones
    refine ok_bind (ok_loop (fun s : Int32 × Int32 => ∃ c v : Nat, s = (nI c, nI v) ∧ v < 8192 ∧ c + bc 13 v = bc 13 n) (fun s => s.2.toInt.toNat) ⟨0, n, rfl, h, by omega⟩ (by show (nI n).toInt.toNat < N; rw [tI_nI (by omega)]; omega) (fun s hs => ?_))
    obtain ⟨c, v, rfl, hv, hc⟩ := hs
    show ok (cX8_ones_4 N R I (nI c) (nI v)) _
    unfold cX8_ones_4
    refine ok_if (fun q => ?_) (fun q => ?_)
    · have hv0 : v = 0 := by
        rw [show (0 : Int32) = nI 0 from rfl, qn_eq (by omega) (by omega)] at q
        exact q
      subst hv0
      refine ok_some (ok_some ?_)
      rw [show bc 13 0 = 0 from rfl] at hc
      rw [← hc]
      rfl
    · have hv0 : v ≠ 0 := fun e => q (by rw [e]; rfl)
      have hlt : (v &&& (v - 1)) ≤ v - 1 := Nat.and_le_right
      refine ok_some ⟨⟨c + 1, v &&& (v - 1), ?_, by omega, ?_⟩, ?_⟩
      · rw [show (1 : Int32) = nI 1 from rfl, qn_add, qn_sub (by omega), nx_and]
      · have := bc_low v hv hv0
        omega
      · show ((nI v &&& (nI v - 1)).toInt).toNat < ((nI v).toInt).toNat
        rw [show (1 : Int32) = nI 1 from rfl, qn_sub (by omega), nx_and, tI_nI (by omega), tI_nI (by omega)]
        omega
  obtain ⟨r, e, rfl⟩ := key
  exact e
