/-! THE TRAINS OF A TABLE -/
theorem qcy_n {I : qI} {R : qR} {a b n la lb : Nat} (h1 : (R.2.1 a).2 = la) (h2 : (R.2.1 b).2 = lb) (h3 : n ≤ la) (h4 : n ≤ lb) (h5 : n < 2147483648) : qcy I R a (nI 0) b (nI 0) (nI n) = some (qcp I a b 0 0 n) := by
  unfold qcy
  rw [h1, h2, nI_clamp (by omega), nI_clamp (by omega), if_pos]
  exact ⟨nI_pos (by omega), nI_pos (by omega), nI_pos (by omega), by omega, by omega⟩
theorem qcp_in {I : qI} {a b n j : Nat} (h : j < n) : qcp I a b 0 0 n b j = I a j := by
  unfold qcp
  rw [if_pos rfl, pk_cpy_in (Nat.zero_le _) (by omega)]
  congr 1
  omega
theorem qcp_off {I : qI} {a b n x : Nat} (h : x ≠ b) : qcp I a b 0 0 n x = I x := by
  unfold qcp
  rw [if_neg h]
theorem copy_ok {k t : Nat} {R : qR} {I : qI} (hL : LR R) (hk : k < 6) (ht : t < 10) : ok (fX5_copy R I (21 + 5 * k) (61 + 5 * t)) (fun J => J (21 + 5 * k) 1 = I (61 + 5 * t) 1 ∧ (∀ r j, 1 ≤ r → r ≤ 3 → j < 7 → J (21 + 5 * k + r) j = I (61 + 5 * t + r) j) ∧ (∀ j, j < 12 → J (21 + 5 * k + 4) j = I (61 + 5 * t + 4) j) ∧ ∀ a, ¬ (21 + 5 * k ≤ a ∧ a ≤ 21 + 5 * k + 4) → J a = I a) := by
  have m1 : ∀ r, r < 5 → (R.2.1 (21 + 5 * k + r)).2 = (lKt r).2 := fun r hr => hL.l _ (lK_mr k hk r hr)
  have t1 : ∀ r, r < 5 → (R.2.1 (61 + 5 * t + r)).2 = (lKt r).2 := fun r hr => hL.l _ (lK_tr t ht r hr)
  unfold fX5_copy
  rw [l0, l7, l12]
  refine ok_let (ok_let ?_)
  refine ok_bindv (pt2 hL ht) (ok_bindv (pm2 hL hk) (ok_bindv (qcy_n (t1 1 (by omega)) (m1 1 (by omega)) (by decide) (by decide) (by omega)) ?_))
  refine ok_bindv (pt3 hL ht) (ok_bindv (pm3 hL hk) (ok_bindv (qcy_n (t1 2 (by omega)) (m1 2 (by omega)) (by decide) (by decide) (by omega)) ?_))
  refine ok_bindv (pt4 hL ht) (ok_bindv (pm4 hL hk) (ok_bindv (qcy_n (t1 3 (by omega)) (m1 3 (by omega)) (by decide) (by decide) (by omega)) ?_))
  refine ok_bindv (pt5 hL ht) (ok_bindv (pm5 hL hk) (ok_bindv (qcy_n (t1 4 (by omega)) (m1 4 (by omega)) (by decide) (by decide) (by omega)) (ok_some ⟨?_, fun r j h1 h2 h3 => ?_, fun j hj => ?_, fun a ha => ?_⟩)))
  · rw [qcp_off (by omega), qcp_off (by omega), qcp_off (by omega), qcp_off (by omega), qup_on, qup_off (by omega)]
  · rw [qcp_off (by omega)]
    rcases (by omega : r = 1 ∨ r = 2 ∨ r = 3) with rfl | rfl | rfl
    · rw [qcp_off (by omega), qcp_off (by omega), qcp_in h3, qup_off (by omega), qup_off (by omega)]
    · rw [qcp_off (by omega), qcp_in h3, qcp_off (by omega), qup_off (by omega), qup_off (by omega)]
    · rw [qcp_in h3, qcp_off (by omega), qcp_off (by omega), qup_off (by omega), qup_off (by omega)]
  · rw [qcp_in hj, qcp_off (by omega), qcp_off (by omega), qcp_off (by omega), qup_off (by omega), qup_off (by omega)]
  · rw [qcp_off (by omega), qcp_off (by omega), qcp_off (by omega), qcp_off (by omega), qup_ne _ _ _ (by omega), qup_ne _ _ _ (by omega)]
/-- how many are taken below a train, and which is the k-th -/
def pc (X : Nat) : Nat → Nat
  | 0 => 0
  | t + 1 => pc X t + (if X.testBit t = true then 1 else 0)
def trk (X : Nat) : Nat → Nat → Nat
  | 0, _ => 0
  | t + 1, k => if X.testBit t = true ∧ pc X t = k then t else trk X t k
theorem pc_mono {X : Nat} : ∀ d t, pc X t ≤ pc X (t + d) := by
  intro d
  induction d with
  | zero => intro t; exact Nat.le_refl _
  | succ d ih =>
    intro t
    have := ih t
    show _ ≤ pc X (t + d) + _
    omega
theorem trk_at {X : Nat} : ∀ n t, t < n → X.testBit t = true → trk X n (pc X t) = t := by
  intro n
  induction n with
  | zero => intro t h; omega
  | succ n ih =>
    intro t ht hb
    rw [trk]
    by_cases e : t = n
    · subst e; rw [if_pos ⟨hb, rfl⟩]
    · have h1 : pc X (t + 1) ≤ pc X n := by
        have := pc_mono (X := X) (n - (t + 1)) (t + 1)
        rw [show t + 1 + (n - (t + 1)) = n by omega] at this
        exact this
      rw [pc, if_pos hb] at h1
      rw [if_neg (by omega)]
      exact ih t (by omega) hb
theorem trk_ok {X : Nat} : ∀ n k, k < pc X n → trk X n k < n ∧ X.testBit (trk X n k) = true ∧ pc X (trk X n k) = k := by
  intro n
  induction n with
  | zero => intro k h; rw [pc] at h; omega
  | succ n ih =>
    intro k hk
    rw [trk]
    by_cases h : X.testBit n = true ∧ pc X n = k
    · rw [if_pos h]; exact ⟨by omega, h⟩
    · rw [if_neg h]
      rw [pc] at hk
      have : k < pc X n := by
        by_cases hb : X.testBit n = true
        · rw [if_pos hb] at hk
          have : pc X n ≠ k := fun e => h ⟨hb, e⟩
          omega
        · rw [if_neg hb] at hk; omega
      obtain ⟨h1, h2⟩ := ih k this
      exact ⟨by omega, h2⟩
theorem trk_st {X : Nat} : ∀ d n k, k < pc X n → trk X (n + d) k = trk X n k := by
  intro d
  induction d with
  | zero => intro n k _; rfl
  | succ d ih =>
    intro n k hk
    have h1 := pc_mono (X := X) d n
    show (if X.testBit (n + d) = true ∧ pc X (n + d) = k then n + d else trk X (n + d) k) = _
    rw [if_neg (by omega)]
    exact ih n k hk
theorem pc_low {X : Nat} : ∀ n, pc X (n + 1) = X % 2 + pc (X / 2) n := by
  intro n
  induction n with
  | zero =>
    rw [pc, pc, pc, Nat.testBit_zero]
    have := Nat.mod_two_eq_zero_or_one X
    rcases this with h | h <;> rw [h] <;> rfl
  | succ n ih =>
    rw [pc, ih, pc, Nat.testBit_succ]
    omega
theorem pc_bc : ∀ n X, bc n X = pc X n := by
  intro n
  induction n with
  | zero => intro X; rfl
  | succ n ih => intro X; rw [bc, ih, pc_low]
theorem pc_top {X n : Nat} (h : X < 2 ^ n) : ∀ d, pc X (n + d) = pc X n := by
  intro d
  induction d with
  | zero => rfl
  | succ d ih =>
    show pc X (n + d) + (if X.testBit (n + d) = true then 1 else 0) = _
    rw [ih, Nat.testBit_lt_two_pow (Nat.lt_of_lt_of_le h (Nat.pow_le_pow_right (n := 2) (by decide) (show n ≤ n + d by omega)))]
    simp
/-- the class takes its trains -/
def TK (X n c : Nat) (I J : qI) : Prop := ∀ k, k < c → J 6 k = nI (trk X n k) ∧ J (21 + 5 * k) 1 = I (61 + 5 * trk X n k) 1 ∧ (∀ r j, 1 ≤ r → r ≤ 3 → j < 7 → J (21 + 5 * k + r) j = I (61 + 5 * trk X n k + r) j) ∧ ∀ j, j < 12 → J (21 + 5 * k + 4) j = I (61 + 5 * trk X n k + 4) j
theorem take_ok {N X n : Nat} {R : qR} {I : qI} (hN : 300000 ≤ N) (hL : LR R) (hn : n ≤ 10) (hX : X < 2 ^ n) (h6 : pc X n ≤ 6) : ok (fX4_takeMembers N R I 4 1 (nI X)) (fun J => J 4 6 = nI (pc X n) ∧ TK X n (pc X n) I J ∧ (∀ a, ¬ (a = 4 ∨ a = 6 ∨ (21 ≤ a ∧ a < 51)) → J a = I a)) := by
  have hX10 : X < 2 ^ 10 := Nat.lt_of_lt_of_le hX (Nat.pow_le_pow_right (by omega) hn)
  have e10 : pc X 10 = pc X n := by
    have := pc_top hX (10 - n)
    rw [show n + (10 - n) = 10 by omega] at this
    exact this
  have eT : ∀ k, k < pc X n → trk X 10 k = trk X n k := fun k hk => by
    have := trk_st (X := X) (10 - n) n k hk
    rw [show n + (10 - n) = 10 by omega] at this
    exact this
  unfold fX4_takeMembers
  refine ok_let (ok_bind (ok_mono (P := fun J => J 4 6 = nI (pc X n) ∧ TK X n (pc X n) I J ∧ (∀ a, ¬ (a = 4 ∨ a = 6 ∨ (21 ≤ a ∧ a < 51)) → J a = I a)) ?_ (fun r hr => ok_some hr)))
  rw [l0]
  refine ok_for (fun t q => ∃ J, q = (nI t, J) ∧ J 4 6 = nI (pc X t) ∧ TK X 10 (pc X t) I J ∧ (∀ a, ¬ (a = 4 ∨ a = 6 ∨ (21 ≤ a ∧ a < 51)) → J a = I a)) 10 (by omega) ⟨_, rfl, qup_on, fun k hk => by rw [pc] at hk; omega, fun a ha => qup_ne _ _ _ (by omega)⟩ (fun t q ht hq => ?_) (fun q hq => ?_)
  · obtain ⟨J, rfl, g1, g2, g3⟩ := hq
    have hlt := pc_mono (X := X) (10 - t) t
    rw [show t + (10 - t) = 10 by omega] at hlt
    show ok (cX4_takeMembers_7 N R 4 1 (nI X) (nI t) J) _
    unfold cX4_takeMembers_7
    rw [hL.l 1 rfl, ofn, if_neg (show ¬ nI 10 ≤ nI t by rw [n_le (by omega) (by omega)]; omega), g1, l6]
    by_cases hfull : 6 ≤ pc X t
    · rw [if_pos (show nI 6 ≤ nI (pc X t) by rw [n_le (by omega) (by omega)]; exact hfull)]
      have e : pc X t = pc X n := by omega
      refine ok_some ⟨by rw [← e]; exact g1, fun k hk => ?_, g3⟩
      rw [← eT k hk]
      exact g2 k (by omega)
    · rw [if_neg (show ¬ nI 6 ≤ nI (pc X t) by rw [n_le (by omega) (by omega)]; exact hfull)]
      by_cases hb : X.testBit t = true
      · rw [if_neg (show ¬ ((nI X >>> (nI t &&& 31)) &&& (1 : Int32)) = 0 by rw [q_bit _ _ (by omega), hb]; simp)]
        refine ok_bindv (p4_0 hL) (ok_bindv (a5 hL (by omega)) (ok_bindv (a1 hL ht) (ok_bind (ok_mono (copy_ok hL (by omega) ht) (fun K hK => ?_)))))
        obtain ⟨k1, k2, k3, k4⟩ := hK
        have e46 : K 4 6 = nI (pc X t) := by rw [k4 4 (by omega)]; exact g1
        rw [e46]
        refine ok_bindv (p4_1 hL) (ok_bindv (w6 hL (by omega)) (ok_let ?_))
        rw [qup_off (by omega), e46, l1, qn_add, qn_add]
        have hJT : ∀ r j, J (61 + 5 * t + r) j = I (61 + 5 * t + r) j ∨ 5 ≤ r := fun r j => by
          by_cases hr : r < 5
          · left; rw [g3 _ (by omega)]
          · right; omega
        have ht6 : trk X 10 (pc X t) = t := trk_at 10 t ht hb
        refine ok_some ⟨_, rfl, by rw [qup_on, pc, if_pos hb], fun k hk => ?_, fun a ha => by rw [qup_ne _ _ _ (by omega), qup_ne _ _ _ (by omega), k4 a (by omega)]; exact g3 a ha⟩
        rw [pc, if_pos hb] at hk
        by_cases e : k = pc X t
        · subst e
          rw [ht6]
          refine ⟨by rw [qup_off (by omega)]; exact qup_on, ?_, fun r j h1 h2 h3 => ?_, fun j hj => ?_⟩
          · rw [qup_off (by omega), qup_off (by omega), k1, g3 _ (by omega)]
          · rw [qup_off (by omega), qup_off (by omega), k2 r j h1 h2 h3, g3 _ (by omega)]
          · rw [qup_off (by omega), qup_off (by omega), k3 j hj, g3 _ (by omega)]
        · obtain ⟨b1, b2, b3, b4⟩ := g2 k (by omega)
          refine ⟨by rw [qup_off (by omega), qup_off (by omega), k4 6 (by omega)]; exact b1, ?_, fun r j h1 h2 h3 => ?_, fun j hj => ?_⟩
          · rw [qup_off (by omega), qup_off (by omega), k4 _ (by omega)]; exact b2
          · rw [qup_off (by omega), qup_off (by omega), k4 _ (by omega)]; exact b3 r j h1 h2 h3
          · rw [qup_off (by omega), qup_off (by omega), k4 _ (by omega)]; exact b4 j hj
      · rw [if_pos (show ((nI X >>> (nI t &&& 31)) &&& (1 : Int32)) = 0 by rw [q_bit _ _ (by omega)]; simpa using hb), l1, qn_add]
        have e : pc X (t + 1) = pc X t := by rw [pc, if_neg hb]; rfl
        exact ok_some ⟨J, rfl, by rw [e]; exact g1, by rw [e]; exact g2, g3⟩
  · obtain ⟨J, rfl, g1, g2, g3⟩ := hq
    refine ⟨.inr J, ?_, by rw [← e10]; exact g1, fun k hk => ?_, g3⟩
    · show cX4_takeMembers_7 N R 4 1 (nI X) (nI 10) J = _
      unfold cX4_takeMembers_7
      rw [hL.l 1 rfl, ofn]
      simp (disch := first | assumption | omega) only [obs, qle, ↓lm1, l0, qn_add, pk_mul, n_le, n_lt, n_eq, n_sM, n_Ms, n_Mlt, n_Mle, n_ltM, n_leM, ↓reduceIte, eq_self, if_pos, if_neg, qx, p0_0, p0_1, p0_2, p0_3, p2_0, p4_0, p4_1, p4_2, p4_3, p4_4, p4_5, p8_1, p8_5, p8_6, p8_7, p14_0, p14_4, p14_5, p18_1, p18_2, p51_4, p51_5, p51_8, p51_9, p51_10, p51_11, p51_12, p51_14, r3, w3, r6, w6, r7, w7, r9, w9, r10, w10, r11, w11, r12, w12, r15, w15, r16, w16, r17, w17, r19, w19, r20, w20, r53, w53, r54, w54, r55, w55, r56, w56, r57, w57, r58, w58, r59, w59, r60, w60, a1, a5, pt2, rt2, wt2, pt3, rt3, wt3, pt4, rt4, wt4, pt5, rt5, wt5, pm2, rm2, wm2, pm3, rm3, wm3, pm4, rm4, wm4, pm5, rm5, wm5, l1, l2, l3, l5, l6, l7, l8, l10, l11, l12, l31, l36, l63, l100, l1000, l1440, l1000000, l16777216]
    · rw [← eT k hk]
      exact g2 k (by omega)
/-- the reference takes its trains -/
def TK8 (X n c : Nat) (I J : qI) : Prop := ∀ k, k < c → J 119 k = nI (trk X n k) ∧ J 120 k = I 113 (trk X n k) ∧ ∀ j : Nat, (j : Int) < (I 113 (trk X n k)).toInt → J 121 (7 * k + j) = I 114 (7 * trk X n k + j) ∧ J 122 (7 * k + j) = I 115 (7 * trk X n k + j) ∧ J 123 (7 * k + j) = I 116 (7 * trk X n k + j)
theorem take8_ok {N X n : Nat} {S : Nat → Nat} {R : qR} {I : qI} (hN : 300000 ≤ N) (hL : LR R) (hn : n ≤ 10) (hX : X < 2 ^ n) (h6 : pc X n ≤ 6) (h1 : I 111 1 = nI n) (hS : ∀ t, t < n → I 113 t = nI (S t) ∧ S t ≤ 7) (h0 : I 111 10 = nI 0) : ok (qloop (fun s => cX8_table_76 N R 111 (nI X) s.1 s.2) N (nI 0, I)) (fun J => J 111 10 = nI (pc X n) ∧ TK8 X n (pc X n) I J ∧ (∀ j, j ≠ 10 → J 111 j = I 111 j) ∧ ∀ a, a ≠ 111 → a < 119 ∨ 123 < a → J a = I a) := by
  refine ok_for (fun t q => ∃ J, q = (nI t, J) ∧ J 111 10 = nI (pc X t) ∧ TK8 X n (pc X t) I J ∧ (∀ j, j ≠ 10 → J 111 j = I 111 j) ∧ ∀ a, a ≠ 111 → a < 119 ∨ 123 < a → J a = I a) n (by omega) ⟨I, rfl, h0, fun k hk => by rw [pc] at hk; omega, fun _ _ => rfl, fun _ _ _ => rfl⟩ (fun t q ht hq => ?_) (fun q hq => ?_)
  · obtain ⟨J, rfl, g1, g2, g3, g4⟩ := hq
    have hlt := pc_mono (X := X) (n - t) t
    rw [show t + (n - t) = n by omega] at hlt
    have e1 : J 111 1 = nI n := by rw [g3 1 (by omega)]; exact h1
    show ok (cX8_table_76 N R 111 (nI X) (nI t) J) _
    unfold cX8_table_76
    rw [e1, if_neg (show ¬ nI n ≤ nI t by rw [n_le (by omega) (by omega)]; omega)]
    by_cases hb : X.testBit t = true
    · have hpc : pc X (t + 1) = pc X t + 1 := by rw [pc, if_pos hb]
      have hlt2 := pc_mono (X := X) (n - (t + 1)) (t + 1)
      rw [show t + 1 + (n - (t + 1)) = n by omega] at hlt2
      rw [if_neg (show ¬ ((nI X >>> (nI t &&& 31)) &&& (1 : Int32)) = 0 by rw [q_bit _ _ (by omega), hb]; simp), g1]
      refine ok_bindv (p111_12 hL) (ok_bindv (w119 hL (by omega)) (ok_bindv (p111_13 hL) (ok_bindv (p111_4 hL) (ok_bindv (r113 hL (by omega)) ?_))))
      rw [qup_off (by omega), qup_off (by omega), g1]
      refine ok_bindv (w120 hL (by omega)) ?_
      rw [g4 113 (by omega) (by omega), (hS t ht).1, l0]
      have hS7 := (hS t ht).2
      have ht6 : trk X n (pc X t) = t := trk_at n t ht hb
      refine ok_bind (ok_mono (P := fun K => (∀ j, j < S t → K 121 (7 * pc X t + j) = I 114 (7 * t + j) ∧ K 122 (7 * pc X t + j) = I 115 (7 * t + j) ∧ K 123 (7 * pc X t + j) = I 116 (7 * t + j)) ∧ (∀ x, ¬ (7 * pc X t ≤ x ∧ x < 7 * pc X t + 7) → K 121 x = J 121 x ∧ K 122 x = J 122 x ∧ K 123 x = J 123 x) ∧ K 119 = qup J 119 (pc X t) (nI t) 119 ∧ K 120 = qup (qup J 119 (pc X t) (nI t)) 120 (pc X t) (nI (S t)) 120 ∧ ∀ a, a < 119 ∨ 123 < a → K a = J a) ?_ (fun K hK => ?_))
      · refine ok_for (fun i q => ∃ K, q = (nI i, K) ∧ (∀ j, j < i → K 121 (7 * pc X t + j) = I 114 (7 * t + j) ∧ K 122 (7 * pc X t + j) = I 115 (7 * t + j) ∧ K 123 (7 * pc X t + j) = I 116 (7 * t + j)) ∧ (∀ x, ¬ (7 * pc X t ≤ x ∧ x < 7 * pc X t + 7) → K 121 x = J 121 x ∧ K 122 x = J 122 x ∧ K 123 x = J 123 x) ∧ K 119 = qup J 119 (pc X t) (nI t) 119 ∧ K 120 = qup (qup J 119 (pc X t) (nI t)) 120 (pc X t) (nI (S t)) 120 ∧ ∀ a, a < 119 ∨ 123 < a → K a = J a) (S t) (by omega) ⟨_, rfl, fun j hj => by omega, fun x hx => ⟨by rw [qup_off (by omega), qup_off (by omega)], by rw [qup_off (by omega), qup_off (by omega)], by rw [qup_off (by omega), qup_off (by omega)]⟩, qup_ne _ _ _ (by omega), rfl, fun a ha => by rw [qup_ne _ _ _ (by omega), qup_ne _ _ _ (by omega)]⟩ (fun i q hi hq => ?_) (fun q hq => ?_)
        · obtain ⟨K, rfl, f1, f2, f3, f4, f5⟩ := hq
          have c1 : K 113 t = nI (S t) := by rw [f5 113 (by omega), g4 113 (by omega) (by omega)]; exact (hS t ht).1
          have c2 : K 111 10 = nI (pc X t) := by rw [f5 111 (by omega)]; exact g1
          have c3 : ∀ x, K 114 x = I 114 x := fun x => by rw [f5 114 (by omega), g4 114 (by omega) (by omega)]
          have c4 : ∀ x, K 115 x = I 115 x := fun x => by rw [f5 115 (by omega), g4 115 (by omega) (by omega)]
          have c5 : ∀ x, K 116 x = I 116 x := fun x => by rw [f5 116 (by omega), g4 116 (by omega) (by omega)]
          refine ⟨.inl (nI (i + 1), qup (qup (qup K 121 (7 * pc X t + i) (I 114 (7 * t + i))) 122 (7 * pc X t + i) (I 115 (7 * t + i))) 123 (7 * pc X t + i) (I 116 (7 * t + i))), ?_, _, rfl, fun j hj => ?_, fun x hx => ?_, ?_, ?_, fun a ha => ?_⟩
          · show cX8_table_122 N R 111 (nI X) (nI t) (nI i) K = _
            unfold cX8_table_122
            simp (disch := first | assumption | omega) only [obs, qle, ↓lm1, l0, qn_add, pk_mul, n_le, n_lt, n_eq, n_sM, n_Ms, n_Mlt, n_Mle, n_ltM, n_leM, ↓reduceIte, eq_self, if_pos, if_neg, qx, p111_3, p111_4, p111_5, p111_6, p111_7, p111_8, p111_11, p111_12, p111_13, p111_14, p111_15, p111_16, p111_17, p111_18, p111_19, p111_21, p111_22, p111_23, p111_24, p111_27, p111_28, p111_29, p111_30, p111_31, p111_32, p111_34, r112, w112, r113, w113, r114, w114, r115, w115, r116, w116, r117, w117, r118, w118, r119, w119, r120, w120, r121, w121, r122, w122, r123, w123, r124, w124, r125, w125, r126, w126, r127, w127, r128, w128, r129, w129, r130, w130, r131, w131, r132, w132, r133, w133, r134, w134, r135, w135, r136, w136, r137, w137, l1, l2, l3, l5, l6, l7, l8, l10, l11, l12, l31, l36, l63, l100, l1000, l1440, l1000000, l16777216, c1, c2, c3, c4, c5, qup_off]
          · by_cases e : j = i
            · subst e
              exact ⟨by rw [qup_off (by omega), qup_off (by omega)]; exact qup_on, by rw [qup_off (by omega)]; exact qup_on, qup_on⟩
            · have := f1 j (by omega)
              exact ⟨by rw [qup_off (by omega), qup_off (by omega), qup_off (by omega)]; exact this.1, by rw [qup_off (by omega), qup_off (by omega), qup_off (by omega)]; exact this.2.1, by rw [qup_off (by omega), qup_off (by omega), qup_off (by omega)]; exact this.2.2⟩
          · have := f2 x hx
            exact ⟨by rw [qup_off (by omega), qup_off (by omega), qup_off (by omega)]; exact this.1, by rw [qup_off (by omega), qup_off (by omega), qup_off (by omega)]; exact this.2.1, by rw [qup_off (by omega), qup_off (by omega), qup_off (by omega)]; exact this.2.2⟩
          · rw [qup_ne _ _ _ (by omega), qup_ne _ _ _ (by omega), qup_ne _ _ _ (by omega)]; exact f3
          · rw [qup_ne _ _ _ (by omega), qup_ne _ _ _ (by omega), qup_ne _ _ _ (by omega)]; exact f4
          · rw [qup_ne _ _ _ (by omega), qup_ne _ _ _ (by omega), qup_ne _ _ _ (by omega)]; exact f5 a ha
        · obtain ⟨K, rfl, f1, f2, f3, f4, f5⟩ := hq
          have c1 : K 113 t = nI (S t) := by rw [f5 113 (by omega), g4 113 (by omega) (by omega)]; exact (hS t ht).1
          refine ⟨.inr K, ?_, f1, f2, f3, f4, f5⟩
          show cX8_table_122 N R 111 (nI X) (nI t) (nI (S t)) K = _
          unfold cX8_table_122
          simp (disch := first | assumption | omega) only [obs, qle, ↓lm1, l0, qn_add, pk_mul, n_le, n_lt, n_eq, n_sM, n_Ms, n_Mlt, n_Mle, n_ltM, n_leM, ↓reduceIte, eq_self, if_pos, if_neg, qx, p111_3, p111_4, p111_5, p111_6, p111_7, p111_8, p111_11, p111_12, p111_13, p111_14, p111_15, p111_16, p111_17, p111_18, p111_19, p111_21, p111_22, p111_23, p111_24, p111_27, p111_28, p111_29, p111_30, p111_31, p111_32, p111_34, r112, w112, r113, w113, r114, w114, r115, w115, r116, w116, r117, w117, r118, w118, r119, w119, r120, w120, r121, w121, r122, w122, r123, w123, r124, w124, r125, w125, r126, w126, r127, w127, r128, w128, r129, w129, r130, w130, r131, w131, r132, w132, r133, w133, r134, w134, r135, w135, r136, w136, r137, w137, l1, l2, l3, l5, l6, l7, l8, l10, l11, l12, l31, l36, l63, l100, l1000, l1440, l1000000, l16777216, c1]
      · obtain ⟨f1, f2, f3, f4, f5⟩ := hK
        rw [f5 111 (by omega), g1, l1, qn_add, qn_add]
        refine ok_let (ok_some ⟨_, rfl, by rw [qup_on, hpc], fun k hk => ?_, fun j hj => by rw [qup_off (by omega), f5 111 (by omega)]; exact g3 j hj, fun a h2 h3 => by rw [qup_ne _ _ _ h2, f5 a h3]; exact g4 a h2 h3⟩)
        rw [hpc] at hk
        by_cases e : k = pc X t
        · subst e
          rw [ht6, (hS t ht).1]
          refine ⟨by rw [qup_off (by omega), f3]; exact qup_on, by rw [qup_off (by omega), f4]; exact qup_on, fun j hj => ?_⟩
          rw [tI_nI (by omega)] at hj
          rw [qup_off (by omega), qup_off (by omega), qup_off (by omega)]
          exact f1 j (by omega)
        · obtain ⟨b1, b2, b3⟩ := g2 k (by omega)
          refine ⟨by rw [qup_off (by omega), f3, qup_off (by omega)]; exact b1, by rw [qup_off (by omega), f4, qup_off (by omega), qup_off (by omega)]; exact b2, fun j hj => ?_⟩
          have htk := (trk_ok (X := X) n k (by omega)).1
          have hj7 : j < 7 := by
            have := hS _ htk
            rw [this.1, tI_nI (by omega)] at hj
            omega
          have := f2 (7 * k + j) (by omega)
          rw [qup_off (by omega), qup_off (by omega), qup_off (by omega), this.1, this.2.1, this.2.2]
          exact b3 j hj
    · rw [if_pos (show ((nI X >>> (nI t &&& 31)) &&& (1 : Int32)) = 0 by rw [q_bit _ _ (by omega)]; simpa using hb), l1, qn_add]
      have e : pc X (t + 1) = pc X t := by rw [pc, if_neg hb]; rfl
      exact ok_some ⟨J, rfl, by rw [e]; exact g1, by rw [e]; exact g2, g3, g4⟩
  · obtain ⟨J, rfl, g1, g2, g3, g4⟩ := hq
    have e1 : J 111 1 = nI n := by rw [g3 1 (by omega)]; exact h1
    refine ⟨.inr J, ?_, g1, g2, g3, g4⟩
    show cX8_table_76 N R 111 (nI X) (nI n) J = _
    unfold cX8_table_76
    simp (disch := first | assumption | omega) only [obs, qle, ↓lm1, l0, qn_add, pk_mul, n_le, n_lt, n_eq, n_sM, n_Ms, n_Mlt, n_Mle, n_ltM, n_leM, ↓reduceIte, eq_self, if_pos, if_neg, qx, p111_3, p111_4, p111_5, p111_6, p111_7, p111_8, p111_11, p111_12, p111_13, p111_14, p111_15, p111_16, p111_17, p111_18, p111_19, p111_21, p111_22, p111_23, p111_24, p111_27, p111_28, p111_29, p111_30, p111_31, p111_32, p111_34, r112, w112, r113, w113, r114, w114, r115, w115, r116, w116, r117, w117, r118, w118, r119, w119, r120, w120, r121, w121, r122, w122, r123, w123, r124, w124, r125, w125, r126, w126, r127, w127, r128, w128, r129, w129, r130, w130, r131, w131, r132, w132, r133, w133, r134, w134, r135, w135, r136, w136, r137, w137, l1, l2, l3, l5, l6, l7, l8, l10, l11, l12, l31, l36, l63, l100, l1000, l1440, l1000000, l16777216, e1]
