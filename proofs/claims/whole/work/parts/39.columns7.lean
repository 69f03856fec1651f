/-! THE CLASS'S COLUMNS -/
noncomputable def bB (ns : Nat → Nat) (st cm gs : Nat → Nat → Nat) (l r : Nat) : Bool := @decide (bR ns st cm gs l r) (Classical.propDecidable _)
theorem bB_t {ns : Nat → Nat} {st cm gs : Nat → Nat → Nat} {l r : Nat} : bB ns st cm gs l r = true ↔ bR ns st cm gs l r := by
  unfold bB
  exact @decide_eq_true_iff _ (Classical.propDecidable _)
theorem breachedBy_ok {N c a : Nat} {ns : Nat → Nat} {st cm gs : Nat → Nat → Nat} {R : qR} {I : qI} (hN : 300000 ≤ N) (hL : LR R) (w : wf c ns st) (hC : CM c ns st I) (hF : CF c ns st cm gs I) (hM : wm c ns cm gs) (ha : a < c) (h3 : I 14 3 = nI c) : fX0_breachedBy N R I 14 5 (nI a) = some (nI (bmk (bB ns st cm gs) a c)) := by
  have hc6 := w.1
  unfold fX0_breachedBy
  refine bind_of (qfor2 (fun k => (nI (bmk (bB ns st cm gs) a k), nI k)) (by rw [bmk, l0]) (nI (bmk (bB ns st cm gs) a c)) c (by omega) (fun k hk => ?_) ?_) rfl
  · rw [bmk]
    by_cases hka : k = a
    · rw [if_neg (fun q => q.1 hka)]
      simp (disch := first | assumption | omega) only [obs, qle, ↓lm1, l0, qn_add, pk_mul, n_le, n_lt, n_eq, n_sM, n_Ms, n_Mlt, n_Mle, n_ltM, n_leM, ↓reduceIte, eq_self, if_pos, if_neg, qx, p0_0, p0_1, p0_2, p0_3, p2_0, p4_0, p4_1, p4_2, p4_3, p4_4, p4_5, p8_1, p8_5, p8_6, p8_7, p14_0, p14_4, p14_5, p18_1, p18_2, p51_4, p51_5, p51_8, p51_9, p51_10, p51_11, p51_12, p51_14, r3, w3, r6, w6, r7, w7, r9, w9, r10, w10, r11, w11, r12, w12, r15, w15, r16, w16, r17, w17, r19, w19, r20, w20, r53, w53, r54, w54, r55, w55, r56, w56, r57, w57, r58, w58, r59, w59, r60, w60, a1, a5, pt2, rt2, wt2, pt3, rt3, wt3, pt4, rt4, wt4, pt5, rt5, wt5, pm2, rm2, wm2, pm3, rm3, wm3, pm4, rm4, wm4, pm5, rm5, wm5, l1, l2, l3, l5, l6, l7, l8, l10, l11, l12, l31, l36, l63, l100, l1000, l1440, l1000000, l16777216, cX0_breachedBy_5, h3]
    · obtain ⟨v, ev, hv⟩ := ahead_ok (N := N) hN hL w hC hF hM ha hk
      rcases hv with ⟨h1, rfl⟩ | ⟨h1, rfl⟩
      · rw [if_pos ⟨hka, bB_t.mpr h1⟩]
        simp (disch := first | assumption | omega) only [obs, qle, ↓lm1, l0, qn_add, pk_mul, n_le, n_lt, n_eq, n_sM, n_Ms, n_Mlt, n_Mle, n_ltM, n_leM, ↓reduceIte, eq_self, if_pos, if_neg, qx, p0_0, p0_1, p0_2, p0_3, p2_0, p4_0, p4_1, p4_2, p4_3, p4_4, p4_5, p8_1, p8_5, p8_6, p8_7, p14_0, p14_4, p14_5, p18_1, p18_2, p51_4, p51_5, p51_8, p51_9, p51_10, p51_11, p51_12, p51_14, r3, w3, r6, w6, r7, w7, r9, w9, r10, w10, r11, w11, r12, w12, r15, w15, r16, w16, r17, w17, r19, w19, r20, w20, r53, w53, r54, w54, r55, w55, r56, w56, r57, w57, r58, w58, r59, w59, r60, w60, a1, a5, pt2, rt2, wt2, pt3, rt3, wt3, pt4, rt4, wt4, pt5, rt5, wt5, pm2, rm2, wm2, pm3, rm3, wm3, pm4, rm4, wm4, pm5, rm5, wm5, l1, l2, l3, l5, l6, l7, l8, l10, l11, l12, l31, l36, l63, l100, l1000, l1440, l1000000, l16777216, cX0_breachedBy_5, h3, ev, n_1s, fa_or]
      · rw [if_neg (fun q => h1 (bB_t.mp q.2))]
        simp (disch := first | assumption | omega) only [obs, qle, ↓lm1, l0, qn_add, pk_mul, n_le, n_lt, n_eq, n_sM, n_Ms, n_Mlt, n_Mle, n_ltM, n_leM, ↓reduceIte, eq_self, if_pos, if_neg, qx, p0_0, p0_1, p0_2, p0_3, p2_0, p4_0, p4_1, p4_2, p4_3, p4_4, p4_5, p8_1, p8_5, p8_6, p8_7, p14_0, p14_4, p14_5, p18_1, p18_2, p51_4, p51_5, p51_8, p51_9, p51_10, p51_11, p51_12, p51_14, r3, w3, r6, w6, r7, w7, r9, w9, r10, w10, r11, w11, r12, w12, r15, w15, r16, w16, r17, w17, r19, w19, r20, w20, r53, w53, r54, w54, r55, w55, r56, w56, r57, w57, r58, w58, r59, w59, r60, w60, a1, a5, pt2, rt2, wt2, pt3, rt3, wt3, pt4, rt4, wt4, pt5, rt5, wt5, pm2, rm2, wm2, pm3, rm3, wm3, pm4, rm4, wm4, pm5, rm5, wm5, l1, l2, l3, l5, l6, l7, l8, l10, l11, l12, l31, l36, l63, l100, l1000, l1440, l1000000, l16777216, cX0_breachedBy_5, h3, ev]
  · simp (disch := first | assumption | omega) only [obs, qle, ↓lm1, l0, qn_add, pk_mul, n_le, n_lt, n_eq, n_sM, n_Ms, n_Mlt, n_Mle, n_ltM, n_leM, ↓reduceIte, eq_self, if_pos, if_neg, qx, p0_0, p0_1, p0_2, p0_3, p2_0, p4_0, p4_1, p4_2, p4_3, p4_4, p4_5, p8_1, p8_5, p8_6, p8_7, p14_0, p14_4, p14_5, p18_1, p18_2, p51_4, p51_5, p51_8, p51_9, p51_10, p51_11, p51_12, p51_14, r3, w3, r6, w6, r7, w7, r9, w9, r10, w10, r11, w11, r12, w12, r15, w15, r16, w16, r17, w17, r19, w19, r20, w20, r53, w53, r54, w54, r55, w55, r56, w56, r57, w57, r58, w58, r59, w59, r60, w60, a1, a5, pt2, rt2, wt2, pt3, rt3, wt3, pt4, rt4, wt4, pt5, rt5, wt5, pm2, rm2, wm2, pm3, rm3, wm3, pm4, rm4, wm4, pm5, rm5, wm5, l1, l2, l3, l5, l6, l7, l8, l10, l11, l12, l31, l36, l63, l100, l1000, l1440, l1000000, l16777216, cX0_breachedBy_5, h3]
/-- the sets that are breached -/
def BR (c : Nat) (b : Nat → Nat → Bool) (I : qI) : Prop := I 14 3 = nI c ∧ ∀ a, a < c → I 16 a = nI (bmk b a c)
theorem fewestWith_eq {c m left v : Nat} {b : Nat → Nat → Bool} {R : qR} {I : qI} (hL : LR R) (hc : c ≤ 6) (hB : BR c b I) (hm : m < c) (hl : left < 2 ^ c) (hv : I 17 (left ||| 2 ^ m) = nI v) : fX0_fewestWith R I 14 (nI left) (nI m) = some (nI (cost c b m left + v)) := by
  have p6 := p2_64 hc
  have h1 := hB.2 m hm
  have h2 := or_in c (by omega) left hl m hm
  have h3 := bmk_lt (b := b) (m := m) c hc
  have h4 : (bmk b m c &&& left) ≤ bmk b m c := Nat.and_le_left
  have h5 := bitc (R := R) (I := I) (show (bmk b m c &&& left) < 8192 by omega)
  have h6 : nI (bmk b m c) &&& nI left = nI (bmk b m c &&& left) := nx_and _ _
  unfold fX0_fewestWith cost
  simp (disch := first | assumption | omega) only [obs, qle, ↓lm1, l0, qn_add, pk_mul, n_le, n_lt, n_eq, n_sM, n_Ms, n_Mlt, n_Mle, n_ltM, n_leM, ↓reduceIte, eq_self, if_pos, if_neg, qx, p0_0, p0_1, p0_2, p0_3, p2_0, p4_0, p4_1, p4_2, p4_3, p4_4, p4_5, p8_1, p8_5, p8_6, p8_7, p14_0, p14_4, p14_5, p18_1, p18_2, p51_4, p51_5, p51_8, p51_9, p51_10, p51_11, p51_12, p51_14, r3, w3, r6, w6, r7, w7, r9, w9, r10, w10, r11, w11, r12, w12, r15, w15, r16, w16, r17, w17, r19, w19, r20, w20, r53, w53, r54, w54, r55, w55, r56, w56, r57, w57, r58, w58, r59, w59, r60, w60, a1, a5, pt2, rt2, wt2, pt3, rt3, wt3, pt4, rt4, wt4, pt5, rt5, wt5, pm2, rm2, wm2, pm3, rm3, wm3, pm4, rm4, wm4, pm5, rm5, wm5, l1, l2, l3, l5, l6, l7, l8, l10, l11, l12, l31, l36, l63, l100, l1000, l1440, l1000000, l16777216, h1, h6, h5, n_1s, fa_or, hv]
theorem wouldBreach_eq {c x y : Nat} {b : Nat → Nat → Bool} {R : qR} {I : qI} (hL : LR R) (hc : c ≤ 6) (hB : BR c b I) (hx : x < c) (hy : y < c) (hxy : x ≠ y) : fX0_wouldBreach R I 14 (nI x) (nI y) = some (nI (one b y x)) := by
  have h1 := hB.2 x hx
  have h2 := bmk_bit (b := b) (m := x) (x := y) c
  unfold fX0_wouldBreach one
  by_cases hb : b y x = true
  · have h3 : (bmk b x c).testBit y = true := h2.mpr ⟨hy, fun e => hxy e.symm, hb⟩
    rw [if_pos hb]
    refine bind_of (p14_4 hL) (bind_of (r16 hL (by omega)) ?_)
    rw [h1, if_neg (show ¬ ((nI (bmk b x c) >>> (nI y &&& 31)) &&& (1 : Int32)) = 0 by rw [q_bit _ _ (by omega), h3]; simp), l1]
  · have h3 : (bmk b x c).testBit y = false := by
      refine Bool.eq_false_iff.mpr (fun q => hb (h2.mp q).2.2)
    rw [if_neg hb]
    refine bind_of (p14_4 hL) (bind_of (r16 hL (by omega)) ?_)
    rw [h1, if_pos (show ((nI (bmk b x c) >>> (nI y &&& 31)) &&& (1 : Int32)) = 0 by rw [q_bit _ _ (by omega), h3]), l0]
theorem bc_5 : ∀ x, x < 63 → bc 13 x ≤ 5 := by decide +kernel
theorem cost_5 {c m left : Nat} {b : Nat → Nat → Bool} (hc : c ≤ 6) (hl : left < 2 ^ c - 1) : cost c b m left ≤ 5 := by
  have p6 := p2_64 hc
  have h1 : bc 13 (bmk b m c &&& left) ≤ bc 13 left := bc_sub 13 _ _ (fun j hj => by rw [Nat.testBit_and, Bool.and_eq_true] at hj; exact hj.2)
  have h2 := bc_5 left (by omega)
  unfold cost
  omega
theorem fewest_in {N c left : Nat} {b : Nat → Nat → Bool} {V : Nat → Nat} {R : qR} {I : qI} (hN : 300000 ≤ N) (hL : LR R) (hc : c ≤ 6) (hB : BR c b I) (hl : left < 2 ^ c - 1) (hV : ∀ x, left < x → x < 2 ^ c → I 17 x = nI (V x) ∧ V x ≤ 5 * (6 - bc 13 x)) : ok (qloop (fun s => cX0_fillFewest_30 N R I 14 (nI left) s.1 s.2) N ((36 : Int32), (0 : Int32))) (fun r => ∃ v, r = nI v ∧ v ≤ 5 * (6 - bc 13 left) ∧ (∀ m, m < c → left.testBit m = false → v ≤ cost c b m left + V (left ||| 2 ^ m)) ∧ ∃ m, m < c ∧ left.testBit m = false ∧ v = cost c b m left + V (left ||| 2 ^ m)) := by
  have p6 := p2_64 hc
  have h3 := hB.1
  have hl2 : left < 2 ^ c := by omega
  have hl6 : left < 64 := by omega
  have hor : ∀ m, m < c → left.testBit m = false → left < left ||| 2 ^ m := fun m hm hb => by
    have h1 : left ≤ left ||| 2 ^ m := Nat.left_le_or
    have h2 := bc_in left hl6 m (by omega) hb
    by_cases e : left = left ||| 2 ^ m
    · rw [← e] at h2; omega
    · omega
  refine ok_mono (P := fun r => ∃ v, r = nI v ∧ v ≤ 36 ∧ (∀ m, m < c → left.testBit m = false → v ≤ cost c b m left + V (left ||| 2 ^ m)) ∧ (v = 36 ∨ ∃ m, m < c ∧ left.testBit m = false ∧ v = cost c b m left + V (left ||| 2 ^ m))) ?_ (fun r hr => ?_)
  · refine ok_for (fun k q => ∃ v, q = (nI v, nI k) ∧ v ≤ 36 ∧ (∀ m, m < k → left.testBit m = false → v ≤ cost c b m left + V (left ||| 2 ^ m)) ∧ (v = 36 ∨ ∃ m, m < k ∧ left.testBit m = false ∧ v = cost c b m left + V (left ||| 2 ^ m))) c (by omega) ⟨36, by rw [l36, l0], by omega, fun m hm => by omega, Or.inl rfl⟩ (fun k q hk hq => ?_) (fun q hq => ?_)
    · obtain ⟨v, rfl, g1, g2, g3⟩ := hq
      by_cases hb : left.testBit k = true
      · refine ⟨.inl (nI v, nI (k + 1)), ?_, v, rfl, g1, fun m hm hb2 => ?_, ?_⟩
        · show cX0_fillFewest_30 N R I 14 (nI left) (nI v) (nI k) = _
          unfold cX0_fillFewest_30
          have hbn : ¬ left.testBit k = false := by rw [hb]; simp
          simp (disch := first | assumption | omega) only [obs, qle, ↓lm1, l0, qn_add, pk_mul, n_le, n_lt, n_eq, n_sM, n_Ms, n_Mlt, n_Mle, n_ltM, n_leM, ↓reduceIte, eq_self, if_pos, if_neg, qx, p0_0, p0_1, p0_2, p0_3, p2_0, p4_0, p4_1, p4_2, p4_3, p4_4, p4_5, p8_1, p8_5, p8_6, p8_7, p14_0, p14_4, p14_5, p18_1, p18_2, p51_4, p51_5, p51_8, p51_9, p51_10, p51_11, p51_12, p51_14, r3, w3, r6, w6, r7, w7, r9, w9, r10, w10, r11, w11, r12, w12, r15, w15, r16, w16, r17, w17, r19, w19, r20, w20, r53, w53, r54, w54, r55, w55, r56, w56, r57, w57, r58, w58, r59, w59, r60, w60, a1, a5, pt2, rt2, wt2, pt3, rt3, wt3, pt4, rt4, wt4, pt5, rt5, wt5, pm2, rm2, wm2, pm3, rm3, wm3, pm4, rm4, wm4, pm5, rm5, wm5, l1, l2, l3, l5, l6, l7, l8, l10, l11, l12, l31, l36, l63, l100, l1000, l1440, l1000000, l16777216, h3, n_bit]
        · by_cases e : m = k
          · subst e; rw [hb] at hb2; cases hb2
          · exact g2 m (by omega) hb2
        · rcases g3 with g3 | ⟨m, a1, a2⟩
          · exact Or.inl g3
          · exact Or.inr ⟨m, by omega, a2⟩
      · have hb0 : left.testBit k = false := by simpa using hb
        have hlt := hor k hk hb0
        have hVk := hV _ hlt (or_in c (by omega) left hl2 k hk)
        have fe := fewestWith_eq (R := R) hL hc hB hk (left := left) hl2 hVk.1
        have c5 := cost_5 (b := b) (m := k) hc hl
        have hV2 := hVk.2
        by_cases hlt2 : cost c b k left + V (left ||| 2 ^ k) < v
        · refine ⟨.inl (nI (cost c b k left + V (left ||| 2 ^ k)), nI (k + 1)), ?_, _, rfl, by omega, fun m hm hb2 => ?_, Or.inr ⟨k, by omega, hb0, rfl⟩⟩
          · show cX0_fillFewest_30 N R I 14 (nI left) (nI v) (nI k) = _
            unfold cX0_fillFewest_30
            simp (disch := first | assumption | omega) only [obs, qle, ↓lm1, l0, qn_add, pk_mul, n_le, n_lt, n_eq, n_sM, n_Ms, n_Mlt, n_Mle, n_ltM, n_leM, ↓reduceIte, eq_self, if_pos, if_neg, qx, p0_0, p0_1, p0_2, p0_3, p2_0, p4_0, p4_1, p4_2, p4_3, p4_4, p4_5, p8_1, p8_5, p8_6, p8_7, p14_0, p14_4, p14_5, p18_1, p18_2, p51_4, p51_5, p51_8, p51_9, p51_10, p51_11, p51_12, p51_14, r3, w3, r6, w6, r7, w7, r9, w9, r10, w10, r11, w11, r12, w12, r15, w15, r16, w16, r17, w17, r19, w19, r20, w20, r53, w53, r54, w54, r55, w55, r56, w56, r57, w57, r58, w58, r59, w59, r60, w60, a1, a5, pt2, rt2, wt2, pt3, rt3, wt3, pt4, rt4, wt4, pt5, rt5, wt5, pm2, rm2, wm2, pm3, rm3, wm3, pm4, rm4, wm4, pm5, rm5, wm5, l1, l2, l3, l5, l6, l7, l8, l10, l11, l12, l31, l36, l63, l100, l1000, l1440, l1000000, l16777216, h3, n_bit, fe]
          · by_cases e : m = k
            · subst e; exact Nat.le_refl _
            · have := g2 m (by omega) hb2
              omega
        · refine ⟨.inl (nI v, nI (k + 1)), ?_, v, rfl, g1, fun m hm hb2 => ?_, ?_⟩
          · show cX0_fillFewest_30 N R I 14 (nI left) (nI v) (nI k) = _
            unfold cX0_fillFewest_30
            simp (disch := first | assumption | omega) only [obs, qle, ↓lm1, l0, qn_add, pk_mul, n_le, n_lt, n_eq, n_sM, n_Ms, n_Mlt, n_Mle, n_ltM, n_leM, ↓reduceIte, eq_self, if_pos, if_neg, qx, p0_0, p0_1, p0_2, p0_3, p2_0, p4_0, p4_1, p4_2, p4_3, p4_4, p4_5, p8_1, p8_5, p8_6, p8_7, p14_0, p14_4, p14_5, p18_1, p18_2, p51_4, p51_5, p51_8, p51_9, p51_10, p51_11, p51_12, p51_14, r3, w3, r6, w6, r7, w7, r9, w9, r10, w10, r11, w11, r12, w12, r15, w15, r16, w16, r17, w17, r19, w19, r20, w20, r53, w53, r54, w54, r55, w55, r56, w56, r57, w57, r58, w58, r59, w59, r60, w60, a1, a5, pt2, rt2, wt2, pt3, rt3, wt3, pt4, rt4, wt4, pt5, rt5, wt5, pm2, rm2, wm2, pm3, rm3, wm3, pm4, rm4, wm4, pm5, rm5, wm5, l1, l2, l3, l5, l6, l7, l8, l10, l11, l12, l31, l36, l63, l100, l1000, l1440, l1000000, l16777216, h3, n_bit, fe]
          · by_cases e : m = k
            · subst e; omega
            · exact g2 m (by omega) hb2
          · rcases g3 with g3 | ⟨m, a1, a2⟩
            · exact Or.inl g3
            · exact Or.inr ⟨m, by omega, a2⟩
    · obtain ⟨v, rfl, g⟩ := hq
      refine ⟨.inr (nI v), ?_, v, rfl, g⟩
      show cX0_fillFewest_30 N R I 14 (nI left) (nI v) (nI c) = _
      unfold cX0_fillFewest_30
      simp (disch := first | assumption | omega) only [obs, qle, ↓lm1, l0, qn_add, pk_mul, n_le, n_lt, n_eq, n_sM, n_Ms, n_Mlt, n_Mle, n_ltM, n_leM, ↓reduceIte, eq_self, if_pos, if_neg, qx, p0_0, p0_1, p0_2, p0_3, p2_0, p4_0, p4_1, p4_2, p4_3, p4_4, p4_5, p8_1, p8_5, p8_6, p8_7, p14_0, p14_4, p14_5, p18_1, p18_2, p51_4, p51_5, p51_8, p51_9, p51_10, p51_11, p51_12, p51_14, r3, w3, r6, w6, r7, w7, r9, w9, r10, w10, r11, w11, r12, w12, r15, w15, r16, w16, r17, w17, r19, w19, r20, w20, r53, w53, r54, w54, r55, w55, r56, w56, r57, w57, r58, w58, r59, w59, r60, w60, a1, a5, pt2, rt2, wt2, pt3, rt3, wt3, pt4, rt4, wt4, pt5, rt5, wt5, pm2, rm2, wm2, pm3, rm3, wm3, pm4, rm4, wm4, pm5, rm5, wm5, l1, l2, l3, l5, l6, l7, l8, l10, l11, l12, l31, l36, l63, l100, l1000, l1440, l1000000, l16777216, h3]
  · obtain ⟨v, rfl, g1, g2, g3⟩ := hr
    have hex : ∃ m, m < c ∧ left.testBit m = false := by
      apply Classical.byContradiction
      intro hx
      have : left = 2 ^ c - 1 := by
        apply Nat.eq_of_testBit_eq
        intro i
        rw [Nat.testBit_two_pow_sub_one]
        by_cases hi : i < c
        · have : left.testBit i = true := by
            cases hb : left.testBit i with
            | true => rfl
            | false => exact absurd ⟨i, hi, hb⟩ hx
          simp [this, hi]
        · rw [Nat.testBit_lt_two_pow (Nat.lt_of_lt_of_le (show left < 2 ^ c by omega) (Nat.pow_le_pow_right (n := 2) (by decide) (show c ≤ i by omega)))]
          simp [hi]
      omega
    obtain ⟨m, hm, hb⟩ := hex
    have hlt := hor m hm hb
    have hVk := hV _ hlt (or_in c (by omega) left hl2 m hm)
    have c5 := cost_5 (b := b) (m := m) hc hl
    have g4 := g2 m hm hb
    have b1 := bc_in left hl6 m (by omega) hb
    have hV2 := hVk.2
    have b2 := (bc_full c (by omega) (left ||| 2 ^ m) (or_in c (by omega) left hl2 m hm)).1
    refine ⟨v, rfl, by omega, g2, ?_⟩
    rcases g3 with g3 | g3
    · omega
    · exact g3
theorem fillFewest_ok {N c : Nat} {b : Nat → Nat → Bool} {R : qR} {I : qI} (hN : 300000 ≤ N) (hL : LR R) (hc : c ≤ 6) (hB : BR c b I) : ok (fX0_fillFewest N R I 14) (fun J => (∃ V, VP c b V ∧ (∀ x, x < 2 ^ c → J 17 x = nI (V x) ∧ V x ≤ 30)) ∧ ∀ a, a ≠ 17 → J a = I a) := by
  have p6 := p2_64 hc
  have pp : 0 < 2 ^ c := Nat.pow_pos (by omega)
  have h3 := hB.1
  unfold fX0_fillFewest
  rw [h3, l1, l31, n_1s (by omega), qn_sub (by omega), l0]
  refine ok_bindv (p14_5 hL) (ok_bindv (w17 hL (by omega)) ?_)
  rw [nP_sub]
  refine ok_bind (ok_mono (P := fun J => (∃ V, VP c b V ∧ (∀ x, x < 2 ^ c → J 17 x = nI (V x) ∧ V x ≤ 30)) ∧ ∀ a, a ≠ 17 → J a = I a) ?_ (fun J hJ => ok_some hJ))
  refine ok_for (fun k q => ∃ n J V, n + k = 2 ^ c - 1 ∧ q = (nP n, J) ∧ V (2 ^ c - 1) = 0 ∧ (∀ left, n ≤ left → left < 2 ^ c - 1 → (∀ m, m < c → left.testBit m = false → V left ≤ cost c b m left + V (left ||| 2 ^ m)) ∧ ∃ m, m < c ∧ left.testBit m = false ∧ V left = cost c b m left + V (left ||| 2 ^ m)) ∧ (∀ x, n ≤ x → x < 2 ^ c → J 17 x = nI (V x) ∧ V x ≤ 5 * (6 - bc 13 x)) ∧ ∀ a, a ≠ 17 → J a = I a) (2 ^ c - 1) (by omega) ⟨2 ^ c - 1, _, fun _ => 0, by omega, rfl, rfl, fun left h1 h2 => by omega, fun x h1 h2 => ⟨?_, Nat.zero_le _⟩, fun a ha => qup_ne _ _ _ ha⟩ (fun k q hk hq => ?_) (fun q hq => ?_)
  · obtain rfl : x = 2 ^ c - 1 := by omega
    exact qup_on
  · obtain ⟨n, J, V, hn, rfl, g1, g2, g3, g4⟩ := hq
    obtain ⟨left, rfl⟩ : ∃ l, n = l + 1 := ⟨n - 1, by omega⟩
    have hBJ : BR c b J := ⟨by rw [g4 14 (by omega)]; exact h3, fun a ha => by rw [g4 16 (by omega)]; exact hB.2 a ha⟩
    show ok (cX0_fillFewest_20 N R 14 (nI left) J) _
    unfold cX0_fillFewest_20
    rw [if_neg (show ¬ nI left < 0 by rw [l0, n_lt (by omega) (by omega)]; omega)]
    refine ok_bind (ok_mono (fewest_in (N := N) (V := V) hN hL hc hBJ (by omega) (fun x h1 h2 => g3 x (by omega) h2)) (fun r hr => ?_))
    obtain ⟨v, rfl, v1, v2, v3⟩ := hr
    refine ok_bindv (p14_5 hL) (ok_bindv (w17 hL (by omega)) ?_)
    rw [lm1, nP_dec]
    have hgt : ∀ x m, x ||| 2 ^ m ≠ left ∨ x ≤ left := fun x m => by
      have h1 : x ≤ x ||| 2 ^ m := Nat.left_le_or
      omega
    have hor : ∀ m, m < c → left.testBit m = false → left ||| 2 ^ m ≠ left := fun m hm hb e => by
      have h2 := bc_in left (by omega) m (by omega) hb
      rw [e] at h2; omega
    refine ok_some ⟨left, _, fun x => if x = left then v else V x, by omega, rfl, ?_, fun l h1 h2 => ?_, fun x h1 h2 => ?_, fun a ha => by rw [qup_ne _ _ _ ha]; exact g4 a ha⟩
    · show (if 2 ^ c - 1 = left then v else V (2 ^ c - 1)) = 0
      rw [if_neg (by omega)]; exact g1
    · by_cases e : l = left
      · subst e
        refine ⟨fun m hm hb => ?_, ?_⟩
        · show (if l = l then v else V l) ≤ cost c b m l + (if l ||| 2 ^ m = l then v else V (l ||| 2 ^ m))
          rw [if_pos rfl, if_neg (hor m hm hb)]
          exact v2 m hm hb
        · obtain ⟨m, a1, a2, a3⟩ := v3
          refine ⟨m, a1, a2, ?_⟩
          show (if l = l then v else V l) = cost c b m l + (if l ||| 2 ^ m = l then v else V (l ||| 2 ^ m))
          rw [if_pos rfl, if_neg (hor m a1 a2)]
          exact a3
      · have hne : ∀ m, l ||| 2 ^ m ≠ left := fun m => by
          have h5 : l ≤ l ||| 2 ^ m := Nat.left_le_or
          omega
        obtain ⟨b1, m, b2, b3, b4⟩ := g2 l (by omega) h2
        refine ⟨fun m hm hb => ?_, m, b2, b3, ?_⟩
        · show (if l = left then v else V l) ≤ cost c b m l + (if l ||| 2 ^ m = left then v else V (l ||| 2 ^ m))
          rw [if_neg e, if_neg (hne m)]
          exact b1 m hm hb
        · show (if l = left then v else V l) = cost c b m l + (if l ||| 2 ^ m = left then v else V (l ||| 2 ^ m))
          rw [if_neg e, if_neg (hne m)]
          exact b4
    · show qup J 17 left (nI v) 17 x = nI (if x = left then v else V x) ∧ (if x = left then v else V x) ≤ _
      by_cases e : x = left
      · subst e
        rw [if_pos rfl]
        exact ⟨qup_on, v1⟩
      · rw [if_neg e, qup_off (by omega)]
        exact g3 x (by omega) h2
  · obtain ⟨n, J, V, hn, rfl, g1, g2, g3, g4⟩ := hq
    obtain rfl : n = 0 := by omega
    refine ⟨.inr J, ?_, ⟨V, ⟨g1, fun left hl => g2 left (by omega) hl⟩, fun x hx => ?_⟩, g4⟩
    · show cX0_fillFewest_20 N R 14 nM J = _
      unfold cX0_fillFewest_20
      simp (disch := first | assumption | omega) only [obs, qle, ↓lm1, l0, qn_add, pk_mul, n_le, n_lt, n_eq, n_sM, n_Ms, n_Mlt, n_Mle, n_ltM, n_leM, ↓reduceIte, eq_self, if_pos, if_neg, qx, p0_0, p0_1, p0_2, p0_3, p2_0, p4_0, p4_1, p4_2, p4_3, p4_4, p4_5, p8_1, p8_5, p8_6, p8_7, p14_0, p14_4, p14_5, p18_1, p18_2, p51_4, p51_5, p51_8, p51_9, p51_10, p51_11, p51_12, p51_14, r3, w3, r6, w6, r7, w7, r9, w9, r10, w10, r11, w11, r12, w12, r15, w15, r16, w16, r17, w17, r19, w19, r20, w20, r53, w53, r54, w54, r55, w55, r56, w56, r57, w57, r58, w58, r59, w59, r60, w60, a1, a5, pt2, rt2, wt2, pt3, rt3, wt3, pt4, rt4, wt4, pt5, rt5, wt5, pm2, rm2, wm2, pm3, rm3, wm3, pm4, rm4, wm4, pm5, rm5, wm5, l1, l2, l3, l5, l6, l7, l8, l10, l11, l12, l31, l36, l63, l100, l1000, l1440, l1000000, l16777216]
    · have := g3 x (by omega) hx
      exact ⟨this.1, by omega⟩
