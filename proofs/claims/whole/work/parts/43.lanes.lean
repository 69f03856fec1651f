/-! LANES -/
def fB (c : Nat) (la ln : Nat → Nat) (i l : Nat) : Bool := (List.range c).all (fun k => decide (ln k = l → la k < i))
theorem fB_t {c : Nat} {la ln : Nat → Nat} {i l : Nat} : fB c la ln i l = true ↔ ∀ k, k < c → ln k = l → la k < i := by
  unfold fB
  simp only [List.all_eq_true, List.mem_range, decide_eq_true_eq]
def ld (P : Nat → Bool) : Nat → Nat → Nat
  | 0, l => l
  | n + 1, l => if P l = true then l else ld P n (l + 1)
theorem ld_ok {P : Nat → Bool} : ∀ n l, l ≤ ld P n l ∧ ld P n l ≤ l + n ∧ (∀ x, l ≤ x → x < ld P n l → P x = false) ∧ (ld P n l < l + n → P (ld P n l) = true) := by
  intro n
  induction n with
  | zero => intro l; exact ⟨Nat.le_refl _, Nat.le_refl _, fun x h1 h2 => by rw [ld] at h2; omega, fun h => by rw [ld] at h; omega⟩
  | succ n ih =>
    intro l
    rw [ld]
    by_cases h : P l = true
    · rw [if_pos h]
      exact ⟨Nat.le_refl _, by omega, fun x h1 h2 => by omega, fun _ => h⟩
    · rw [if_neg h]
      obtain ⟨h1, h2, h3, h4⟩ := ih (l + 1)
      refine ⟨by omega, by omega, fun x h5 h6 => ?_, fun h5 => h4 (by omega)⟩
      by_cases e : x = l
      · subst e; simpa using h
      · exact h3 x (by omega) h6
def lane1 (c : Nat) (la ln : Nat → Nat) (i : Nat) : Nat := ld (fB c la ln i) 5 0
def lst1 (c : Nat) (fr la : Nat → Nat) (i m : Nat) (s : (Nat → Nat) × Nat) : (Nat → Nat) × Nat := if fr m = i then ((fun k => if k = m then lane1 c la s.1 i else s.1 k), if lane1 c la s.1 i < s.2 then s.2 else lane1 c la s.1 i + 1) else s
def mrow (c : Nat) (fr la : Nat → Nat) (i : Nat) (s : (Nat → Nat) × Nat) : Nat → (Nat → Nat) × Nat
  | 0 => s
  | m + 1 => lst1 c fr la i m (mrow c fr la i s m)
def lrow (c : Nat) (fr la : Nat → Nat) : Nat → (Nat → Nat) × Nat
  | 0 => ((fun _ => 6), 0)
  | i + 1 => mrow c fr la i (lrow c fr la i) c
/-- who has a lane by now -/
def LI (c : Nat) (fr : Nat → Nat) (i m : Nat) (s : (Nat → Nat) × Nat) : Prop := (∀ k, k < c → (s.1 k ≠ 6 ↔ (fr k < i ∨ (fr k = i ∧ k < m)))) ∧ (∀ k, s.1 k ≤ 6) ∧ s.2 ≤ 6
theorem lane1_le {c : Nat} {la ln : Nat → Nat} {i : Nat} : lane1 c la ln i ≤ 5 := by
  have := (ld_ok (P := fB c la ln i) 5 0).2.1
  unfold lane1
  omega
theorem LI_step {c : Nat} {fr la : Nat → Nat} {i m : Nat} {s : (Nat → Nat) × Nat} (hm : m < c) (h : LI c fr i m s) : LI c fr i (m + 1) (lst1 c fr la i m s) := by
  obtain ⟨h1, h2, h3⟩ := h
  have h5 := lane1_le (c := c) (la := la) (ln := s.1) (i := i)
  unfold lst1
  by_cases hf : fr m = i
  · rw [if_pos hf]
    refine ⟨fun k hk => ?_, fun k => ?_, ?_⟩
    · show (if k = m then lane1 c la s.1 i else s.1 k) ≠ 6 ↔ _
      by_cases e : k = m
      · subst e
        rw [if_pos rfl]
        constructor
        · intro _; right; exact ⟨hf, by omega⟩
        · intro _; omega
      · rw [if_neg e, h1 k hk]
        constructor
        · rintro (q | q)
          · exact Or.inl q
          · exact Or.inr ⟨q.1, by omega⟩
        · rintro (q | q)
          · exact Or.inl q
          · exact Or.inr ⟨q.1, by omega⟩
    · show (if k = m then lane1 c la s.1 i else s.1 k) ≤ 6
      have := h2 k
      split <;> omega
    · show (if lane1 c la s.1 i < s.2 then s.2 else lane1 c la s.1 i + 1) ≤ 6
      split <;> omega
  · rw [if_neg hf]
    refine ⟨fun k hk => ?_, h2, h3⟩
    rw [h1 k hk]
    constructor
    · rintro (q | q)
      · exact Or.inl q
      · exact Or.inr ⟨q.1, by omega⟩
    · rintro (q | q)
      · exact Or.inl q
      · refine Or.inr ⟨q.1, ?_⟩
        by_cases e : k = m
        · subst e; exact absurd q.1 hf
        · omega
theorem LI_next {c : Nat} {fr : Nat → Nat} {i : Nat} {s : (Nat → Nat) × Nat} (h : LI c fr i c s) : LI c fr (i + 1) 0 s := by
  refine ⟨fun k hk => ?_, h.2⟩
  rw [h.1 k hk]
  omega
theorem LI_m {c : Nat} {fr la : Nat → Nat} {i : Nat} {s : (Nat → Nat) × Nat} (h : LI c fr i 0 s) : ∀ m, m ≤ c → LI c fr i m (mrow c fr la i s m) := by
  intro m
  induction m with
  | zero => intro _; exact h
  | succ m ih => intro hm; exact LI_step (by omega) (ih (by omega))
theorem LI_l {c : Nat} {fr la : Nat → Nat} : ∀ i, LI c fr i 0 (lrow c fr la i) := by
  intro i
  induction i with
  | zero => exact ⟨fun k hk => ⟨fun q => absurd rfl q, fun q => by omega⟩, fun k => Nat.le_refl _, by show 0 ≤ 6; omega⟩
  | succ i ih => exact LI_next (LI_m ih c (Nat.le_refl _))
theorem pigeon {m : Nat} {ln : Nat → Nat} : ∀ n, n ≤ 6 → (∀ l, l < n → ∃ k, k < 6 ∧ k ≠ m ∧ ln k = l) → ∃ x, x < 64 ∧ bc 13 x = n ∧ x.testBit m = false ∧ ∀ k, x.testBit k = true → ln k < n := by
  intro n
  induction n with
  | zero => intro _ _; exact ⟨0, by omega, bc_0 13, Nat.zero_testBit m, fun k hk => by rw [Nat.zero_testBit] at hk; cases hk⟩
  | succ n ih =>
    intro hn h
    obtain ⟨x, x1, x2, x3, x4⟩ := ih (by omega) (fun l hl => h l (by omega))
    obtain ⟨k, k1, k2, k3⟩ := h n (by omega)
    have hb : x.testBit k = false := Bool.eq_false_iff.mpr (fun q => by have := x4 k q; omega)
    refine ⟨x ||| 2 ^ k, or_in 6 (by omega) x x1 k k1, by rw [bc_in x x1 k k1 hb, x2], ?_, fun j hj => ?_⟩
    · rw [Nat.testBit_or, x3, Nat.testBit_two_pow]
      simp [k2]
    · rw [Nat.testBit_or, Bool.or_eq_true, Nat.testBit_two_pow] at hj
      rcases hj with hj | hj
      · have := x4 j hj; omega
      · have : k = j := by simpa using hj
        subst this
        omega
theorem lane1_free {c m : Nat} {la ln : Nat → Nat} {i : Nat} (hc : c ≤ 6) (hm : m < c) (h6 : ln m = 6) : fB c la ln i (lane1 c la ln i) = true ∧ ∀ l, l < lane1 c la ln i → fB c la ln i l = false := by
  obtain ⟨h1, h2, h3, h4⟩ := ld_ok (P := fB c la ln i) 5 0
  refine ⟨?_, fun l hl => h3 l (by omega) hl⟩
  by_cases hlt : lane1 c la ln i < 5
  · exact h4 (by unfold lane1 at hlt; omega)
  · have e5 : lane1 c la ln i = 5 := by have := lane1_le (c := c) (la := la) (ln := ln) (i := i); omega
    apply Classical.byContradiction
    intro hx
    have hall : ∀ l, l < 6 → ∃ k, k < 6 ∧ k ≠ m ∧ ln k = l := by
      intro l hl
      have hf : fB c la ln i l = false := by
        by_cases e : l = 5
        · rw [e, ← e5]; simpa using hx
        · exact h3 l (by omega) (by unfold lane1 at e5; omega)
      apply Classical.byContradiction
      intro q
      have : fB c la ln i l = true := fB_t.mpr (fun k hk hkl => absurd ⟨k, by omega, fun e => by rw [e, h6] at hkl; omega, hkl⟩ q)
      rw [hf] at this
      cases this
    obtain ⟨x, x1, x2, x3, _⟩ := pigeon 6 (Nat.le_refl _) hall
    have := (bc_full 6 (by omega) x x1).2 x2
    rw [this] at x3
    have : (2 ^ 6 - 1).testBit m = true := by rw [Nat.testBit_two_pow_sub_one]; simp; omega
    rw [this] at x3
    cases x3
/-- what the class holds for the lanes -/
def LC (c : Nat) (la ln : Nat → Nat) (I : qI) : Prop := (∀ k, k < c → ln k ≠ 6 → I 19 k = nI (ln k)) ∧ ∀ l, l < 6 → ((∀ k, k < c → ln k ≠ l) ∧ I 20 l = nM) ∨ ∃ k, k < c ∧ ln k = l ∧ I 20 l = nI (la k) ∧ ∀ j, j < c → ln j = l → la j ≤ la k
theorem give_ok {N c i m : Nat} {la : Nat → Nat} {s : (Nat → Nat) × Nat} {R : qR} {I : qI} (hN : 300000 ≤ N) (hL : LR R) (hc : c ≤ 6) (hm : m < c) (hi : i < 42) (hla : ∀ k, k < c → la k < 42) (him : i ≤ la m) (h6 : s.1 m = 6) (hs : s.2 ≤ 6) (hC : LC c la s.1 I) (h0 : I 18 0 = nI s.2) : ok (fX1_give N R I 18 (nI m) (nI i) (nI (la m))) (fun J => LC c la (fun k => if k = m then lane1 c la s.1 i else s.1 k) J ∧ J 18 0 = nI (if lane1 c la s.1 i < s.2 then s.2 else lane1 c la s.1 i + 1) ∧ (∀ a, a ≠ 18 → a ≠ 19 → a ≠ 20 → J a = I a) ∧ ∀ j, j ≠ 0 → J 18 j = I 18 j) := by
  obtain ⟨f1, f2⟩ := lane1_free (la := la) (i := i) hc hm h6
  have h5 := lane1_le (c := c) (la := la) (ln := s.1) (i := i)
  have hlm := hla m hm
  have hlt : ∀ l, l < 6 → (I 20 l < nI i ↔ fB c la s.1 i l = true) := by
    intro l hl
    rw [fB_t]
    rcases hC.2 l hl with ⟨g1, g2⟩ | ⟨k, g1, g2, g3, g4⟩
    · rw [g2, n_Mlt (by omega)]
      exact ⟨fun _ k hk he => absurd he (g1 k hk), fun _ => trivial⟩
    · have := hla k g1
      rw [g3, n_lt (by omega) (by omega)]
      exact ⟨fun q j hj he => by have := g4 j hj he; omega, fun q => q k g1 g2⟩
  have eloop : qloop (fun x => cX1_give_3 N R I 18 (nI m) (nI i) (nI (la m)) x) N ((0 : Int32)) = some (nI (lane1 c la s.1 i)) := by
    refine qfor2 (fun l => nI l) l0 _ (lane1 c la s.1 i) (by omega) (fun l hl => ?_) ?_
    · have hn : ¬ I 20 l < nI i := fun q => by
        have := (hlt l (by omega)).mp q
        rw [f2 l hl] at this
        cases this
      show cX1_give_3 N R I 18 (nI m) (nI i) (nI (la m)) (nI l) = _
      unfold cX1_give_3
      simp (disch := first | assumption | omega) only [obs, qle, ↓lm1, l0, qn_add, pk_mul, n_le, n_lt, n_eq, n_sM, n_Ms, n_Mlt, n_Mle, n_ltM, n_leM, ↓reduceIte, eq_self, if_pos, if_neg, qx, p0_0, p0_1, p0_2, p0_3, p2_0, p4_0, p4_1, p4_2, p4_3, p4_4, p4_5, p8_1, p8_5, p8_6, p8_7, p14_0, p14_4, p14_5, p18_1, p18_2, p51_4, p51_5, p51_8, p51_9, p51_10, p51_11, p51_12, p51_14, r3, w3, r6, w6, r7, w7, r9, w9, r10, w10, r11, w11, r12, w12, r15, w15, r16, w16, r17, w17, r19, w19, r20, w20, r53, w53, r54, w54, r55, w55, r56, w56, r57, w57, r58, w58, r59, w59, r60, w60, a1, a5, pt2, rt2, wt2, pt3, rt3, wt3, pt4, rt4, wt4, pt5, rt5, wt5, pm2, rm2, wm2, pm3, rm3, wm3, pm4, rm4, wm4, pm5, rm5, wm5, l1, l2, l3, l5, l6, l7, l8, l10, l11, l12, l31, l36, l63, l100, l1000, l1440, l1000000, l16777216]
    · show cX1_give_3 N R I 18 (nI m) (nI i) (nI (la m)) (nI (lane1 c la s.1 i)) = _
      unfold cX1_give_3
      by_cases e5 : lane1 c la s.1 i = 5
      · simp (disch := first | assumption | omega) only [obs, qle, ↓lm1, l0, qn_add, pk_mul, n_le, n_lt, n_eq, n_sM, n_Ms, n_Mlt, n_Mle, n_ltM, n_leM, ↓reduceIte, eq_self, if_pos, if_neg, qx, p0_0, p0_1, p0_2, p0_3, p2_0, p4_0, p4_1, p4_2, p4_3, p4_4, p4_5, p8_1, p8_5, p8_6, p8_7, p14_0, p14_4, p14_5, p18_1, p18_2, p51_4, p51_5, p51_8, p51_9, p51_10, p51_11, p51_12, p51_14, r3, w3, r6, w6, r7, w7, r9, w9, r10, w10, r11, w11, r12, w12, r15, w15, r16, w16, r17, w17, r19, w19, r20, w20, r53, w53, r54, w54, r55, w55, r56, w56, r57, w57, r58, w58, r59, w59, r60, w60, a1, a5, pt2, rt2, wt2, pt3, rt3, wt3, pt4, rt4, wt4, pt5, rt5, wt5, pm2, rm2, wm2, pm3, rm3, wm3, pm4, rm4, wm4, pm5, rm5, wm5, l1, l2, l3, l5, l6, l7, l8, l10, l11, l12, l31, l36, l63, l100, l1000, l1440, l1000000, l16777216, e5]
      · have hn : I 20 (lane1 c la s.1 i) < nI i := (hlt _ (by omega)).mpr f1
        simp (disch := first | assumption | omega) only [obs, qle, ↓lm1, l0, qn_add, pk_mul, n_le, n_lt, n_eq, n_sM, n_Ms, n_Mlt, n_Mle, n_ltM, n_leM, ↓reduceIte, eq_self, if_pos, if_neg, qx, p0_0, p0_1, p0_2, p0_3, p2_0, p4_0, p4_1, p4_2, p4_3, p4_4, p4_5, p8_1, p8_5, p8_6, p8_7, p14_0, p14_4, p14_5, p18_1, p18_2, p51_4, p51_5, p51_8, p51_9, p51_10, p51_11, p51_12, p51_14, r3, w3, r6, w6, r7, w7, r9, w9, r10, w10, r11, w11, r12, w12, r15, w15, r16, w16, r17, w17, r19, w19, r20, w20, r53, w53, r54, w54, r55, w55, r56, w56, r57, w57, r58, w58, r59, w59, r60, w60, a1, a5, pt2, rt2, wt2, pt3, rt3, wt3, pt4, rt4, wt4, pt5, rt5, wt5, pm2, rm2, wm2, pm3, rm3, wm3, pm4, rm4, wm4, pm5, rm5, wm5, l1, l2, l3, l5, l6, l7, l8, l10, l11, l12, l31, l36, l63, l100, l1000, l1440, l1000000, l16777216]
  unfold fX1_give
  refine ok_bindv eloop (ok_bindv (p18_1 hL) (ok_bindv (w19 hL (by omega)) (ok_bindv (p18_2 hL) (ok_bindv (w20 hL (by omega)) (ok_let ?_)))))
  have e0 : qup (qup I 19 m (nI (lane1 c la s.1 i))) 20 (lane1 c la s.1 i) (nI (la m)) 18 0 = nI s.2 := by rw [qup_off (by omega), qup_off (by omega)]; exact h0
  refine ok_some ⟨⟨fun k hk hk6 => ?_, fun l hl => ?_⟩, ?_, fun a h1 h2 h3 => by rw [qup_ne _ _ _ h1, qup_ne _ _ _ h3, qup_ne _ _ _ h2], fun j hj => by rw [qup_off (by omega), qup_off (by omega), qup_off (by omega)]⟩
  · rw [qup_off (by omega), qup_off (by omega)]
    by_cases e : k = m
    · subst e
      simp only [if_pos]
      exact qup_on
    · simp only [if_neg e] at hk6 ⊢
      rw [qup_off (by omega)]
      exact hC.1 k hk hk6
  · rw [qup_off (by omega)]
    by_cases e : l = lane1 c la s.1 i
    · right
      refine ⟨m, hm, by simp only [if_pos]; exact e.symm, by rw [e]; exact qup_on, fun j hj he => ?_⟩
      by_cases ej : j = m
      · subst ej; exact Nat.le_refl _
      · simp only [if_neg ej] at he
        have := fB_t.mp f1 j hj (he.trans e)
        omega
    · rw [qup_off (by omega), qup_off (by omega)]
      rcases hC.2 l hl with ⟨g1, g2⟩ | ⟨k, g1, g2, g3, g4⟩
      · left
        refine ⟨fun k hk => ?_, g2⟩
        by_cases ek : k = m
        · subst ek; simp only [if_pos]; exact fun q => e q.symm
        · simp only [if_neg ek]; exact g1 k hk
      · right
        have hkm : k ≠ m := fun q => by rw [q, h6] at g2; omega
        refine ⟨k, g1, by simp only [if_neg hkm]; exact g2, g3, fun j hj he => ?_⟩
        by_cases ej : j = m
        · subst ej; simp only [if_pos] at he; exact absurd he.symm e
        · simp only [if_neg ej] at he; exact g4 j hj he
  · rw [qup_on, e0, l1, qn_add]
    by_cases hq : lane1 c la s.1 i < s.2
    · rw [if_pos hq]
      by_cases hq2 : s.2 < lane1 c la s.1 i + 1
      · omega
      · rw [if_neg (by rw [n_lt (by omega) (by omega)]; exact hq2)]
    · rw [if_neg hq, if_pos (by rw [n_lt (by omega) (by omega)]; omega)]
theorem fill_ok {N a len : Nat} {v : Int32} {R : qR} {I : qI} (hN : len < N) (hk : (R.2.1 a).2 = len) (hl : len < 2147483648) : ok (fJ7_fill_53178 N R I a v) (fun J => (∀ x, x < len → J a x = v) ∧ (∀ b, b ≠ a → J b = I b) ∧ ∀ x, len ≤ x → J a x = I a x) := by
  unfold fJ7_fill_53178
  rw [hk, ofn]
  refine ok_bind (ok_mono (P := fun J => (∀ x, x < len → J a x = v) ∧ (∀ b, b ≠ a → J b = I b) ∧ ∀ x, len ≤ x → J a x = I a x) ?_ (fun r hr => ok_some hr))
  refine ok_for (fun k q => ∃ J, q = (nI k, J) ∧ (∀ x, x < k → J a x = v) ∧ (∀ b, b ≠ a → J b = I b) ∧ ∀ x, k ≤ x → J a x = I a x) len (by omega) ⟨I, by rw [l0], fun x hx => by omega, fun _ _ => rfl, fun _ _ => rfl⟩ (fun k q hk2 hq => ?_) (fun q hq => ?_)
  · obtain ⟨J, rfl, g1, g2, g3⟩ := hq
    have ew : qwr J R a (nI k) v = some (qup J a k v) := wrn hk hk2 hl
    refine ⟨.inl (nI (k + 1), qup J a k v), ?_, _, rfl, fun x hx => ?_, fun b hb => by rw [qup_ne _ _ _ hb]; exact g2 b hb, fun x hx => by rw [qup_off (by omega)]; exact g3 x (by omega)⟩
    · show cJ7_fill_53178_5 N R a v (nI len) (nI k) J = _
      unfold cJ7_fill_53178_5
      simp (disch := first | assumption | omega) only [obs, qle, ↓lm1, l0, qn_add, pk_mul, n_le, n_lt, n_eq, n_sM, n_Ms, n_Mlt, n_Mle, n_ltM, n_leM, ↓reduceIte, eq_self, if_pos, if_neg, qx, p0_0, p0_1, p0_2, p0_3, p2_0, p4_0, p4_1, p4_2, p4_3, p4_4, p4_5, p8_1, p8_5, p8_6, p8_7, p14_0, p14_4, p14_5, p18_1, p18_2, p51_4, p51_5, p51_8, p51_9, p51_10, p51_11, p51_12, p51_14, r3, w3, r6, w6, r7, w7, r9, w9, r10, w10, r11, w11, r12, w12, r15, w15, r16, w16, r17, w17, r19, w19, r20, w20, r53, w53, r54, w54, r55, w55, r56, w56, r57, w57, r58, w58, r59, w59, r60, w60, a1, a5, pt2, rt2, wt2, pt3, rt3, wt3, pt4, rt4, wt4, pt5, rt5, wt5, pm2, rm2, wm2, pm3, rm3, wm3, pm4, rm4, wm4, pm5, rm5, wm5, l1, l2, l3, l5, l6, l7, l8, l10, l11, l12, l31, l36, l63, l100, l1000, l1440, l1000000, l16777216, ew]
    · by_cases e : x = k
      · subst e; exact qup_on
      · rw [qup_off (by omega)]; exact g1 x (by omega)
  · obtain ⟨J, rfl, g⟩ := hq
    refine ⟨.inr J, ?_, g⟩
    show cJ7_fill_53178_5 N R a v (nI len) (nI len) J = _
    unfold cJ7_fill_53178_5
    simp (disch := first | assumption | omega) only [obs, qle, ↓lm1, l0, qn_add, pk_mul, n_le, n_lt, n_eq, n_sM, n_Ms, n_Mlt, n_Mle, n_ltM, n_leM, ↓reduceIte, eq_self, if_pos, if_neg, qx, p0_0, p0_1, p0_2, p0_3, p2_0, p4_0, p4_1, p4_2, p4_3, p4_4, p4_5, p8_1, p8_5, p8_6, p8_7, p14_0, p14_4, p14_5, p18_1, p18_2, p51_4, p51_5, p51_8, p51_9, p51_10, p51_11, p51_12, p51_14, r3, w3, r6, w6, r7, w7, r9, w9, r10, w10, r11, w11, r12, w12, r15, w15, r16, w16, r17, w17, r19, w19, r20, w20, r53, w53, r54, w54, r55, w55, r56, w56, r57, w57, r58, w58, r59, w59, r60, w60, a1, a5, pt2, rt2, wt2, pt3, rt3, wt3, pt4, rt4, wt4, pt5, rt5, wt5, pm2, rm2, wm2, pm3, rm3, wm3, pm4, rm4, wm4, pm5, rm5, wm5, l1, l2, l3, l5, l6, l7, l8, l10, l11, l12, l31, l36, l63, l100, l1000, l1440, l1000000, l16777216]
theorem planLanes_ok {N c d : Nat} {ns fr la : Nat → Nat} {R : qR} {I : qI} (hN : 300000 ≤ N) (hL : LR R) (hc : c ≤ 6) (hd : d ≤ 42) (h46 : I 4 6 = nI c) (h80 : I 8 0 = nI d) (hns : ∀ m, m < c → I (21 + 5 * m) 1 = nI (ns m) ∧ 1 ≤ ns m ∧ ns m ≤ 7 ∧ I 7 (m * 7) = nI (fr m) ∧ I 7 (m * 7 + ns m - 1) = nI (la m) ∧ fr m ≤ la m ∧ la m < d) : ok (fX4_planLanes N R I 4) (fun J => J 18 0 = nI (lrow c fr la d).2 ∧ (∀ m, m < c → J 19 m = nI ((lrow c fr la d).1 m)) ∧ ∀ a, a < 18 ∨ 20 < a → J a = I a) := by
  unfold fX4_planLanes fX1_clear
  refine ok_bindv (p4_5 hL) (ok_bind (ok_let (ok_bindv (p18_2 hL) (ok_bind (ok_mono (fill_ok (N := N) (by omega) (hL.l 20 rfl) (by omega)) (fun J1 hJ1 => ok_some ?_))))))
  obtain ⟨j1, j2, j3⟩ := hJ1
  have hJ1 : ∀ a, a ≠ 18 → a ≠ 20 → J1 a = I a := fun a h1 h2 => by rw [j2 a h2, qup_ne _ _ _ h1]
  refine ok_bind (ok_mono (P := fun J => J 18 0 = nI (lrow c fr la d).2 ∧ (∀ m, m < c → J 19 m = nI ((lrow c fr la d).1 m)) ∧ ∀ a, a < 18 ∨ 20 < a → J a = I a) ?_ (fun r hr => ok_some hr))
  refine ok_for (fun i q => ∃ J, q = (nI i, J) ∧ LC c la (lrow c fr la i).1 J ∧ J 18 0 = nI (lrow c fr la i).2 ∧ ∀ a, a < 18 ∨ 20 < a → J a = I a) d (by omega) ⟨J1, by rw [l0], ⟨fun k hk h6 => absurd rfl h6, fun l hl => Or.inl ⟨fun k hk => by show 6 ≠ l; omega, j1 l hl⟩⟩, ?_, fun a ha => hJ1 a (by omega) (by omega)⟩ (fun i q hi hq => ?_) (fun q hq => ?_)
  · rw [j2 18 (by omega), qup_on, l0]; rfl
  · obtain ⟨J, rfl, g1, g2, g3⟩ := hq
    show ok (cX4_planLanes_9 N R 4 (nI i) J) _
    unfold cX4_planLanes_9
    refine ok_bindv (p4_3 hL) ?_
    rw [g3 8 (by omega), h80, if_neg (show ¬ nI d ≤ nI i by rw [n_le (by omega) (by omega)]; omega)]
    refine ok_bind (ok_mono (P := fun K => LC c la (lrow c fr la (i + 1)).1 K ∧ K 18 0 = nI (lrow c fr la (i + 1)).2 ∧ ∀ a, a < 18 ∨ 20 < a → K a = I a) ?_ (fun K hK => ?_))
    · refine ok_for (fun m q => ∃ K, q = (nI m, K) ∧ LC c la (mrow c fr la i (lrow c fr la i) m).1 K ∧ K 18 0 = nI (mrow c fr la i (lrow c fr la i) m).2 ∧ ∀ a, a < 18 ∨ 20 < a → K a = I a) c (by omega) ⟨J, by rw [l0], g1, g2, g3⟩ (fun m q hm hq => ?_) (fun q hq => ?_)
      · obtain ⟨K, rfl, f1, f2, f3⟩ := hq
        obtain ⟨n1, n2, n3, n4, n5, n6, n7⟩ := hns m hm
        have li := LI_m (la := la) (LI_l (fr := fr) (la := la) (c := c) i) m (by omega)
        have e1 : K 7 (m * 7) = nI (fr m) := by rw [f3 7 (by omega)]; exact n4
        have e2 : K 7 (m * 7 + ns m - 1) = nI (la m) := by rw [f3 7 (by omega)]; exact n5
        have e3 : K (21 + 5 * m) 1 = nI (ns m) := by rw [f3 _ (by omega)]; exact n1
        have e4 : K 4 6 = nI c := by rw [f3 _ (by omega)]; exact h46
        have hm6 : m < 6 := by omega
        have x1 : fX4_firstRow R K 4 (nI m) = some (nI (fr m)) := by
          unfold fX4_firstRow
          simp (disch := first | assumption | omega) only [obs, qle, ↓lm1, l0, qn_add, pk_mul, n_le, n_lt, n_eq, n_sM, n_Ms, n_Mlt, n_Mle, n_ltM, n_leM, ↓reduceIte, eq_self, if_pos, if_neg, qx, p0_0, p0_1, p0_2, p0_3, p2_0, p4_0, p4_1, p4_2, p4_3, p4_4, p4_5, p8_1, p8_5, p8_6, p8_7, p14_0, p14_4, p14_5, p18_1, p18_2, p51_4, p51_5, p51_8, p51_9, p51_10, p51_11, p51_12, p51_14, r3, w3, r6, w6, r7, w7, r9, w9, r10, w10, r11, w11, r12, w12, r15, w15, r16, w16, r17, w17, r19, w19, r20, w20, r53, w53, r54, w54, r55, w55, r56, w56, r57, w57, r58, w58, r59, w59, r60, w60, a1, a5, pt2, rt2, wt2, pt3, rt3, wt3, pt4, rt4, wt4, pt5, rt5, wt5, pm2, rm2, wm2, pm3, rm3, wm3, pm4, rm4, wm4, pm5, rm5, wm5, l1, l2, l3, l5, l6, l7, l8, l10, l11, l12, l31, l36, l63, l100, l1000, l1440, l1000000, l16777216, e1]
        have x2 : fX4_lastRow R K 4 (nI m) = some (nI (la m)) := by
          unfold fX4_lastRow
          simp (disch := first | assumption | omega) only [obs, qle, ↓lm1, l0, qn_add, pk_mul, n_le, n_lt, n_eq, n_sM, n_Ms, n_Mlt, n_Mle, n_ltM, n_leM, ↓reduceIte, eq_self, if_pos, if_neg, qx, p0_0, p0_1, p0_2, p0_3, p2_0, p4_0, p4_1, p4_2, p4_3, p4_4, p4_5, p8_1, p8_5, p8_6, p8_7, p14_0, p14_4, p14_5, p18_1, p18_2, p51_4, p51_5, p51_8, p51_9, p51_10, p51_11, p51_12, p51_14, r3, w3, r6, w6, r7, w7, r9, w9, r10, w10, r11, w11, r12, w12, r15, w15, r16, w16, r17, w17, r19, w19, r20, w20, r53, w53, r54, w54, r55, w55, r56, w56, r57, w57, r58, w58, r59, w59, r60, w60, a1, a5, pt2, rt2, wt2, pt3, rt3, wt3, pt4, rt4, wt4, pt5, rt5, wt5, pm2, rm2, wm2, pm3, rm3, wm3, pm4, rm4, wm4, pm5, rm5, wm5, l1, l2, l3, l5, l6, l7, l8, l10, l11, l12, l31, l36, l63, l100, l1000, l1440, l1000000, l16777216, e3, qn_sub, e2]
        show ok (cX4_planLanes_22 N R 4 (nI i) (nI m) K) _
        unfold cX4_planLanes_22
        rw [e4, if_neg (show ¬ nI c ≤ nI m by rw [n_le (by omega) (by omega)]; omega)]
        refine ok_bindv x1 ?_
        by_cases hf : fr m = i
        · rw [if_pos (show nI (fr m) = nI i by rw [hf])]
          have h6 : (mrow c fr la i (lrow c fr la i) m).1 m = 6 := by
            apply Classical.byContradiction
            intro q
            have := (li.1 m hm).mp q
            omega
          refine ok_bindv (p4_5 hL) (ok_bindv x2 (ok_bind (ok_mono (give_ok (N := N) (i := i) hN hL hc hm (by omega) (fun k hk => by have := (hns k hk).2.2.2.2.2.2; omega) (by omega) h6 li.2.2 f1 f2) (fun M hM => ?_))))
          obtain ⟨m1, m2, m3, m4⟩ := hM
          rw [nI_1]
          refine ok_some ⟨M, rfl, ?_, ?_, fun a ha => by rw [m3 a (by omega) (by omega) (by omega)]; exact f3 a ha⟩
          · rw [mrow, lst1, if_pos hf]; exact m1
          · rw [mrow, lst1, if_pos hf]; exact m2
        · rw [if_neg (show ¬ nI (fr m) = nI i by rw [n_eq (by omega) (by omega)]; exact hf), nI_1]
          refine ok_some ⟨K, rfl, ?_, ?_, f3⟩
          · rw [mrow, lst1, if_neg hf]; exact f1
          · rw [mrow, lst1, if_neg hf]; exact f2
      · obtain ⟨K, rfl, f1, f2, f3⟩ := hq
        have e4 : K 4 6 = nI c := by rw [f3 _ (by omega)]; exact h46
        refine ⟨.inr K, ?_, f1, f2, f3⟩
        show cX4_planLanes_22 N R 4 (nI i) (nI c) K = _
        unfold cX4_planLanes_22
        simp (disch := first | assumption | omega) only [obs, qle, ↓lm1, l0, qn_add, pk_mul, n_le, n_lt, n_eq, n_sM, n_Ms, n_Mlt, n_Mle, n_ltM, n_leM, ↓reduceIte, eq_self, if_pos, if_neg, qx, p0_0, p0_1, p0_2, p0_3, p2_0, p4_0, p4_1, p4_2, p4_3, p4_4, p4_5, p8_1, p8_5, p8_6, p8_7, p14_0, p14_4, p14_5, p18_1, p18_2, p51_4, p51_5, p51_8, p51_9, p51_10, p51_11, p51_12, p51_14, r3, w3, r6, w6, r7, w7, r9, w9, r10, w10, r11, w11, r12, w12, r15, w15, r16, w16, r17, w17, r19, w19, r20, w20, r53, w53, r54, w54, r55, w55, r56, w56, r57, w57, r58, w58, r59, w59, r60, w60, a1, a5, pt2, rt2, wt2, pt3, rt3, wt3, pt4, rt4, wt4, pt5, rt5, wt5, pm2, rm2, wm2, pm3, rm3, wm3, pm4, rm4, wm4, pm5, rm5, wm5, l1, l2, l3, l5, l6, l7, l8, l10, l11, l12, l31, l36, l63, l100, l1000, l1440, l1000000, l16777216, e4]
    · rw [nI_1]
      exact ok_some ⟨K, rfl, hK⟩
  · obtain ⟨J, rfl, g1, g2, g3⟩ := hq
    refine ⟨.inr J, ?_, g2, fun m hm => g1.1 m hm ?_, g3⟩
    · show cX4_planLanes_9 N R 4 (nI d) J = _
      unfold cX4_planLanes_9
      have e := g3 8 (by omega)
      have e8 : J 8 0 = nI d := by rw [e]; exact h80
      simp (disch := first | assumption | omega) only [obs, qle, ↓lm1, l0, qn_add, pk_mul, n_le, n_lt, n_eq, n_sM, n_Ms, n_Mlt, n_Mle, n_ltM, n_leM, ↓reduceIte, eq_self, if_pos, if_neg, qx, p0_0, p0_1, p0_2, p0_3, p2_0, p4_0, p4_1, p4_2, p4_3, p4_4, p4_5, p8_1, p8_5, p8_6, p8_7, p14_0, p14_4, p14_5, p18_1, p18_2, p51_4, p51_5, p51_8, p51_9, p51_10, p51_11, p51_12, p51_14, r3, w3, r6, w6, r7, w7, r9, w9, r10, w10, r11, w11, r12, w12, r15, w15, r16, w16, r17, w17, r19, w19, r20, w20, r53, w53, r54, w54, r55, w55, r56, w56, r57, w57, r58, w58, r59, w59, r60, w60, a1, a5, pt2, rt2, wt2, pt3, rt3, wt3, pt4, rt4, wt4, pt5, rt5, wt5, pm2, rm2, wm2, pm3, rm3, wm3, pm4, rm4, wm4, pm5, rm5, wm5, l1, l2, l3, l5, l6, l7, l8, l10, l11, l12, l31, l36, l63, l100, l1000, l1440, l1000000, l16777216, e8]
    · obtain ⟨n1, n2, n3, n4, n5, n6, n7⟩ := hns m hm
      rw [(LI_l (fr := fr) (la := la) (c := c) d).1 m hm]
      omega
