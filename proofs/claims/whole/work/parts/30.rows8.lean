/-! THE REFERENCE'S ROWS -/
/-- a number less one, down to -1 -/
def nP : Nat → Int32
  | 0 => nM
  | m + 1 => nI m
theorem nP_dec (n : Nat) : nI n + nM = nP n := by
  cases n with
  | zero => exact n_dec0
  | succ n => exact n_dec n
theorem nP_sub (n : Nat) : nI n - nI 1 = nP n := by
  cases n with
  | zero => exact n_dec1
  | succ n => exact nI_pred n
theorem isPlace_t {N c code : Nat} {ns : Nat → Nat} {st : Nat → Nat → Nat} {R : qR} {I : qI} (hN : 300000 ≤ N) (hL : LR R) (hT : RT c ns st I) (hc : code < 262144) (hp : ∀ k, k < c → dg code k ≤ ns k) : fX8_isPlace N R I 111 (nI code) = some (nI 1) := by
  obtain ⟨h10, hc6, hns, hst⟩ := hT
  unfold fX8_isPlace
  refine bind_of (qfor (fun k => nI k) (.inl ()) c (by omega) (fun k hk => ?_) ?_) rfl
  · have a1 := hns k hk
    have d8 := dg_lt code k
    have := hp k hk
    simp (disch := first | assumption | omega) only [obs, qle, ↓lm1, l0, qn_add, pk_mul, n_le, n_lt, n_eq, n_sM, n_Ms, n_Mlt, n_Mle, n_ltM, n_leM, ↓reduceIte, eq_self, if_pos, if_neg, qx, p111_3, p111_4, p111_5, p111_6, p111_7, p111_8, p111_11, p111_12, p111_13, p111_14, p111_15, p111_16, p111_17, p111_18, p111_19, p111_21, p111_22, p111_23, p111_24, p111_27, p111_28, p111_29, p111_30, p111_31, p111_32, p111_34, r112, w112, r113, w113, r114, w114, r115, w115, r116, w116, r117, w117, r118, w118, r119, w119, r120, w120, r121, w121, r122, w122, r123, w123, r124, w124, r125, w125, r126, w126, r127, w127, r128, w128, r129, w129, r130, w130, r131, w131, r132, w132, r133, w133, r134, w134, r135, w135, r136, w136, r137, w137, l1, l2, l3, l5, l6, l7, l8, l10, l11, l12, l31, l36, l63, l100, l1000, l1440, l1000000, l16777216, cX8_isPlace_2, fX8_digit, h10, n_dig, a1.1]
  · simp (disch := first | assumption | omega) only [obs, qle, ↓lm1, l0, qn_add, pk_mul, n_le, n_lt, n_eq, n_sM, n_Ms, n_Mlt, n_Mle, n_ltM, n_leM, ↓reduceIte, eq_self, if_pos, if_neg, qx, p111_3, p111_4, p111_5, p111_6, p111_7, p111_8, p111_11, p111_12, p111_13, p111_14, p111_15, p111_16, p111_17, p111_18, p111_19, p111_21, p111_22, p111_23, p111_24, p111_27, p111_28, p111_29, p111_30, p111_31, p111_32, p111_34, r112, w112, r113, w113, r114, w114, r115, w115, r116, w116, r117, w117, r118, w118, r119, w119, r120, w120, r121, w121, r122, w122, r123, w123, r124, w124, r125, w125, r126, w126, r127, w127, r128, w128, r129, w129, r130, w130, r131, w131, r132, w132, r133, w133, r134, w134, r135, w135, r136, w136, r137, w137, l1, l2, l3, l5, l6, l7, l8, l10, l11, l12, l31, l36, l63, l100, l1000, l1440, l1000000, l16777216, cX8_isPlace_2, h10]
theorem isPlace_f {N c code : Nat} {ns : Nat → Nat} {st : Nat → Nat → Nat} {R : qR} {I : qI} (hN : 300000 ≤ N) (hL : LR R) (hT : RT c ns st I) (hc : code < 262144) (hp : ¬ ∀ k, k < c → dg code k ≤ ns k) : fX8_isPlace N R I 111 (nI code) = some (nI 0) := by
  obtain ⟨h10, hc6, hns, hst⟩ := hT
  obtain ⟨m, hm, hl⟩ := pk_least (fun k => k < c ∧ ns k < dg code k) (Classical.byContradiction (fun q => hp (fun k hk => Classical.byContradiction (fun q2 => q ⟨k, hk, by omega⟩))))
  unfold fX8_isPlace
  refine bind_of (qfor (fun k => nI k) (.inr (nI 0)) m (by omega) (fun k hk => ?_) ?_) rfl
  · have a1 := hns k (by omega)
    have d8 := dg_lt code k
    have : dg code k ≤ ns k := Classical.byContradiction (fun q => hl k hk ⟨by omega, by omega⟩)
    simp (disch := first | assumption | omega) only [obs, qle, ↓lm1, l0, qn_add, pk_mul, n_le, n_lt, n_eq, n_sM, n_Ms, n_Mlt, n_Mle, n_ltM, n_leM, ↓reduceIte, eq_self, if_pos, if_neg, qx, p111_3, p111_4, p111_5, p111_6, p111_7, p111_8, p111_11, p111_12, p111_13, p111_14, p111_15, p111_16, p111_17, p111_18, p111_19, p111_21, p111_22, p111_23, p111_24, p111_27, p111_28, p111_29, p111_30, p111_31, p111_32, p111_34, r112, w112, r113, w113, r114, w114, r115, w115, r116, w116, r117, w117, r118, w118, r119, w119, r120, w120, r121, w121, r122, w122, r123, w123, r124, w124, r125, w125, r126, w126, r127, w127, r128, w128, r129, w129, r130, w130, r131, w131, r132, w132, r133, w133, r134, w134, r135, w135, r136, w136, r137, w137, l1, l2, l3, l5, l6, l7, l8, l10, l11, l12, l31, l36, l63, l100, l1000, l1440, l1000000, l16777216, cX8_isPlace_2, fX8_digit, h10, n_dig, a1.1]
  · have a1 := hns m hm.1
    have d8 := dg_lt code m
    have := hm.2
    have := hm.1
    simp (disch := first | assumption | omega) only [obs, qle, ↓lm1, l0, qn_add, pk_mul, n_le, n_lt, n_eq, n_sM, n_Ms, n_Mlt, n_Mle, n_ltM, n_leM, ↓reduceIte, eq_self, if_pos, if_neg, qx, p111_3, p111_4, p111_5, p111_6, p111_7, p111_8, p111_11, p111_12, p111_13, p111_14, p111_15, p111_16, p111_17, p111_18, p111_19, p111_21, p111_22, p111_23, p111_24, p111_27, p111_28, p111_29, p111_30, p111_31, p111_32, p111_34, r112, w112, r113, w113, r114, w114, r115, w115, r116, w116, r117, w117, r118, w118, r119, w119, r120, w120, r121, w121, r122, w122, r123, w123, r124, w124, r125, w125, r126, w126, r127, w127, r128, w128, r129, w129, r130, w130, r131, w131, r132, w132, r133, w133, r134, w134, r135, w135, r136, w136, r137, w137, l1, l2, l3, l5, l6, l7, l8, l10, l11, l12, l31, l36, l63, l100, l1000, l1440, l1000000, l16777216, cX8_isPlace_2, fX8_digit, h10, n_dig, a1.1]
theorem or_add8 {a b k : Nat} (h : a < 8 ^ k) : a ||| b * 8 ^ k = a + b * 8 ^ k := by
  have := Nat.two_pow_add_eq_or_of_lt (i := 3 * k) (b := a) (by rw [p8]; exact h) b
  rw [p8, Nat.mul_comm] at this
  rw [Nat.or_comm, ← this, Nat.add_comm]
theorem findRows_end {N c : Nat} {ns : Nat → Nat} {st : Nat → Nat → Nat} {R : qR} {I : qI} (hN : 300000 ≤ N) (hL : LR R) (hT : RT c ns st I) : qloop (fun s => cX8_findRows_4 N R I 111 s.1 s.2) N (nI 0, nI 0) = some (nI (enc ns c)) := by
  obtain ⟨h10, hc6, hns, hst⟩ := hT
  refine qfor (fun k => (nI (enc ns k), nI k)) (nI (enc ns c)) c (by omega) (fun k hk => ?_) ?_
  · have a1 := hns k hk
    have e := enc_lt (f := ns) k (fun j hj => by have := (hns j (by omega)).2; omega)
    simp (disch := first | assumption | omega) only [obs, qle, ↓lm1, l0, qn_add, pk_mul, n_le, n_lt, n_eq, n_sM, n_Ms, n_Mlt, n_Mle, n_ltM, n_leM, ↓reduceIte, eq_self, if_pos, if_neg, qx, p111_3, p111_4, p111_5, p111_6, p111_7, p111_8, p111_11, p111_12, p111_13, p111_14, p111_15, p111_16, p111_17, p111_18, p111_19, p111_21, p111_22, p111_23, p111_24, p111_27, p111_28, p111_29, p111_30, p111_31, p111_32, p111_34, r112, w112, r113, w113, r114, w114, r115, w115, r116, w116, r117, w117, r118, w118, r119, w119, r120, w120, r121, w121, r122, w122, r123, w123, r124, w124, r125, w125, r126, w126, r127, w127, r128, w128, r129, w129, r130, w130, r131, w131, r132, w132, r133, w133, r134, w134, r135, w135, r136, w136, r137, w137, l1, l2, l3, l5, l6, l7, l8, l10, l11, l12, l31, l36, l63, l100, l1000, l1440, l1000000, l16777216, cX8_findRows_4, h10, a1.1, n_sh8, fa_or, or_add8 e, enc]
  · simp (disch := first | assumption | omega) only [obs, qle, ↓lm1, l0, qn_add, pk_mul, n_le, n_lt, n_eq, n_sM, n_Ms, n_Mlt, n_Mle, n_ltM, n_leM, ↓reduceIte, eq_self, if_pos, if_neg, qx, p111_3, p111_4, p111_5, p111_6, p111_7, p111_8, p111_11, p111_12, p111_13, p111_14, p111_15, p111_16, p111_17, p111_18, p111_19, p111_21, p111_22, p111_23, p111_24, p111_27, p111_28, p111_29, p111_30, p111_31, p111_32, p111_34, r112, w112, r113, w113, r114, w114, r115, w115, r116, w116, r117, w117, r118, w118, r119, w119, r120, w120, r121, w121, r122, w122, r123, w123, r124, w124, r125, w125, r126, w126, r127, w127, r128, w128, r129, w129, r130, w130, r131, w131, r132, w132, r133, w133, r134, w134, r135, w135, r136, w136, r137, w137, l1, l2, l3, l5, l6, l7, l8, l10, l11, l12, l31, l36, l63, l100, l1000, l1440, l1000000, l16777216, cX8_findRows_4, h10]
/-- the least of what lies ahead -/
def lst (c : Nat) (ns : Nat → Nat) (st : Nat → Nat → Nat) (F : Nat → Nat) (code : Nat) : Nat → Nat
  | 0 => 1000
  | s + 1 => if bh ns st code s c ≠ code ∧ F (bh ns st code s c) + 1 < lst c ns st F code s then F (bh ns st code s c) + 1 else lst c ns st F code s
theorem lst_le {c : Nat} {ns : Nat → Nat} {st : Nat → Nat → Nat} {F : Nat → Nat} {code : Nat} : ∀ n, lst c ns st F code n ≤ 1000 ∧ (∀ s, s < n → bh ns st code s c ≠ code → lst c ns st F code n ≤ F (bh ns st code s c) + 1) ∧ (lst c ns st F code n = 1000 ∨ ∃ s, s < n ∧ bh ns st code s c ≠ code ∧ lst c ns st F code n = F (bh ns st code s c) + 1) := by
  intro n
  induction n with
  | zero => exact ⟨Nat.le_refl _, fun s hs => by omega, Or.inl rfl⟩
  | succ n ih =>
    obtain ⟨h1, h2, h3⟩ := ih
    rw [lst]
    split
    next q =>
      refine ⟨by omega, fun s hs hb => ?_, Or.inr ⟨n, by omega, q.1, rfl⟩⟩
      by_cases e : s = n
      · subst e; exact Nat.le_refl _
      · have := h2 s (by omega) hb
        omega
    next q =>
      refine ⟨h1, fun s hs hb => ?_, ?_⟩
      · by_cases e : s = n
        · subst e
          exact Classical.byContradiction (fun q2 => q ⟨hb, by omega⟩)
        · exact h2 s (by omega) hb
      · rcases h3 with h3 | ⟨s, a1, a2, a3⟩
        · exact Or.inl h3
        · exact Or.inr ⟨s, by omega, a2, a3⟩
theorem findRows_least {N c code : Nat} {ns : Nat → Nat} {st : Nat → Nat → Nat} {F : Nat → Nat} {R : qR} {I : qI} (hN : 300000 ≤ N) (hL : LR R) (hT : RT c ns st I) (w : wf c ns st) (hp : pl c ns code) (hne : code ≠ enc ns c) (hF : ∀ to, code < to → pl c ns to → I 127 to = nI (F to) ∧ F to ≤ 42) : qloop (fun s => cX8_findRows_64 N R I 111 (nI (enc ns c)) (nI code) s.1 s.2) N (nI 1000, nI 0) = some (nI (lst c ns st F code 12)) := by
  have b8 := p8c w.1
  have hc : code < 262144 := by have := hp.1; omega
  have he : enc ns c < 262144 := by have := en_lt c ns st w; omega
  refine qfor (fun s => (nI (lst c ns st F code s), nI s)) (nI (lst c ns st F code 12)) 12 (by omega) (fun s hs => ?_) ?_
  · have eb := behind_eq (N := N) hN hL hT hc hs
    have q1 := bh_ge c ns st code s
    have q2 := bh_lt c ns st s w hp.1
    have q3 := (lst_le (c := c) (ns := ns) (st := st) (F := F) (code := code) s).1
    rw [lst]
    by_cases h1 : bh ns st code s c = code
    · rw [if_neg (fun q => q.1 h1)]
      simp (disch := first | assumption | omega) only [obs, qle, ↓lm1, l0, qn_add, pk_mul, n_le, n_lt, n_eq, n_sM, n_Ms, n_Mlt, n_Mle, n_ltM, n_leM, ↓reduceIte, eq_self, if_pos, if_neg, qx, p111_3, p111_4, p111_5, p111_6, p111_7, p111_8, p111_11, p111_12, p111_13, p111_14, p111_15, p111_16, p111_17, p111_18, p111_19, p111_21, p111_22, p111_23, p111_24, p111_27, p111_28, p111_29, p111_30, p111_31, p111_32, p111_34, r112, w112, r113, w113, r114, w114, r115, w115, r116, w116, r117, w117, r118, w118, r119, w119, r120, w120, r121, w121, r122, w122, r123, w123, r124, w124, r125, w125, r126, w126, r127, w127, r128, w128, r129, w129, r130, w130, r131, w131, r132, w132, r133, w133, r134, w134, r135, w135, r136, w136, r137, w137, l1, l2, l3, l5, l6, l7, l8, l10, l11, l12, l31, l36, l63, l100, l1000, l1440, l1000000, l16777216, cX8_findRows_64, eb]
    · have f1 := hF _ (by omega) (pl_bh c ns st s w hp)
      have f2 := f1.2
      by_cases h2 : F (bh ns st code s c) + 1 < lst c ns st F code s
      · rw [if_pos ⟨h1, h2⟩]
        simp (disch := first | assumption | omega) only [obs, qle, ↓lm1, l0, qn_add, pk_mul, n_le, n_lt, n_eq, n_sM, n_Ms, n_Mlt, n_Mle, n_ltM, n_leM, ↓reduceIte, eq_self, if_pos, if_neg, qx, p111_3, p111_4, p111_5, p111_6, p111_7, p111_8, p111_11, p111_12, p111_13, p111_14, p111_15, p111_16, p111_17, p111_18, p111_19, p111_21, p111_22, p111_23, p111_24, p111_27, p111_28, p111_29, p111_30, p111_31, p111_32, p111_34, r112, w112, r113, w113, r114, w114, r115, w115, r116, w116, r117, w117, r118, w118, r119, w119, r120, w120, r121, w121, r122, w122, r123, w123, r124, w124, r125, w125, r126, w126, r127, w127, r128, w128, r129, w129, r130, w130, r131, w131, r132, w132, r133, w133, r134, w134, r135, w135, r136, w136, r137, w137, l1, l2, l3, l5, l6, l7, l8, l10, l11, l12, l31, l36, l63, l100, l1000, l1440, l1000000, l16777216, cX8_findRows_64, eb, f1.1]
      · rw [if_neg (fun q => h2 q.2)]
        simp (disch := first | assumption | omega) only [obs, qle, ↓lm1, l0, qn_add, pk_mul, n_le, n_lt, n_eq, n_sM, n_Ms, n_Mlt, n_Mle, n_ltM, n_leM, ↓reduceIte, eq_self, if_pos, if_neg, qx, p111_3, p111_4, p111_5, p111_6, p111_7, p111_8, p111_11, p111_12, p111_13, p111_14, p111_15, p111_16, p111_17, p111_18, p111_19, p111_21, p111_22, p111_23, p111_24, p111_27, p111_28, p111_29, p111_30, p111_31, p111_32, p111_34, r112, w112, r113, w113, r114, w114, r115, w115, r116, w116, r117, w117, r118, w118, r119, w119, r120, w120, r121, w121, r122, w122, r123, w123, r124, w124, r125, w125, r126, w126, r127, w127, r128, w128, r129, w129, r130, w130, r131, w131, r132, w132, r133, w133, r134, w134, r135, w135, r136, w136, r137, w137, l1, l2, l3, l5, l6, l7, l8, l10, l11, l12, l31, l36, l63, l100, l1000, l1440, l1000000, l16777216, cX8_findRows_64, eb, f1.1]
  · simp (disch := first | assumption | omega) only [obs, qle, ↓lm1, l0, qn_add, pk_mul, n_le, n_lt, n_eq, n_sM, n_Ms, n_Mlt, n_Mle, n_ltM, n_leM, ↓reduceIte, eq_self, if_pos, if_neg, qx, p111_3, p111_4, p111_5, p111_6, p111_7, p111_8, p111_11, p111_12, p111_13, p111_14, p111_15, p111_16, p111_17, p111_18, p111_19, p111_21, p111_22, p111_23, p111_24, p111_27, p111_28, p111_29, p111_30, p111_31, p111_32, p111_34, r112, w112, r113, w113, r114, w114, r115, w115, r116, w116, r117, w117, r118, w118, r119, w119, r120, w120, r121, w121, r122, w122, r123, w123, r124, w124, r125, w125, r126, w126, r127, w127, r128, w128, r129, w129, r130, w130, r131, w131, r132, w132, r133, w133, r134, w134, r135, w135, r136, w136, r137, w137, l1, l2, l3, l5, l6, l7, l8, l10, l11, l12, l31, l36, l63, l100, l1000, l1440, l1000000, l16777216, cX8_findRows_64]
theorem RT.congr {c : Nat} {ns : Nat → Nat} {st : Nat → Nat → Nat} {I J : qI} (h : RT c ns st I) (e1 : J 111 10 = I 111 10) (e2 : J 120 = I 120) (e3 : J 121 = I 121) : RT c ns st J := by
  unfold RT
  rw [e1, e2, e3]
  exact h
theorem findRows_far {N c : Nat} {ns : Nat → Nat} {st : Nat → Nat → Nat} {R : qR} {I : qI} (hN : 300000 ≤ N) (hL : LR R) (hT : RT c ns st I) (w : wf c ns st) : ok (qloop (fun s => cX8_findRows_33 N R 111 (nI (enc ns c)) s.1 s.2) N (nI (enc ns c), I)) (fun J => (∀ a, a ≠ 127 → J a = I a) ∧ ∀ code, pl c ns code → ∃ d, isD c ns st code d ∧ J 127 code = nI d) := by
  have b8 := p8c w.1
  have hel := en_lt c ns st w
  have he : enc ns c < 262144 := by omega
  refine ok_for (fun k s => ∃ m J, m + k = enc ns c + 1 ∧ s = (nP m, J) ∧ (∀ a, a ≠ 127 → J a = I a) ∧ ∀ code, m ≤ code → pl c ns code → ∃ d, isD c ns st code d ∧ J 127 code = nI d) (enc ns c + 1) (by omega) ⟨enc ns c + 1, I, by omega, rfl, fun _ _ => rfl, fun code h1 h2 => ?_⟩ (fun k s hk hs => ?_) (fun s hs => ?_)
  · have := pl_le c ns h2
    omega
  · obtain ⟨m, J, hm, rfl, hfr, hfar⟩ := hs
    obtain ⟨code, rfl⟩ : ∃ code, m = code + 1 := ⟨m - 1, by omega⟩
    have hTJ : RT c ns st J := hT.congr (by rw [hfr _ (by omega)]) (hfr _ (by omega)) (hfr _ (by omega))
    have hc : code < 262144 := by omega
    by_cases hp : ∀ k, k < c → dg code k ≤ ns k
    · have hpl : pl c ns code := ⟨by omega, hp⟩
      have ip := isPlace_t (N := N) hN hL hTJ hc hp
      by_cases hce : code = enc ns c
      · have e64 : qloop (fun s => cX8_findRows_64 N R J 111 (nI (enc ns c)) (nI code) s.1 s.2) N (nI 0, nI 0) = some (nI 0) := qfor (fun k => (nI 0, nI 0)) (nI 0) 0 (by omega) (fun k hk => by omega) (by simp (disch := first | assumption | omega) only [obs, qle, ↓lm1, l0, qn_add, pk_mul, n_le, n_lt, n_eq, n_sM, n_Ms, n_Mlt, n_Mle, n_ltM, n_leM, ↓reduceIte, eq_self, if_pos, if_neg, qx, p111_3, p111_4, p111_5, p111_6, p111_7, p111_8, p111_11, p111_12, p111_13, p111_14, p111_15, p111_16, p111_17, p111_18, p111_19, p111_21, p111_22, p111_23, p111_24, p111_27, p111_28, p111_29, p111_30, p111_31, p111_32, p111_34, r112, w112, r113, w113, r114, w114, r115, w115, r116, w116, r117, w117, r118, w118, r119, w119, r120, w120, r121, w121, r122, w122, r123, w123, r124, w124, r125, w125, r126, w126, r127, w127, r128, w128, r129, w129, r130, w130, r131, w131, r132, w132, r133, w133, r134, w134, r135, w135, r136, w136, r137, w137, l1, l2, l3, l5, l6, l7, l8, l10, l11, l12, l31, l36, l63, l100, l1000, l1440, l1000000, l16777216, cX8_findRows_64, hce])
        refine ⟨.inl (nP code, qup J 127 code (nI 0)), ?_, code, _, by omega, rfl, fun a ha => ?_, fun x hx hpx => ?_⟩
        · show cX8_findRows_33 N R 111 (nI (enc ns c)) (nI code) J = _
          unfold cX8_findRows_33
          simp (disch := first | assumption | omega) only [obs, qle, ↓lm1, l0, qn_add, pk_mul, n_le, n_lt, n_eq, n_sM, n_Ms, n_Mlt, n_Mle, n_ltM, n_leM, ↓reduceIte, eq_self, if_pos, if_neg, qx, p111_3, p111_4, p111_5, p111_6, p111_7, p111_8, p111_11, p111_12, p111_13, p111_14, p111_15, p111_16, p111_17, p111_18, p111_19, p111_21, p111_22, p111_23, p111_24, p111_27, p111_28, p111_29, p111_30, p111_31, p111_32, p111_34, r112, w112, r113, w113, r114, w114, r115, w115, r116, w116, r117, w117, r118, w118, r119, w119, r120, w120, r121, w121, r122, w122, r123, w123, r124, w124, r125, w125, r126, w126, r127, w127, r128, w128, r129, w129, r130, w130, r131, w131, r132, w132, r133, w133, r134, w134, r135, w135, r136, w136, r137, w137, l1, l2, l3, l5, l6, l7, l8, l10, l11, l12, l31, l36, l63, l100, l1000, l1440, l1000000, l16777216, ip, e64, nP_dec]
        · rw [qup_ne _ _ _ ha]; exact hfr a ha
        · by_cases hxc : x = code
          · subst hxc
            rw [hce]
            exact ⟨0, isD_end c ns st, by rw [← hce]; exact qup_on⟩
          · rw [qup_off (by omega)]
            exact hfar x (by omega) hpx
      · -- F from the far cells
        have hF : ∃ F : Nat → Nat, ∀ to, code < to → pl c ns to → (J 127 to = nI (F to) ∧ F to ≤ 42) ∧ isD c ns st to (F to) := by
          refine ⟨fun to => (J 127 to).toInt.toNat, fun to h1 h2 => ?_⟩
          obtain ⟨d, h3, h4⟩ := hfar to (by omega) h2
          have h5 := isD_42 c ns st w h2 h3
          have e : (J 127 to).toInt.toNat = d := by rw [h4, tI_nI (by omega)]; rfl
          show (J 127 to = nI (J 127 to).toInt.toNat ∧ (J 127 to).toInt.toNat ≤ 42) ∧ isD c ns st to (J 127 to).toInt.toNat
          rw [e]
          exact ⟨⟨h4, h5⟩, h3⟩
        obtain ⟨F, hF⟩ := hF
        have e64 := findRows_least (N := N) hN hL hTJ w hpl hce (F := F) (fun to h1 h2 => (hF to h1 h2).1)
        have hl := lst_le (c := c) (ns := ns) (st := st) (F := F) (code := code) 12
        have hgt : ∀ s, bh ns st code s c ≠ code → code < bh ns st code s c := fun s hs => by have := bh_ge c ns st code s; omega
        have hD : isD c ns st code (lst c ns st F code 12) := by
          refine isD_rec c ns st F hce (fun s hs hb => (hF _ (hgt s hb) (pl_bh c ns st s w hpl)).2) ?_ hl.2.1
          rcases hl.2.2 with h | h
          · exfalso
            obtain ⟨s, hs, hb⟩ := pl_step c ns st w hpl hce
            have h1 := hl.2.1 s hs hb
            have h2 := (hF _ (hgt s hb) (pl_bh c ns st s w hpl)).1.2
            omega
          · exact h
        refine ⟨.inl (nP code, qup J 127 code (nI (lst c ns st F code 12))), ?_, code, _, by omega, rfl, fun a ha => ?_, fun x hx hpx => ?_⟩
        · show cX8_findRows_33 N R 111 (nI (enc ns c)) (nI code) J = _
          unfold cX8_findRows_33
          simp (disch := first | assumption | omega) only [obs, qle, ↓lm1, l0, qn_add, pk_mul, n_le, n_lt, n_eq, n_sM, n_Ms, n_Mlt, n_Mle, n_ltM, n_leM, ↓reduceIte, eq_self, if_pos, if_neg, qx, p111_3, p111_4, p111_5, p111_6, p111_7, p111_8, p111_11, p111_12, p111_13, p111_14, p111_15, p111_16, p111_17, p111_18, p111_19, p111_21, p111_22, p111_23, p111_24, p111_27, p111_28, p111_29, p111_30, p111_31, p111_32, p111_34, r112, w112, r113, w113, r114, w114, r115, w115, r116, w116, r117, w117, r118, w118, r119, w119, r120, w120, r121, w121, r122, w122, r123, w123, r124, w124, r125, w125, r126, w126, r127, w127, r128, w128, r129, w129, r130, w130, r131, w131, r132, w132, r133, w133, r134, w134, r135, w135, r136, w136, r137, w137, l1, l2, l3, l5, l6, l7, l8, l10, l11, l12, l31, l36, l63, l100, l1000, l1440, l1000000, l16777216, ip, e64, nP_dec]
        · rw [qup_ne _ _ _ ha]; exact hfr a ha
        · by_cases hxc : x = code
          · subst hxc
            exact ⟨_, hD, qup_on⟩
          · rw [qup_off (by omega)]
            exact hfar x (by omega) hpx
    · have ip := isPlace_f (N := N) hN hL hTJ hc hp
      refine ⟨.inl (nP code, J), ?_, code, J, by omega, rfl, hfr, fun x hx hpx => ?_⟩
      · show cX8_findRows_33 N R 111 (nI (enc ns c)) (nI code) J = _
        unfold cX8_findRows_33
        simp (disch := first | assumption | omega) only [obs, qle, ↓lm1, l0, qn_add, pk_mul, n_le, n_lt, n_eq, n_sM, n_Ms, n_Mlt, n_Mle, n_ltM, n_leM, ↓reduceIte, eq_self, if_pos, if_neg, qx, p111_3, p111_4, p111_5, p111_6, p111_7, p111_8, p111_11, p111_12, p111_13, p111_14, p111_15, p111_16, p111_17, p111_18, p111_19, p111_21, p111_22, p111_23, p111_24, p111_27, p111_28, p111_29, p111_30, p111_31, p111_32, p111_34, r112, w112, r113, w113, r114, w114, r115, w115, r116, w116, r117, w117, r118, w118, r119, w119, r120, w120, r121, w121, r122, w122, r123, w123, r124, w124, r125, w125, r126, w126, r127, w127, r128, w128, r129, w129, r130, w130, r131, w131, r132, w132, r133, w133, r134, w134, r135, w135, r136, w136, r137, w137, l1, l2, l3, l5, l6, l7, l8, l10, l11, l12, l31, l36, l63, l100, l1000, l1440, l1000000, l16777216, ip, nP_dec]
      · by_cases hxc : x = code
        · subst hxc
          exact absurd hpx.2 hp
        · exact hfar x (by omega) hpx
  · obtain ⟨m, J, hm, rfl, hfr, hfar⟩ := hs
    obtain rfl : m = 0 := by omega
    refine ⟨.inr J, ?_, hfr, fun code hpl => hfar code (by omega) hpl⟩
    show cX8_findRows_33 N R 111 (nI (enc ns c)) nM J = _
    unfold cX8_findRows_33
    simp (disch := first | assumption | omega) only [obs, qle, ↓lm1, l0, qn_add, pk_mul, n_le, n_lt, n_eq, n_sM, n_Ms, n_Mlt, n_Mle, n_ltM, n_leM, ↓reduceIte, eq_self, if_pos, if_neg, qx, p111_3, p111_4, p111_5, p111_6, p111_7, p111_8, p111_11, p111_12, p111_13, p111_14, p111_15, p111_16, p111_17, p111_18, p111_19, p111_21, p111_22, p111_23, p111_24, p111_27, p111_28, p111_29, p111_30, p111_31, p111_32, p111_34, r112, w112, r113, w113, r114, w114, r115, w115, r116, w116, r117, w117, r118, w118, r119, w119, r120, w120, r121, w121, r122, w122, r123, w123, r124, w124, r125, w125, r126, w126, r127, w127, r128, w128, r129, w129, r130, w130, r131, w131, r132, w132, r133, w133, r134, w134, r135, w135, r136, w136, r137, w137, l1, l2, l3, l5, l6, l7, l8, l10, l11, l12, l31, l36, l63, l100, l1000, l1440, l1000000, l16777216]
/-- the codes along a row of stations -/
def cd (c : Nat) (ns : Nat → Nat) (st : Nat → Nat → Nat) (p : Nat → Nat) : Nat → Nat
  | 0 => 0
  | i + 1 => bh ns st (cd c ns st p i) (p i) c
theorem dg_0 (k : Nat) : dg 0 k = 0 := by unfold dg; simp
theorem pl_0 (c : Nat) (ns : Nat → Nat) : pl c ns 0 := ⟨Nat.pow_pos (by omega), fun k hk => by rw [dg_0]; exact Nat.zero_le _⟩
theorem cd_ok {c : Nat} {ns : Nat → Nat} {st : Nat → Nat → Nat} {p : Nat → Nat} {d : Nat} (w : wf c ns st) (hd : isD c ns st 0 d) (hp : pw c ns st p 0 d 0) : ∀ i, i ≤ d → pl c ns (cd c ns st p i) ∧ isD c ns st (cd c ns st p i) (d - i) ∧ pw c ns st p i (d - i) (cd c ns st p i) := by
  intro i
  induction i with
  | zero => intro _; exact ⟨pl_0 c ns, hd, hp⟩
  | succ i ih =>
    intro hi
    obtain ⟨h1, h2, h3⟩ := ih (by omega)
    obtain ⟨n, hn⟩ : ∃ n, d - i = n + 1 := ⟨d - i - 1, by omega⟩
    have hn2 : d - (i + 1) = n := by omega
    rw [hn] at h2 h3
    rw [hn2]
    have hne : cd c ns st p i ≠ enc ns c := fun e => by have := h2.2 0 e; omega
    rcases h3 with h | ⟨a1, a2, a3, a4, a5⟩
    · exact absurd h hne
    · exact ⟨pl_bh c ns st _ w h1, isD_step c ns st w h1 h2 a1 a2 a3, a5⟩
theorem cd_step {c : Nat} {ns : Nat → Nat} {st : Nat → Nat → Nat} {p : Nat → Nat} {d : Nat} (w : wf c ns st) (hd : isD c ns st 0 d) (hp : pw c ns st p 0 d 0) {i : Nat} (hi : i < d) : p i < 12 ∧ bh ns st (cd c ns st p i) (p i) c ≠ cd c ns st p i ∧ rch c ns st (d - i - 1) (bh ns st (cd c ns st p i) (p i) c) ∧ (∀ s, s < p i → bh ns st (cd c ns st p i) s c ≠ cd c ns st p i → ¬ rch c ns st (d - i - 1) (bh ns st (cd c ns st p i) s c)) := by
  obtain ⟨h1, h2, h3⟩ := cd_ok w hd hp i (by omega)
  obtain ⟨n, hn⟩ : ∃ n, d - i = n + 1 := ⟨d - i - 1, by omega⟩
  rw [hn] at h2 h3 ⊢
  have hne : cd c ns st p i ≠ enc ns c := fun e => by have := h2.2 0 e; omega
  rcases h3 with h | ⟨a1, a2, a3, a4, a5⟩
  · exact absurd h hne
  · exact ⟨a1, a2, a3, a4⟩
theorem cd_end {c : Nat} {ns : Nat → Nat} {st : Nat → Nat → Nat} {p : Nat → Nat} {d : Nat} (w : wf c ns st) (hd : isD c ns st 0 d) (hp : pw c ns st p 0 d 0) : cd c ns st p d = enc ns c := by
  obtain ⟨h1, h2, h3⟩ := cd_ok w hd hp d (by omega)
  rw [show d - d = 0 by omega] at h3
  exact h3
theorem cd_mono {c : Nat} {ns : Nat → Nat} {st : Nat → Nat → Nat} {p : Nat → Nat} {d : Nat} (w : wf c ns st) (hd : isD c ns st 0 d) (hp : pw c ns st p 0 d 0) {k : Nat} (hk : k < c) : ∀ j i, i + j ≤ d → dg (cd c ns st p i) k ≤ dg (cd c ns st p (i + j)) k := by
  intro j
  induction j with
  | zero => intro i _; exact Nat.le_refl _
  | succ j ih =>
    intro i hi
    have h1 := ih i (by omega)
    have h2 := (cd_ok w hd hp (i + j) (by omega)).1
    have h3 := dg_bh c ns st (p (i + j)) w h2.1 k hk
    show _ ≤ dg (bh ns st (cd c ns st p (i + j)) (p (i + j)) c) k
    omega
theorem adv_1 {ns : Nat → Nat} {st : Nat → Nat → Nat} {code s k : Nat} (h : adv ns st code s k = 1) : dg code k < ns k ∧ st k (dg code k) = s := by
  unfold adv at h
  split at h
  next q => exact q
  next => omega
theorem findRows_own {N c code s r : Nat} {ns : Nat → Nat} {st : Nat → Nat → Nat} {R : qR} {I : qI} (hN : 300000 ≤ N) (hL : LR R) (hT : RT c ns st I) (w : wf c ns st) (hp : pl c ns code) (hs : s < 12) (hr : I 111 9 = nI r) : ok (qloop (fun q => cX8_findRows_199 N R 111 (nI (enc ns c)) (nI code) (nI s) q.1 q.2) N (nI 0, I)) (fun J => (∀ a, a ≠ 124 → J a = I a) ∧ (∀ k, k < c → adv ns st code s k = 1 → J 124 (7 * k + dg code k) = nI r) ∧ ∀ x, (∀ k, k < c → adv ns st code s k = 1 → x ≠ 7 * k + dg code k) → J 124 x = I 124 x) := by
  have b8 := p8c w.1
  have hc : code < 262144 := by have := hp.1; omega
  have hc6 := w.1
  refine ok_for (fun j q => ∃ J, q = (nI j, J) ∧ (∀ a, a ≠ 124 → J a = I a) ∧ (∀ k, k < j → adv ns st code s k = 1 → J 124 (7 * k + dg code k) = nI r) ∧ ∀ x, (∀ k, k < j → adv ns st code s k = 1 → x ≠ 7 * k + dg code k) → J 124 x = I 124 x) c (by omega) ⟨I, rfl, fun _ _ => rfl, fun k hk => by omega, fun _ _ => rfl⟩ (fun j q hj hq => ?_) (fun q hq => ?_)
  · obtain ⟨J, rfl, hfr, h1, h2⟩ := hq
    have hTJ : RT c ns st J := hT.congr (by rw [hfr _ (by omega)]) (hfr _ (by omega)) (hfr _ (by omega))
    have eb := behind_eq (N := N) hN hL hTJ hc hs
    have q2 := bh_lt c ns st s w hp.1
    have h10 := hTJ.1
    have hdg := dg_bh c ns st s w hp.1 j hj
    have hr9 : J 111 9 = nI r := by rw [hfr 111 (by omega)]; exact hr
    have hd8 := dg_lt code j
    have hd9 := dg_lt (bh ns st code s c) j
    have hal := adv_le ns st code s j
    by_cases ha : adv ns st code s j = 1
    · have hd7 := (adv_1 ha).1
      have hn7 := w.2.1 j hj
      refine ⟨.inl (nI (j + 1), qup J 124 (7 * j + dg code j) (nI r)), ?_, _, rfl, fun a ha => ?_, fun k hk hak => ?_, fun x hx => ?_⟩
      · show cX8_findRows_199 N R 111 (nI (enc ns c)) (nI code) (nI s) (nI j) J = _
        unfold cX8_findRows_199
        simp (disch := first | assumption | omega) only [obs, qle, ↓lm1, l0, qn_add, pk_mul, n_le, n_lt, n_eq, n_sM, n_Ms, n_Mlt, n_Mle, n_ltM, n_leM, ↓reduceIte, eq_self, if_pos, if_neg, qx, p111_3, p111_4, p111_5, p111_6, p111_7, p111_8, p111_11, p111_12, p111_13, p111_14, p111_15, p111_16, p111_17, p111_18, p111_19, p111_21, p111_22, p111_23, p111_24, p111_27, p111_28, p111_29, p111_30, p111_31, p111_32, p111_34, r112, w112, r113, w113, r114, w114, r115, w115, r116, w116, r117, w117, r118, w118, r119, w119, r120, w120, r121, w121, r122, w122, r123, w123, r124, w124, r125, w125, r126, w126, r127, w127, r128, w128, r129, w129, r130, w130, r131, w131, r132, w132, r133, w133, r134, w134, r135, w135, r136, w136, r137, w137, l1, l2, l3, l5, l6, l7, l8, l10, l11, l12, l31, l36, l63, l100, l1000, l1440, l1000000, l16777216, fX8_digit, h10, eb, n_dig, hr9]
      · rw [qup_ne _ _ _ ha]; exact hfr a ha
      · by_cases hkj : k = j
        · subst hkj; exact qup_on
        · have hk7 := (adv_1 hak).1
          have hk8 := w.2.1 k (by omega)
          rw [qup_off (by omega)]
          exact h1 k (by omega) hak
      · rw [qup_off (Or.inr (hx j (by omega) ha))]
        exact h2 x (fun k hk hak => hx k (by omega) hak)
    · refine ⟨.inl (nI (j + 1), J), ?_, _, rfl, hfr, fun k hk hak => ?_, fun x hx => h2 x (fun k hk hak => hx k (by omega) hak)⟩
      · show cX8_findRows_199 N R 111 (nI (enc ns c)) (nI code) (nI s) (nI j) J = _
        unfold cX8_findRows_199
        simp (disch := first | assumption | omega) only [obs, qle, ↓lm1, l0, qn_add, pk_mul, n_le, n_lt, n_eq, n_sM, n_Ms, n_Mlt, n_Mle, n_ltM, n_leM, ↓reduceIte, eq_self, if_pos, if_neg, qx, p111_3, p111_4, p111_5, p111_6, p111_7, p111_8, p111_11, p111_12, p111_13, p111_14, p111_15, p111_16, p111_17, p111_18, p111_19, p111_21, p111_22, p111_23, p111_24, p111_27, p111_28, p111_29, p111_30, p111_31, p111_32, p111_34, r112, w112, r113, w113, r114, w114, r115, w115, r116, w116, r117, w117, r118, w118, r119, w119, r120, w120, r121, w121, r122, w122, r123, w123, r124, w124, r125, w125, r126, w126, r127, w127, r128, w128, r129, w129, r130, w130, r131, w131, r132, w132, r133, w133, r134, w134, r135, w135, r136, w136, r137, w137, l1, l2, l3, l5, l6, l7, l8, l10, l11, l12, l31, l36, l63, l100, l1000, l1440, l1000000, l16777216, fX8_digit, h10, eb, n_dig]
      · by_cases hkj : k = j
        · subst hkj; exact absurd hak ha
        · exact h1 k (by omega) hak
  · obtain ⟨J, rfl, hfr, h1, h2⟩ := hq
    have h10 : J 111 10 = nI c := by rw [hfr 111 (by omega)]; exact hT.1
    refine ⟨.inr J, ?_, hfr, h1, h2⟩
    show cX8_findRows_199 N R 111 (nI (enc ns c)) (nI code) (nI s) (nI c) J = _
    unfold cX8_findRows_199
    simp (disch := first | assumption | omega) only [obs, qle, ↓lm1, l0, qn_add, pk_mul, n_le, n_lt, n_eq, n_sM, n_Ms, n_Mlt, n_Mle, n_ltM, n_leM, ↓reduceIte, eq_self, if_pos, if_neg, qx, p111_3, p111_4, p111_5, p111_6, p111_7, p111_8, p111_11, p111_12, p111_13, p111_14, p111_15, p111_16, p111_17, p111_18, p111_19, p111_21, p111_22, p111_23, p111_24, p111_27, p111_28, p111_29, p111_30, p111_31, p111_32, p111_34, r112, w112, r113, w113, r114, w114, r115, w115, r116, w116, r117, w117, r118, w118, r119, w119, r120, w120, r121, w121, r122, w122, r123, w123, r124, w124, r125, w125, r126, w126, r127, w127, r128, w128, r129, w129, r130, w130, r131, w131, r132, w132, r133, w133, r134, w134, r135, w135, r136, w136, r137, w137, l1, l2, l3, l5, l6, l7, l8, l10, l11, l12, l31, l36, l63, l100, l1000, l1440, l1000000, l16777216, h10]
theorem findRows_ok {N c d : Nat} {ns : Nat → Nat} {st : Nat → Nat → Nat} {p : Nat → Nat} {R : qR} {I : qI} (hN : 300000 ≤ N) (hL : LR R) (hT : RT c ns st I) (w : wf c ns st) (hd : isD c ns st 0 d) (hp : pw c ns st p 0 d 0) : ok (fX8_findRows N R I 111) (fun J => (∀ a, a ≠ 127 → a ≠ 118 → a ≠ 124 → a ≠ 111 → J a = I a) ∧ (∀ j, j ≠ 9 → J 111 j = I 111 j) ∧ J 111 9 = nI d ∧ (∀ i, i < d → J 118 i = nI (p i)) ∧ ∀ i, i < d → ∀ m, m < c → adv ns st (cd c ns st p i) (p i) m = 1 → J 124 (7 * m + dg (cd c ns st p i) m) = nI i) := by
  have b8 := p8c w.1
  have hel := en_lt c ns st w
  have h42 := isD_42 c ns st w (pl_0 c ns) hd
  have hc6 := w.1
  unfold fX8_findRows
  refine ok_bindv (findRows_end hN hL hT) (ok_bind (ok_mono (findRows_far hN hL hT w) (fun J0 hJ0 => ?_)))
  obtain ⟨f1, f2⟩ := hJ0
  refine ok_let (ok_bind (ok_mono (P := fun J => (∀ a, a ≠ 127 → a ≠ 118 → a ≠ 124 → a ≠ 111 → J a = I a) ∧ (∀ j, j ≠ 9 → J 111 j = I 111 j) ∧ J 111 9 = nI d ∧ (∀ i, i < d → J 118 i = nI (p i)) ∧ ∀ i, i < d → ∀ m, m < c → adv ns st (cd c ns st p i) (p i) m = 1 → J 124 (7 * m + dg (cd c ns st p i) m) = nI i) ?_ (fun J hJ => ok_some hJ)))
  refine ok_for (fun k q => ∃ J, q = (nI (cd c ns st p k), J) ∧ J 127 = J0 127 ∧ (∀ a, a ≠ 127 → a ≠ 118 → a ≠ 124 → a ≠ 111 → J a = I a) ∧ (∀ j, j ≠ 9 → J 111 j = I 111 j) ∧ J 111 9 = nI k ∧ (∀ i, i < k → J 118 i = nI (p i)) ∧ ∀ i, i < k → ∀ m, m < c → adv ns st (cd c ns st p i) (p i) m = 1 → J 124 (7 * m + dg (cd c ns st p i) m) = nI i) d (by omega) ⟨_, rfl, qup_ne _ _ _ (by omega), fun a h1 h2 h3 h4 => (qup_ne _ _ _ h4).trans (f1 a h1), fun j hj => (qup_off (by omega)).trans (by rw [f1 111 (by omega)]), qup_on, fun i hi => by omega, fun i hi => by omega⟩ (fun k q hk hq => ?_) (fun q hq => ?_)
  · obtain ⟨J, rfl, g0, g1, g2, g3, g4, g5⟩ := hq
    obtain ⟨hpl, hD, hpw⟩ := cd_ok w hd hp k (by omega)
    obtain ⟨s1, s2, s3, s4⟩ := cd_step w hd hp hk
    have hTJ : RT c ns st J := hT.congr (g2 _ (by omega)) (g1 _ (by omega) (by omega) (by omega) (by omega)) (g1 _ (by omega) (by omega) (by omega) (by omega))
    have hc : cd c ns st p k < 262144 := by have := hpl.1; omega
    have hne : cd c ns st p k ≠ enc ns c := fun e => by have := hD.2 0 e; omega
    obtain ⟨d0, i0, e0⟩ := f2 _ hpl
    have ed0 := isD_un c ns st hD i0
    subst ed0
    have e147 : qloop (fun s => cX8_findRows_147 N R J 111 (nI (enc ns c)) (nI (cd c ns st p k)) s) N (nI 0) = some (nI (p k)) := by
      refine qfor (fun s => nI s) (nI (p k)) (p k) (by omega) (fun s hs => ?_) ?_
      · have eb := behind_eq (N := N) hN hL hTJ hc (s := s) (by omega)
        have q2 := bh_lt c ns st s w hpl.1
        by_cases hb : bh ns st (cd c ns st p k) s c = cd c ns st p k
        · simp (disch := first | assumption | omega) only [obs, qle, ↓lm1, l0, qn_add, pk_mul, n_le, n_lt, n_eq, n_sM, n_Ms, n_Mlt, n_Mle, n_ltM, n_leM, ↓reduceIte, eq_self, if_pos, if_neg, qx, p111_3, p111_4, p111_5, p111_6, p111_7, p111_8, p111_11, p111_12, p111_13, p111_14, p111_15, p111_16, p111_17, p111_18, p111_19, p111_21, p111_22, p111_23, p111_24, p111_27, p111_28, p111_29, p111_30, p111_31, p111_32, p111_34, r112, w112, r113, w113, r114, w114, r115, w115, r116, w116, r117, w117, r118, w118, r119, w119, r120, w120, r121, w121, r122, w122, r123, w123, r124, w124, r125, w125, r126, w126, r127, w127, r128, w128, r129, w129, r130, w130, r131, w131, r132, w132, r133, w133, r134, w134, r135, w135, r136, w136, r137, w137, l1, l2, l3, l5, l6, l7, l8, l10, l11, l12, l31, l36, l63, l100, l1000, l1440, l1000000, l16777216, cX8_findRows_147, eb]
        · obtain ⟨d1, i1, e1⟩ := f2 _ (pl_bh c ns st s w hpl)
          have h43 := isD_42 c ns st w (pl_bh c ns st s w hpl) i1
          have hnr := s4 s hs hb
          rw [rch_iff c ns st i1] at hnr
          have hne2 : ¬ d1 + 1 = d - k := by omega
          simp (disch := first | assumption | omega) only [obs, qle, ↓lm1, l0, qn_add, pk_mul, n_le, n_lt, n_eq, n_sM, n_Ms, n_Mlt, n_Mle, n_ltM, n_leM, ↓reduceIte, eq_self, if_pos, if_neg, qx, p111_3, p111_4, p111_5, p111_6, p111_7, p111_8, p111_11, p111_12, p111_13, p111_14, p111_15, p111_16, p111_17, p111_18, p111_19, p111_21, p111_22, p111_23, p111_24, p111_27, p111_28, p111_29, p111_30, p111_31, p111_32, p111_34, r112, w112, r113, w113, r114, w114, r115, w115, r116, w116, r117, w117, r118, w118, r119, w119, r120, w120, r121, w121, r122, w122, r123, w123, r124, w124, r125, w125, r126, w126, r127, w127, r128, w128, r129, w129, r130, w130, r131, w131, r132, w132, r133, w133, r134, w134, r135, w135, r136, w136, r137, w137, l1, l2, l3, l5, l6, l7, l8, l10, l11, l12, l31, l36, l63, l100, l1000, l1440, l1000000, l16777216, cX8_findRows_147, eb, g0, e0, e1]
      · have eb := behind_eq (N := N) hN hL hTJ hc (s := p k) s1
        have q2 := bh_lt c ns st (p k) w hpl.1
        obtain ⟨d1, i1, e1⟩ := f2 _ (pl_bh c ns st (p k) w hpl)
        have h43 := isD_42 c ns st w (pl_bh c ns st (p k) w hpl) i1
        have h44 := (rch_iff c ns st i1).mp s3
        have h45 := hD.2 (d1 + 1) (Or.inr ⟨p k, s1, s2, i1.1⟩)
        have hne2 : d1 + 1 = d - k := by omega
        simp (disch := first | assumption | omega) only [obs, qle, ↓lm1, l0, qn_add, pk_mul, n_le, n_lt, n_eq, n_sM, n_Ms, n_Mlt, n_Mle, n_ltM, n_leM, ↓reduceIte, eq_self, if_pos, if_neg, qx, p111_3, p111_4, p111_5, p111_6, p111_7, p111_8, p111_11, p111_12, p111_13, p111_14, p111_15, p111_16, p111_17, p111_18, p111_19, p111_21, p111_22, p111_23, p111_24, p111_27, p111_28, p111_29, p111_30, p111_31, p111_32, p111_34, r112, w112, r113, w113, r114, w114, r115, w115, r116, w116, r117, w117, r118, w118, r119, w119, r120, w120, r121, w121, r122, w122, r123, w123, r124, w124, r125, w125, r126, w126, r127, w127, r128, w128, r129, w129, r130, w130, r131, w131, r132, w132, r133, w133, r134, w134, r135, w135, r136, w136, r137, w137, l1, l2, l3, l5, l6, l7, l8, l10, l11, l12, l31, l36, l63, l100, l1000, l1440, l1000000, l16777216, cX8_findRows_147, eb, g0, e0, e1]
    have hne9 : cd c ns st p k < 2147483648 := by omega
    show ok (cX8_findRows_140 N R 111 (nI (enc ns c)) (nI (cd c ns st p k)) J) _
    unfold cX8_findRows_140
    rw [if_neg (show ¬ nI (cd c ns st p k) = nI (enc ns c) by rw [n_eq (by omega) (by omega)]; exact hne)]
    refine ok_bindv e147 (ok_bindv (p111_11 hL) (ok_bindv (by rw [g3]; exact w118 hL (by omega)) ?_))
    have hTK : RT c ns st (qup J 118 k (nI (p k))) := hTJ.congr (qup_off (by omega)) (qup_ne _ _ _ (by omega)) (qup_ne _ _ _ (by omega))
    refine ok_bind (ok_mono (findRows_own (r := k) hN hL hTK w hpl s1 ((qup_off (by omega)).trans g3)) (fun K hK => ?_))
    obtain ⟨k1, k2, k3⟩ := hK
    have k9 : K 111 9 = nI k := by rw [k1 111 (by omega), qup_off (by omega)]; exact g3
    refine ok_let ?_
    have hTL : RT c ns st (qup K 111 9 (K 111 9 + 1)) := hTJ.congr (by rw [qup_off (by omega), k1 111 (by omega), qup_off (by omega)]) (by rw [qup_ne _ _ _ (by omega), k1 120 (by omega), qup_ne _ _ _ (by omega)]) (by rw [qup_ne _ _ _ (by omega), k1 121 (by omega), qup_ne _ _ _ (by omega)])
    refine ok_bindv (behind_eq (N := N) hN hL hTL hc s1) (ok_some ⟨_, rfl, ?_, fun a h1 h2 h3 h4 => ?_, fun j hj => ?_, ?_, fun i hi => ?_, fun i hi m hm ha => ?_⟩)
    · rw [qup_ne _ _ _ (by omega), k1 127 (by omega), qup_ne _ _ _ (by omega)]; exact g0
    · rw [qup_ne _ _ _ h4, k1 a h3, qup_ne _ _ _ h2]; exact g1 a h1 h2 h3 h4
    · rw [qup_off (by omega), k1 111 (by omega), qup_off (by omega)]; exact g2 j hj
    · rw [qup_on, k9]; exact nI_1 k
    · rw [qup_off (by omega), k1 118 (by omega)]
      by_cases e : i = k
      · subst e; exact qup_on
      · rw [qup_off (by omega)]; exact g4 i (by omega)
    · rw [qup_off (by omega)]
      by_cases e : i = k
      · subst e; exact k2 m hm ha
      · rw [k3, qup_off (by omega)]
        · exact g5 i (by omega) m hm ha
        · intro m2 hm2 ha2 hx
          have x1 := (adv_1 ha).1
          have x2 := (adv_1 ha2).1
          have x3 := w.2.1 m hm
          have x4 := w.2.1 m2 hm2
          have x5 : m = m2 := by omega
          subst x5
          have x6 := dg_bh c ns st (p i) w (cd_ok w hd hp i (by omega)).1.1 m hm
          have x7 := cd_mono w hd hp hm (k - (i + 1)) (i + 1) (by omega)
          rw [show i + 1 + (k - (i + 1)) = k by omega] at x7
          have x8 : dg (cd c ns st p (i + 1)) m = dg (cd c ns st p i) m + 1 := by rw [ha] at x6; exact x6
          omega
  · obtain ⟨J, rfl, g0, g1, g2, g3, g4, g5⟩ := hq
    rw [cd_end w hd hp]
    refine ⟨.inr J, ?_, g1, g2, g3, g4, g5⟩
    show cX8_findRows_140 N R 111 (nI (enc ns c)) (nI (enc ns c)) J = _
    unfold cX8_findRows_140
    rw [if_pos rfl]
