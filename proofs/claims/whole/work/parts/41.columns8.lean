/-! THE REFERENCE'S COLUMNS -/
theorem sm_add {f g : Nat → Nat} : ∀ c, sm (fun k => f k + g k) c = sm f c + sm g c := by
  intro c
  induction c with
  | zero => rfl
  | succ c ih => rw [sm, sm, sm, ih]; omega
theorem sm_congr {f g : Nat → Nat} : ∀ c, (∀ k, k < c → f k = g k) → sm f c = sm g c := by
  intro c
  induction c with
  | zero => intro _; rfl
  | succ c ih => intro h; rw [sm, sm, ih (fun k hk => h k (by omega)), h c (by omega)]
theorem sm_zero : ∀ c, sm (fun _ => 0) c = 0 := by
  intro c
  induction c with
  | zero => rfl
  | succ c ih => rw [sm, ih]
theorem exch (f : Nat → Nat → Nat) : ∀ c, sm (fun i => sm (fun j => if i < j then f i j else 0) c) c = sm (fun j => sm (fun i => f i j) j) c := by
  intro c
  induction c with
  | zero => rfl
  | succ c ih =>
    have e1 : sm (fun j => if c < j then f c j else 0) (c + 1) = 0 := by
      rw [sm_congr (g := fun _ => 0) (c + 1) (fun k hk => by show (if c < k then f c k else 0) = 0; rw [if_neg (by omega)]), sm_zero]
    have e2 : sm (fun i => sm (fun j => if i < j then f i j else 0) (c + 1)) c = sm (fun i => sm (fun j => if i < j then f i j else 0) c) c + sm (fun i => f i c) c := by
      rw [← sm_add]
      refine sm_congr c (fun i hi => ?_)
      show sm (fun j => if i < j then f i j else 0) c + (if i < c then f i c else 0) = _
      rw [if_pos hi]
    rw [sm, e1, e2, ih, sm]
    rfl
/-- the breaches of an order -/
def bo (c : Nat) (b : Nat → Nat → Bool) (p : Nat → Nat) : Nat := sm (fun j => sm (fun i => one b (p i) (p j)) j) c
theorem one_le (b : Nat → Nat → Bool) (x y : Nat) : one b x y ≤ 1 := by unfold one; split <;> omega
theorem bo_36 {c : Nat} {b : Nat → Nat → Bool} {p : Nat → Nat} (hc : c ≤ 6) : bo c b p ≤ 36 := by
  have h1 : bo c b p ≤ c * 6 := sm_bound c (fun j hj => by
    have := sm_bound (f := fun i => one b (p i) (p j)) (b := 1) j (fun i hi => one_le b _ _)
    show sm (fun i => one b (p i) (p j)) j ≤ 6
    omega)
  omega
theorem breach_v {N c l r : Nat} {ns : Nat → Nat} {st cm gs : Nat → Nat → Nat} {R : qR} {I : qI} (hN : 300000 ≤ N) (hL : LR R) (hT : RT c ns st I) (hF : RF c ns cm gs I) (hM : wm c ns cm gs) (hl : l < c) (hr : r < c) : fX8_isBreach N R I 111 (nI l) (nI r) = some (nI (one (bB ns st cm gs) l r)) := by
  obtain ⟨v, e, h⟩ := isBreach8_ok (N := N) hN hL hT hF hM hl hr
  rcases h with ⟨h1, rfl⟩ | ⟨h1, rfl⟩
  · rw [e, one, if_pos (bB_t.mpr h1)]
  · rw [e, one, if_neg (fun q => h1 (bB_t.mp q))]
theorem breachesOf_eq {N c x : Nat} {ns : Nat → Nat} {st cm gs : Nat → Nat → Nat} {p : Nat → Nat} {R : qR} {I : qI} (hN : 300000 ≤ N) (hL : LR R) (hT : RT c ns st I) (hF : RF c ns cm gs I) (hM : wm c ns cm gs) (hx : (R.2.1 x).2 = 6) (hp : ∀ i, i < c → I x i = nI (p i) ∧ p i < c) : fX8_breachesOf N R I 111 x = some (nI (bo c (bB ns st cm gs) p)) := by
  have hc6 := hT.2.1
  have h10 := hT.1
  unfold fX8_breachesOf bo
  rw [← exch]
  refine bind_of (qfor2 (fun i => (nI (sm (fun i => sm (fun j => if i < j then one (bB ns st cm gs) (p i) (p j) else 0) c) i), nI i)) (by rw [sm, l0]) (nI (sm (fun i => sm (fun j => if i < j then one (bB ns st cm gs) (p i) (p j) else 0) c) c)) c (by omega) (fun i hi => ?_) ?_) rfl
  · have ri : qrd I R x (nI i) = some (nI (p i)) := (rdn hx (by omega) (by omega)).trans (by rw [(hp i hi).1])
    have inner : qloop (fun s => cX8_breachesOf_17 N R I 111 x (nI i) s.1 s.2) N (nI (sm (fun i => sm (fun j => if i < j then one (bB ns st cm gs) (p i) (p j) else 0) c) i), nI (i + 1)) = some (nI (sm (fun i => sm (fun j => if i < j then one (bB ns st cm gs) (p i) (p j) else 0) c) (i + 1))) := by
      refine qfor2 (fun k => (nI (sm (fun i => sm (fun j => if i < j then one (bB ns st cm gs) (p i) (p j) else 0) c) i + sm (fun j => if i < j then one (bB ns st cm gs) (p i) (p j) else 0) (i + 1 + k)), nI (i + 1 + k))) ?_ _ (c - (i + 1)) (by omega) (fun k hk => ?_) ?_
      · have e : sm (fun j => if i < j then one (bB ns st cm gs) (p i) (p j) else 0) (i + 1 + 0) = 0 := by
          rw [sm_congr (g := fun _ => 0) _ (fun k hk => by show (if i < k then one (bB ns st cm gs) (p i) (p k) else 0) = 0; rw [if_neg (by omega)]), sm_zero]
        rw [e]
        rfl
      · have hpj := hp (i + 1 + k) (by omega)
        have rj : qrd I R x (nI (i + 1 + k)) = some (nI (p (i + 1 + k))) := (rdn hx (by omega) (by omega)).trans (by rw [hpj.1])
        have bv := breach_v (N := N) hN hL hT hF hM (hp i hi).2 hpj.2
        have e1 : sm (fun j => if i < j then one (bB ns st cm gs) (p i) (p j) else 0) (i + 1 + (k + 1)) = sm (fun j => if i < j then one (bB ns st cm gs) (p i) (p j) else 0) (i + 1 + k) + one (bB ns st cm gs) (p i) (p (i + 1 + k)) := by
          rw [← Nat.add_assoc, sm, if_pos (by omega)]
        by_cases hb : one (bB ns st cm gs) (p i) (p (i + 1 + k)) = 0
        · rw [hb] at bv e1
          simp (disch := first | assumption | omega) only [obs, qle, ↓lm1, l0, qn_add, pk_mul, n_le, n_lt, n_eq, n_sM, n_Ms, n_Mlt, n_Mle, n_ltM, n_leM, ↓reduceIte, eq_self, if_pos, if_neg, qx, p111_3, p111_4, p111_5, p111_6, p111_7, p111_8, p111_11, p111_12, p111_13, p111_14, p111_15, p111_16, p111_17, p111_18, p111_19, p111_21, p111_22, p111_23, p111_24, p111_27, p111_28, p111_29, p111_30, p111_31, p111_32, p111_34, r112, w112, r113, w113, r114, w114, r115, w115, r116, w116, r117, w117, r118, w118, r119, w119, r120, w120, r121, w121, r122, w122, r123, w123, r124, w124, r125, w125, r126, w126, r127, w127, r128, w128, r129, w129, r130, w130, r131, w131, r132, w132, r133, w133, r134, w134, r135, w135, r136, w136, r137, w137, l1, l2, l3, l5, l6, l7, l8, l10, l11, l12, l31, l36, l63, l100, l1000, l1440, l1000000, l16777216, cX8_breachesOf_17, h10, ri, rj, bv, e1, Nat.add_zero]
          simp only [Nat.add_assoc]
        · have hb1 : one (bB ns st cm gs) (p i) (p (i + 1 + k)) = 1 := by have := one_le (bB ns st cm gs) (p i) (p (i + 1 + k)); omega
          rw [hb1] at bv e1
          simp (disch := first | assumption | omega) only [obs, qle, ↓lm1, l0, qn_add, pk_mul, n_le, n_lt, n_eq, n_sM, n_Ms, n_Mlt, n_Mle, n_ltM, n_leM, ↓reduceIte, eq_self, if_pos, if_neg, qx, p111_3, p111_4, p111_5, p111_6, p111_7, p111_8, p111_11, p111_12, p111_13, p111_14, p111_15, p111_16, p111_17, p111_18, p111_19, p111_21, p111_22, p111_23, p111_24, p111_27, p111_28, p111_29, p111_30, p111_31, p111_32, p111_34, r112, w112, r113, w113, r114, w114, r115, w115, r116, w116, r117, w117, r118, w118, r119, w119, r120, w120, r121, w121, r122, w122, r123, w123, r124, w124, r125, w125, r126, w126, r127, w127, r128, w128, r129, w129, r130, w130, r131, w131, r132, w132, r133, w133, r134, w134, r135, w135, r136, w136, r137, w137, l1, l2, l3, l5, l6, l7, l8, l10, l11, l12, l31, l36, l63, l100, l1000, l1440, l1000000, l16777216, cX8_breachesOf_17, h10, ri, rj, bv, e1]
          simp only [Nat.add_assoc]
      · have e : i + 1 + (c - (i + 1)) = c := by omega
        simp (disch := first | assumption | omega) only [obs, qle, ↓lm1, l0, qn_add, pk_mul, n_le, n_lt, n_eq, n_sM, n_Ms, n_Mlt, n_Mle, n_ltM, n_leM, ↓reduceIte, eq_self, if_pos, if_neg, qx, p111_3, p111_4, p111_5, p111_6, p111_7, p111_8, p111_11, p111_12, p111_13, p111_14, p111_15, p111_16, p111_17, p111_18, p111_19, p111_21, p111_22, p111_23, p111_24, p111_27, p111_28, p111_29, p111_30, p111_31, p111_32, p111_34, r112, w112, r113, w113, r114, w114, r115, w115, r116, w116, r117, w117, r118, w118, r119, w119, r120, w120, r121, w121, r122, w122, r123, w123, r124, w124, r125, w125, r126, w126, r127, w127, r128, w128, r129, w129, r130, w130, r131, w131, r132, w132, r133, w133, r134, w134, r135, w135, r136, w136, r137, w137, l1, l2, l3, l5, l6, l7, l8, l10, l11, l12, l31, l36, l63, l100, l1000, l1440, l1000000, l16777216, cX8_breachesOf_17, h10, e, sm]
    simp (disch := first | assumption | omega) only [obs, qle, ↓lm1, l0, qn_add, pk_mul, n_le, n_lt, n_eq, n_sM, n_Ms, n_Mlt, n_Mle, n_ltM, n_leM, ↓reduceIte, eq_self, if_pos, if_neg, qx, p111_3, p111_4, p111_5, p111_6, p111_7, p111_8, p111_11, p111_12, p111_13, p111_14, p111_15, p111_16, p111_17, p111_18, p111_19, p111_21, p111_22, p111_23, p111_24, p111_27, p111_28, p111_29, p111_30, p111_31, p111_32, p111_34, r112, w112, r113, w113, r114, w114, r115, w115, r116, w116, r117, w117, r118, w118, r119, w119, r120, w120, r121, w121, r122, w122, r123, w123, r124, w124, r125, w125, r126, w126, r127, w127, r128, w128, r129, w129, r130, w130, r131, w131, r132, w132, r133, w133, r134, w134, r135, w135, r136, w136, r137, w137, l1, l2, l3, l5, l6, l7, l8, l10, l11, l12, l31, l36, l63, l100, l1000, l1440, l1000000, l16777216, cX8_breachesOf_4, h10, inner]
  · simp (disch := first | assumption | omega) only [obs, qle, ↓lm1, l0, qn_add, pk_mul, n_le, n_lt, n_eq, n_sM, n_Ms, n_Mlt, n_Mle, n_ltM, n_leM, ↓reduceIte, eq_self, if_pos, if_neg, qx, p111_3, p111_4, p111_5, p111_6, p111_7, p111_8, p111_11, p111_12, p111_13, p111_14, p111_15, p111_16, p111_17, p111_18, p111_19, p111_21, p111_22, p111_23, p111_24, p111_27, p111_28, p111_29, p111_30, p111_31, p111_32, p111_34, r112, w112, r113, w113, r114, w114, r115, w115, r116, w116, r117, w117, r118, w118, r119, w119, r120, w120, r121, w121, r122, w122, r123, w123, r124, w124, r125, w125, r126, w126, r127, w127, r128, w128, r129, w129, r130, w130, r131, w131, r132, w132, r133, w133, r134, w134, r135, w135, r136, w136, r137, w137, l1, l2, l3, l5, l6, l7, l8, l10, l11, l12, l31, l36, l63, l100, l1000, l1440, l1000000, l16777216, cX8_breachesOf_4, h10]
theorem swap_eq {R : qR} {I : qI} (hL : LR R) {x y : Nat} (hx : x < 6) (hy : y < 6) : fX8_swap R I 111 (nI x) (nI y) = some (qup (qup I 128 x (I 128 y)) 128 y (I 128 x)) := by
  unfold fX8_swap
  simp (disch := first | assumption | omega) only [obs, qle, ↓lm1, l0, qn_add, pk_mul, n_le, n_lt, n_eq, n_sM, n_Ms, n_Mlt, n_Mle, n_ltM, n_leM, ↓reduceIte, eq_self, if_pos, if_neg, qx, p111_3, p111_4, p111_5, p111_6, p111_7, p111_8, p111_11, p111_12, p111_13, p111_14, p111_15, p111_16, p111_17, p111_18, p111_19, p111_21, p111_22, p111_23, p111_24, p111_27, p111_28, p111_29, p111_30, p111_31, p111_32, p111_34, r112, w112, r113, w113, r114, w114, r115, w115, r116, w116, r117, w117, r118, w118, r119, w119, r120, w120, r121, w121, r122, w122, r123, w123, r124, w124, r125, w125, r126, w126, r127, w127, r128, w128, r129, w129, r130, w130, r131, w131, r132, w132, r133, w133, r134, w134, r135, w135, r136, w136, r137, w137, l1, l2, l3, l5, l6, l7, l8, l10, l11, l12, l31, l36, l63, l100, l1000, l1440, l1000000, l16777216]
theorem n_sub2 {c : Nat} (h : 0 < c) : nI c - nI 2 = nP (c - 1) := by
  match c, h with
  | 1, _ => decide
  | c + 2, _ =>
    rw [qn_sub (by omega)]
    rfl
theorem f1_le (p : Nat → Nat) : ∀ n, f1 p n ≤ n := by
  intro n
  induction n with
  | zero => exact Nat.le_refl _
  | succ n ih => rw [f1]; split <;> omega
theorem f2_ok (p : Nat → Nat) (i : Nat) : ∀ n, i < n → i ≤ f2 p i n ∧ f2 p i n < n := by
  intro n
  induction n with
  | zero => intro h; omega
  | succ n ih =>
    intro h
    rw [f2]
    split
    · omega
    · next q =>
      have : i ≠ n := fun e => q (by rw [e]; exact Nat.le_refl _)
      have := ih (by omega)
      omega
theorem goesOn_ok {N c : Nat} {p : Nat → Nat} {R : qR} {I : qI} (hN : 300000 ≤ N) (hL : LR R) (h10 : I 111 10 = nI c) (hc : c ≤ 6) (h0 : 0 < c) (hp : ∀ x, x < c → I 128 x = nI (p x) ∧ p x < c) : ok (fX8_goesOn N R I 111) (fun y => (f1 p (c - 1) = 0 ∧ y = (nI 0, I)) ∨ ∃ i, f1 p (c - 1) = i + 1 ∧ y.1 = nI 1 ∧ (∀ x, x < c → y.2 128 x = nI (nxf c p i (f2 p i c) x)) ∧ ∀ a, a ≠ 128 → y.2 a = I a) := by
  have e7 : ∀ n, n ≤ c - 1 → ∀ M, n < M → qloop (fun s => cX8_goesOn_7 N R I 111 s) M (nP n) = some (nP (f1 p n)) := by
    intro n
    induction n with
    | zero =>
      intro _ M hM
      obtain ⟨M, rfl⟩ : ∃ m, M = m + 1 := ⟨M - 1, by omega⟩
      refine bind_of (x := .inr nM) ?_ rfl
      show cX8_goesOn_7 N R I 111 nM = _
      unfold cX8_goesOn_7
      simp (disch := first | assumption | omega) only [obs, qle, ↓lm1, l0, qn_add, pk_mul, n_le, n_lt, n_eq, n_sM, n_Ms, n_Mlt, n_Mle, n_ltM, n_leM, ↓reduceIte, eq_self, if_pos, if_neg, qx, p111_3, p111_4, p111_5, p111_6, p111_7, p111_8, p111_11, p111_12, p111_13, p111_14, p111_15, p111_16, p111_17, p111_18, p111_19, p111_21, p111_22, p111_23, p111_24, p111_27, p111_28, p111_29, p111_30, p111_31, p111_32, p111_34, r112, w112, r113, w113, r114, w114, r115, w115, r116, w116, r117, w117, r118, w118, r119, w119, r120, w120, r121, w121, r122, w122, r123, w123, r124, w124, r125, w125, r126, w126, r127, w127, r128, w128, r129, w129, r130, w130, r131, w131, r132, w132, r133, w133, r134, w134, r135, w135, r136, w136, r137, w137, l1, l2, l3, l5, l6, l7, l8, l10, l11, l12, l31, l36, l63, l100, l1000, l1440, l1000000, l16777216]
    | succ n ih =>
      intro hn M hM
      obtain ⟨M, rfl⟩ : ∃ m, M = m + 1 := ⟨M - 1, by omega⟩
      have q1 := hp n (by omega)
      have q2 := hp (n + 1) (by omega)
      have q12 := q1.2
      have q22 := q2.2
      rw [f1]
      by_cases hle : p n ≤ p (n + 1)
      · rw [if_pos hle]
        refine bind_of (x := .inr (nI n)) ?_ rfl
        show cX8_goesOn_7 N R I 111 (nI n) = _
        unfold cX8_goesOn_7
        simp (disch := first | assumption | omega) only [obs, qle, ↓lm1, l0, qn_add, pk_mul, n_le, n_lt, n_eq, n_sM, n_Ms, n_Mlt, n_Mle, n_ltM, n_leM, ↓reduceIte, eq_self, if_pos, if_neg, qx, p111_3, p111_4, p111_5, p111_6, p111_7, p111_8, p111_11, p111_12, p111_13, p111_14, p111_15, p111_16, p111_17, p111_18, p111_19, p111_21, p111_22, p111_23, p111_24, p111_27, p111_28, p111_29, p111_30, p111_31, p111_32, p111_34, r112, w112, r113, w113, r114, w114, r115, w115, r116, w116, r117, w117, r118, w118, r119, w119, r120, w120, r121, w121, r122, w122, r123, w123, r124, w124, r125, w125, r126, w126, r127, w127, r128, w128, r129, w129, r130, w130, r131, w131, r132, w132, r133, w133, r134, w134, r135, w135, r136, w136, r137, w137, l1, l2, l3, l5, l6, l7, l8, l10, l11, l12, l31, l36, l63, l100, l1000, l1440, l1000000, l16777216, q1.1, q2.1]
      · rw [if_neg hle]
        refine bind_of (x := (Sum.inl (nP n) : Int32 ⊕ Int32)) ?_ (ih (by omega) M (by omega))
        show cX8_goesOn_7 N R I 111 (nI n) = _
        unfold cX8_goesOn_7
        simp (disch := first | assumption | omega) only [obs, qle, ↓lm1, l0, qn_add, pk_mul, n_le, n_lt, n_eq, n_sM, n_Ms, n_Mlt, n_Mle, n_ltM, n_leM, ↓reduceIte, eq_self, if_pos, if_neg, qx, p111_3, p111_4, p111_5, p111_6, p111_7, p111_8, p111_11, p111_12, p111_13, p111_14, p111_15, p111_16, p111_17, p111_18, p111_19, p111_21, p111_22, p111_23, p111_24, p111_27, p111_28, p111_29, p111_30, p111_31, p111_32, p111_34, r112, w112, r113, w113, r114, w114, r115, w115, r116, w116, r117, w117, r118, w118, r119, w119, r120, w120, r121, w121, r122, w122, r123, w123, r124, w124, r125, w125, r126, w126, r127, w127, r128, w128, r129, w129, r130, w130, r131, w131, r132, w132, r133, w133, r134, w134, r135, w135, r136, w136, r137, w137, l1, l2, l3, l5, l6, l7, l8, l10, l11, l12, l31, l36, l63, l100, l1000, l1440, l1000000, l16777216, q1.1, q2.1, nP_sub]
  unfold fX8_goesOn
  rw [h10, l2, n_sub2 h0]
  refine ok_bindv (e7 (c - 1) (Nat.le_refl _) N (by omega)) ?_
  have hf1 := f1_le p (c - 1)
  cases hi : f1 p (c - 1) with
  | zero =>
    rw [if_neg (show ¬ 0 ≤ nP 0 by decide)]
    exact ok_some (Or.inl ⟨rfl, by rw [l0]⟩)
  | succ i =>
    rw [if_pos (show 0 ≤ nP (i + 1) by show 0 ≤ nI i; rw [l0, n_le (by omega) (by omega)]; omega)]
    show ok ((qloop (fun s => cX8_goesOn_48 N R I 111 (nI i) s) N (nI c - 1)).bind _) _
    have e48 : ∀ n, i < n → n ≤ c → ∀ M, n < M → qloop (fun s => cX8_goesOn_48 N R I 111 (nI i) s) M (nP n) = some (nI (f2 p i n)) := by
      intro n
      induction n with
      | zero => intro h; omega
      | succ n ih =>
        intro h1 h2 M hM
        obtain ⟨M, rfl⟩ : ∃ m, M = m + 1 := ⟨M - 1, by omega⟩
        have q1 := hp n (by omega)
        have q2 := hp i (by omega)
        have q12 := q1.2
        have q22 := q2.2
        rw [f2]
        by_cases hle : p i ≤ p n
        · rw [if_pos hle]
          refine bind_of (x := .inr (nI n)) ?_ rfl
          show cX8_goesOn_48 N R I 111 (nI i) (nI n) = _
          unfold cX8_goesOn_48
          simp (disch := first | assumption | omega) only [obs, qle, ↓lm1, l0, qn_add, pk_mul, n_le, n_lt, n_eq, n_sM, n_Ms, n_Mlt, n_Mle, n_ltM, n_leM, ↓reduceIte, eq_self, if_pos, if_neg, qx, p111_3, p111_4, p111_5, p111_6, p111_7, p111_8, p111_11, p111_12, p111_13, p111_14, p111_15, p111_16, p111_17, p111_18, p111_19, p111_21, p111_22, p111_23, p111_24, p111_27, p111_28, p111_29, p111_30, p111_31, p111_32, p111_34, r112, w112, r113, w113, r114, w114, r115, w115, r116, w116, r117, w117, r118, w118, r119, w119, r120, w120, r121, w121, r122, w122, r123, w123, r124, w124, r125, w125, r126, w126, r127, w127, r128, w128, r129, w129, r130, w130, r131, w131, r132, w132, r133, w133, r134, w134, r135, w135, r136, w136, r137, w137, l1, l2, l3, l5, l6, l7, l8, l10, l11, l12, l31, l36, l63, l100, l1000, l1440, l1000000, l16777216, q1.1, q2.1]
        · rw [if_neg hle]
          have hne : i ≠ n := fun e => hle (by rw [e]; exact Nat.le_refl _)
          refine bind_of (x := (Sum.inl (nP n) : Int32 ⊕ Int32)) ?_ (ih (by omega) (by omega) M (by omega))
          show cX8_goesOn_48 N R I 111 (nI i) (nI n) = _
          unfold cX8_goesOn_48
          simp (disch := first | assumption | omega) only [obs, qle, ↓lm1, l0, qn_add, pk_mul, n_le, n_lt, n_eq, n_sM, n_Ms, n_Mlt, n_Mle, n_ltM, n_leM, ↓reduceIte, eq_self, if_pos, if_neg, qx, p111_3, p111_4, p111_5, p111_6, p111_7, p111_8, p111_11, p111_12, p111_13, p111_14, p111_15, p111_16, p111_17, p111_18, p111_19, p111_21, p111_22, p111_23, p111_24, p111_27, p111_28, p111_29, p111_30, p111_31, p111_32, p111_34, r112, w112, r113, w113, r114, w114, r115, w115, r116, w116, r117, w117, r118, w118, r119, w119, r120, w120, r121, w121, r122, w122, r123, w123, r124, w124, r125, w125, r126, w126, r127, w127, r128, w128, r129, w129, r130, w130, r131, w131, r132, w132, r133, w133, r134, w134, r135, w135, r136, w136, r137, w137, l1, l2, l3, l5, l6, l7, l8, l10, l11, l12, l31, l36, l63, l100, l1000, l1440, l1000000, l16777216, q1.1, q2.1, nP_sub]
    rw [l1, nP_sub]
    refine ok_bindv (e48 c (by omega) (Nat.le_refl _) N (by omega)) ?_
    have hf2 := f2_ok p i c (by omega)
    refine ok_bindv (swap_eq hL (by omega) (by omega)) ?_
    obtain ⟨j, hj⟩ : ∃ j, j = f2 p i c := ⟨_, rfl⟩
    rw [← hj] at hf2 ⊢
    have s0 : ∀ x, x < c → qup (qup I 128 i (I 128 j)) 128 j (I 128 i) 128 x = nI (if x = j then p i else if x = i then p j else p x) := by
      intro x hx
      by_cases e1 : x = j
      · subst e1
        rw [qup_on, if_pos rfl]
        exact (hp i (by omega)).1
      · rw [qup_off (by omega), if_neg e1]
        by_cases e2 : x = i
        · subst e2
          rw [qup_on, if_pos rfl]
          exact (hp j (by omega)).1
        · rw [qup_off (by omega), if_neg e2]
          exact (hp x hx).1
    have s1 : ∀ a, a ≠ 128 → qup (qup I 128 i (I 128 j)) 128 j (I 128 i) a = I a := fun a ha => by rw [qup_ne _ _ _ ha, qup_ne _ _ _ ha]
    generalize qup (qup I 128 i (I 128 j)) 128 j (I 128 i) = K at s0 s1 ⊢
    rw [s1 111 (by omega), h10, qn_sub (by omega), show nP (i + 1) = nI i from rfl, qn_add]
    refine ok_bind (ok_mono (P := fun J => (∀ x, x < c → J 128 x = nI (nxf c p i j x)) ∧ ∀ a, a ≠ 128 → J a = I a) ?_ (fun J hJ => ok_some (Or.inr ⟨i, rfl, rfl, hj ▸ hJ.1, hJ.2⟩)))
    refine ok_for (fun k q => ∃ J, q = (nI (c - 1 - k), nI (i + 1 + k), J) ∧ (∀ a, a ≠ 128 → J a = I a) ∧ ∀ x, x < c → J 128 x = if (i + 1 ≤ x ∧ x < i + 1 + k) ∨ c - 1 - k < x then K 128 (c + i - x) else K 128 x) ((c - 1 - i) / 2) (by omega) ⟨K, by rw [Nat.sub_zero, Nat.add_zero], s1, fun x hx => by rw [if_neg (by omega)]⟩ (fun k q hk hq => ?_) (fun q hq => ?_)
    · obtain ⟨J, rfl, g1, g2⟩ := hq
      have sw := swap_eq (R := R) (I := J) hL (show i + 1 + k < 6 by omega) (show c - 1 - k < 6 by omega)
      refine ⟨.inl (nI (c - 1 - (k + 1)), nI (i + 1 + (k + 1)), qup (qup J 128 (i + 1 + k) (J 128 (c - 1 - k))) 128 (c - 1 - k) (J 128 (i + 1 + k))), ?_, _, rfl, fun a ha => by rw [qup_ne _ _ _ ha, qup_ne _ _ _ ha]; exact g1 a ha, fun x hx => ?_⟩
      · show cX8_goesOn_88 N R 111 (nI (c - 1 - k)) (nI (i + 1 + k)) J = _
        unfold cX8_goesOn_88
        have e1 : c - 1 - k - 1 = c - 1 - (k + 1) := by omega
        simp (disch := first | assumption | omega) only [obs, qle, ↓lm1, l0, qn_add, pk_mul, n_le, n_lt, n_eq, n_sM, n_Ms, n_Mlt, n_Mle, n_ltM, n_leM, ↓reduceIte, eq_self, if_pos, if_neg, qx, p111_3, p111_4, p111_5, p111_6, p111_7, p111_8, p111_11, p111_12, p111_13, p111_14, p111_15, p111_16, p111_17, p111_18, p111_19, p111_21, p111_22, p111_23, p111_24, p111_27, p111_28, p111_29, p111_30, p111_31, p111_32, p111_34, r112, w112, r113, w113, r114, w114, r115, w115, r116, w116, r117, w117, r118, w118, r119, w119, r120, w120, r121, w121, r122, w122, r123, w123, r124, w124, r125, w125, r126, w126, r127, w127, r128, w128, r129, w129, r130, w130, r131, w131, r132, w132, r133, w133, r134, w134, r135, w135, r136, w136, r137, w137, l1, l2, l3, l5, l6, l7, l8, l10, l11, l12, l31, l36, l63, l100, l1000, l1440, l1000000, l16777216, sw, qn_sub, e1, ← Nat.add_assoc]
      · by_cases x1 : x = c - 1 - k
        · subst x1
          rw [qup_on, if_pos (by omega), g2 _ (by omega), if_neg (by omega)]
          congr 1
          omega
        · rw [qup_off (by omega)]
          by_cases x2 : x = i + 1 + k
          · subst x2
            rw [qup_on, if_pos (by omega), g2 _ (by omega), if_neg (by omega)]
            congr 1
            omega
          · rw [qup_off (by omega), g2 x hx]
            by_cases x3 : (i + 1 ≤ x ∧ x < i + 1 + k) ∨ c - 1 - k < x
            · rw [if_pos x3, if_pos (by omega)]
            · rw [if_neg x3, if_neg (by omega)]
    · obtain ⟨J, rfl, g1, g2⟩ := hq
      refine ⟨.inr J, ?_, fun x hx => ?_, g1⟩
      · show cX8_goesOn_88 N R 111 (nI (c - 1 - (c - 1 - i) / 2)) (nI (i + 1 + (c - 1 - i) / 2)) J = _
        unfold cX8_goesOn_88
        simp (disch := first | assumption | omega) only [obs, qle, ↓lm1, l0, qn_add, pk_mul, n_le, n_lt, n_eq, n_sM, n_Ms, n_Mlt, n_Mle, n_ltM, n_leM, ↓reduceIte, eq_self, if_pos, if_neg, qx, p111_3, p111_4, p111_5, p111_6, p111_7, p111_8, p111_11, p111_12, p111_13, p111_14, p111_15, p111_16, p111_17, p111_18, p111_19, p111_21, p111_22, p111_23, p111_24, p111_27, p111_28, p111_29, p111_30, p111_31, p111_32, p111_34, r112, w112, r113, w113, r114, w114, r115, w115, r116, w116, r117, w117, r118, w118, r119, w119, r120, w120, r121, w121, r122, w122, r123, w123, r124, w124, r125, w125, r126, w126, r127, w127, r128, w128, r129, w129, r130, w130, r131, w131, r132, w132, r133, w133, r134, w134, r135, w135, r136, w136, r137, w137, l1, l2, l3, l5, l6, l7, l8, l10, l11, l12, l31, l36, l63, l100, l1000, l1440, l1000000, l16777216]
      · have key : J 128 x = if x ≤ i then K 128 x else K 128 (c + i - x) := by
          rw [g2 x hx]
          by_cases x1 : x ≤ i
          · rw [if_neg (by omega), if_pos x1]
          · rw [if_neg x1]
            by_cases x3 : (i + 1 ≤ x ∧ x < i + 1 + (c - 1 - i) / 2) ∨ c - 1 - (c - 1 - i) / 2 < x
            · rw [if_pos x3]
            · rw [if_neg x3]
              congr 1
              omega
        rw [key]
        unfold nxf
        by_cases x1 : x < i
        · rw [if_pos (by omega), if_pos x1, s0 x hx, if_neg (by omega), if_neg (by omega)]
        · rw [if_neg x1]
          by_cases x2 : x = i
          · subst x2
            rw [if_pos (Nat.le_refl _), if_pos rfl, s0 x hx]
            by_cases xj : x = j
            · rw [if_pos xj, xj]
            · rw [if_neg xj, if_pos rfl]
          · rw [if_neg (by omega), if_neg x2, s0 _ (by omega)]
            by_cases xj : c + i - x = j
            · rw [if_pos xj, if_pos xj]
            · rw [if_neg xj, if_neg xj, if_neg (by omega)]
