/-! COLUMNS: both sides choose the same order -/
theorem gd_ol (p : Nat → Nat) : ∀ n j i, i < n → gd (ol p j n) i = p (j + i) := by
  intro n
  induction n with
  | zero => intro j i h; omega
  | succ n ih =>
    intro j i h
    cases i with
    | zero => rfl
    | succ i =>
      show gd (ol p (j + 1) n) i = _
      rw [ih (j + 1) i (by omega)]
      congr 1
      omega
theorem lf_bit {p : Nat → Nat} : ∀ j i, i < j → (lf p j).testBit (p i) = true := by
  intro j
  induction j with
  | zero => intro i h; omega
  | succ j ih =>
    intro i hi
    rw [lf, Nat.testBit_or, Bool.or_eq_true]
    by_cases e : i = j
    · subst e; exact Or.inr (by rw [Nat.testBit_two_pow]; simp)
    · exact Or.inl (ih i (by omega))
theorem pms_ol {c : Nat} : ∀ n j (p : Nat → Nat) (y : List Nat), y ∈ pms c n (lf p j) → ∃ q : Nat → Nat, (∀ i, i < j → q i = p i) ∧ y = ol q j n ∧ ∀ i, j ≤ i → i < j + n → q i < c ∧ (lf q i).testBit (q i) = false := by
  intro n
  induction n with
  | zero =>
    intro j p y hy
    rw [pms, List.mem_singleton] at hy
    exact ⟨p, fun _ _ => rfl, hy, fun i h1 h2 => by omega⟩
  | succ n ih =>
    intro j p y hy
    obtain ⟨m, y2, hm, hb, h2, rfl⟩ := pms_mem hy
    have e1 : lf (fun i => if i = j then m else p i) j = lf p j := lf_congr j (fun x hx => by show (if x = j then m else p x) = p x; rw [if_neg (by omega)])
    have e2 : lf (fun i => if i = j then m else p i) (j + 1) = lf p j ||| 2 ^ m := by rw [lf, e1, if_pos rfl]
    rw [← e2] at h2
    obtain ⟨q, q1, q2, q3⟩ := ih (j + 1) _ y2 h2
    have qj : q j = m := by rw [q1 j (by omega), if_pos rfl]
    have qi : ∀ i, i < j → q i = p i := fun i hi => by rw [q1 i (by omega), if_neg (by omega)]
    refine ⟨q, qi, by rw [ol, qj, q2], fun i h3 h4 => ?_⟩
    by_cases e : i = j
    · subst e
      rw [qj, lf_congr i qi]
      exact ⟨hm, hb⟩
    · exact q3 i (by omega) (by omega)
theorem cost_sm {c : Nat} {b : Nat → Nat → Bool} {p : Nat → Nat} (hc : c ≤ 6) (hp : ∀ i, i < c → p i < c ∧ (lf p i).testBit (p i) = false) {j : Nat} (hj : j < c) : ∀ i, i ≤ j → cost c b (p j) (lf p i) = sm (fun x => one b (p x) (p j)) i := by
  have p6 := p2_64 hc
  intro i
  induction i with
  | zero => intro _; unfold cost; rw [lf, Nat.and_zero, bc_0]; rfl
  | succ i ih =>
    intro hi
    have h1 := ih (by omega)
    have hb := (hp i (by omega)).2
    have hpi := (hp i (by omega)).1
    have hne : p i ≠ p j := fun e => by
      have := lf_bit (p := p) j i (by omega)
      rw [e, (hp j hj).2] at this
      cases this
    have hbm := bmk_bit (b := b) (m := p j) (x := p i) c
    have hlt := bmk_lt (b := b) (m := p j) c hc
    have hle : (bmk b (p j) c &&& lf p i) ≤ bmk b (p j) c := Nat.and_le_left
    rw [sm]
    unfold cost at h1 ⊢
    rw [lf, Nat.and_or_distrib_left, ← h1]
    by_cases hbb : b (p i) (p j) = true
    · have e1 : bmk b (p j) c &&& 2 ^ p i = 2 ^ p i := by
        apply Nat.eq_of_testBit_eq
        intro x
        rw [Nat.testBit_and, Nat.testBit_two_pow]
        by_cases e : p i = x
        · subst e
          rw [hbm.mpr ⟨hpi, hne, hbb⟩]
          simp
        · simp [e]
      rw [e1, bc_in _ (by omega) _ (by omega) (by rw [Nat.testBit_and, hb]; simp), one, if_pos hbb]
    · have e1 : bmk b (p j) c &&& 2 ^ p i = 0 := by
        apply Nat.eq_of_testBit_eq
        intro x
        rw [Nat.testBit_and, Nat.testBit_two_pow, Nat.zero_testBit]
        by_cases e : p i = x
        · subst e
          have : (bmk b (p j) c).testBit (p i) = false := Bool.eq_false_iff.mpr (fun q => hbb (hbm.mp q).2.2)
          rw [this]
          simp
        · simp [e]
      rw [e1, Nat.or_zero, one, if_neg hbb]
      rfl
theorem cst_sm {c : Nat} {b : Nat → Nat → Bool} {p : Nat → Nat} (hc : c ≤ 6) (hp : ∀ i, i < c → p i < c ∧ (lf p i).testBit (p i) = false) : ∀ n j, j + n ≤ c → cst c b (lf p j) (ol p j n) + sm (fun j => sm (fun i => one b (p i) (p j)) j) j = sm (fun j => sm (fun i => one b (p i) (p j)) j) (j + n) := by
  intro n
  induction n with
  | zero => intro j _; rw [ol, cst]; exact Nat.zero_add _
  | succ n ih =>
    intro j hj
    have h1 := ih (j + 1) (by omega)
    rw [sm] at h1
    have h2 := cost_sm (b := b) hc hp (show j < c by omega) j (Nat.le_refl _)
    rw [ol, cst]
    rw [lf] at h1
    rw [show j + (n + 1) = j + 1 + n by omega, ← h1, h2]
    omega
theorem cst_bo {c : Nat} {b : Nat → Nat → Bool} {y : List Nat} (hc : c ≤ 6) (hy : y ∈ pms c c 0) : cst c b 0 y = bo c b (gd y) := by
  obtain ⟨q, _, q2, q3⟩ := pms_ol c 0 (fun _ => 0) y hy
  have h := cst_sm (b := b) hc (fun i hi => q3 i (by omega) (by omega)) c 0 (by omega)
  rw [Nat.zero_add, ← q2] at h
  have h2 : cst c b 0 y = sm (fun j => sm (fun i => one b (q i) (q j)) j) c := h
  rw [h2, bo]
  have hg : ∀ i, i < c → gd y i = q i := fun i hi => by rw [q2, gd_ol q c 0 i hi, Nat.zero_add]
  refine sm_congr c (fun j hj => sm_congr j (fun i hi => ?_))
  rw [hg i (by omega), hg j hj]
theorem FM_congr {α : Type} {f g : α → Nat} {L : List α} {x : α} (h : FM f L x) (e : ∀ y, y ∈ L → f y = g y) : FM g L x := by
  obtain ⟨p, q, e1, a1, b1⟩ := h
  have hx : x ∈ L := by rw [e1]; simp
  refine ⟨p, q, e1, fun y hy => ?_, fun y hy => ?_⟩
  · rw [← e x hx, ← e y (by rw [e1]; simp [hy])]; exact a1 y hy
  · rw [← e x hx, ← e y (by rw [e1]; simp [hy])]; exact b1 y hy
theorem FM_min {α : Type} {f : α → Nat} {L : List α} {x : α} (h : FM f L x) : ∀ y, y ∈ L → f x ≤ f y := by
  obtain ⟨p, q, e1, a1, b1⟩ := h
  intro y hy
  rw [e1, List.mem_append, List.mem_cons] at hy
  rcases hy with hy | hy | hy
  · exact Nat.le_of_lt (a1 y hy)
  · rw [hy]; exact Nat.le_refl _
  · exact b1 y hy
theorem nxp_0 {c : Nat} {l : List Nat} (h : f1 (gd l) (c - 1) = 0) : nxp c l = none := by
  unfold nxp
  rw [h]
theorem nxp_s {c i : Nat} {l : List Nat} (h : f1 (gd l) (c - 1) = i + 1) : nxp c l = some ((List.range c).map (nxf c (gd l) i (f2 (gd l) i c))) := by
  unfold nxp
  rw [h]
theorem gd_map {c : Nat} {f : Nat → Nat} {i : Nat} (h : i < c) : gd ((List.range c).map f) i = f i := by
  unfold gd
  rw [List.getD_eq_getElem?_getD, List.getElem?_map, List.getElem?_range h]
  rfl
theorem gd_lt {c : Nat} {y : List Nat} (h1 : y.length = c) (h2 : ∀ x, x ∈ y → x < c) {i : Nat} (hi : i < c) : gd y i < c := by
  unfold gd
  rw [List.getD_eq_getElem?_getD, List.getElem?_eq_getElem (by omega)]
  exact h2 _ (List.getElem_mem _)
theorem copyCol_ok {N c : Nat} {p : Nat → Nat} {v : Int32} {R : qR} {I : qI} (hN : 300000 ≤ N) (hL : LR R) (h10 : I 111 10 = nI c) (hc : c ≤ 6) (hp : ∀ x, x < c → I 128 x = nI (p x)) : ok (qloop (fun s => cX8_findColumns_52 N R 111 v s.1 s.2) N ((0 : Int32), I)) (fun J => (∀ x, x < c → J 125 x = nI (p x)) ∧ ∀ a, a ≠ 125 → J a = I a) := by
  refine ok_for (fun k q => ∃ J, q = (nI k, J) ∧ (∀ x, x < k → J 125 x = nI (p x)) ∧ ∀ a, a ≠ 125 → J a = I a) c (by omega) ⟨I, by rw [l0], fun x hx => by omega, fun _ _ => rfl⟩ (fun k q hk hq => ?_) (fun q hq => ?_)
  · obtain ⟨J, rfl, g1, g2⟩ := hq
    have e1 : J 111 10 = nI c := by rw [g2 _ (by omega)]; exact h10
    have e2 : J 128 k = nI (p k) := by rw [g2 _ (by omega)]; exact hp k hk
    refine ⟨.inl (nI (k + 1), qup J 125 k (nI (p k))), ?_, _, rfl, fun x hx => ?_, fun a ha => by rw [qup_ne _ _ _ ha]; exact g2 a ha⟩
    · show cX8_findColumns_52 N R 111 v (nI k) J = _
      unfold cX8_findColumns_52
      simp (disch := first | assumption | omega) only [obs, qle, ↓lm1, l0, qn_add, pk_mul, n_le, n_lt, n_eq, n_sM, n_Ms, n_Mlt, n_Mle, n_ltM, n_leM, ↓reduceIte, eq_self, if_pos, if_neg, qx, p111_3, p111_4, p111_5, p111_6, p111_7, p111_8, p111_11, p111_12, p111_13, p111_14, p111_15, p111_16, p111_17, p111_18, p111_19, p111_21, p111_22, p111_23, p111_24, p111_27, p111_28, p111_29, p111_30, p111_31, p111_32, p111_34, r112, w112, r113, w113, r114, w114, r115, w115, r116, w116, r117, w117, r118, w118, r119, w119, r120, w120, r121, w121, r122, w122, r123, w123, r124, w124, r125, w125, r126, w126, r127, w127, r128, w128, r129, w129, r130, w130, r131, w131, r132, w132, r133, w133, r134, w134, r135, w135, r136, w136, r137, w137, l1, l2, l3, l5, l6, l7, l8, l10, l11, l12, l31, l36, l63, l100, l1000, l1440, l1000000, l16777216, e1, e2]
    · by_cases e : x = k
      · subst e; exact qup_on
      · rw [qup_off (by omega)]; exact g1 x (by omega)
  · obtain ⟨J, rfl, g1, g2⟩ := hq
    have e1 : J 111 10 = nI c := by rw [g2 _ (by omega)]; exact h10
    refine ⟨.inr J, ?_, g1, g2⟩
    show cX8_findColumns_52 N R 111 v (nI c) J = _
    unfold cX8_findColumns_52
    simp (disch := first | assumption | omega) only [obs, qle, ↓lm1, l0, qn_add, pk_mul, n_le, n_lt, n_eq, n_sM, n_Ms, n_Mlt, n_Mle, n_ltM, n_leM, ↓reduceIte, eq_self, if_pos, if_neg, qx, p111_3, p111_4, p111_5, p111_6, p111_7, p111_8, p111_11, p111_12, p111_13, p111_14, p111_15, p111_16, p111_17, p111_18, p111_19, p111_21, p111_22, p111_23, p111_24, p111_27, p111_28, p111_29, p111_30, p111_31, p111_32, p111_34, r112, w112, r113, w113, r114, w114, r115, w115, r116, w116, r117, w117, r118, w118, r119, w119, r120, w120, r121, w121, r122, w122, r123, w123, r124, w124, r125, w125, r126, w126, r127, w127, r128, w128, r129, w129, r130, w130, r131, w131, r132, w132, r133, w133, r134, w134, r135, w135, r136, w136, r137, w137, l1, l2, l3, l5, l6, l7, l8, l10, l11, l12, l31, l36, l63, l100, l1000, l1440, l1000000, l16777216, e1]
theorem take_in {α : Type} {L : List α} {k : Nat} {y : α} (h : L[k]? = some y) : L.take (k + 1) = L.take k ++ [y] := by
  rw [List.take_succ, h]
  rfl
theorem findColumns_ok {N c : Nat} {ns : Nat → Nat} {st cm gs : Nat → Nat → Nat} {R : qR} {I : qI} (hN : 300000 ≤ N) (hL : LR R) (hT : RT c ns st I) (hF : RF c ns cm gs I) (hM : wm c ns cm gs) (h0 : 0 < c) : ok (fX8_findColumns N R I 111) (fun J => (∃ x, FM (fun y => bo c (bB ns st cm gs) (gd y)) (pms c c 0) x ∧ ∀ i, i < c → J 125 i = nI (gd x i)) ∧ ∀ a, a ≠ 125 → a ≠ 128 → J a = I a) := by
  have hc6 := hT.2.1
  have h10 := hT.1
  obtain ⟨k1, k2, k3⟩ := chn_ok c (by omega) h0
  have kat := chn_at _ k1
  unfold fX8_findColumns
  refine ok_bind (ok_mono (P := fun J => (∀ x, x < c → J 128 x = nI x) ∧ ∀ a, a ≠ 128 → J a = I a) ?_ (fun J1 hJ1 => ?_))
  · refine ok_for (fun k q => ∃ J, q = (nI k, J) ∧ (∀ x, x < k → J 128 x = nI x) ∧ ∀ a, a ≠ 128 → J a = I a) c (by omega) ⟨I, by rw [l0], fun x hx => by omega, fun _ _ => rfl⟩ (fun k q hk hq => ?_) (fun q hq => ?_)
    · obtain ⟨J, rfl, g1, g2⟩ := hq
      have e1 : J 111 10 = nI c := by rw [g2 _ (by omega)]; exact h10
      refine ⟨.inl (nI (k + 1), qup J 128 k (nI k)), ?_, _, rfl, fun x hx => ?_, fun a ha => by rw [qup_ne _ _ _ ha]; exact g2 a ha⟩
      · show cX8_findColumns_2 N R 111 (nI k) J = _
        unfold cX8_findColumns_2
        simp (disch := first | assumption | omega) only [obs, qle, ↓lm1, l0, qn_add, pk_mul, n_le, n_lt, n_eq, n_sM, n_Ms, n_Mlt, n_Mle, n_ltM, n_leM, ↓reduceIte, eq_self, if_pos, if_neg, qx, p111_3, p111_4, p111_5, p111_6, p111_7, p111_8, p111_11, p111_12, p111_13, p111_14, p111_15, p111_16, p111_17, p111_18, p111_19, p111_21, p111_22, p111_23, p111_24, p111_27, p111_28, p111_29, p111_30, p111_31, p111_32, p111_34, r112, w112, r113, w113, r114, w114, r115, w115, r116, w116, r117, w117, r118, w118, r119, w119, r120, w120, r121, w121, r122, w122, r123, w123, r124, w124, r125, w125, r126, w126, r127, w127, r128, w128, r129, w129, r130, w130, r131, w131, r132, w132, r133, w133, r134, w134, r135, w135, r136, w136, r137, w137, l1, l2, l3, l5, l6, l7, l8, l10, l11, l12, l31, l36, l63, l100, l1000, l1440, l1000000, l16777216, e1]
      · by_cases e : x = k
        · subst e; exact qup_on
        · rw [qup_off (by omega)]; exact g1 x (by omega)
    · obtain ⟨J, rfl, g1, g2⟩ := hq
      have e1 : J 111 10 = nI c := by rw [g2 _ (by omega)]; exact h10
      refine ⟨.inr J, ?_, g1, g2⟩
      show cX8_findColumns_2 N R 111 (nI c) J = _
      unfold cX8_findColumns_2
      simp (disch := first | assumption | omega) only [obs, qle, ↓lm1, l0, qn_add, pk_mul, n_le, n_lt, n_eq, n_sM, n_Ms, n_Mlt, n_Mle, n_ltM, n_leM, ↓reduceIte, eq_self, if_pos, if_neg, qx, p111_3, p111_4, p111_5, p111_6, p111_7, p111_8, p111_11, p111_12, p111_13, p111_14, p111_15, p111_16, p111_17, p111_18, p111_19, p111_21, p111_22, p111_23, p111_24, p111_27, p111_28, p111_29, p111_30, p111_31, p111_32, p111_34, r112, w112, r113, w113, r114, w114, r115, w115, r116, w116, r117, w117, r118, w118, r119, w119, r120, w120, r121, w121, r122, w122, r123, w123, r124, w124, r125, w125, r126, w126, r127, w127, r128, w128, r129, w129, r130, w130, r131, w131, r132, w132, r133, w133, r134, w134, r135, w135, r136, w136, r137, w137, l1, l2, l3, l5, l6, l7, l8, l10, l11, l12, l31, l36, l63, l100, l1000, l1440, l1000000, l16777216, e1]
  obtain ⟨j1, j2⟩ := hJ1
  generalize hLL : pms c c 0 = L at k1 k2 k3 kat ⊢
  have hlen : 0 < L.length := by
    cases L with
    | nil => simp at k3
    | cons a l => simp
  have hfirst : L[0]? = some (List.range c) := by rw [← List.head?_eq_getElem?]; exact k3
  refine ok_bind (ok_mono (P := fun J => (∃ x, FM (fun y => bo c (bB ns st cm gs) (gd y)) L x ∧ ∀ i, i < c → J 125 i = nI (gd x i)) ∧ ∀ a, a ≠ 125 → a ≠ 128 → J a = I a) ?_ (fun r hr => ok_some hr))
  refine ok_for (fun k q => ∃ J B, q = (nI B, (if k < L.length then nI 1 else nI 0), J) ∧ (∀ a, a ≠ 125 → a ≠ 128 → J a = I a) ∧ (k < L.length → ∃ y, L[k]? = some y ∧ ∀ i, i < c → J 128 i = nI (gd y i)) ∧ ((k = 0 ∧ B = 1000) ∨ ∃ x, FM (fun y => bo c (bB ns st cm gs) (gd y)) (L.take k) x ∧ B = bo c (bB ns st cm gs) (gd x) ∧ ∀ i, i < c → J 125 i = nI (gd x i))) L.length (by omega) ⟨J1, 1000, by rw [if_pos hlen, l1000, l1], fun a _ ha => j2 a ha, fun _ => ⟨List.range c, hfirst, fun i hi => ?_⟩, Or.inl ⟨rfl, rfl⟩⟩ (fun k q hk hq => ?_) (fun q hq => ?_)
  · have := gd_map (c := c) (f := fun x => x) hi
    rw [List.map_id'] at this
    rw [this]
    exact j1 i hi
  · obtain ⟨J, B, rfl, g1, g2, g3⟩ := hq
    obtain ⟨y, y1, y2⟩ := g2 hk
    obtain ⟨c1, c2, c3⟩ := kat k y y1
    have hTJ : RT c ns st J := hT.congr (by rw [g1 _ (by omega) (by omega)]) (g1 _ (by omega) (by omega)) (g1 _ (by omega) (by omega))
    have hFJ : RF c ns cm gs J := fun k i hk hi => by rw [g1 122 (by omega) (by omega), g1 123 (by omega) (by omega)]; exact hF k i hk hi
    have bo1 := breachesOf_eq (N := N) (x := 128) hN hL hTJ hFJ hM (hL.l 128 rfl) (fun i hi => ⟨y2 i hi, gd_lt c2 c3 hi⟩)
    have b36 := bo_36 (b := bB ns st cm gs) (p := gd y) hc6
    have hB : B ≤ 1000 := by
      rcases g3 with g3 | ⟨x, _, x2, _⟩
      · omega
      · have := bo_36 (b := bB ns st cm gs) (p := gd x) hc6
        omega
    show ok (cX8_findColumns_29 N R 111 (nI B) (if k < L.length then nI 1 else nI 0) J) _
    rw [if_pos hk]
    unfold cX8_findColumns_29
    rw [if_neg (show ¬ nI 1 = 0 by decide)]
    refine ok_bindv (p111_22 hL) (ok_bindv bo1 ?_)
    have tk := take_in y1
    -- what goesOn leaves, once a new best may have been copied
    have fin : ∀ (K : qI) (B2 : Nat), (∀ a, a ≠ 125 → a ≠ 128 → K a = I a) → (∀ i, i < c → K 128 i = nI (gd y i)) → (∃ x, FM (fun y => bo c (bB ns st cm gs) (gd y)) (L.take (k + 1)) x ∧ B2 = bo c (bB ns st cm gs) (gd x) ∧ ∀ i, i < c → K 125 i = nI (gd x i)) → ok ((fX8_goesOn N R K 111).bind fun y9 => some (Sum.inl (nI B2, y9.1, y9.2) : (Int32 × Int32 × qI) ⊕ qI)) (fun x => match x with
      | .inl s' => ∃ J B, s' = (nI B, (if k + 1 < L.length then nI 1 else nI 0), J) ∧ (∀ a, a ≠ 125 → a ≠ 128 → J a = I a) ∧ (k + 1 < L.length → ∃ y, L[k + 1]? = some y ∧ ∀ i, i < c → J 128 i = nI (gd y i)) ∧ ((k + 1 = 0 ∧ B = 1000) ∨ ∃ x, FM (fun y => bo c (bB ns st cm gs) (gd y)) (L.take (k + 1)) x ∧ B = bo c (bB ns st cm gs) (gd x) ∧ ∀ i, i < c → J 125 i = nI (gd x i))
      | .inr J => (∃ x, FM (fun y => bo c (bB ns st cm gs) (gd y)) L x ∧ ∀ i, i < c → J 125 i = nI (gd x i)) ∧ ∀ a, a ≠ 125 → a ≠ 128 → J a = I a) := by
      intro K B2 f1' f2' f3'
      refine ok_bind (ok_mono (goesOn_ok (N := N) hN hL (by rw [f1' 111 (by omega) (by omega)]; exact h10) hc6 h0 (fun x hx => ⟨f2' x hx, gd_lt c2 c3 hx⟩)) (fun r hr => ?_))
      rcases hr with ⟨r1, rfl⟩ | ⟨i0, r1, r2, r3, r4⟩
      · rw [nxp_0 r1] at c1
        have hge : L.length ≤ k + 1 := by rw [eq_comm, List.getElem?_eq_none_iff] at c1; exact c1
        refine ok_some ⟨K, B2, by rw [if_neg (by omega)], f1', fun h => by omega, Or.inr f3'⟩
      · rw [nxp_s r1] at c1
        have hlt : k + 1 < L.length := by
          rw [eq_comm, List.getElem?_eq_some_iff] at c1
          obtain ⟨h, _⟩ := c1
          exact h
        obtain ⟨ra, K2⟩ := r
        simp only at r2 r3 r4
        subst r2
        refine ok_some ⟨K2, B2, by rw [if_pos hlt], fun a h1 h2 => by rw [r4 a h2]; exact f1' a h1 h2, fun _ => ⟨_, c1.symm, fun i hi => by rw [r3 i hi, gd_map hi]⟩, Or.inr ?_⟩
        obtain ⟨x, x1, x2, x3⟩ := f3'
        exact ⟨x, x1, x2, fun i hi => by rw [r4 125 (by omega)]; exact x3 i hi⟩
    by_cases hle : B ≤ bo c (bB ns st cm gs) (gd y)
    · rw [if_pos (show nI B ≤ nI (bo c (bB ns st cm gs) (gd y)) by rw [n_le (by omega) (by omega)]; exact hle)]
      refine ok_mono (fin J B g1 y2 ?_) (fun r hr => by cases r <;> exact hr)
      rcases g3 with g3 | ⟨x, ⟨pre, post, e, a1, a2⟩, x2, x3⟩
      · omega
      · refine ⟨x, ⟨pre, post ++ [y], by rw [tk, e]; simp, a1, fun z hz => ?_⟩, x2, x3⟩
        rw [List.mem_append, List.mem_singleton] at hz
        rcases hz with hz | hz
        · exact a2 z hz
        · rw [hz]
          show bo c (bB ns st cm gs) (gd x) ≤ bo c (bB ns st cm gs) (gd y)
          omega
    · rw [if_neg (show ¬ nI B ≤ nI (bo c (bB ns st cm gs) (gd y)) by rw [n_le (by omega) (by omega)]; exact hle)]
      refine ok_bind (ok_mono (copyCol_ok (N := N) (p := gd y) hN hL hTJ.1 hc6 y2) (fun K hK => ?_))
      obtain ⟨q1, q2⟩ := hK
      refine ok_mono (fin K _ (fun a h1 h2 => by rw [q2 a h1]; exact g1 a h1 h2) (fun i hi => by rw [q2 128 (by omega)]; exact y2 i hi) ⟨y, ⟨L.take k, [], tk, fun z hz => ?_, fun z hz => absurd hz (by simp)⟩, rfl, q1⟩) (fun r hr => by cases r <;> exact hr)
      show bo c (bB ns st cm gs) (gd y) < bo c (bB ns st cm gs) (gd z)
      rcases g3 with ⟨g3, _⟩ | ⟨x, x1, x2, x3⟩
      · subst g3; simp at hz
      · have := FM_min x1 z hz
        have h5 : bo c (bB ns st cm gs) (gd x) ≤ bo c (bB ns st cm gs) (gd z) := this
        omega
  · obtain ⟨J, B, rfl, g1, g2, g3⟩ := hq
    rw [if_neg (by omega)]
    rcases g3 with g3 | ⟨x, x1, x2, x3⟩
    · omega
    · rw [List.take_length] at x1
      refine ⟨.inr J, ?_, ⟨x, x1, x3⟩, g1⟩
      show cX8_findColumns_29 N R 111 (nI B) (nI 0) J = _
      unfold cX8_findColumns_29
      rw [if_pos (show nI 0 = 0 by decide)]
/-- the class's order is the reference's -/
theorem order_meet {c : Nat} {b : Nat → Nat → Bool} {V o : Nat → Nat} {x : List Nat} (hc : c ≤ 6) (hV : VP c b V) (hO : OP c b V o c) (hx : FM (fun y => bo c b (gd y)) (pms c c 0) x) : (∀ i, i < c → gd x i = o i) ∧ V 0 = bo c b o := by
  obtain ⟨h1, h2⟩ := FM_ol hc hV hO c 0 (by omega)
  have h3 : FM (cst c b 0) (pms c c 0) (ol o 0 c) := h1
  have h4 := FM_congr h3 (g := fun y => bo c b (gd y)) (fun y hy => cst_bo hc hy)
  have h5 := FM_un hx h4
  have hg : ∀ i, i < c → gd x i = o i := fun i hi => by rw [h5, gd_ol o c 0 i hi, Nat.zero_add]
  refine ⟨hg, ?_⟩
  have hm : ol o 0 c ∈ pms c c 0 := by
    obtain ⟨p, q, e, _⟩ := h3
    rw [e]; simp
  have h6 : cst c b 0 (ol o 0 c) = V 0 := h2
  rw [← h6, cst_bo hc hm]
  refine sm_congr c (fun j hj => sm_congr j (fun i hi => ?_))
  rw [gd_ol o c 0 i (by omega), gd_ol o c 0 j hj, Nat.zero_add, Nat.zero_add]
