/-! SIGNS: the two sides meet -/
theorem uN_low {f : Nat → Nat} {s : Nat} : ∀ k, k ≤ 7 → uN (gS f) s k = s % 2 ^ k := by
  intro k
  induction k with
  | zero => intro _; show 0 = s % 1; omega
  | succ k ih =>
    intro hk
    rw [uN, ih (by omega)]
    have hg : gS f k = 2 ^ k := by unfold gS; rw [if_pos (by omega)]
    apply Nat.eq_of_testBit_eq
    intro j
    cases hb : s.testBit k
    · rw [if_neg (by decide), Nat.testBit_mod_two_pow, Nat.testBit_mod_two_pow]
      by_cases h1 : j < k
      · simp [h1, show j < k + 1 by omega]
      · by_cases h2 : j = k
        · subst h2; simp [hb]
        · simp [h1, show ¬ j < k + 1 by omega]
    · rw [if_pos rfl, hg, Nat.testBit_or, Nat.testBit_mod_two_pow, Nat.testBit_mod_two_pow, Nat.testBit_two_pow]
      by_cases h1 : j < k
      · simp [h1, show j < k + 1 by omega, show ¬ k = j by omega]
      · by_cases h2 : j = k
        · subst h2; simp [hb]
        · simp [h1, show ¬ j < k + 1 by omega, show ¬ k = j by omega]
theorem uN_high {f : Nat → Nat} {s : Nat} : ∀ k, uN (gS f) s (7 + k) = s % 128 ||| uN f (s / 128) k := by
  intro k
  induction k with
  | zero => rw [show 7 + 0 = 7 from rfl, uN_low 7 (by omega)]; show _ = s % 128 ||| 0; rw [Nat.or_zero]
  | succ k ih =>
    have hb : s.testBit (7 + k) = (s / 128).testBit k := by
      rw [show (128 : Nat) = 2 ^ 7 from rfl, Nat.testBit_div_two_pow, Nat.add_comm]
    have hg : gS f (7 + k) = f k := by unfold gS; rw [if_neg (by omega), Nat.add_sub_cancel_left]
    show uN (gS f) s ((7 + k) + 1) = _
    rw [uN, uN, ih, hb, hg]
    split
    · rw [Nat.or_assoc]
    · rfl
theorem bc_join {b : Nat} : ∀ a x c, x < 2 ^ a → bc (a + b) (c * 2 ^ a + x) = bc a x + bc b c := by
  intro a
  induction a with
  | zero =>
    intro x c hx
    have : x = 0 := by
      have : (2 : Nat) ^ 0 = 1 := rfl
      omega
    subst this
    show bc (0 + b) (c * 1 + 0) = 0 + bc b c
    rw [Nat.zero_add, Nat.mul_one, Nat.zero_add]
    rfl
  | succ a ih =>
    intro x c hx
    rw [show a + 1 + b = (a + b) + 1 by omega, bc, bc]
    have e : c * 2 ^ (a + 1) = 2 * (c * 2 ^ a) := by rw [Nat.pow_succ, Nat.mul_comm (2 ^ a) 2, Nat.mul_left_comm]
    have hx2 : x / 2 < 2 ^ a := by rw [Nat.pow_succ] at hx; omega
    rw [e, show (2 * (c * 2 ^ a) + x) % 2 = x % 2 by omega, show (2 * (c * 2 ^ a) + x) / 2 = c * 2 ^ a + x / 2 by omega, ih _ c hx2]
    omega
theorem bc_sub : ∀ k x e, (∀ j, x.testBit j = true → e.testBit j = true) → bc k x ≤ bc k e := by
  intro k
  induction k with
  | zero => intro x e _; exact Nat.le_refl _
  | succ k ih =>
    intro x e h
    rw [bc, bc]
    have h0 := h 0
    rw [Nat.testBit_zero, Nat.testBit_zero] at h0
    simp only [decide_eq_true_eq] at h0
    have := ih (x / 2) (e / 2) (fun j hj => by rw [Nat.testBit_div_two] at hj ⊢; exact h _ hj)
    omega
theorem sub_le {x e : Nat} (h : ∀ j, x.testBit j = true → e.testBit j = true) : x ≤ e := by
  have : x &&& e = x := by
    apply Nat.eq_of_testBit_eq
    intro j
    rw [Nat.testBit_and]
    cases hx : x.testBit j
    · rfl
    · rw [h j hx]; rfl
  rw [← this]
  exact Nat.and_le_right
theorem bit127 (j : Nat) : (127 : Nat).testBit j = decide (j < 7) := by
  have h := Nat.testBit_two_pow_sub_one 7 j
  exact h
theorem bit_hi {x j : Nat} (hx : x < 128) (h : ¬ j < 7) : x.testBit j = false := Nat.testBit_lt_two_pow (Nat.lt_of_lt_of_le hx (Nat.pow_le_pow_right (n := 2) (by decide) (show 7 ≤ j by omega)))
theorem valid_cand {f : Nat → Nat} {d s : Nat} (hf : ∀ i, i < 6 → f i < 128) (hd : d < 128) (hs : s < 8192) (h : valid f d s) : isC f d (s / 128) ∧ le2 (cand f d (s / 128)) s := by
  obtain ⟨u, hu0⟩ : ∃ u, u = uN f (s / 128) 6 := ⟨_, rfl⟩
  have hu : u < 128 := by rw [hu0]; exact uN_lt 6 hf
  have hv : s % 128 ||| u = d := by rw [hu0, ← uN_high 6]; exact h.2
  have hx : (d &&& (127 ^^^ u)) < 128 := Nat.lt_of_le_of_lt Nat.and_le_left hd
  have hb : ∀ j, d.testBit j = ((s % 128).testBit j || u.testBit j) := fun j => by rw [← hv, Nat.testBit_or]
  have hsub : ∀ j, (d &&& (127 ^^^ u)).testBit j = true → (s % 128).testBit j = true := by
    intro j
    rw [Nat.testBit_and, Nat.testBit_xor, bit127, hb j]
    by_cases h7 : j < 7
    · simp [h7]
      cases u.testBit j <;> simp
    · rw [bit_hi hu h7, bit_hi (x := s % 128) (by omega) h7]; simp
  refine ⟨?_, ?_⟩
  · unfold isC
    rw [← hu0]
    apply Nat.eq_of_testBit_eq
    intro j
    rw [Nat.testBit_and, Nat.testBit_xor, bit127, hb j, Nat.zero_testBit]
    by_cases h7 : j < 7
    · simp [h7]
      intro q _
      exact q
    · rw [bit_hi hu h7]; simp
  · have e1 : bc 13 (cand f d (s / 128)) = bc 7 (d &&& (127 ^^^ u)) + bc 6 (s / 128) := by
      unfold cand
      rw [← hu0]
      exact bc_join (b := 6) 7 _ _ hx
    have e2 : bc 13 s = bc 7 (s % 128) + bc 6 (s / 128) := by
      have := bc_join (b := 6) 7 (s % 128) (s / 128) (by show s % 128 < 128; omega)
      rw [show s / 128 * 2 ^ 7 + s % 128 = s by show s / 128 * 128 + s % 128 = s; omega] at this
      exact this
    have l1 := bc_sub 7 _ _ hsub
    have l2 := sub_le hsub
    unfold le2
    rw [e1, e2]
    unfold cand
    rw [← hu0]
    omega
theorem uN_drop {f : Nat → Nat} {c i : Nat} (h0 : f i = 0) : ∀ k, uN f (c ^^^ 2 ^ i) k = uN f c k := by
  intro k
  induction k with
  | zero => rfl
  | succ k ih =>
    rw [uN, uN, ih, Nat.testBit_xor, Nat.testBit_two_pow]
    by_cases hik : i = k
    · subst hik
      rw [h0, Nat.or_zero]
      simp
    · simp [hik]
theorem bc_drop : ∀ c, c < 64 → ∀ i, i < 6 → c.testBit i = true → bc 6 (c ^^^ 2 ^ i) + 1 = bc 6 c ∧ c ^^^ 2 ^ i < 64 := by decide +kernel
theorem cand_valid {f : Nat → Nat} {d c : Nat} (hf : ∀ i, i < 6 → f i < 128) (hd : d < 128) (hc : c < 64) (hC : c = 0 ∨ isC f d c) (hmin : ∀ c2, c2 < 64 → c2 = 0 ∨ isC f d c2 → le2 (cand f d c) (cand f d c2)) : valid f d (cand f d c) := by
  obtain ⟨u, hu0⟩ : ∃ u, u = uN f c 6 := ⟨_, rfl⟩
  have hu : u < 128 := by rw [hu0]; exact uN_lt 6 hf
  have hx : (d &&& (127 ^^^ u)) < 128 := Nat.lt_of_le_of_lt Nat.and_le_left hd
  have hcd : cand f d c = c * 128 + (d &&& (127 ^^^ u)) := by unfold cand; rw [hu0]
  have q1 : cand f d c / 128 = c := by rw [hcd]; omega
  have q2 : cand f d c % 128 = (d &&& (127 ^^^ u)) := by rw [hcd]; omega
  have hsubC : ∀ j, u.testBit j = true → d.testBit j = true := by
    rcases hC with rfl | hC
    · intro j hj
      have : u = 0 := by
        rw [hu0]
        have : ∀ k, uN f 0 k = 0 := by
          intro k
          induction k with
          | zero => rfl
          | succ k ih => rw [uN, if_neg (by simp), ih]
        exact this 6
      rw [this, Nat.zero_testBit] at hj
      cases hj
    · intro j hj
      unfold isC at hC
      rw [← hu0] at hC
      have h7 : j < 7 := by
        by_cases h7 : j < 7
        · exact h7
        · rw [bit_hi hu h7] at hj; cases hj
      have := congrArg (fun z => z.testBit j) hC
      simp only [Nat.testBit_and, Nat.testBit_xor, bit127, Nat.zero_testBit, hj, h7] at this
      simpa using this
  refine ⟨fun i hi hb => ?_, ?_⟩
  · unfold gS
    split
    · exact Nat.ne_of_gt (Nat.two_pow_pos i)
    · intro h0
      have hb2 : c.testBit (i - 7) = true := by
        rw [← q1, show (128 : Nat) = 2 ^ 7 from rfl, Nat.testBit_div_two_pow, show i - 7 + 7 = i by omega]
        exact hb
      have hd2 := bc_drop c hc (i - 7) (by omega) hb2
      have hdr := uN_drop (f := f) (c := c) (i := i - 7) h0 6
      have hl := hmin (c ^^^ 2 ^ (i - 7)) hd2.2 (by
        rcases hC with rfl | hC
        · simp at hb2
        · refine Or.inr ?_
          unfold isC at hC ⊢
          rw [hdr]; exact hC)
      have e1 : bc 13 (cand f d c) = bc 7 (d &&& (127 ^^^ u)) + bc 6 c := by rw [hcd]; exact bc_join (b := 6) 7 _ _ hx
      have e2 : bc 13 (cand f d (c ^^^ 2 ^ (i - 7))) = bc 7 (d &&& (127 ^^^ u)) + bc 6 (c ^^^ 2 ^ (i - 7)) := by
        unfold cand
        rw [hdr, ← hu0]
        exact bc_join (b := 6) 7 _ _ hx
      unfold le2 at hl
      omega
  · rw [show (13 : Nat) = 7 + 6 from rfl, uN_high 6, q1, q2, ← hu0]
    apply Nat.eq_of_testBit_eq
    intro j
    rw [Nat.testBit_or, Nat.testBit_and, Nat.testBit_xor, bit127]
    by_cases h7 : j < 7
    · have := hsubC j
      revert this
      simp only [h7, decide_true]
      cases u.testBit j <;> cases d.testBit j <;> simp
    · rw [bit_hi hu h7, bit_hi hd h7]; simp
/-- both sides name the same set -/
theorem signs_meet {f : Nat → Nat} {d c m : Nat} (hf : ∀ i, i < 6 → f i < 128) (hd : d < 128) (hd0 : 1 ≤ d) (hc : c < 64) (hC : c = 0 ∨ isC f d c) (hmin : ∀ c2, c2 < 64 → c2 = 0 ∨ isC f d c2 → le2 (cand f d c) (cand f d c2)) (hm : m < 8192) (hv : valid f d m) (hm2 : ∀ s, 1 ≤ s → s < 8192 → valid f d s → le2 m s) : m = cand f d c := by
  have h1 := valid_cand hf hd hm hv
  have h2 := hmin (m / 128) (by omega) (Or.inr h1.1)
  have h3 := cand_valid hf hd hc hC hmin
  have h4 : 1 ≤ cand f d c := by
    rcases Nat.eq_zero_or_pos (cand f d c) with q | q
    · rw [q] at h3
      have : uN (gS f) 0 13 = 0 := by
        have : ∀ k, uN (gS f) 0 k = 0 := by
          intro k
          induction k with
          | zero => rfl
          | succ k ih => rw [uN, if_neg (by simp), ih]
        exact this 13
      have h5 := h3.2
      omega
    · exact q
  exact le2.anti (hm2 _ h4 (cand_lt hd hc) h3) (h2.trans h1.2)
theorem sim_signs {R : qR} {I : qI} {N : Nat} (hN : 9000 < N) (hL : LR R) (hB : BookInv I) (hS : SignInv I) (x p : Int32) : SimP (fun I => fX7_signs N R I 0 x p) (fun I => fX8_signs N R I 111 x p) I := by
  generalize hJ : qup I 111 0 0 = J
  have rJ : ∀ a j, ¬ (a = 111 ∧ j = 0) → J a j = I a j := fun a j g2 => by rw [← hJ, qup_off (by omega)]
  unfold SimP
  rw [hJ]
  show ∃ r, fX7_signs N R I 0 x p = some r ∧ fX8_signs N R I 111 x p = some (r, J)
  unfold fX7_signs fX8_signs
  simp only [qlet]
  rw [hJ]
  by_cases hT : isT I x
  · obtain ⟨t, htt⟩ : ∃ t : Nat, x.toInt = t := ⟨x.toInt.toNat, by have := hT.1; omega⟩
    have htl : (t : Int) < (I 111 1).toInt := by have := hT.2; omega
    have hc10 := hB.2.2.2.1
    have ht : t < 10 := by omega
    have hday := hB.day htl
    rw [trainOf_yes hL hB hT, isTrain_yes (by unfold isT; rw [rJ _ _ (by omega)]; exact hT)]
    simp only [Option.bind_some, qopt]
    rw [if_neg (show ¬ (1 : Int32) = 0 by decide), htt, Int.toNat_natCast]
    by_cases c0 : p < 0
    · rw [if_pos c0, if_pos c0]
      exact ⟨_, rfl, rfl⟩
    · rw [if_neg c0, if_neg c0]
      by_cases c1 : p ≤ 1
      · rw [if_pos c1, if_pos c1, hL.p 0 1 rfl, hday.1]
        simp only [Option.bind_some]
        obtain ⟨f, hff⟩ : ∃ f : Nat → Nat, f = fun i => (I 3 i).toInt.toNat := ⟨_, rfl⟩
        have hf1 : ∀ i, i < 6 → I 3 i = nI (f i) ∧ f i < 128 := fun i hi => by
          have h := (hS.2 i hi).2
          rw [hff]
          exact ⟨nI_t (by show _ = (((I 3 i).toInt.toNat : Nat) : Int); omega), by show (I 3 i).toInt.toNat < 128; omega⟩
        have hf2 : ∀ i, i < 6 → f i < 128 := fun i hi => (hf1 i hi).2
        obtain ⟨d, hdd⟩ : ∃ d : Nat, (I 112 t).toInt = d := ⟨(I 112 t).toInt.toNat, by omega⟩
        have hd : I 112 t = nI d := nI_t hdd
        have hg : ∀ i, i < 13 → J 117 i = nI (gS f i) := fun i hi => by
          rw [rJ _ _ (by omega)]
          unfold gS
          split
          · exact hS.1 i (by omega)
          · have h := hS.2 (i - 7) (by omega)
            rw [show 7 + (i - 7) = i by omega] at h
            rw [h.1]
            exact (hf1 (i - 7) (by omega)).1
        obtain ⟨r, er, c, hc, hC, rfl, hmin⟩ := fewest_ok (R := R) (I := I) (N := N) (d := d) hL (by omega) hf1 (by omega)
        obtain ⟨o, eo, ho⟩ := sign_outer (R := R) (I := J) (N := N) (t := t) (d := d) (x := x) (p := p) hL ht htt (by rw [rJ _ _ (by omega)]; exact hd) (by omega) hg hf2 (by omega)
        have hcv := cand_valid hf2 (by omega) hc hC hmin
        have hcl := cand_lt (f := f) (show d < 128 by omega) hc
        have hc1 : 1 ≤ cand f d c := by
          rcases Nat.eq_zero_or_pos (cand f d c) with q | q
          · rw [q] at hcv
            have h5 := hcv.2
            have : uN (gS f) 0 13 = 0 := by
              have : ∀ k, uN (gS f) 0 k = 0 := by
                intro k
                induction k with
                | zero => rfl
                | succ k ih => rw [uN, if_neg (by simp), ih]
              exact this 13
            omega
          · exact q
        rcases ho with ho | ⟨m, rfl, h1, h2, h3⟩
        · exact absurd hcv (ho _ hc1 hcl)
        · have hm := signs_meet hf2 (by omega) (by omega) hc hC hmin h1 h2 h3
          rw [hd, er, eo]
          simp only [Option.bind_some]
          rw [hm]
          by_cases c2 : p = 0
          · rw [if_pos c2, if_pos c2, bitc hcl, ones_eq (by omega) hcl]
            exact ⟨_, rfl, rfl⟩
          · rw [if_neg c2, if_neg c2]
            exact ⟨_, rfl, rfl⟩
      · rw [if_neg c1, if_neg c1]
        exact ⟨_, rfl, rfl⟩
  · rw [trainOf_no hB hT, isTrain_no (fun q => hT (by unfold isT at q; rw [rJ _ _ (by omega)] at q; exact q))]
    exact ⟨_, rfl, rfl⟩
