/-! THE ROWS OF THE STOPS -/
theorem placeStops_ok {N c d m : Nat} {ns : Nat → Nat} {st : Nat → Nat → Nat} {p : Nat → Nat} {R : qR} {I : qI} (hN : 300000 ≤ N) (hL : LR R) (w : wf c ns st) (hC : CM c ns st I) (hd : isD c ns st 0 d) (hp : pw c ns st p 0 d 0) (h80 : I 8 0 = nI d) (h9 : ∀ i, i < d → I 9 i = nI (p i)) (hm : m < c) : ok (fX4_placeStops N R I 4 (nI m)) (fun J => (∀ i, i < d → adv ns st (cd c ns st p i) (p i) m = 1 → J 7 (m * 7 + dg (cd c ns st p i) m) = nI i) ∧ (∀ a, a ≠ 7 → J a = I a) ∧ ∀ x, ¬ (m * 7 ≤ x ∧ x < m * 7 + 7) → J 7 x = I 7 x) := by
  have hc6 := w.1
  have h7 := w.2.1 m hm
  have h42 := isD_42 c ns st w (pl_0 c ns) hd
  have hm6 : m < 6 := by omega
  unfold fX4_placeStops
  refine ok_bind (ok_mono (P := fun J => (∀ i, i < d → adv ns st (cd c ns st p i) (p i) m = 1 → J 7 (m * 7 + dg (cd c ns st p i) m) = nI i) ∧ (∀ a, a ≠ 7 → J a = I a) ∧ ∀ x, ¬ (m * 7 ≤ x ∧ x < m * 7 + 7) → J 7 x = I 7 x) ?_ (fun J hJ => ok_some hJ))
  refine ok_for (fun i q => ∃ J, q = (nI (dg (cd c ns st p i) m), nI i, J) ∧ (∀ i2, i2 < i → adv ns st (cd c ns st p i2) (p i2) m = 1 → J 7 (m * 7 + dg (cd c ns st p i2) m) = nI i2) ∧ (∀ a, a ≠ 7 → J a = I a) ∧ ∀ x, ¬ (m * 7 ≤ x ∧ x < m * 7 + 7) → J 7 x = I 7 x) d (by omega) ⟨I, by rw [cd, dg_0, l0], fun i hi => by omega, fun _ _ => rfl, fun _ _ => rfl⟩ (fun i q hi hq => ?_) (fun q hq => ?_)
  · obtain ⟨J, rfl, g1, g2, g3⟩ := hq
    have hpl := (cd_ok w hd hp i (by omega)).1
    have hdg := dg_bh c ns st (p i) w hpl.1 m hm
    have hdle := hpl.2 m hm
    have e1 : J (21 + 5 * m) 1 = nI (ns m) := by rw [g2 _ (by omega)]; exact (hC m hm).1
    have e2 : J 8 0 = nI d := by rw [g2 _ (by omega)]; exact h80
    have e3 : J 9 i = nI (p i) := by rw [g2 _ (by omega)]; exact h9 i hi
    have hp12 := (cd_step w hd hp hi).1
    by_cases hend : dg (cd c ns st p i) m = ns m
    · refine ⟨.inr J, ?_, fun i2 hi2 ha => ?_, g2, g3⟩
      · show cX4_placeStops_4 N R 4 (nI m) (nI (dg (cd c ns st p i) m)) (nI i) J = _
        unfold cX4_placeStops_4
        simp (disch := first | assumption | omega) only [obs, qle, ↓lm1, l0, qn_add, pk_mul, n_le, n_lt, n_eq, n_sM, n_Ms, n_Mlt, n_Mle, n_ltM, n_leM, ↓reduceIte, eq_self, if_pos, if_neg, qx, p0_0, p0_1, p0_2, p0_3, p2_0, p4_0, p4_1, p4_2, p4_3, p4_4, p4_5, p8_1, p8_5, p8_6, p8_7, p14_0, p14_4, p14_5, p18_1, p18_2, p51_4, p51_5, p51_8, p51_9, p51_10, p51_11, p51_12, p51_14, r3, w3, r6, w6, r7, w7, r9, w9, r10, w10, r11, w11, r12, w12, r15, w15, r16, w16, r17, w17, r19, w19, r20, w20, r53, w53, r54, w54, r55, w55, r56, w56, r57, w57, r58, w58, r59, w59, r60, w60, a1, a5, pt2, rt2, wt2, pt3, rt3, wt3, pt4, rt4, wt4, pt5, rt5, wt5, pm2, rm2, wm2, pm3, rm3, wm3, pm4, rm4, wm4, pm5, rm5, wm5, l1, l2, l3, l5, l6, l7, l8, l10, l11, l12, l31, l36, l63, l100, l1000, l1440, l1000000, l16777216, e1, e2]
      · by_cases hlt : i2 < i
        · exact g1 i2 hlt ha
        · have := cd_mono w hd hp hm (i2 - i) i (by omega)
          rw [show i + (i2 - i) = i2 by omega] at this
          have := (adv_1 ha).1
          omega
    · have e4 : J (21 + 5 * m + 1) (dg (cd c ns st p i) m) = nI (st m (dg (cd c ns st p i) m)) := by rw [g2 _ (by omega)]; exact (hC m hm).2 _ (by omega)
      have hs12 := w.2.2 m _ hm (show dg (cd c ns st p i) m < ns m by omega)
      by_cases hs : p i = st m (dg (cd c ns st p i) m)
      · have ha : adv ns st (cd c ns st p i) (p i) m = 1 := by rw [adv, if_pos ⟨by omega, hs.symm⟩]
        have hd1 : dg (cd c ns st p (i + 1)) m = dg (cd c ns st p i) m + 1 := by rw [ha] at hdg; exact hdg
        refine ⟨.inl (nI (dg (cd c ns st p (i + 1)) m), nI (i + 1), qup J 7 (m * 7 + dg (cd c ns st p i) m) (nI i)), ?_, _, rfl, fun i2 hi2 ha2 => ?_, fun a ha2 => by rw [qup_ne _ _ _ ha2]; exact g2 a ha2, fun x hx => by rw [qup_off (by omega)]; exact g3 x hx⟩
        · show cX4_placeStops_4 N R 4 (nI m) (nI (dg (cd c ns st p i) m)) (nI i) J = _
          unfold cX4_placeStops_4
          simp (disch := first | assumption | omega) only [obs, qle, ↓lm1, l0, qn_add, pk_mul, n_le, n_lt, n_eq, n_sM, n_Ms, n_Mlt, n_Mle, n_ltM, n_leM, ↓reduceIte, eq_self, if_pos, if_neg, qx, p0_0, p0_1, p0_2, p0_3, p2_0, p4_0, p4_1, p4_2, p4_3, p4_4, p4_5, p8_1, p8_5, p8_6, p8_7, p14_0, p14_4, p14_5, p18_1, p18_2, p51_4, p51_5, p51_8, p51_9, p51_10, p51_11, p51_12, p51_14, r3, w3, r6, w6, r7, w7, r9, w9, r10, w10, r11, w11, r12, w12, r15, w15, r16, w16, r17, w17, r19, w19, r20, w20, r53, w53, r54, w54, r55, w55, r56, w56, r57, w57, r58, w58, r59, w59, r60, w60, a1, a5, pt2, rt2, wt2, pt3, rt3, wt3, pt4, rt4, wt4, pt5, rt5, wt5, pm2, rm2, wm2, pm3, rm3, wm3, pm4, rm4, wm4, pm5, rm5, wm5, l1, l2, l3, l5, l6, l7, l8, l10, l11, l12, l31, l36, l63, l100, l1000, l1440, l1000000, l16777216, e1, e2, e3, e4, hd1]
        · by_cases e : i2 = i
          · subst e; exact qup_on
          · have x6 := dg_bh c ns st (p i2) w (cd_ok w hd hp i2 (by omega)).1.1 m hm
            have x7 := cd_mono w hd hp hm (i - (i2 + 1)) (i2 + 1) (by omega)
            rw [show i2 + 1 + (i - (i2 + 1)) = i by omega] at x7
            have x8 : dg (cd c ns st p (i2 + 1)) m = dg (cd c ns st p i2) m + 1 := by rw [ha2] at x6; exact x6
            rw [qup_off (by omega)]; exact g1 i2 (by omega) ha2
      · have ha : adv ns st (cd c ns st p i) (p i) m = 0 := by rw [adv, if_neg (fun q => hs q.2.symm)]
        have hd1 : dg (cd c ns st p (i + 1)) m = dg (cd c ns st p i) m := by rw [ha] at hdg; exact hdg
        refine ⟨.inl (nI (dg (cd c ns st p (i + 1)) m), nI (i + 1), J), ?_, _, rfl, fun i2 hi2 ha2 => ?_, g2, g3⟩
        · show cX4_placeStops_4 N R 4 (nI m) (nI (dg (cd c ns st p i) m)) (nI i) J = _
          unfold cX4_placeStops_4
          simp (disch := first | assumption | omega) only [obs, qle, ↓lm1, l0, qn_add, pk_mul, n_le, n_lt, n_eq, n_sM, n_Ms, n_Mlt, n_Mle, n_ltM, n_leM, ↓reduceIte, eq_self, if_pos, if_neg, qx, p0_0, p0_1, p0_2, p0_3, p2_0, p4_0, p4_1, p4_2, p4_3, p4_4, p4_5, p8_1, p8_5, p8_6, p8_7, p14_0, p14_4, p14_5, p18_1, p18_2, p51_4, p51_5, p51_8, p51_9, p51_10, p51_11, p51_12, p51_14, r3, w3, r6, w6, r7, w7, r9, w9, r10, w10, r11, w11, r12, w12, r15, w15, r16, w16, r17, w17, r19, w19, r20, w20, r53, w53, r54, w54, r55, w55, r56, w56, r57, w57, r58, w58, r59, w59, r60, w60, a1, a5, pt2, rt2, wt2, pt3, rt3, wt3, pt4, rt4, wt4, pt5, rt5, wt5, pm2, rm2, wm2, pm3, rm3, wm3, pm4, rm4, wm4, pm5, rm5, wm5, l1, l2, l3, l5, l6, l7, l8, l10, l11, l12, l31, l36, l63, l100, l1000, l1440, l1000000, l16777216, e1, e2, e3, e4, hd1]
        · by_cases e : i2 = i
          · subst e; omega
          · exact g1 i2 (by omega) ha2
  · obtain ⟨J, rfl, g1, g2, g3⟩ := hq
    have e2 : J 8 0 = nI d := by rw [g2 _ (by omega)]; exact h80
    refine ⟨.inr J, ?_, g1, g2, g3⟩
    show cX4_placeStops_4 N R 4 (nI m) (nI (dg (cd c ns st p d) m)) (nI d) J = _
    unfold cX4_placeStops_4
    simp (disch := first | assumption | omega) only [obs, qle, ↓lm1, l0, qn_add, pk_mul, n_le, n_lt, n_eq, n_sM, n_Ms, n_Mlt, n_Mle, n_ltM, n_leM, ↓reduceIte, eq_self, if_pos, if_neg, qx, p0_0, p0_1, p0_2, p0_3, p2_0, p4_0, p4_1, p4_2, p4_3, p4_4, p4_5, p8_1, p8_5, p8_6, p8_7, p14_0, p14_4, p14_5, p18_1, p18_2, p51_4, p51_5, p51_8, p51_9, p51_10, p51_11, p51_12, p51_14, r3, w3, r6, w6, r7, w7, r9, w9, r10, w10, r11, w11, r12, w12, r15, w15, r16, w16, r17, w17, r19, w19, r20, w20, r53, w53, r54, w54, r55, w55, r56, w56, r57, w57, r58, w58, r59, w59, r60, w60, a1, a5, pt2, rt2, wt2, pt3, rt3, wt3, pt4, rt4, wt4, pt5, rt5, wt5, pm2, rm2, wm2, pm3, rm3, wm3, pm4, rm4, wm4, pm5, rm5, wm5, l1, l2, l3, l5, l6, l7, l8, l10, l11, l12, l31, l36, l63, l100, l1000, l1440, l1000000, l16777216, e2]
theorem placeAll_ok {N c d : Nat} {ns : Nat → Nat} {st : Nat → Nat → Nat} {p : Nat → Nat} {R : qR} {I : qI} (hN : 300000 ≤ N) (hL : LR R) (w : wf c ns st) (hC : CM c ns st I) (hd : isD c ns st 0 d) (hp : pw c ns st p 0 d 0) (h80 : I 8 0 = nI d) (h9 : ∀ i, i < d → I 9 i = nI (p i)) (h46 : I 4 6 = nI c) : ok (qloop (fun s => cX4_make_23 N R 4 s.1 s.2) N ((0 : Int32), I)) (fun J => (∀ m, m < c → ∀ i, i < d → adv ns st (cd c ns st p i) (p i) m = 1 → J 7 (m * 7 + dg (cd c ns st p i) m) = nI i) ∧ (∀ a, a ≠ 7 → J a = I a)) := by
  have hc6 := w.1
  refine ok_for (fun m q => ∃ J, q = (nI m, J) ∧ (∀ m2, m2 < m → ∀ i, i < d → adv ns st (cd c ns st p i) (p i) m2 = 1 → J 7 (m2 * 7 + dg (cd c ns st p i) m2) = nI i) ∧ (∀ a, a ≠ 7 → J a = I a)) c (by omega) ⟨I, by rw [l0], fun m hm => by omega, fun _ _ => rfl⟩ (fun m q hm hq => ?_) (fun q hq => ?_)
  · obtain ⟨J, rfl, g1, g2⟩ := hq
    have hCJ : CM c ns st J := hC.congr hc6 (fun a h1 h2 => g2 a (by omega))
    show ok (cX4_make_23 N R 4 (nI m) J) _
    unfold cX4_make_23
    rw [g2 4 (by omega), h46, if_neg (show ¬ nI c ≤ nI m by rw [n_le (by omega) (by omega)]; omega)]
    refine ok_bind (ok_mono (placeStops_ok (N := N) hN hL w hCJ hd hp (by rw [g2 _ (by omega)]; exact h80) (fun i hi => by rw [g2 _ (by omega)]; exact h9 i hi) hm) (fun K hK => ?_))
    obtain ⟨k1, k2, k3⟩ := hK
    rw [nI_1]
    refine ok_some ⟨K, rfl, fun m2 hm2 i hi ha => ?_, fun a ha => (k2 a ha).trans (g2 a ha)⟩
    by_cases e : m2 = m
    · subst e; exact k1 i hi ha
    · have := (adv_1 ha).1
      have := w.2.1 m2 (by omega)
      rw [k3 _ (by omega)]; exact g1 m2 (by omega) i hi ha
  · obtain ⟨J, rfl, g1, g2⟩ := hq
    refine ⟨.inr J, ?_, g1, g2⟩
    show cX4_make_23 N R 4 (nI c) J = _
    unfold cX4_make_23
    rw [g2 4 (by omega), h46]
    simp (disch := first | assumption | omega) only [obs, qle, ↓lm1, l0, qn_add, pk_mul, n_le, n_lt, n_eq, n_sM, n_Ms, n_Mlt, n_Mle, n_ltM, n_leM, ↓reduceIte, eq_self, if_pos, if_neg, qx, p0_0, p0_1, p0_2, p0_3, p2_0, p4_0, p4_1, p4_2, p4_3, p4_4, p4_5, p8_1, p8_5, p8_6, p8_7, p14_0, p14_4, p14_5, p18_1, p18_2, p51_4, p51_5, p51_8, p51_9, p51_10, p51_11, p51_12, p51_14, r3, w3, r6, w6, r7, w7, r9, w9, r10, w10, r11, w11, r12, w12, r15, w15, r16, w16, r17, w17, r19, w19, r20, w20, r53, w53, r54, w54, r55, w55, r56, w56, r57, w57, r58, w58, r59, w59, r60, w60, a1, a5, pt2, rt2, wt2, pt3, rt3, wt3, pt4, rt4, wt4, pt5, rt5, wt5, pm2, rm2, wm2, pm3, rm3, wm3, pm4, rm4, wm4, pm5, rm5, wm5, l1, l2, l3, l5, l6, l7, l8, l10, l11, l12, l31, l36, l63, l100, l1000, l1440, l1000000, l16777216]
/-- each stop has its row -/
theorem rr_at {c d m j : Nat} {ns : Nat → Nat} {st : Nat → Nat → Nat} {p : Nat → Nat} (w : wf c ns st) (hd : isD c ns st 0 d) (hp : pw c ns st p 0 d 0) (hm : m < c) (hj : j < ns m) : ∃ i, i < d ∧ dg (cd c ns st p i) m = j ∧ adv ns st (cd c ns st p i) (p i) m = 1 := by
  obtain ⟨i, hi, hl⟩ := pk_least (fun i => i ≤ d ∧ j < dg (cd c ns st p i) m) ⟨d, Nat.le_refl _, by rw [cd_end w hd hp, en_dg c ns st w hm]; exact hj⟩
  cases i with
  | zero => rw [cd, dg_0] at hi; omega
  | succ i =>
    have h1 := hl i (by omega)
    have h2 := dg_bh c ns st (p i) w (cd_ok w hd hp i (by omega)).1.1 m hm
    have h3 : dg (cd c ns st p (i + 1)) m = dg (cd c ns st p i) m + adv ns st (cd c ns st p i) (p i) m := h2
    have h4 := adv_le ns st (cd c ns st p i) (p i) m
    have h5 : dg (cd c ns st p i) m ≤ j := Classical.byContradiction (fun q => h1 ⟨by omega, by omega⟩)
    exact ⟨i, by omega, by omega, by omega⟩
theorem rr_ex {c d : Nat} {ns : Nat → Nat} {st : Nat → Nat → Nat} {p : Nat → Nat} (w : wf c ns st) (hd : isD c ns st 0 d) (hp : pw c ns st p 0 d 0) : ∃ rr : Nat → Nat → Nat, (∀ m j, m < c → j < ns m → rr m j < d ∧ dg (cd c ns st p (rr m j)) m = j ∧ adv ns st (cd c ns st p (rr m j)) (p (rr m j)) m = 1) ∧ ∀ m j k, m < c → k < ns m → j < k → rr m j < rr m k := by
  obtain ⟨f, hf⟩ := Classical.axiomOfChoice (r := fun (x : Nat × Nat) (i : Nat) => x.1 < c → x.2 < ns x.1 → i < d ∧ dg (cd c ns st p i) x.1 = x.2 ∧ adv ns st (cd c ns st p i) (p i) x.1 = 1) (fun x => by
    by_cases h : x.1 < c ∧ x.2 < ns x.1
    · obtain ⟨i, hi⟩ := rr_at w hd hp h.1 h.2
      exact ⟨i, fun _ _ => hi⟩
    · exact ⟨0, fun h1 h2 => absurd ⟨h1, h2⟩ h⟩)
  refine ⟨fun m j => f (m, j), fun m j hm hj => hf (m, j) hm hj, fun m j k hm hk hjk => ?_⟩
  obtain ⟨a1, a2, a3⟩ := hf (m, j) hm (by show j < ns m; omega)
  obtain ⟨b1, b2, b3⟩ := hf (m, k) hm hk
  apply Classical.byContradiction
  intro q
  replace q : ¬ f (m, j) < f (m, k) := q
  have := cd_mono w hd hp hm (f (m, j) - f (m, k)) (f (m, k)) (by omega)
  rw [show f (m, k) + (f (m, j) - f (m, k)) = f (m, j) by omega] at this
  simp only at a2 b2
  omega
theorem pw_ex {c : Nat} {ns : Nat → Nat} {st : Nat → Nat → Nat} (w : wf c ns st) : ∀ n pos code, pl c ns code → isD c ns st code n → ∃ p, pw c ns st p pos n code := by
  intro n
  induction n with
  | zero => intro pos code _ h; exact ⟨fun _ => 0, h.1⟩
  | succ n ih =>
    intro pos code hp h
    have hne : code ≠ enc ns c := fun e => by have := h.2 0 e; omega
    rcases h.1 with q | ⟨s0, h1, h2, h3⟩
    · exact absurd q hne
    · obtain ⟨s, hs, hl⟩ := pk_least (fun s => s < 12 ∧ bh ns st code s c ≠ code ∧ rch c ns st n (bh ns st code s c)) ⟨s0, h1, h2, h3⟩
      obtain ⟨p, hpw⟩ := ih (pos + 1) _ (pl_bh c ns st s w hp) (isD_step c ns st w hp h hs.1 hs.2.1 hs.2.2)
      refine ⟨fun i => if i = pos then s else p i, Or.inr ?_⟩
      show (if pos = pos then s else p pos) < 12 ∧ _
      simp only [if_pos]
      refine ⟨hs.1, hs.2.1, hs.2.2, fun s2 hs2 hb hr => hl s2 hs2 ⟨by omega, hb, hr⟩, ?_⟩
      exact pw_congr c ns st n _ _ (fun i h4 h5 => by rw [if_neg (by omega)]) hpw
