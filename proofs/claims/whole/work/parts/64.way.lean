/-! WAY: both sides -/
section WAY
variable {n : Nat} {NS : Nat → Nat} {ST CT GT : Nat → Nat → Nat} {D : Nat → Nat} {W F day T v M N : Nat} {R : qR}
theorem finds_in {I : qI} (hF : F < 12) (hT : T < 12) (hTF : T ≠ F) (hd : day < 7) (hM : M < 1440) : fX8_finds N R I 111 (nI F) (nI T) (nI day) (nI M) = ((fX8_soonest N R I 111 (nI F) (nI T) (nI day) (nI M)).bind fun y10 => qlet (qup y10.2 111 26 y10.1) fun I11 => if (I11 111 26) = nM then (some (nI 0, I11)) else ((fX8_findRest N R I11 111 (nI T) (nI day)).bind fun y13 => qlet (qup y13 111 25 (nI 1)) fun I14 => (qloop (fun s => cX8_finds_76 N R 111 (nI F) (nI T) (nI day) (nI M) s) N I14).bind fun o18 => (qloop (fun s => cX8_finds_111 N R 111 (nI F) (nI T) (nI day) (nI M) s.1 s.2) N (nI 0, o18)).bind fun o33 => (qloop (fun s => cX8_finds_196 N R 111 (nI F) (nI T) (nI M) s.1 s.2.1 s.2.2) N (nM, nI 0, o33)).bind fun o57 => some (nI 1, o57))) := by
  have e1 : fX8_isStation R I 111 (nI F) = some (nI 1) := by unfold fX8_isStation; simp (disch := first | assumption | omega) only [obs, qle, ↓lm1, l0, qn_add, pk_mul, n_le, n_lt, n_eq, n_sM, n_Ms, n_Mlt, n_Mle, n_ltM, n_leM, ↓reduceIte, eq_self, if_pos, if_neg, qx, p111_3, p111_4, p111_5, p111_6, p111_7, p111_8, p111_11, p111_12, p111_13, p111_14, p111_15, p111_16, p111_17, p111_18, p111_19, p111_21, p111_22, p111_23, p111_24, p111_27, p111_28, p111_29, p111_30, p111_31, p111_32, p111_34, r112, w112, r113, w113, r114, w114, r115, w115, r116, w116, r117, w117, r118, w118, r119, w119, r120, w120, r121, w121, r122, w122, r123, w123, r124, w124, r125, w125, r126, w126, r127, w127, r128, w128, r129, w129, r130, w130, r131, w131, r132, w132, r133, w133, r134, w134, r135, w135, r136, w136, r137, w137, l1, l2, l3, l5, l6, l7, l8, l10, l11, l12, l31, l36, l63, l100, l1000, l1440, l1000000, l16777216]
  have e2 : fX8_isStation R I 111 (nI T) = some (nI 1) := by unfold fX8_isStation; simp (disch := first | assumption | omega) only [obs, qle, ↓lm1, l0, qn_add, pk_mul, n_le, n_lt, n_eq, n_sM, n_Ms, n_Mlt, n_Mle, n_ltM, n_leM, ↓reduceIte, eq_self, if_pos, if_neg, qx, p111_3, p111_4, p111_5, p111_6, p111_7, p111_8, p111_11, p111_12, p111_13, p111_14, p111_15, p111_16, p111_17, p111_18, p111_19, p111_21, p111_22, p111_23, p111_24, p111_27, p111_28, p111_29, p111_30, p111_31, p111_32, p111_34, r112, w112, r113, w113, r114, w114, r115, w115, r116, w116, r117, w117, r118, w118, r119, w119, r120, w120, r121, w121, r122, w122, r123, w123, r124, w124, r125, w125, r126, w126, r127, w127, r128, w128, r129, w129, r130, w130, r131, w131, r132, w132, r133, w133, r134, w134, r135, w135, r136, w136, r137, w137, l1, l2, l3, l5, l6, l7, l8, l10, l11, l12, l31, l36, l63, l100, l1000, l1440, l1000000, l16777216]
  have e3 : fX8_isMinute R I 111 (nI M) = some (nI 1) := by unfold fX8_isMinute; simp (disch := first | assumption | omega) only [obs, qle, ↓lm1, l0, qn_add, pk_mul, n_le, n_lt, n_eq, n_sM, n_Ms, n_Mlt, n_Mle, n_ltM, n_leM, ↓reduceIte, eq_self, if_pos, if_neg, qx, p111_3, p111_4, p111_5, p111_6, p111_7, p111_8, p111_11, p111_12, p111_13, p111_14, p111_15, p111_16, p111_17, p111_18, p111_19, p111_21, p111_22, p111_23, p111_24, p111_27, p111_28, p111_29, p111_30, p111_31, p111_32, p111_34, r112, w112, r113, w113, r114, w114, r115, w115, r116, w116, r117, w117, r118, w118, r119, w119, r120, w120, r121, w121, r122, w122, r123, w123, r124, w124, r125, w125, r126, w126, r127, w127, r128, w128, r129, w129, r130, w130, r131, w131, r132, w132, r133, w133, r134, w134, r135, w135, r136, w136, r137, w137, l1, l2, l3, l5, l6, l7, l8, l10, l11, l12, l31, l36, l63, l100, l1000, l1440, l1000000, l16777216]
  unfold fX8_finds
  rw [e1, obs, if_neg (show ¬ nI 1 = 0 by decide), e2, obs, if_neg (show ¬ nI 1 = 0 by decide), if_neg (show ¬ nI F = nI T by rw [n_eq (by omega) (by omega)]; omega), if_neg (show ¬ nI day < 0 by rw [l0, n_lt (by omega) (by omega)]; omega), if_neg (show ¬ (6 : Int32) < nI day by rw [l6, n_lt (by omega) (by omega)]; omega), e3, obs, if_neg (show ¬ nI 1 = 0 by decide), lm1, l0, l1]
theorem finds_no {I : qI} (hN : 300000 ≤ N) (hL : LR R) (w : wb n NS ST CT GT (rD n day D) W F) (hF : FR I n NS ST CT GT D W day) (hT : T < 12) (hTF : T ≠ F) (hM : M < 1440) (hno : SNo NS ST CT GT (rD n day D) W F M T) : ok (fX8_finds N R I 111 (nI F) (nI T) (nI day) (nI M)) (fun y => y.1 = nI 0 ∧ (∀ a, a ≠ 111 → a ≠ 129 → y.2 a = I a) ∧ ∀ j, j ≠ 26 → y.2 111 j = I 111 j) := by
  rw [finds_in w.2.2.1 hT hTF hF.2.2.1 hM]
  refine ok_bind (ok_mono (soonest8_ok (N := N) (R := R) hN hL w hF (by omega) hT) (fun y hy => ?_))
  obtain ⟨y1, J⟩ := y
  obtain ⟨k1, k2⟩ := hy
  simp only at k1 k2 ⊢
  refine ok_let ?_
  rw [qup_on]
  rcases k1 with ⟨_, q⟩ | ⟨v, ⟨⟨t, j, h1, h2, _⟩, _⟩, _⟩
  · rw [if_pos q]
    exact ok_some ⟨rfl, fun a h1 h2 => by show qup J 111 26 y1 a = _; rw [qup_ne _ _ _ h1, k2 a h2], fun j hj => by show qup J 111 26 y1 111 j = _; rw [qup_off (by omega), k2 111 (by omega)]⟩
  · exact absurd h2 (hno t j h1)
theorem finds_yes {I : qI} {L : Nat} {tr b B lv : Nat → Nat} (hN : 300000 ≤ N) (hL : LR R) (w : wb n NS ST CT GT (rD n day D) W F) (hF : FR I n NS ST CT GT D W day) (hT : T < 12) (hTF : T ≠ F) (hM : M < 1440) (hsn : SN NS ST CT GT (rD n day D) W F M T v) (hL0 : 0 < L) (hLn : L ≤ n) (hno : ∀ k, k < L - 1 → ∀ t, ¬ ft NS ST CT GT (rD n day D) W F T v M k t) (hc : chs NS ST CT GT (rD n day D) W F T v M L tr b L) (hB : B 0 = b 0) (hw : wy NS ST CT GT W T v L tr B lv) (htr : ∀ m, m < L → tr m < n) : ok (fX8_finds N R I 111 (nI F) (nI T) (nI day) (nI M)) (fun y => y.1 = nI 1 ∧ y.2 111 26 = nI v ∧ y.2 111 25 = nI L ∧ (∀ m, m < L → y.2 131 m = nI (tr m) ∧ y.2 132 m = nI (7 * tr m + B m) ∧ y.2 133 m = nI (7 * tr m + lv m)) ∧ (∀ a, (a < 111 ∨ 111 < a ∧ a < 129 ∨ 138 ≤ a) → y.2 a = I a) ∧ ∀ j, j ≠ 25 → j ≠ 26 → y.2 111 j = I 111 j) := by
  have hn10 := w.1
  have hv2 := sn_lt w hsn
  obtain ⟨c1, _, _, _⟩ := hc 0 hL0
  obtain ⟨d1, d2, d3, d4, d5⟩ := c1 rfl
  rw [finds_in w.2.2.1 hT hTF hF.2.2.1 hM]
  refine ok_bind (ok_mono (soonest8_ok (N := N) (R := R) hN hL w hF (by omega) hT) (fun y hy => ?_))
  obtain ⟨y1, J⟩ := y
  obtain ⟨k1, k2⟩ := hy
  simp only at k1 k2 ⊢
  refine ok_let ?_
  have hy1 : y1 = nI v := by
    rcases k1 with ⟨q, _⟩ | ⟨v', q1, q2⟩
    · obtain ⟨⟨t, j, h1, h2, _⟩, _⟩ := hsn
      exact absurd h2 (q t j h1)
    · have : v' = v := by rw [← sv_sn q1, sv_sn hsn]
      rw [q2, this]
  rw [qup_on, if_neg (show ¬ y1 = nM by rw [hy1, n_sM (by omega)]; exact fun q => q), hy1]
  generalize hJ0 : qup J 111 26 (nI v) = J0
  have r0 : ∀ a, a ≠ 111 → a ≠ 129 → J0 a = I a := fun a h1 h2 => by rw [← hJ0, qup_ne _ _ _ h1, k2 a h2]
  have r1 : ∀ j, j ≠ 26 → J0 111 j = I 111 j := fun j hj => by rw [← hJ0, qup_off (by omega), k2 111 (by omega)]
  have r26 : J0 111 26 = nI v := by rw [← hJ0]; exact qup_on
  have hF0 : FR J0 n NS ST CT GT D W day := hF.congr (fun a ha => r0 a (by omega) (by omega)) (r1 1 (by omega)) (r1 2 (by omega))
  refine ok_bind (ok_mono (findRest_ok (N := N) (R := R) hN hL w hF0 r26 hv2 hT) (fun J1 hJ1 => ?_))
  obtain ⟨a1, a2⟩ := hJ1
  refine ok_let ?_
  generalize hJ2 : qup J1 111 25 (nI 1) = J2
  have s0 : ∀ a, a ≠ 111 → a ≠ 130 → J2 a = J0 a := fun a h1 h2 => by rw [← hJ2, qup_ne _ _ _ h1, a2 a h2]
  have s1 : ∀ j, j ≠ 25 → J2 111 j = J0 111 j := fun j hj => by rw [← hJ2, qup_off (by omega), a2 111 (by omega)]
  have s25 : J2 111 25 = nI 1 := by rw [← hJ2]; exact qup_on
  have hF2 : FR J2 n NS ST CT GT D W day := hF0.congr (fun a ha => s0 a (by omega) (by omega)) (s1 1 (by omega)) (s1 2 (by omega))
  have hG2 : GO n NS ST CT GT D W day T v 11 J2 := fun k t j h1 h2 h3 => by rw [← hJ2, qup_off (by omega)]; exact a1 k t j h1 h2 h3
  obtain ⟨kq, rfl⟩ : ∃ kq, L = kq + 1 := ⟨L - 1, by omega⟩
  rw [Nat.add_sub_cancel] at hno d1
  refine ok_bind (ok_mono (legs76 (N := N) (R := R) hN hL w hF2 hG2 s25 (by omega) (by omega) ⟨_, d1⟩ hno) (fun J3 hJ3 => ?_))
  obtain ⟨b1, b2, b3⟩ := hJ3
  have hF3 : FR J3 n NS ST CT GT D W day := hF2.congr (fun a ha => b2 a (by omega) (by omega)) (b3 1 (by omega)) (b3 2 (by omega))
  have hG3 : GO n NS ST CT GT D W day T v 11 J3 := fun k t j h1 h2 h3 => by rw [b2 130 (by omega) (by omega)]; exact hG2 k t j h1 h2 h3
  refine ok_bind (ok_mono (trains111 (N := N) (R := R) hN hL w hF3 hG3 b1 hL0 (by omega) (by omega) hc htr) (fun J4 hJ4 => ?_))
  obtain ⟨e1, e2⟩ := hJ4
  have hF4 : FR J4 n NS ST CT GT D W day := hF3.congr (fun a ha => e2 a (by omega) (by omega) (by omega)) (by rw [e2 111 (by omega) (by omega) (by omega)]) (by rw [e2 111 (by omega) (by omega) (by omega)])
  have h26 : J4 111 26 = nI v := by rw [e2 111 (by omega) (by omega) (by omega), b3 26 (by omega), s1 26 (by omega)]; exact r26
  refine ok_bind (ok_mono (stations196 (N := N) (R := R) hN hL w hF4 h26 hv2 hT (by rw [e2 111 (by omega) (by omega) (by omega)]; exact b1) (by omega) (by omega) (fun m hm => ⟨e1 m hm, htr m hm⟩) hw (fun _ => by rw [hB]; exact ⟨d4, d5⟩)) (fun J5 hJ5 => ?_))
  obtain ⟨f1, f2⟩ := hJ5
  refine ok_some ⟨rfl, ?_, ?_, fun m hm => ⟨?_, f1 m hm⟩, fun a ha => ?_, fun j h1 h2 => ?_⟩
  · show J5 111 26 = _
    rw [f2 111 (by omega) (by omega) (by omega) (by omega)]; exact h26
  · show J5 111 25 = _
    rw [f2 111 (by omega) (by omega) (by omega) (by omega), e2 111 (by omega) (by omega) (by omega)]; exact b1
  · show J5 131 m = _
    rw [f2 131 (by omega) (by omega) (by omega) (by omega)]; exact e1 m hm
  · show J5 a = _
    rw [f2 a (by omega) (by omega) (by omega) (by omega), e2 a (by omega) (by omega) (by omega), b2 a (by omega) (by omega), s0 a (by omega) (by omega), r0 a (by omega) (by omega)]
  · show J5 111 j = _
    rw [f2 111 (by omega) (by omega) (by omega) (by omega), e2 111 (by omega) (by omega) (by omega), b3 j h1, s1 j h1, r1 j h2]
end WAY
theorem finds_bad {N : Nat} {R : qR} {I : qI} {x y z m : Int32} (h : ¬ (((0 ≤ x.toInt ∧ x.toInt < 12) ∧ (0 ≤ y.toInt ∧ y.toInt < 12) ∧ x.toInt ≠ y.toInt ∧ 0 ≤ z.toInt ∧ z.toInt < 7) ∧ 0 ≤ m.toInt ∧ m.toInt < 1440)) : fX8_finds N R I 111 x y z m = some (0, I) := by
  have em : fX8_isMinute R I 111 m = some (if 0 ≤ m.toInt ∧ m.toInt < 1440 then 1 else 0) := by
    unfold fX8_isMinute
    simp only [ilt, ile, i0, i1440]
    by_cases c1 : m.toInt < 0
    · rw [if_pos c1, if_neg (by omega)]
    · rw [if_neg c1]
      by_cases c2 : (1440 : Int) ≤ m.toInt
      · rw [if_pos c2, if_neg (by omega)]
      · rw [if_neg c2, if_pos (by omega)]
  unfold fX8_finds
  rw [isSt8_eq, isSt8_eq, em]
  simp only [obs]
  by_cases c1 : 0 ≤ x.toInt ∧ x.toInt < 12
  · rw [if_pos c1, if_neg (show ¬ (1 : Int32) = 0 by decide)]
    by_cases c2 : 0 ≤ y.toInt ∧ y.toInt < 12
    · rw [if_pos c2, if_neg (show ¬ (1 : Int32) = 0 by decide)]
      by_cases c3 : x = y
      · rw [if_pos c3]
      · rw [if_neg c3]
        by_cases c4 : z < 0
        · rw [if_pos c4]
        · rw [if_neg c4]
          by_cases c5 : (6 : Int32) < z
          · rw [if_pos c5]
          · rw [if_neg c5]
            rw [ieq] at c3
            rw [ilt, i0] at c4
            rw [ilt, i6] at c5
            rw [if_neg (show ¬ (0 ≤ m.toInt ∧ m.toInt < 1440) from fun q => h ⟨⟨c1, c2, c3, by omega, by omega⟩, q⟩), if_pos rfl]
    · rw [if_neg c2, if_pos rfl]
  · rw [if_neg c1, if_pos rfl]
/-- what is asked of a way -/
theorem way_read {n : Nat} {NS : Nat → Nat} {ST CT GT : Nat → Nat → Nat} {D : Nat → Nat} {W F day T v L : Nat} {R : qR} {J K : qI} {tr B lv : Nat → Nat} (hL : LR R) (w : wb n NS ST CT GT (rD n day D) W F) (hF : FPx R J n NS ST CT GT D W day) (hKJ : ∀ a, 111 < a → a < 117 → K a = J a) (hL0 : 0 < L) (hLn : L ≤ n) (hw : wy NS ST CT GT W T v L tr B lv) (j6 : J 51 6 = nI v) (j7 : J 51 7 = nI L) (hj : ∀ m, m < L → tr m < n ∧ J 55 m = nI (tr m) ∧ J 57 m = nI (B m) ∧ J 58 m = nI (lv m)) (k26 : K 111 26 = nI v) (k25 : K 111 25 = nI L) (hk : ∀ m, m < L → K 131 m = nI (tr m) ∧ K 132 m = nI (7 * tr m + B m) ∧ K 133 m = nI (7 * tr m + lv m)) (x : Int32) : ∃ r, fX6_read R J 51 x = some r ∧ (if 0 ≤ x then
      (if x = 0 then
        (some ((K 111 26), K))
      else
        (if x = (1 : Int32) then
          (some ((K 111 25), K))
        else
          (if x = (2 : Int32) then
            ((R.1 111 7).bind fun r33 =>
            (R.1 111 28).bind fun r34 =>
            (qrd K R r34 (0 : Int32)).bind fun x35 =>
            (qrd K R r33 x35).bind fun x36 =>
            some (x36, K))
          else
            (if ((x / (10 : Int32)) - (1 : Int32)) < 0 then
              (some ((-1 : Int32), K))
            else
              (if (K 111 25) ≤ ((x / (10 : Int32)) - (1 : Int32)) then
                (some ((-1 : Int32), K))
              else
                (if (x - x / (10 : Int32) * (10 : Int32)) ≤ (4 : Int32) then
                  (if (x - x / (10 : Int32) * (10 : Int32)) = 0 then
                    ((R.1 111 27).bind fun r31 =>
                    (qrd K R r31 ((x / (10 : Int32)) - (1 : Int32))).bind fun x32 =>
                    some (x32, K))
                  else
                    (if (x - x / (10 : Int32) * (10 : Int32)) = (1 : Int32) then
                      ((R.1 111 5).bind fun r27 =>
                      (R.1 111 28).bind fun r28 =>
                      (qrd K R r28 ((x / (10 : Int32)) - (1 : Int32))).bind fun x29 =>
                      (qrd K R r27 x29).bind fun x30 =>
                      some (x30, K))
                    else
                      (if (x - x / (10 : Int32) * (10 : Int32)) = (2 : Int32) then
                        ((R.1 111 5).bind fun r23 =>
                        (R.1 111 29).bind fun r24 =>
                        (qrd K R r24 ((x / (10 : Int32)) - (1 : Int32))).bind fun x25 =>
                        (qrd K R r23 x25).bind fun x26 =>
                        some (x26, K))
                      else
                        (if (x - x / (10 : Int32) * (10 : Int32)) = (3 : Int32) then
                          ((R.1 111 7).bind fun r19 =>
                          (R.1 111 28).bind fun r20 =>
                          (qrd K R r20 ((x / (10 : Int32)) - (1 : Int32))).bind fun x21 =>
                          (qrd K R r19 x21).bind fun x22 =>
                          some (x22, K))
                        else
                          ((R.1 111 6).bind fun r15 =>
                          (R.1 111 29).bind fun r16 =>
                          (qrd K R r16 ((x / (10 : Int32)) - (1 : Int32))).bind fun x17 =>
                          (qrd K R r15 x17).bind fun x18 =>
                          some (x18, K))))))
                else
                  (some ((-1 : Int32), K))))))))
    else
      (some ((-1 : Int32), K))) = some (r, K) := by
  have hn10 := w.1
  obtain ⟨p0, p1, p2, p3, p4, p5, p6⟩ := id hF
  have l4 : (4 : Int32) = nI 4 := by decide
  -- what a leg holds, on both sides
  have leg : ∀ i, i < L → tr i < 10 ∧ (B i < NS (tr i) ∧ lv i < NS (tr i) ∧ NS (tr i) ≤ 7) ∧ (K 114 (7 * tr i + B i) = nI (ST (tr i) (B i)) ∧ J (61 + 5 * tr i + 1) (B i) = nI (ST (tr i) (B i))) ∧ (K 114 (7 * tr i + lv i) = nI (ST (tr i) (lv i)) ∧ J (61 + 5 * tr i + 1) (lv i) = nI (ST (tr i) (lv i))) ∧ (K 116 (7 * tr i + B i) = nI (GT (tr i) (B i)) ∧ J (61 + 5 * tr i + 3) (B i) = nI (GT (tr i) (B i))) ∧ (K 115 (7 * tr i + lv i) = nI (CT (tr i) (lv i)) ∧ J (61 + 5 * tr i + 2) (lv i) = nI (CT (tr i) (lv i))) := fun i hi => by
    have ht := (hj i hi).1
    obtain ⟨w1, ⟨⟨w2, w3⟩, _⟩, _⟩ := hw i hi
    have w4 := (rgo_ok NS ST CT GT W T v w3).2
    obtain ⟨z1, z2, z3, z4, z5, z6⟩ := p5 (tr i) (by omega)
    obtain ⟨a1, a2, a3, a4, a5, a6⟩ := z4 (B i) w1
    obtain ⟨b1, b2, b3, b4, b5, b6⟩ := z4 (lv i) w4
    rw [hKJ 114 (by omega) (by omega), hKJ 115 (by omega) (by omega), hKJ 116 (by omega) (by omega)]
    exact ⟨by omega, ⟨w1, w4, z1⟩, ⟨a1.1, a1.2.1⟩, ⟨b1.1, b1.2.1⟩, ⟨a3.1, a3.2⟩, b2.1, b2.2⟩
  by_cases hneg : x.toInt < 0
  · refine ⟨-1, ?_, ?_⟩
    · unfold fX6_read
      have hdiv : (x / (10 : Int32)).toInt = x.toInt.tdiv 10 := by rw [Int32.toInt_div_of_ne_right _ _ (by decide), i10]
      have hr := irng x
      have hle : -2147483648 ≤ x.toInt.tdiv 10 ∧ x.toInt.tdiv 10 ≤ 0 := by
        have e : x.toInt.tdiv 10 = -((-x.toInt).tdiv 10) := by rw [Int.neg_tdiv, Int.neg_neg]
        rw [e, Int.tdiv_eq_ediv_of_nonneg (by omega)]
        omega
      have hd1 : (x / (10 : Int32) - 1).toInt < 0 ∨ (x / (10 : Int32) - 1).toInt = 2147483647 := by
        by_cases hm : x.toInt.tdiv 10 = -2147483648
        · exfalso
          have e : x.toInt.tdiv 10 = -((-x.toInt).tdiv 10) := by rw [Int.neg_tdiv, Int.neg_neg]
          rw [e, Int.tdiv_eq_ediv_of_nonneg (by omega)] at hm
          omega
        · left
          rw [isu (by rw [hdiv, i1]; omega) (by rw [hdiv, i1]; omega), hdiv, i1]
          omega
      have hlt : (x / (10 : Int32) - 1).toInt < 0 := by
        rcases hd1 with h | h
        · exact h
        · exfalso
          rw [isu (by rw [hdiv, i1]; have : x.toInt.tdiv 10 = -((-x.toInt).tdiv 10) := by { rw [Int.neg_tdiv, Int.neg_neg] }; rw [this, Int.tdiv_eq_ediv_of_nonneg (by omega)]; omega) (by rw [hdiv, i1]; omega), hdiv, i1] at h
          omega
      rw [if_neg (show ¬ x = 0 by rw [ieq, i0]; omega), if_neg (show ¬ x = 1 by rw [ieq, i1]; omega), if_neg (show ¬ x = 2 by rw [ieq, show (2 : Int32).toInt = 2 from by decide]; omega), if_pos (show x / (10 : Int32) - 1 < 0 by rw [ilt, i0]; exact hlt)]
    · rw [if_neg (show ¬ 0 ≤ x by rw [ile, i0]; omega)]
  · obtain ⟨X, hX⟩ : ∃ X, x.toInt.toNat = X := ⟨_, rfl⟩
    have hxX : x = nI X := by rw [← hX]; exact nI_tn (by omega)
    have hXb : X < 2147483648 := by have := (irng x).2; omega
    subst hxX
    rw [if_pos (show 0 ≤ nI X by rw [l0, n_le (by omega) (by omega)]; omega)]
    unfold fX6_read
    by_cases x0 : X = 0
    · subst x0
      rw [if_pos (show nI 0 = 0 by decide), if_pos (show nI 0 = 0 by decide), j6, k26]
      exact ⟨_, rfl, rfl⟩
    · rw [if_neg (show ¬ nI X = 0 by rw [l0, n_eq (by omega) (by omega)]; exact x0), if_neg (show ¬ nI X = 0 by rw [l0, n_eq (by omega) (by omega)]; exact x0)]
      by_cases x1 : X = 1
      · subst x1
        rw [if_pos (show nI 1 = 1 by decide), if_pos (show nI 1 = 1 by decide), j7, k25]
        exact ⟨_, rfl, rfl⟩
      · rw [if_neg (show ¬ nI X = 1 by rw [l1, n_eq (by omega) (by omega)]; exact x1), if_neg (show ¬ nI X = 1 by rw [l1, n_eq (by omega) (by omega)]; exact x1)]
        by_cases x2 : X = 2
        · subst x2
          rw [if_pos (show nI 2 = 2 by decide), if_pos (show nI 2 = 2 by decide)]
          obtain ⟨t10, ⟨bB1, bl, b7⟩, _, _, ⟨e1, e2⟩, _⟩ := leg 0 hL0
          obtain ⟨_, g1, g2, g3⟩ := hj 0 hL0
          obtain ⟨_, h2, _⟩ := hk 0 hL0
          refine ⟨nI (GT (tr 0) (B 0)), ?_, ?_⟩
          · unfold fX6_readLeg
            simp (disch := first | assumption | omega) only [obs, qle, ↓lm1, l0, qn_add, pk_mul, n_le, n_lt, n_eq, n_sM, n_Ms, n_Mlt, n_Mle, n_ltM, n_leM, ↓reduceIte, eq_self, if_pos, if_neg, qx, p0_0, p0_1, p0_2, p0_3, p2_0, p4_0, p4_1, p4_2, p4_3, p4_4, p4_5, p8_1, p8_5, p8_6, p8_7, p14_0, p14_4, p14_5, p18_1, p18_2, p51_4, p51_5, p51_8, p51_9, p51_10, p51_11, p51_12, p51_14, r3, w3, r6, w6, r7, w7, r9, w9, r10, w10, r11, w11, r12, w12, r15, w15, r16, w16, r17, w17, r19, w19, r20, w20, r53, w53, r54, w54, r55, w55, r56, w56, r57, w57, r58, w58, r59, w59, r60, w60, a1, a5, pt2, rt2, wt2, pt3, rt3, wt3, pt4, rt4, wt4, pt5, rt5, wt5, pm2, rm2, wm2, pm3, rm3, wm3, pm4, rm4, wm4, pm5, rm5, wm5, l1, l2, l3, l5, l6, l7, l8, l10, l11, l12, l31, l36, l63, l100, l1000, l1440, l1000000, l16777216, p0, g1, g2, e2]
          · simp (disch := first | assumption | omega) only [obs, qle, ↓lm1, l0, qn_add, pk_mul, n_le, n_lt, n_eq, n_sM, n_Ms, n_Mlt, n_Mle, n_ltM, n_leM, ↓reduceIte, eq_self, if_pos, if_neg, qx, p111_3, p111_4, p111_5, p111_6, p111_7, p111_8, p111_11, p111_12, p111_13, p111_14, p111_15, p111_16, p111_17, p111_18, p111_19, p111_21, p111_22, p111_23, p111_24, p111_27, p111_28, p111_29, p111_30, p111_31, p111_32, p111_34, r112, w112, r113, w113, r114, w114, r115, w115, r116, w116, r117, w117, r118, w118, r119, w119, r120, w120, r121, w121, r122, w122, r123, w123, r124, w124, r125, w125, r126, w126, r127, w127, r128, w128, r129, w129, r130, w130, r131, w131, r132, w132, r133, w133, r134, w134, r135, w135, r136, w136, r137, w137, l1, l2, l3, l5, l6, l7, l8, l10, l11, l12, l31, l36, l63, l100, l1000, l1440, l1000000, l16777216, h2, e1]
        · rw [if_neg (show ¬ nI X = 2 by rw [l2, n_eq (by omega) (by omega)]; exact x2), if_neg (show ¬ nI X = 2 by rw [l2, n_eq (by omega) (by omega)]; exact x2)]
          have ed : nI X / (10 : Int32) = nI (X / 10) := by rw [l10]; exact pk_div (by omega) (by omega) (by omega)
          have er : nI X - nI (X / 10) * (10 : Int32) = nI (X % 10) := by rw [← ed, l10]; exact pk_rem (by omega) (by omega) (by omega)
          rw [ed, er, l1, nP_sub]
          by_cases q0 : X / 10 = 0
          · rw [q0, if_pos (show nP 0 < 0 by decide), if_pos (show nP 0 < 0 by decide)]
            exact ⟨_, rfl, rfl⟩
          · obtain ⟨i, hi⟩ : ∃ i, X / 10 = i + 1 := ⟨X / 10 - 1, by omega⟩
            have hX10 := Nat.div_le_self X 10
            rw [hi, show nP (i + 1) = nI i from rfl, if_neg (show ¬ nI i < 0 by rw [l0, n_lt (by omega) (by omega)]; omega), if_neg (show ¬ nI i < 0 by rw [l0, n_lt (by omega) (by omega)]; omega), j7, k25]
            by_cases hiL : L ≤ i
            · rw [if_pos (show nI L ≤ nI i by rw [n_le (by omega) (by omega)]; exact hiL), if_pos (show nI L ≤ nI i by rw [n_le (by omega) (by omega)]; exact hiL)]
              exact ⟨_, rfl, rfl⟩
            · rw [if_neg (show ¬ nI L ≤ nI i by rw [n_le (by omega) (by omega)]; exact hiL), if_neg (show ¬ nI L ≤ nI i by rw [n_le (by omega) (by omega)]; exact hiL)]
              obtain ⟨t10, ⟨bB1, bl, b7⟩, ⟨c1, c2⟩, ⟨d1, d2⟩, ⟨e1, e2⟩, f1, f2⟩ := leg i (by omega)
              obtain ⟨_, g1, g2, g3⟩ := hj i (by omega)
              obtain ⟨h1, h2, h3⟩ := hk i (by omega)
              obtain ⟨k, hk2⟩ : ∃ k, X % 10 = k := ⟨_, rfl⟩
              have hk10 : k < 10 := by omega
              rw [hk2, l4]
              by_cases hk4 : k ≤ 4
              · rw [if_pos (show nI k ≤ nI 4 by rw [n_le (by omega) (by omega)]; exact hk4)]
                rcases (by omega : k = 0 ∨ k = 1 ∨ k = 2 ∨ k = 3 ∨ k = 4) with rfl | rfl | rfl | rfl | rfl
                · refine ⟨nI (tr i), ?_, ?_⟩
                  · unfold fX6_readLeg
                    simp (disch := first | assumption | omega) only [obs, qle, ↓lm1, l0, qn_add, pk_mul, n_le, n_lt, n_eq, n_sM, n_Ms, n_Mlt, n_Mle, n_ltM, n_leM, ↓reduceIte, eq_self, if_pos, if_neg, qx, p0_0, p0_1, p0_2, p0_3, p2_0, p4_0, p4_1, p4_2, p4_3, p4_4, p4_5, p8_1, p8_5, p8_6, p8_7, p14_0, p14_4, p14_5, p18_1, p18_2, p51_4, p51_5, p51_8, p51_9, p51_10, p51_11, p51_12, p51_14, r3, w3, r6, w6, r7, w7, r9, w9, r10, w10, r11, w11, r12, w12, r15, w15, r16, w16, r17, w17, r19, w19, r20, w20, r53, w53, r54, w54, r55, w55, r56, w56, r57, w57, r58, w58, r59, w59, r60, w60, a1, a5, pt2, rt2, wt2, pt3, rt3, wt3, pt4, rt4, wt4, pt5, rt5, wt5, pm2, rm2, wm2, pm3, rm3, wm3, pm4, rm4, wm4, pm5, rm5, wm5, l1, l2, l3, l5, l6, l7, l8, l10, l11, l12, l31, l36, l63, l100, l1000, l1440, l1000000, l16777216, p0, g1, g2, g3]
                  · simp (disch := first | assumption | omega) only [obs, qle, ↓lm1, l0, qn_add, pk_mul, n_le, n_lt, n_eq, n_sM, n_Ms, n_Mlt, n_Mle, n_ltM, n_leM, ↓reduceIte, eq_self, if_pos, if_neg, qx, p111_3, p111_4, p111_5, p111_6, p111_7, p111_8, p111_11, p111_12, p111_13, p111_14, p111_15, p111_16, p111_17, p111_18, p111_19, p111_21, p111_22, p111_23, p111_24, p111_27, p111_28, p111_29, p111_30, p111_31, p111_32, p111_34, r112, w112, r113, w113, r114, w114, r115, w115, r116, w116, r117, w117, r118, w118, r119, w119, r120, w120, r121, w121, r122, w122, r123, w123, r124, w124, r125, w125, r126, w126, r127, w127, r128, w128, r129, w129, r130, w130, r131, w131, r132, w132, r133, w133, r134, w134, r135, w135, r136, w136, r137, w137, l1, l2, l3, l5, l6, l7, l8, l10, l11, l12, l31, l36, l63, l100, l1000, l1440, l1000000, l16777216, h1]
                · refine ⟨nI (ST (tr i) (B i)), ?_, ?_⟩
                  · unfold fX6_readLeg
                    simp (disch := first | assumption | omega) only [obs, qle, ↓lm1, l0, qn_add, pk_mul, n_le, n_lt, n_eq, n_sM, n_Ms, n_Mlt, n_Mle, n_ltM, n_leM, ↓reduceIte, eq_self, if_pos, if_neg, qx, p0_0, p0_1, p0_2, p0_3, p2_0, p4_0, p4_1, p4_2, p4_3, p4_4, p4_5, p8_1, p8_5, p8_6, p8_7, p14_0, p14_4, p14_5, p18_1, p18_2, p51_4, p51_5, p51_8, p51_9, p51_10, p51_11, p51_12, p51_14, r3, w3, r6, w6, r7, w7, r9, w9, r10, w10, r11, w11, r12, w12, r15, w15, r16, w16, r17, w17, r19, w19, r20, w20, r53, w53, r54, w54, r55, w55, r56, w56, r57, w57, r58, w58, r59, w59, r60, w60, a1, a5, pt2, rt2, wt2, pt3, rt3, wt3, pt4, rt4, wt4, pt5, rt5, wt5, pm2, rm2, wm2, pm3, rm3, wm3, pm4, rm4, wm4, pm5, rm5, wm5, l1, l2, l3, l5, l6, l7, l8, l10, l11, l12, l31, l36, l63, l100, l1000, l1440, l1000000, l16777216, p0, g1, g2, g3, c2]
                  · simp (disch := first | assumption | omega) only [obs, qle, ↓lm1, l0, qn_add, pk_mul, n_le, n_lt, n_eq, n_sM, n_Ms, n_Mlt, n_Mle, n_ltM, n_leM, ↓reduceIte, eq_self, if_pos, if_neg, qx, p111_3, p111_4, p111_5, p111_6, p111_7, p111_8, p111_11, p111_12, p111_13, p111_14, p111_15, p111_16, p111_17, p111_18, p111_19, p111_21, p111_22, p111_23, p111_24, p111_27, p111_28, p111_29, p111_30, p111_31, p111_32, p111_34, r112, w112, r113, w113, r114, w114, r115, w115, r116, w116, r117, w117, r118, w118, r119, w119, r120, w120, r121, w121, r122, w122, r123, w123, r124, w124, r125, w125, r126, w126, r127, w127, r128, w128, r129, w129, r130, w130, r131, w131, r132, w132, r133, w133, r134, w134, r135, w135, r136, w136, r137, w137, l1, l2, l3, l5, l6, l7, l8, l10, l11, l12, l31, l36, l63, l100, l1000, l1440, l1000000, l16777216, h2, c1]
                · refine ⟨nI (ST (tr i) (lv i)), ?_, ?_⟩
                  · unfold fX6_readLeg
                    simp (disch := first | assumption | omega) only [obs, qle, ↓lm1, l0, qn_add, pk_mul, n_le, n_lt, n_eq, n_sM, n_Ms, n_Mlt, n_Mle, n_ltM, n_leM, ↓reduceIte, eq_self, if_pos, if_neg, qx, p0_0, p0_1, p0_2, p0_3, p2_0, p4_0, p4_1, p4_2, p4_3, p4_4, p4_5, p8_1, p8_5, p8_6, p8_7, p14_0, p14_4, p14_5, p18_1, p18_2, p51_4, p51_5, p51_8, p51_9, p51_10, p51_11, p51_12, p51_14, r3, w3, r6, w6, r7, w7, r9, w9, r10, w10, r11, w11, r12, w12, r15, w15, r16, w16, r17, w17, r19, w19, r20, w20, r53, w53, r54, w54, r55, w55, r56, w56, r57, w57, r58, w58, r59, w59, r60, w60, a1, a5, pt2, rt2, wt2, pt3, rt3, wt3, pt4, rt4, wt4, pt5, rt5, wt5, pm2, rm2, wm2, pm3, rm3, wm3, pm4, rm4, wm4, pm5, rm5, wm5, l1, l2, l3, l5, l6, l7, l8, l10, l11, l12, l31, l36, l63, l100, l1000, l1440, l1000000, l16777216, p0, g1, g2, g3, d2]
                  · simp (disch := first | assumption | omega) only [obs, qle, ↓lm1, l0, qn_add, pk_mul, n_le, n_lt, n_eq, n_sM, n_Ms, n_Mlt, n_Mle, n_ltM, n_leM, ↓reduceIte, eq_self, if_pos, if_neg, qx, p111_3, p111_4, p111_5, p111_6, p111_7, p111_8, p111_11, p111_12, p111_13, p111_14, p111_15, p111_16, p111_17, p111_18, p111_19, p111_21, p111_22, p111_23, p111_24, p111_27, p111_28, p111_29, p111_30, p111_31, p111_32, p111_34, r112, w112, r113, w113, r114, w114, r115, w115, r116, w116, r117, w117, r118, w118, r119, w119, r120, w120, r121, w121, r122, w122, r123, w123, r124, w124, r125, w125, r126, w126, r127, w127, r128, w128, r129, w129, r130, w130, r131, w131, r132, w132, r133, w133, r134, w134, r135, w135, r136, w136, r137, w137, l1, l2, l3, l5, l6, l7, l8, l10, l11, l12, l31, l36, l63, l100, l1000, l1440, l1000000, l16777216, h3, d1]
                · refine ⟨nI (GT (tr i) (B i)), ?_, ?_⟩
                  · unfold fX6_readLeg
                    simp (disch := first | assumption | omega) only [obs, qle, ↓lm1, l0, qn_add, pk_mul, n_le, n_lt, n_eq, n_sM, n_Ms, n_Mlt, n_Mle, n_ltM, n_leM, ↓reduceIte, eq_self, if_pos, if_neg, qx, p0_0, p0_1, p0_2, p0_3, p2_0, p4_0, p4_1, p4_2, p4_3, p4_4, p4_5, p8_1, p8_5, p8_6, p8_7, p14_0, p14_4, p14_5, p18_1, p18_2, p51_4, p51_5, p51_8, p51_9, p51_10, p51_11, p51_12, p51_14, r3, w3, r6, w6, r7, w7, r9, w9, r10, w10, r11, w11, r12, w12, r15, w15, r16, w16, r17, w17, r19, w19, r20, w20, r53, w53, r54, w54, r55, w55, r56, w56, r57, w57, r58, w58, r59, w59, r60, w60, a1, a5, pt2, rt2, wt2, pt3, rt3, wt3, pt4, rt4, wt4, pt5, rt5, wt5, pm2, rm2, wm2, pm3, rm3, wm3, pm4, rm4, wm4, pm5, rm5, wm5, l1, l2, l3, l5, l6, l7, l8, l10, l11, l12, l31, l36, l63, l100, l1000, l1440, l1000000, l16777216, p0, g1, g2, g3, e2]
                  · simp (disch := first | assumption | omega) only [obs, qle, ↓lm1, l0, qn_add, pk_mul, n_le, n_lt, n_eq, n_sM, n_Ms, n_Mlt, n_Mle, n_ltM, n_leM, ↓reduceIte, eq_self, if_pos, if_neg, qx, p111_3, p111_4, p111_5, p111_6, p111_7, p111_8, p111_11, p111_12, p111_13, p111_14, p111_15, p111_16, p111_17, p111_18, p111_19, p111_21, p111_22, p111_23, p111_24, p111_27, p111_28, p111_29, p111_30, p111_31, p111_32, p111_34, r112, w112, r113, w113, r114, w114, r115, w115, r116, w116, r117, w117, r118, w118, r119, w119, r120, w120, r121, w121, r122, w122, r123, w123, r124, w124, r125, w125, r126, w126, r127, w127, r128, w128, r129, w129, r130, w130, r131, w131, r132, w132, r133, w133, r134, w134, r135, w135, r136, w136, r137, w137, l1, l2, l3, l5, l6, l7, l8, l10, l11, l12, l31, l36, l63, l100, l1000, l1440, l1000000, l16777216, h2, e1]
                · refine ⟨nI (CT (tr i) (lv i)), ?_, ?_⟩
                  · unfold fX6_readLeg
                    simp (disch := first | assumption | omega) only [obs, qle, ↓lm1, l0, qn_add, pk_mul, n_le, n_lt, n_eq, n_sM, n_Ms, n_Mlt, n_Mle, n_ltM, n_leM, ↓reduceIte, eq_self, if_pos, if_neg, qx, p0_0, p0_1, p0_2, p0_3, p2_0, p4_0, p4_1, p4_2, p4_3, p4_4, p4_5, p8_1, p8_5, p8_6, p8_7, p14_0, p14_4, p14_5, p18_1, p18_2, p51_4, p51_5, p51_8, p51_9, p51_10, p51_11, p51_12, p51_14, r3, w3, r6, w6, r7, w7, r9, w9, r10, w10, r11, w11, r12, w12, r15, w15, r16, w16, r17, w17, r19, w19, r20, w20, r53, w53, r54, w54, r55, w55, r56, w56, r57, w57, r58, w58, r59, w59, r60, w60, a1, a5, pt2, rt2, wt2, pt3, rt3, wt3, pt4, rt4, wt4, pt5, rt5, wt5, pm2, rm2, wm2, pm3, rm3, wm3, pm4, rm4, wm4, pm5, rm5, wm5, l1, l2, l3, l5, l6, l7, l8, l10, l11, l12, l31, l36, l63, l100, l1000, l1440, l1000000, l16777216, p0, g1, g2, g3, f2, l4]
                  · simp (disch := first | assumption | omega) only [obs, qle, ↓lm1, l0, qn_add, pk_mul, n_le, n_lt, n_eq, n_sM, n_Ms, n_Mlt, n_Mle, n_ltM, n_leM, ↓reduceIte, eq_self, if_pos, if_neg, qx, p111_3, p111_4, p111_5, p111_6, p111_7, p111_8, p111_11, p111_12, p111_13, p111_14, p111_15, p111_16, p111_17, p111_18, p111_19, p111_21, p111_22, p111_23, p111_24, p111_27, p111_28, p111_29, p111_30, p111_31, p111_32, p111_34, r112, w112, r113, w113, r114, w114, r115, w115, r116, w116, r117, w117, r118, w118, r119, w119, r120, w120, r121, w121, r122, w122, r123, w123, r124, w124, r125, w125, r126, w126, r127, w127, r128, w128, r129, w129, r130, w130, r131, w131, r132, w132, r133, w133, r134, w134, r135, w135, r136, w136, r137, w137, l1, l2, l3, l5, l6, l7, l8, l10, l11, l12, l31, l36, l63, l100, l1000, l1440, l1000000, l16777216, h3, f1]
              · rw [if_neg (show ¬ nI k ≤ nI 4 by rw [n_le (by omega) (by omega)]; exact hk4)]
                refine ⟨-1, ?_, rfl⟩
                unfold fX6_readLeg
                simp (disch := first | assumption | omega) only [obs, qle, ↓lm1, l0, qn_add, pk_mul, n_le, n_lt, n_eq, n_sM, n_Ms, n_Mlt, n_Mle, n_ltM, n_leM, ↓reduceIte, eq_self, if_pos, if_neg, qx, p0_0, p0_1, p0_2, p0_3, p2_0, p4_0, p4_1, p4_2, p4_3, p4_4, p4_5, p8_1, p8_5, p8_6, p8_7, p14_0, p14_4, p14_5, p18_1, p18_2, p51_4, p51_5, p51_8, p51_9, p51_10, p51_11, p51_12, p51_14, r3, w3, r6, w6, r7, w7, r9, w9, r10, w10, r11, w11, r12, w12, r15, w15, r16, w16, r17, w17, r19, w19, r20, w20, r53, w53, r54, w54, r55, w55, r56, w56, r57, w57, r58, w58, r59, w59, r60, w60, a1, a5, pt2, rt2, wt2, pt3, rt3, wt3, pt4, rt4, wt4, pt5, rt5, wt5, pm2, rm2, wm2, pm3, rm3, wm3, pm4, rm4, wm4, pm5, rm5, wm5, l1, l2, l3, l5, l6, l7, l8, l10, l11, l12, l31, l36, l63, l100, l1000, l1440, l1000000, l16777216, p0, g1, l4]
theorem sim_way {N : Nat} {R : qR} {I : qI} (hN : 300000 ≤ N) (hL : LR R) (hB : BookInv I) (hS : SignInv I) (x y z m q : Int32) : SimR N (fun R I => fX7_way N R I 0 x y z m q) (fun R I => fX8_way N R I 111 x y z m q) R I := by
  have e7 := canTravel_eq R I x y z
  by_cases hc : ((0 ≤ x.toInt ∧ x.toInt < 12) ∧ (0 ≤ y.toInt ∧ y.toInt < 12) ∧ x.toInt ≠ y.toInt ∧ 0 ≤ z.toInt ∧ z.toInt < 7) ∧ 0 ≤ m.toInt ∧ m.toInt < 1440
  · obtain ⟨hc, hm1, hm2⟩ := hc
    rw [if_pos hc] at e7
    obtain ⟨F, hF, rfl⟩ := nat_of (n := 12) hc.1.1 hc.1.2
    obtain ⟨T, hT, rfl⟩ := nat_of (n := 12) hc.2.1.1 hc.2.1.2
    obtain ⟨day, hday, rfl⟩ := nat_of (n := 7) hc.2.2.2.1 hc.2.2.2.2
    obtain ⟨M, hM, rfl⟩ := nat_of (n := 1440) hm1 hm2
    have hTF : T ≠ F := fun e => hc.2.2.1 (by rw [e])
    obtain ⟨n, W, hn10, hW, hn, hWi, eo, hFP, hFR⟩ := set_out (R := R) hL hB hday
    have w := book_w (day := day) hB hn hn10 hW hF
    have hRS : RS R (qpr R 51 0 (some 1)) := Or.inr rfl
    have hL1 := RS_LR hL hRS
    obtain ⟨⟨y1, J⟩, ej, f1, f2⟩ := findBest_ok (N := N) hN hL1 w hFP hT hTF (show M ≤ 1440 by omega)
    simp only at f1 f2
    have hJI : ∀ a, a < 51 ∨ 60 < a → J a = I a := fun a ha => by
      rw [f1 a ha]; unfold RPl; rw [qup_ne _ _ _ (by omega), qup_ne _ _ _ (by omega), qup_ne _ _ _ (by omega)]
    have hFRJ := hFR J hJI
    have cls : ∀ r, (if y1 = 0 then (some ((-1 : Int32), J, qpr R 51 0 (some 1))) else ((fX6_read (qpr R 51 0 (some 1)) J 51 q).bind fun y11 => some (y11, J, qpr R 51 0 (some 1)))) = some (r, J, qpr R 51 0 (some 1)) → fX7_way N R I 0 (nI F) (nI T) (nI day) (nI M) q = some (r, J, qpr R 51 0 (some 1)) := by
      intro r hr
      unfold fX7_way
      rw [e7, obs, if_neg (show ¬ (1 : Int32) = 0 by decide), if_neg (show ¬ nI M < 0 by rw [l0, n_lt (by omega) (by omega)]; omega), if_pos (show nI M < (1440 : Int32) by rw [l1440, n_lt (by omega) (by omega)]; omega)]
      exact bind_of (p0_3 hL) (bind_of (p0_0 hL) (bind_of eo (bind_of (p0_3 hL1) (bind_of ej hr))))
    rcases f2 with ⟨hno, rfl⟩ | ⟨v, L, tr, b, B, lv, hsn, rfl, hL0, hLn, hno, hch, hB0, hwy, hFPJ, j6, j7, hj⟩
    · obtain ⟨⟨y2, K⟩, ek, k1, k2, k3⟩ := finds_no (N := N) (R := qpr R 51 0 (some 1)) hN hL1 w hFRJ hT hTF hM hno
      simp only at k1 k2 k3
      subst k1
      obtain ⟨s1, s2, s3⟩ := way_same hB hS (K := K) (fun a ha => by rw [k2 a (by omega) (by omega), qup_ne _ _ _ (by omega), hJI a (by omega)]) (fun j hj => by rw [k3 j (by omega), qup_off (by omega), hJI 111 (by omega)])
      refine ⟨-1, J, _, K, cls (-1) (by rw [if_pos (show nI 0 = 0 by decide)]), ?_, hRS, s1, s2, s3⟩
      show fX8_way N (qpr R 51 0 (some 1)) J 111 (nI F) (nI T) (nI day) (nI M) q = _
      unfold fX8_way
      rw [qle, show qup J 111 0 (0 : Int32) = qup J 111 0 (nI 0) by rw [l0], ek, obs, if_pos (show nI 0 = 0 by decide)]
    · obtain ⟨⟨y2, K⟩, ek, k1, k2, k3, k4, k5, k6⟩ := finds_yes (N := N) (R := qpr R 51 0 (some 1)) hN hL1 w hFRJ hT hTF hM hsn hL0 hLn hno hch hB0 hwy (fun m hm => (hj m hm).1)
      simp only at k1 k2 k3 k4 k5 k6
      subst k1
      obtain ⟨s1, s2, s3⟩ := way_same hB hS (K := K) (fun a ha => by rw [k5 a (by omega), qup_ne _ _ _ (by omega), hJI a (by omega)]) (fun j hj => by rw [k6 j (by omega) (by omega), qup_off (by omega), hJI 111 (by omega)])
      obtain ⟨r, r1, r2⟩ := way_read hL1 w hFPJ (K := K) (fun a h1 h2 => by rw [k5 a (by omega), qup_ne _ _ _ (by omega)]) hL0 hLn hwy j6 j7 hj k2 k3 k4 q
      refine ⟨r, J, _, K, cls r (by rw [if_neg (show ¬ nI 1 = 0 by decide), r1]; rfl), ?_, hRS, s1, s2, s3⟩
      show fX8_way N (qpr R 51 0 (some 1)) J 111 (nI F) (nI T) (nI day) (nI M) q = _
      unfold fX8_way
      rw [qle, show qup J 111 0 (0 : Int32) = qup J 111 0 (nI 0) by rw [l0], ek, obs, if_neg (show ¬ nI 1 = 0 by decide)]
      exact r2
  · have e8 := finds_bad (N := N) (R := R) (I := qup I 111 0 (nI 0)) hc
    obtain ⟨s1, s2, s3⟩ := same_told hB hS (nI 0)
    refine ⟨-1, I, R, qup I 111 0 (nI 0), ?_, ?_, Or.inl rfl, s1, s2, s3⟩
    · show fX7_way N R I 0 x y z m q = _
      unfold fX7_way
      rw [e7, obs]
      by_cases hc2 : (0 ≤ x.toInt ∧ x.toInt < 12) ∧ (0 ≤ y.toInt ∧ y.toInt < 12) ∧ x.toInt ≠ y.toInt ∧ 0 ≤ z.toInt ∧ z.toInt < 7
      · rw [if_pos hc2, if_neg (show ¬ (1 : Int32) = 0 by decide)]
        by_cases h0 : m < 0
        · rw [if_pos h0]
        · rw [if_neg h0]
          rw [ilt, i0] at h0
          rw [if_neg (show ¬ m < 1440 by rw [ilt, i1440]; exact fun q => hc ⟨hc2, by omega, q⟩)]
      · rw [if_neg hc2, if_pos rfl]
    · show fX8_way N R I 111 x y z m q = _
      unfold fX8_way
      rw [qle, show qup I 111 0 (0 : Int32) = qup I 111 0 (nI 0) by rw [l0], e8, obs, if_pos rfl]
