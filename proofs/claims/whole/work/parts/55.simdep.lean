/-! DEPARTURES, DEPARTURE: both sides -/
/-- the finder's trains alone have changed -/
def RS (R R1 : qR) : Prop := R1 = R ∨ R1 = qpr R 51 0 (some 1)
theorem RS_LR {R R1 : qR} (hL : LR R) (h : RS R R1) : LR R1 := by
  rcases h with rfl | rfl
  · exact hL
  · obtain ⟨h1, h2, h3, h4⟩ := id hL
    refine ⟨fun a j ha hj n1 n2 => ?_, h2, h3, ?_⟩
    · show (if a = 51 then va_up (R.1 51) 0 (some 1) else R.1 a) j = lP a j
      by_cases e : a = 51
      · subst e
        rw [if_pos rfl]
        unfold va_up
        rw [if_neg (by omega)]
        exact h1 51 j ha hj n1 n2
      · rw [if_neg e]; exact h1 a j ha hj n1 n2
    · refine h4.pr (kd := 6) ⟨by omega, by rw [h2 51 (by omega)]; rfl⟩ ⟨by omega, ?_⟩ rfl
      rw [h2 1 (by omega)]
      rfl
theorem RS_k {R R1 : qR} (h : RS R R1) : R1.1 8 8 = R.1 8 8 ∧ R1.2 = R.2 := by
  rcases h with rfl | rfl
  · exact ⟨rfl, rfl⟩
  · refine ⟨?_, rfl⟩
    show (if 8 = 51 then va_up (R.1 51) 0 (some 1) else R.1 8) 8 = R.1 8 8
    rw [if_neg (by omega)]
theorem TV.rs {R R1 : qR} {S : Nat} {I : qI} (h : TV R S I) (hr : RS R R1) : TV R1 S I := by
  obtain ⟨e1, e2⟩ := RS_k hr
  obtain ⟨kn, len, ⟨k1, k2, k3, k4, k5⟩, h2, h3, h4, h5, h6⟩ := h
  exact ⟨kn, len, ⟨by rw [e1]; exact k1, by rw [e2]; exact k2, k3, by rw [e2]; exact k4, k5⟩, h2, h3, h4, by rw [e2]; exact h5, by rw [e2]; exact h6⟩
theorem canTravel_eq (R : qR) (I : qI) (x y z : Int32) : fX7_canTravel R I x y z = some (if (0 ≤ x.toInt ∧ x.toInt < 12) ∧ (0 ≤ y.toInt ∧ y.toInt < 12) ∧ x.toInt ≠ y.toInt ∧ 0 ≤ z.toInt ∧ z.toInt < 7 then 1 else 0) := by
  have hst : ∀ v : Int32, fX7_isStation R I v = some (if 0 ≤ v.toInt ∧ v.toInt < 12 then 1 else 0) := by
    intro v
    unfold fX7_isStation
    simp only [ilt, ile, i0, i12]
    by_cases c1 : v.toInt < 0
    · rw [if_pos c1, if_neg (by omega)]
    · rw [if_neg c1]
      by_cases c2 : (12 : Int) ≤ v.toInt
      · rw [if_pos c2, if_neg (by omega)]
      · rw [if_neg c2, if_pos (by omega)]
  unfold fX7_canTravel
  rw [hst, hst]
  simp only [obs, ieq (x := x) (y := y), ilt (x := z), ile (y := z), i0, i7]
  by_cases c1 : 0 ≤ x.toInt ∧ x.toInt < 12
  · rw [if_pos c1, if_neg (show ¬ (1 : Int32) = 0 by decide)]
    by_cases c2 : 0 ≤ y.toInt ∧ y.toInt < 12
    · rw [if_pos c2, if_neg (show ¬ (1 : Int32) = 0 by decide)]
      by_cases c3 : x.toInt = y.toInt
      · rw [if_pos c3, if_neg (by omega)]
      · rw [if_neg c3]
        by_cases c4 : z.toInt < 0
        · rw [if_pos c4, if_neg (by omega)]
        · rw [if_neg c4]
          by_cases c5 : (7 : Int) ≤ z.toInt
          · rw [if_pos c5, if_neg (by omega)]
          · rw [if_neg c5, if_pos (by omega)]
    · rw [if_neg c2, if_pos rfl, if_neg (fun q => c2 q.2.1)]
  · rw [if_neg c1, if_pos rfl, if_neg (fun q => c1 q.1)]
theorem isSt8_eq (R : qR) (I : qI) (v : Int32) : fX8_isStation R I 111 v = some (if 0 ≤ v.toInt ∧ v.toInt < 12 then 1 else 0) := by
  unfold fX8_isStation
  simp only [ilt, ile, i0, i12]
  by_cases c1 : v.toInt < 0
  · rw [if_pos c1, if_neg (by omega)]
  · rw [if_neg c1]
    by_cases c2 : (12 : Int) ≤ v.toInt
    · rw [if_pos c2, if_neg (by omega)]
    · rw [if_neg c2, if_pos (by omega)]
theorem canDepart_eq (R : qR) (I : qI) (x y z : Int32) : fX8_canDepart R I 111 x y z = some (if (0 ≤ x.toInt ∧ x.toInt < 12) ∧ (0 ≤ y.toInt ∧ y.toInt < 12) ∧ x.toInt ≠ y.toInt ∧ 0 ≤ z.toInt ∧ z.toInt < 7 then 1 else 0) := by
  unfold fX8_canDepart
  rw [isSt8_eq, isSt8_eq]
  simp only [obs, ieq (x := x) (y := y), ilt (x := z), ilt (y := z), i0, i6]
  by_cases c1 : 0 ≤ x.toInt ∧ x.toInt < 12
  · rw [if_pos c1, if_neg (show ¬ (1 : Int32) = 0 by decide)]
    by_cases c2 : 0 ≤ y.toInt ∧ y.toInt < 12
    · rw [if_pos c2, if_neg (show ¬ (1 : Int32) = 0 by decide)]
      by_cases c3 : x.toInt = y.toInt
      · rw [if_pos c3, if_neg (by omega)]
      · rw [if_neg c3]
        by_cases c4 : z.toInt < 0
        · rw [if_pos c4, if_neg (by omega)]
        · rw [if_neg c4]
          by_cases c5 : (6 : Int) < z.toInt
          · rw [if_pos c5, if_neg (by omega)]
          · rw [if_neg c5, if_pos (by omega)]
    · rw [if_neg c2, if_pos rfl, if_neg (fun q => c2 q.2.1)]
  · rw [if_neg c1, if_pos rfl, if_neg (fun q => c1 q.1)]
/-- what a finder's call leaves of the class's cells -/
def RPl (I : qI) (n day W : Nat) : qI := qup (qup (qup I 51 1 (nI n)) 51 2 (nI day)) 51 3 (nI W)
theorem book_w {I : qI} (hB : BookInv I) {n W day F : Nat} (hn : I 111 1 = nI n) (hn10 : n ≤ 10) (hW : W ≤ 60) (hF : F < 12) : wb n (fun t => (I 113 t).toInt.toNat) (fun t i => (I 114 (7 * t + i)).toInt.toNat) (fun t i => (I 115 (7 * t + i)).toInt.toNat) (fun t i => (I 116 (7 * t + i)).toInt.toNat) (rD n day (fun t => (I 112 t).toInt.toNat)) W F := by
  have hK := bk_of hB
  refine ⟨hn10, hW, hF, fun t h => h.1, fun t ht => ?_⟩
  obtain ⟨z1, z2, z3, z4, z5, z6⟩ := hK t (by omega)
  refine ⟨z1, fun i hi => ⟨(z4 i hi).1.2.2, (z4 i hi).2.2.2.1, (z4 i hi).2.2.2.2.1⟩, z5, fun i j hi hj e => ?_⟩
  have e1 := (z4 i hi).2.2.2.2.2
  have e2 := (z4 j hj).2.2.2.2.2
  rw [e, e2, n_eq (by omega) (by omega)] at e1
  exact e1.symm
/-- both sides set out -/
theorem set_out {I : qI} {R : qR} (hL : LR R) (hB : BookInv I) {day : Nat} (hd : day < 7) : ∃ n W, n ≤ 10 ∧ W ≤ 60 ∧ I 111 1 = nI n ∧ I 111 2 = nI W ∧ fX6_setOut R I 51 1 (I 0 4) (nI day) (I 0 5) = some (RPl I n day W, qpr R 51 0 (some 1)) ∧ FPx (qpr R 51 0 (some 1)) (RPl I n day W) n (fun t => (I 113 t).toInt.toNat) (fun t i => (I 114 (7 * t + i)).toInt.toNat) (fun t i => (I 115 (7 * t + i)).toInt.toNat) (fun t i => (I 116 (7 * t + i)).toInt.toNat) (fun t => (I 112 t).toInt.toNat) W day ∧ ∀ J : qI, (∀ a, a < 51 ∨ 60 < a → J a = I a) → FR (qup J 111 0 (nI 0)) n (fun t => (I 113 t).toInt.toNat) (fun t i => (I 114 (7 * t + i)).toInt.toNat) (fun t i => (I 115 (7 * t + i)).toInt.toNat) (fun t i => (I 116 (7 * t + i)).toInt.toNat) (fun t => (I 112 t).toInt.toNat) W day := by
  have hK := bk_of hB
  obtain ⟨b1, b2, b3, b4, b5, b6, b7, b8, b9⟩ := id hB
  have hn : I 111 1 = nI (I 111 1).toInt.toNat := nI_tn b3
  have hW : I 111 2 = nI (I 111 2).toInt.toNat := nI_tn b5
  have hD : ∀ t, t < (I 111 1).toInt.toNat → I 112 t = nI (I 112 t).toInt.toNat ∧ (I 112 t).toInt.toNat < 128 := fun t ht => by
    have := b8 t (by omega)
    exact ⟨nI_tn (by omega), by omega⟩
  refine ⟨(I 111 1).toInt.toNat, (I 111 2).toInt.toNat, by omega, by omega, hn, hW, ?_, ⟨?_, ?_, ?_, ?_, hd, ?_, fun t ht => ?_⟩, fun J hJ => ⟨?_, ?_, hd, ?_, fun t ht => ?_⟩⟩
  · unfold fX6_setOut RPl
    simp only [qle]
    rw [b1, b2, ← hn, ← hW]
  · show (if 51 = 51 then va_up (R.1 51) 0 (some 1) else R.1 51) 0 = some 1
    rw [if_pos rfl]
    unfold va_up
    rw [if_pos rfl]
  · unfold RPl; rw [qup_off (by omega), qup_off (by omega)]; exact qup_on
  · unfold RPl; rw [qup_off (by omega)]; exact qup_on
  · unfold RPl; exact qup_on
  · refine hK.congr (fun a ha => ?_)
    unfold RPl
    rw [qup_ne _ _ _ (by omega), qup_ne _ _ _ (by omega), qup_ne _ _ _ (by omega)]
  · unfold RPl
    rw [qup_off (by omega), qup_off (by omega), qup_off (by omega), (b8 t (by omega)).1]
    exact hD t ht
  · rw [qup_off (by omega), hJ 111 (by omega)]; exact hn
  · rw [qup_off (by omega), hJ 111 (by omega)]; exact hW
  · refine hK.congr (fun a ha => ?_)
    rw [qup_ne _ _ _ (by omega), hJ a (by omega)]
  · rw [qup_off (by omega), hJ 112 (by omega)]; exact hD t ht
/-- cells of the finder and of the reference's ways are free -/
theorem way_same {I K : qI} (hB : BookInv I) (hS : SignInv I) (h1 : ∀ a, (a < 51 ∨ 60 < a ∧ a < 111 ∨ 111 < a ∧ a < 129 ∨ 138 ≤ a) → K a = I a) (h2 : ∀ j, j = 1 ∨ j = 2 ∨ j = 9 ∨ j = 10 ∨ j = 20 → K 111 j = I 111 j) : BookInv K ∧ SignInv K ∧ TSame I K := by
  refine ⟨hB.congr (fun a ha => h1 a (by omega)) (by rw [h1 0 (by omega)]) (by rw [h1 0 (by omega)]) (h2 1 (by omega)) (h2 2 (by omega)), hS.congr (h1 3 (by omega)) (h1 117 (by omega)), fun a ha => h1 a (by omega), h2 9 (by omega), h2 10 (by omega), h2 20 (by omega)⟩
def SimR (N : Nat) (fx : qR → qI → Option (Int32 × qI × qR)) (fm : qR → qI → Option (Int32 × qI)) (R : qR) (I : qI) : Prop := ∃ r I1 R1 I2, fx R I = some (r, I1, R1) ∧ fm R1 I1 = some (r, I2) ∧ RS R R1 ∧ BookInv I2 ∧ SignInv I2 ∧ TSame I I2
theorem sim_departures {N : Nat} {R : qR} {I : qI} (hN : 300000 ≤ N) (hL : LR R) (hB : BookInv I) (hS : SignInv I) (x y z : Int32) : SimR N (fun R I => fX7_departures N R I 0 x y z) (fun R I => fX8_departures N R I 111 x y z) R I ∧ ∀ k : Int32, SimR N (fun R I => fX7_departure N R I 0 x y z k) (fun R I => fX8_departure N R I 111 x y z k) R I := by
  have e7 := canTravel_eq R I x y z
  by_cases hc : (0 ≤ x.toInt ∧ x.toInt < 12) ∧ (0 ≤ y.toInt ∧ y.toInt < 12) ∧ x.toInt ≠ y.toInt ∧ 0 ≤ z.toInt ∧ z.toInt < 7
  · rw [if_pos hc] at e7
    obtain ⟨F, hF, rfl⟩ := nat_of (n := 12) hc.1.1 hc.1.2
    obtain ⟨T, hT, rfl⟩ := nat_of (n := 12) hc.2.1.1 hc.2.1.2
    obtain ⟨day, hday, rfl⟩ := nat_of (n := 7) hc.2.2.2.1 hc.2.2.2.2
    have hTF : T ≠ F := fun e => hc.2.2.1 (by rw [e])
    obtain ⟨n, W, hn10, hW, hn, hWi, eo, hFP, hFR⟩ := set_out (R := R) hL hB hday
    have w := book_w (day := day) hB hn hn10 hW hF
    have hRS : RS R (qpr R 51 0 (some 1)) := Or.inr rfl
    have hL1 := RS_LR hL hRS
    obtain ⟨⟨y1, J⟩, ej, fc, fd, f1, f2, f3, f4, f5, f6, f7, f8⟩ := findDep7_ok (N := N) hN hL1 w hFP hT hTF
    simp only at f2 f3 f4 f8
    subst f2
    have hJI : ∀ a, a < 51 ∨ 60 < a → J a = I a := fun a ha => by
      rw [f8 a ha]; unfold RPl; rw [qup_ne _ _ _ (by omega), qup_ne _ _ _ (by omega), qup_ne _ _ _ (by omega)]
    have hFRJ := hFR J hJI
    have e8 := canDepart_eq (qpr R 51 0 (some 1)) (qup J 111 0 (nI 0)) (nI F) (nI T) (nI day)
    rw [if_pos hc] at e8
    obtain ⟨K, ek, k1, k2, k3, k4⟩ := findDep8_ok (N := N) hN hL1 w hFRJ hT f1 (fun k hk => (f4 k hk).2) f5 f6 f7
    have hKI : ∀ a, (a < 51 ∨ 60 < a ∧ a < 111 ∨ 111 < a ∧ a < 129 ∨ 138 ≤ a) → K a = I a := fun a ha => by
      rw [k3 a (by omega) (by omega) (by omega), qup_ne _ _ _ (by omega), hJI a (by omega)]
    have hK1 : ∀ j, j = 1 ∨ j = 2 ∨ j = 9 ∨ j = 10 ∨ j = 20 → K 111 j = I 111 j := fun j hj => by
      rw [k4 j (by omega), qup_off (by omega), hJI 111 (by omega)]
    obtain ⟨s1, s2, s3⟩ := way_same hB hS hKI hK1
    constructor
    · refine ⟨nI fc, J, _, K, ?_, ?_, hRS, s1, s2, s3⟩
      · show fX7_departures N R I 0 (nI F) (nI T) (nI day) = _
        unfold fX7_departures
        rw [e7, obs, if_neg (show ¬ (1 : Int32) = 0 by decide)]
        refine bind_of (p0_3 hL) (bind_of (p0_0 hL) (bind_of eo (bind_of (p0_3 hL1) (bind_of ej rfl))))
      · show fX8_departures N (qpr R 51 0 (some 1)) J 111 (nI F) (nI T) (nI day) = _
        unfold fX8_departures
        rw [qle, l0, e8, obs, if_neg (show ¬ (1 : Int32) = nI 0 by decide)]
        refine bind_of ek ?_
        rw [k1]
    · intro k
      by_cases hk : 0 ≤ k.toInt ∧ k.toInt < fc
      · obtain ⟨q, hq, rfl⟩ := nat_of hk.1 hk.2
        have hq2 : fc - 1 - q < fc := by omega
        refine ⟨nI (fd (fc - 1 - q)), J, _, K, ?_, ?_, hRS, s1, s2, s3⟩
        · show fX7_departure N R I 0 (nI F) (nI T) (nI day) (nI q) = _
          unfold fX7_departure
          rw [e7, obs, if_neg (show ¬ (1 : Int32) = 0 by decide)]
          refine bind_of (p0_3 hL) (bind_of (p0_0 hL) (bind_of eo (bind_of (p0_3 hL1) (bind_of ej ?_))))
          rw [if_neg (show ¬ nI q < 0 by rw [l0, n_lt (by omega) (by omega)]; omega), if_neg (show ¬ nI fc ≤ nI q by rw [n_le (by omega) (by omega)]; omega)]
          refine bind_of (x := nI (fd (fc - 1 - q))) ?_ rfl
          unfold fX6_departureAt
          refine bind_of (p51_14 hL1) ?_
          show (qrd J (qpr R 51 0 (some 1)) 60 (J 51 15 - 1 - nI q)).bind _ = _
          rw [f3, l1, qn_sub (by omega), qn_sub (by omega)]
          refine bind_of (r60 hL1 (by omega)) ?_
          rw [(f4 _ hq2).1]
        · show fX8_departure N (qpr R 51 0 (some 1)) J 111 (nI F) (nI T) (nI day) (nI q) = _
          unfold fX8_departure
          rw [qle, l0, e8, obs, if_neg (show ¬ (1 : Int32) = nI 0 by decide)]
          refine bind_of ek ?_
          rw [k1, if_neg (show ¬ nI q < nI 0 by rw [n_lt (by omega) (by omega)]; omega), if_neg (show ¬ nI fc ≤ nI q by rw [n_le (by omega) (by omega)]; omega)]
          refine bind_of (p111_34 hL1) (bind_of (r137 hL1 (by omega)) ?_)
          rw [k2 q hq]
      · refine ⟨-1, J, _, K, ?_, ?_, hRS, s1, s2, s3⟩
        · show fX7_departure N R I 0 (nI F) (nI T) (nI day) k = _
          unfold fX7_departure
          rw [e7, obs, if_neg (show ¬ (1 : Int32) = 0 by decide)]
          refine bind_of (p0_3 hL) (bind_of (p0_0 hL) (bind_of eo (bind_of (p0_3 hL1) (bind_of ej ?_))))
          by_cases h0 : k.toInt < 0
          · rw [if_pos (show k < 0 by rw [ilt, i0]; exact h0)]
          · rw [if_neg (show ¬ k < 0 by rw [ilt, i0]; exact h0), if_pos (show nI fc ≤ k by rw [ile, tI_nI (by omega)]; omega)]
        · show fX8_departure N (qpr R 51 0 (some 1)) J 111 (nI F) (nI T) (nI day) k = _
          unfold fX8_departure
          rw [qle, l0, e8, obs, if_neg (show ¬ (1 : Int32) = nI 0 by decide)]
          refine bind_of ek ?_
          rw [k1]
          by_cases h0 : k.toInt < 0
          · rw [if_pos (show k < nI 0 by rw [← l0, ilt, i0]; exact h0)]
          · rw [if_neg (show ¬ k < nI 0 by rw [← l0, ilt, i0]; exact h0), if_pos (show nI fc ≤ k by rw [ile, tI_nI (by omega)]; omega)]
  · rw [if_neg hc] at e7
    have e8 := canDepart_eq R (qup I 111 0 (nI 0)) x y z
    rw [if_neg hc] at e8
    obtain ⟨s1, s2, s3⟩ := same_told hB hS (nI 0)
    constructor
    · refine ⟨-1, I, R, qup I 111 0 (nI 0), ?_, ?_, Or.inl rfl, s1, s2, s3⟩
      · show fX7_departures N R I 0 x y z = _
        unfold fX7_departures
        rw [e7, obs, if_pos rfl]
      · show fX8_departures N R I 111 x y z = _
        unfold fX8_departures
        rw [qle, l0, e8, obs, if_pos (show (0 : Int32) = nI 0 by decide)]
    · intro k
      refine ⟨-1, I, R, qup I 111 0 (nI 0), ?_, ?_, Or.inl rfl, s1, s2, s3⟩
      · show fX7_departure N R I 0 x y z k = _
        unfold fX7_departure
        rw [e7, obs, if_pos rfl]
      · show fX8_departure N R I 111 x y z k = _
        unfold fX8_departure
        rw [qle, l0, e8, obs, if_pos (show (0 : Int32) = nI 0 by decide)]
