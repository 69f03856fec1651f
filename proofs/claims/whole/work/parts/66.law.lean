/-! THE LAW'S LOOP -/
theorem qsc_n {L : Nat} {xs : Nat → Int32} {i : Nat} (h : i < L) (hL : L < 2147483648) : qsc L xs (nI i) = some (xs i) := by
  unfold qsc
  rw [if_pos (qin_t (by rw [tI_nI (by omega)]; omega) (by rw [tI_nI (by omega)]; omega)), inat, tI_nI (by omega)]
  rfl
theorem qck_t {R : qR} {S : Nat} {I : qI} (h : TV R S I) : qck R = some () := by
  obtain ⟨kn, len, ⟨_, _, _, _, h5⟩, _, _, _, h6, h7⟩ := h
  unfold qck qcap
  rw [if_pos (decide_eq_true ⟨by omega, by omega⟩)]
def LInv (k : Nat) (s : Int32 × qI × qR) : Prop := ∃ (I : qI) (R : qR) (S : Nat), s = (nI (6 * k), I, R) ∧ LR R ∧ BookInv I ∧ SignInv I ∧ TV R S I ∧ TD I ∧ S ≤ k
theorem n6 (k : Nat) : nI (6 * k) + (6 : Int32) = nI (6 * (k + 1)) := by rw [l6, qn_add]; rfl
theorem go_S {k S : Nat} {R : qR} {I : qI} {fx fm : qI → Option (Int32 × qI)} (h : Sim fx fm I) (hL : LR R) (hV : TV R S I) (hD : TD I) (hS : S ≤ k) : ok ((fx I).bind fun y5 => (fm y5.2).bind fun y6 => if y5.1 = y6.1 then (some (.inl ((nI (6 * k) + 6), y6.2, R)) : Option ((Int32 × qI × qR) ⊕ Unit)) else none) (fun x => match x with | .inl s' => LInv (k + 1) s' | .inr _ => True) := by
  obtain ⟨r, I1, I2, h1, h2, h3, h4, h5⟩ := h
  refine ok_bindv h1 (ok_bindv h2 ?_)
  rw [if_pos rfl, n6]
  exact ok_some ⟨I2, R, S, rfl, hL, h3, h4, hV.same h5, hD.same h5, by omega⟩
theorem go_P {k S : Nat} {R : qR} {I : qI} {fx : qI → Option Int32} {fm : qI → Option (Int32 × qI)} (h : SimP fx fm I) (hL : LR R) (hB : BookInv I) (hSg : SignInv I) (hV : TV R S I) (hD : TD I) (hS : S ≤ k) : ok ((fx I).bind fun y5 => (fm I).bind fun y6 => if y5 = y6.1 then (some (.inl ((nI (6 * k) + 6), y6.2, R)) : Option ((Int32 × qI × qR) ⊕ Unit)) else none) (fun x => match x with | .inl s' => LInv (k + 1) s' | .inr _ => True) := by
  obtain ⟨r, h1, h2⟩ := h
  obtain ⟨s1, s2, s3⟩ := same_told hB hSg 0
  refine ok_bindv h1 (ok_bindv h2 ?_)
  rw [if_pos rfl, n6]
  exact ok_some ⟨_, R, S, rfl, hL, s1, s2, hV.same s3, hD.same s3, by omega⟩
theorem go_R {N k S : Nat} {R : qR} {I : qI} {fx : qR → qI → Option (Int32 × qI × qR)} {fm : qR → qI → Option (Int32 × qI)} (h : SimR N fx fm R I) (hL : LR R) (hV : TV R S I) (hD : TD I) (hS : S ≤ k) : ok ((fx R I).bind fun y5 => (qck y5.2.2).bind fun _ => (fm y5.2.2 y5.2.1).bind fun y6 => if y5.1 = y6.1 then (some (.inl ((nI (6 * k) + 6), y6.2, y5.2.2)) : Option ((Int32 × qI × qR) ⊕ Unit)) else none) (fun x => match x with | .inl s' => LInv (k + 1) s' | .inr _ => True) := by
  obtain ⟨r, I1, R1, I2, h1, h2, h3, h4, h5, h6⟩ := h
  have hV1 := hV.rs h3
  refine ok_bindv h1 (ok_bindv (qck_t hV1) (ok_bindv h2 ?_))
  rw [if_pos rfl, n6]
  exact ok_some ⟨I2, R1, S, rfl, RS_LR hL h3, h4, h5, hV1.same h6, hD.same h6, by omega⟩
theorem go_T {N k S : Nat} {R : qR} {I : qI} {x : Int32} (hN : 300000 ≤ N) (hL : LR R) (hB : BookInv I) (hSg : SignInv I) (hV : TV R S I) (hD : TD I) (hS : S ≤ k) (hk : k < 1000) : ok ((fX7_table N R I 0 x).bind fun y5 => (qck y5.2.2).bind fun _ => (fX8_table N y5.2.2 y5.2.1 111 x).bind fun y6 => if y5.1 = y6.1 then (some (.inl ((nI (6 * k) + 6), y6.2, y5.2.2)) : Option ((Int32 × qI × qR) ⊕ Unit)) else none) (fun x => match x with | .inl s' => LInv (k + 1) s' | .inr _ => True) := by
  obtain ⟨r, I1, R1, I2, S2, h1, h2, h3, h4, h5, h6, h7, h8, h9, _⟩ := sim_table (N := N) hN hL hB hSg hV hD (by omega) x
  refine ok_bindv h1 (ok_bindv (qck_t h8) (ok_bindv h2 ?_))
  rw [if_pos rfl, n6]
  exact ok_some ⟨I2, R1, S2, rfl, h3, h4, h5, h7, h9, by omega⟩
set_option maxHeartbeats 1000000 in
theorem body_ok {L k : Nat} {xs : Nat → Int32} {s : Int32 × qI × qR} (hL3 : L ≤ 3072) (hk : k < L / 6) (h : LInv k s) : ok (cL_body 300000 L xs 0 111 s.1 s.2.1 s.2.2) (fun x => match x with | .inl s' => LInv (k + 1) s' | .inr _ => True) := by
  obtain ⟨I, R, S, rfl, hL, hB, hSg, hV, hD, hS⟩ := h
  have hTA := hD.tabA
  have q0 : qsc L xs (nI (6 * k)) = some (xs (6 * k)) := qsc_n (by omega) (by omega)
  have q1 : qsc L xs (nI (6 * k) + (1 : Int32)) = some (xs (6 * k + 1)) := by rw [l1, qn_add]; exact qsc_n (by omega) (by omega)
  have q2 : qsc L xs (nI (6 * k) + (2 : Int32)) = some (xs (6 * k + 2)) := by rw [l2, qn_add]; exact qsc_n (by omega) (by omega)
  have q3 : qsc L xs (nI (6 * k) + (3 : Int32)) = some (xs (6 * k + 3)) := by rw [l3, qn_add]; exact qsc_n (by omega) (by omega)
  have l4 : (4 : Int32) = nI 4 := by decide
  have q4 : qsc L xs (nI (6 * k) + (4 : Int32)) = some (xs (6 * k + 4)) := by rw [l4, qn_add]; exact qsc_n (by omega) (by omega)
  have q5 : qsc L xs (nI (6 * k) + (5 : Int32)) = some (xs (6 * k + 5)) := by rw [l5, qn_add]; exact qsc_n (by omega) (by omega)
  have hlt : ¬ (Int32.ofNat L - (6 : Int32)) < nI (6 * k) := by
    rw [ofn, l6, qn_sub (by omega), n_lt (by omega) (by omega)]
    omega
  show ok (cL_body 300000 L xs 0 111 (nI (6 * k)) I R) _
  unfold cL_body
  refine ok_bindv (qck_t hV) ?_
  rw [if_neg hlt]
  refine ok_bindv q0 ?_
  generalize xs (6 * k) &&& (31 : Int32) = d
  by_cases c0 : d = (0 : Int32)
  · rw [if_pos c0]
    exact ok_bindv q1 (go_S (sim_train hL hB hSg _) hL hV hD hS)
  rw [if_neg c0]
  by_cases c1 : d = (1 : Int32)
  · rw [if_pos c1]
    exact ok_bindv q1 (ok_bindv q2 (ok_bindv q3 (ok_bindv q4 (go_S (sim_stop (by omega) hL hB hSg _ _ _ _) hL hV hD hS))))
  rw [if_neg c1]
  by_cases c2 : d = (2 : Int32)
  · rw [if_pos c2]
    exact ok_bindv q1 (ok_bindv q2 (go_S (sim_days hL hB hSg _ _) hL hV hD hS))
  rw [if_neg c2]
  by_cases c3 : d = (3 : Int32)
  · rw [if_pos c3]
    exact ok_bindv q1 (go_S (sim_cut hL hB hSg _) hL hV hD hS)
  rw [if_neg c3]
  by_cases c4 : d = (4 : Int32)
  · rw [if_pos c4]
    exact ok_bindv q1 (ok_bindv q2 (go_S (sim_shift (by omega) hL hB hSg _ _) hL hV hD hS))
  rw [if_neg c4]
  by_cases c5 : d = (5 : Int32)
  · rw [if_pos c5]
    exact ok_bindv q1 (ok_bindv q2 (go_S (sim_sign hL hB hSg _ _) hL hV hD hS))
  rw [if_neg c5]
  by_cases c6 : d = (6 : Int32)
  · rw [if_pos c6]
    exact ok_bindv q1 (go_S (sim_change hB hSg _) hL hV hD hS)
  rw [if_neg c6]
  by_cases c7 : d = (7 : Int32)
  · rw [if_pos c7]
    exact ok_bindv q1 (go_P (sim_about hL hB hTA.2.1 hTA.1 _) hL hB hSg hV hD hS)
  rw [if_neg c7]
  by_cases c8 : d = (8 : Int32)
  · rw [if_pos c8]
    exact ok_bindv q1 (ok_bindv q2 (go_P (sim_signs (by omega) hL hB hSg _ _) hL hB hSg hV hD hS))
  rw [if_neg c8]
  by_cases c9 : d = (9 : Int32)
  · rw [if_pos c9]
    exact ok_bindv q1 (go_T (Nat.le_refl _) hL hB hSg hV hD hS (by omega))
  rw [if_neg c9]
  by_cases c10 : d = (10 : Int32)
  · rw [if_pos c10]
    exact ok_bindv q1 (go_P (sim_row hL hTA _) hL hB hSg hV hD hS)
  rw [if_neg c10]
  by_cases c11 : d = (11 : Int32)
  · rw [if_pos c11]
    exact ok_bindv q1 (go_P (sim_column hL hTA _) hL hB hSg hV hD hS)
  rw [if_neg c11]
  by_cases c12 : d = (12 : Int32)
  · rw [if_pos c12]
    exact ok_bindv q1 (ok_bindv q2 (ok_bindv q3 (go_P (sim_cell (Nat.le_refl _) hL hD _ _ _) hL hB hSg hV hD hS)))
  rw [if_neg c12]
  by_cases c13 : d = (13 : Int32)
  · rw [if_pos c13]
    exact ok_bindv q1 (go_P (sim_breaches (Nat.le_refl _) hL hD _) hL hB hSg hV hD hS)
  rw [if_neg c13]
  by_cases c14 : d = (14 : Int32)
  · rw [if_pos c14]
    exact ok_bindv q1 (ok_bindv q2 (go_P (sim_breach (Nat.le_refl _) hL hD _ _) hL hB hSg hV hD hS))
  rw [if_neg c14]
  by_cases c15 : d = (15 : Int32)
  · rw [if_pos c15]
    exact go_P (sim_lanes hL hTA) hL hB hSg hV hD hS
  rw [if_neg c15]
  by_cases c16 : d = (16 : Int32)
  · rw [if_pos c16]
    exact ok_bindv q1 (go_P (sim_lane hL hTA _) hL hB hSg hV hD hS)
  rw [if_neg c16]
  by_cases c17 : d = (17 : Int32)
  · rw [if_pos c17]
    exact ok_bindv q1 (ok_bindv q2 (ok_bindv q3 (ok_bindv q4 (ok_bindv q5 (go_R (sim_way (Nat.le_refl _) hL hB hSg _ _ _ _ _) hL hV hD hS)))))
  rw [if_neg c17]
  by_cases c18 : d = (18 : Int32)
  · rw [if_pos c18]
    exact ok_bindv q1 (ok_bindv q2 (ok_bindv q3 (go_R (sim_departures (Nat.le_refl _) hL hB hSg _ _ _).1 hL hV hD hS)))
  rw [if_neg c18]
  by_cases c19 : d = (19 : Int32)
  · rw [if_pos c19]
    exact ok_bindv q1 (ok_bindv q2 (ok_bindv q3 (ok_bindv q4 (go_R ((sim_departures (Nat.le_refl _) hL hB hSg _ _ _).2 _) hL hV hD hS))))
  rw [if_neg c19]
  rw [n6]
  exact ok_some ⟨I, R, S, rfl, hL, hB, hSg, hV, hD, by omega⟩
theorem start_inv : ∃ q, fL_make 300000 = some q ∧ q.1 = 111 ∧ LInv 0 (0, q.2.1, q.2.2) := by
  obtain ⟨I, R, h1, hL, hB, hS, h2, h3, h4, h5, hI⟩ := make_ok
  obtain ⟨m1, m2⟩ := make_ok2 h1
  simp only at m1 m2
  refine ⟨_, h1, rfl, I, R, 0, rfl, hL, hB, hS, ⟨13, 8, ⟨h4, hL.l 13 rfl, by omega, by omega, by omega⟩, ⟨1, rfl⟩, ⟨?_, by omega, fun x hx => ⟨0, ?_, by omega⟩⟩, fun i hi => ⟨0, by omega, ?_⟩, by omega, by omega⟩, ?_, by omega⟩
  · rw [hI 8 4 (by omega) (by omega)]; exact l0
  · rw [hI 13 x (by omega) (by omega)]
    have : ∀ x, x < 8 → lI 13 x = nI 0 := by decide +kernel
    exact this x hx
  · rw [m2 i hi]; exact l0
  · have z46 : I 4 6 = nI 0 := by rw [hI 4 6 (by omega) (by omega)]; exact l0
    have z80 : I 8 0 = nI 0 := by rw [hI 8 0 (by omega) (by omega)]; exact l0
    have z9 : I 111 9 = nI 0 := by rw [hI 111 9 (by omega) (by omega)]; exact l0
    have z10 : I 111 10 = nI 0 := by rw [hI 111 10 (by omega) (by omega)]; exact l0
    have z3 : I 14 3 = nI 0 := by rw [hI 14 3 (by omega) (by omega)]; exact l0
    have z1 : I 14 1 = nI 0 := by rw [hI 14 1 (by omega) (by omega)]; exact l0
    have z2 : I 14 2 = nI 0 := by rw [hI 14 2 (by omega) (by omega)]; exact l0
    have z18 : I 18 0 = nI 0 := by rw [hI 18 0 (by omega) (by omega)]; exact l0
    refine ⟨0, 0, fun _ => 0, fun _ => 0, fun _ _ => 0, fun _ _ => 0, fun _ _ => 0, fun _ _ => 0, ⟨⟨by omega, fun k hk => by omega, fun k i hk => by omega⟩, fun k i hk => by omega, fun m hm => by omega, by omega⟩, ⟨⟨z10, by omega, fun k hk => by omega, fun k i hk => by omega⟩, fun k i hk => by omega, fun m hm => by omega, fun m hm => by omega⟩, ⟨z46, z80, z9⟩, ⟨fun i hi => by omega, fun m hm => by omega⟩, ⟨fun m j hm => by omega, fun m j k hm => by omega⟩, ⟨fun i hi => by omega, fun i j _ hj => by omega⟩, ⟨⟨z3, fun a ha => by omega⟩, z1, z2⟩, fun m hm => by omega, ?_⟩
    rw [z18, m1]; exact l0.symm
theorem fL_ok (L : Nat) (hL : L ≤ 3072) (xs : Nat → Int32) : fL 300000 L xs = some () := by
  obtain ⟨⟨q1, qI0, qR0⟩, h1, h2, h3⟩ := start_inv
  simp only at h2 h3
  subst h2
  have key : ok (fL 300000 L xs) (fun _ => True) := by
    unfold fL
    refine ok_bindv h1 ?_
    refine ok_for LInv (L / 6) (by omega) h3 (fun k s hk hs => ?_) (fun s hs => ?_)
    · exact ok_mono (body_ok hL hk hs) (fun x hx => by cases x <;> exact hx)
    · obtain ⟨I, R, S, rfl, hLr, hB, hSg, hV, hD, hS⟩ := hs
      refine ⟨.inr (), ?_, trivial⟩
      show cL_body 300000 L xs 0 111 (nI (6 * (L / 6))) I R = _
      unfold cL_body
      rw [qck_t hV, obs, if_pos]
      rw [ofn, l6, ilt, isu (by rw [tI_nI (by omega), tI_nI (by omega)]; omega) (by rw [tI_nI (by omega), tI_nI (by omega)]; omega), tI_nI (by omega), tI_nI (by omega), tI_nI (by omega)]
      omega
  obtain ⟨u, e, _⟩ := key
  exact e
