/-! THE START, AND THE LAW AS ONE PURE FUNCTION -/
def q0R : qR := ((fun _ _ => none), (fun _ => (0, 0)), 0, 0)
def q0I : qI := fun _ _ => 0
/-- both objects are made -/
def fL_make (N : Nat) : Option (Nat × qI × qR) :=
  qlet (qzI q0I q0R.2.2.1) fun I1 =>
  qlet (qzR q0R 7 6) fun R1 =>
  (qck R1).bind fun _ =>
  (fX7_init N R1 I1 q0R.2.2.1).bind fun y1 =>
  (qck y1.2).bind fun _ =>
  qlet (qzI y1.1 y1.2.2.2.1) fun I2 =>
  qlet (qzR y1.2 8 35) fun R2 =>
  (qck R2).bind fun _ =>
  (fX8_init R2 I2 y1.2.2.2.1).bind fun y2 =>
  (qck y2.2).bind fun _ =>
  some (y1.2.2.2.1, y2.1, y2.2)
def fL (N L : Nat) (xs : Nat → Int32) : Option Unit :=
  (fL_make N).bind fun q =>
  qloop (fun s => cL_body N L xs 0 q.1 s.1 s.2.1 s.2.2) N (0, q.2.1, q.2.2)
theorem q0WT : qWT q0R := fun a j r h _ => absurd h (Nat.not_lt_zero _)
set_option maxHeartbeats 4000000 in
set_option maxRecDepth 100000 in
theorem aL_start {l : Launch} {G : qG} {nm : String} {b L N : Nat} {xs : Nat → Int32} (hF : fL N L xs = some ()) : AW (ZL l G nm b L xs) 0 [(0, .ref b)] [] q0I q0R := by
  unfold fL at hF
  obtain ⟨q, eq, hF⟩ := qbind hF
  unfold fL_make at eq
  obtain ⟨I1, eI1, eq⟩ := qletE eq
  obtain ⟨R1, eR1, eq⟩ := qletE eq
  obtain ⟨_, hc1, eq⟩ := qbind eq
  replace hc1 := qck_some hc1
  obtain ⟨y1, ey1, eq⟩ := qbind eq
  obtain ⟨_, hc2, eq⟩ := qbind eq
  replace hc2 := qck_some hc2
  obtain ⟨I2, eI2, eq⟩ := qletE eq
  obtain ⟨R2, eR2, eq⟩ := qletE eq
  obtain ⟨_, hc3, eq⟩ := qbind eq
  replace hc3 := qck_some hc3
  obtain ⟨y2, ey2, eq⟩ := qbind eq
  obtain ⟨_, hc4, eq⟩ := qbind eq
  replace hc4 := qck_some hc4
  have hq : (y1.2.2.2.1, y2.1, y2.2) = q := Option.some.inj eq
  subst hq
  have W1 := q0WT.z eR1
  have k1 : qok R1 q0R.2.2.1 7 := qok.z eR1
  have X1 := eX7_init W1 k1 ey1
  have W3 := X1.1.z eR2
  have k3 : qok R2 y1.2.2.2.1 8 := qok.z eR2
  have X2 := eX8_init W3 k3 ey2
  have k1' : qok y2.2 0 7 := ((k1.ext X1.2).ext (qExt.z eR2)).ext X2.2
  have k3' : qok y2.2 y1.2.2.2.1 8 := k3.ext X2.2
  refine aw_newW nw_L_7 eI1 eR1 hc1 rfl dL_law_0 ?_
  refine aw_dup dL_law_3 rfl ?_
  refine aw_callI (As := []) (sX7_init W1 k1 ey1) cl_L_9 rfl (qroomW (by decide) (by decide) hc2) rfl (Nat.le_of_ble_eq_true rfl) dL_law_4 rfl ?_
  refine aw_astore_n (lv' := [(1, .ref (G.1 + q0R.2.2.1)), (0, .ref b)]) dL_law_7 rfl (Nat.le_of_ble_eq_true rfl) rfl ?_
  refine aw_newW nw_L_10 eI2 eR2 hc3 rfl dL_law_8 ?_
  refine aw_dup dL_law_11 rfl ?_
  refine aw_callI (As := []) (sX8_init W3 k3 ey2) cl_L_12 rfl (qroomW (by decide) (by decide) hc4) rfl (Nat.le_of_ble_eq_true rfl) dL_law_12 rfl ?_
  refine aw_astore_n (lv' := [(2, .ref (G.1 + y1.2.2.2.1)), (1, .ref (G.1 + q0R.2.2.1)), (0, .ref b)]) dL_law_15 rfl (Nat.le_of_ble_eq_true rfl) rfl ?_
  refine aw_iconst (v := (0 : Int32)) dL_law_16 (by decide) ?_
  refine aw_istore_n (lv' := [(3, .int 0), (2, .ref (G.1 + y1.2.2.2.1)), (1, .ref (G.1 + q0R.2.2.1)), (0, .ref b)]) dL_law_17 rfl (Nat.le_of_ble_eq_true rfl) rfl ?_
  exact aw_sub [3, 2, 1, 0] rfl (tL_law N (0, y2.1, y2.2) hF X2.1 k1' k3')
theorem nest_of {args : Array Value} {s : State} (hts : ∀ w ∈ lw_tbl, w.before args s = true) : ∀ w ∈ qNest, va_Nw w s := by
  intro w hw
  have h2 := (List.mem_filter.mp hw).2
  have h1 := hts w (List.mem_filter.mp hw).1
  cases w <;> first | exact va_Nw.of rfl h1 | (simp at h2)
set_option maxHeartbeats 4000000 in
set_option maxRecDepth 100000 in
/-- the walk of the law from the pure function -/
theorem start_of {p : Program} {e : Env} {s : State} {m : MethodId} {below : List Frame} {meth : Method} {c : Code} (l : Launch) {b L N : Nat} {xs : Nat → Int32} (C0 : lw_At p s m meth c b L xs) (hF : fL N L xs = some ()) : W p l e room_1 s m #[Value.ref b] below meth c s.heap [] 0 0 (lw_Z below #[Value.ref b] s) (entryFrame m ([Value.ref b] : List Value).toArray 4) := by
  obtain ⟨hx, hb, hr, hml, hown, hts0, hX, hbl, hlocks, hgv⟩ := id C0
  have hts : ∀ w ∈ wW, w.before #[Value.ref b] s = true := fun w hw => hts0 w (List.mem_filter.mp hw).1
  obtain ⟨c0, iS0, hK0⟩ := u_known (C := RX0) (T := TX0) (N := 6) (n := 6) hts in_X0 (hts _ cn_X0)
  obtain ⟨c1, iS1, hK1⟩ := u_known (C := RX1) (T := TX1) (N := 3) (n := 3) hts in_X1 (hts _ cn_X1)
  obtain ⟨c2, iS2, hK2⟩ := u_known (C := RX2) (T := TX2) (N := 9) (n := 9) hts in_X2 (hts _ cn_X2)
  obtain ⟨c3, iS3, hK3⟩ := u_known (C := RX3) (T := TX3) (N := 1) (n := 1) hts in_X3 (hts _ cn_X3)
  obtain ⟨c4, iS4, hK4⟩ := u_known (C := RX4) (T := TX4) (N := 7) (n := 7) hts in_X4 (hts _ cn_X4)
  obtain ⟨c5, iS5, hK5⟩ := u_known (C := RX5) (T := TX5) (N := 6) (n := 6) hts in_X5 (hts _ cn_X5)
  obtain ⟨c6, iS6, hK6⟩ := u_known (C := RX6) (T := TX6) (N := 16) (n := 16) hts in_X6 (hts _ cn_X6)
  obtain ⟨c7, iS7, hK7⟩ := u_known (C := RX7) (T := TX7) (N := 6) (n := 6) hts in_X7 (hts _ cn_X7)
  obtain ⟨c8, iS8, hK8⟩ := u_known (C := RX8) (T := TX8) (N := 35) (n := 35) hts in_X8 (hts _ cn_X8)
  obtain ⟨dC, dI, hKc⟩ : ∃ (dC : Nat → ClassId) (dI : Nat → Nat → Nat), ∀ (k : Nat) (q : vw_C), vwCl[k]? = some q → u_Kn s q.1 q.2.1 q.2.2 (dC k) (dI k) := by
    refine ⟨fun k => match k with | 0 => c0 | 1 => c1 | 2 => c2 | 3 => c3 | 4 => c4 | 5 => c5 | 6 => c6 | 7 => c7 | _ => c8, fun k => match k with | 0 => iS0 | 1 => iS1 | 2 => iS2 | 3 => iS3 | 4 => iS4 | 5 => iS5 | 6 => iS6 | 7 => iS7 | _ => iS8, ?_⟩
    intro k q hq
    match k, hq with
    | 0, hq => cases hq; exact hK0
    | 1, hq => cases hq; exact hK1
    | 2, hq => cases hq; exact hK2
    | 3, hq => cases hq; exact hK3
    | 4, hq => cases hq; exact hK4
    | 5, hq => cases hq; exact hK5
    | 6, hq => cases hq; exact hK6
    | 7, hq => cases hq; exact hK7
    | 8, hq => cases hq; exact hK8
    | k + 9, hq => simp [vwCl] at hq
  obtain ⟨cI, kI, mI, i1, i2, i3⟩ := Cond.arrayClass_spec (hts _ ca_int)
  obtain ⟨cZ, kZ, mZ, z1, z2, z3⟩ := Cond.arrayClass_spec (hts _ ca_boolean)
  have hAO : va_AO RX5 s := va_AO.of (hts0 (.arrayOver (.object RX5)) (List.mem_of_getElem? (i := 101) (by rfl)))
  obtain ⟨mT, cT, kT, o1, o2, o3, o4, o5⟩ := Cond.arrayOver_spec hAO
  have hA : ∀ (cA : ClassId) (kA : Class) (comp : ClassId) (ty : FieldType), s.vm.classes[cA]? = some kA → kA.kind = .array comp ty → ArrOfT s cA ty := fun cA kA comp ty g2 g3 n z => ⟨fun k h => (by cases h), kA, g2, comp, g3⟩
  have hK : qK (s.heap.size, (dC, dI), cI, cZ, cT) s := by
    refine ⟨⟨hKc, fun k q hq => ?_⟩, nest_of hts0, hAO⟩
    match k, hq with
    | 0, hq => cases hq; exact ⟨hA _ _ _ _ i2 i3, i1⟩
    | 1, hq => cases hq; exact ⟨hA _ _ _ _ z2 z3, z1⟩
    | 2, hq => cases hq; exact ⟨hA _ _ _ _ o3 o4, kT, mT, o3, o4, o1, o5⟩
    | k + 3, hq => simp [qtys] at hq
  have hl := lv_entry ([Value.ref b]) (n := 4) (Nat.le_of_ble_eq_true rfl)
  rw [lg_entry_eq]
  have hw : qRP (s.heap.size, (dC, dI), cI, cZ, cT) q0I q0R s.heap := fun k q hq => by
    obtain ⟨h, -⟩ := qw_of hq
    exact absurd h (Nat.not_lt_zero _)
  exact aL_start (G := (s.heap.size, (dC, dI), cI, cZ, cT)) (nm := meth.name) hF p e s m below meth c s.heap [] _ ⟨hx, hb, hr, hml, hown, hts, hlocks, rfl, hK, rfl, hX, hbl⟩ ⟨hw, Nat.le_refl _, Nat.le_refl _⟩ va_S.rf hl
