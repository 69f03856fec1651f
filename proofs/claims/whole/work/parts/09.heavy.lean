/-! HEAVY: methods that make cells or write references -/
def qExt (R R2 : qR) : Prop := R.2.2.1 ≤ R2.2.2.1 ∧ R.2.2.2 ≤ R2.2.2.2 ∧ ∀ a, a < R.2.2.1 → R2.2.1 a = R.2.1 a
theorem qExt.rf {R : qR} : qExt R R := ⟨Nat.le_refl _, Nat.le_refl _, fun _ _ => rfl⟩
theorem qExt.trans {R R2 R3 : qR} (h : qExt R R2) (h2 : qExt R2 R3) : qExt R R3 := ⟨Nat.le_trans h.1 h2.1, Nat.le_trans h.2.1 h2.2.1, fun a ha => (h2.2.2 a (Nat.lt_of_lt_of_le ha h.1)).trans (h.2.2 a ha)⟩
theorem qx_trans {R R2 R3 : qR} (h : qExt R R2) (h2 : qWT R3 ∧ qExt R2 R3) : qWT R3 ∧ qExt R R3 := ⟨h2.1, h.trans h2.2⟩
theorem qX_end {R : qR} (h : qWT R) : qWT R ∧ qExt R R := ⟨h, qExt.rf⟩
theorem qok.ext {R R2 : qR} {a k : Nat} (h : qok R a k) (E : qExt R R2) : qok R2 a k := ⟨Nat.lt_of_lt_of_le h.1 E.1, by rw [E.2.2 a h.1]; exact h.2⟩
theorem qExt.pr {R R2 : qR} {a j : Nat} {r : Option Nat} (e : R2 = qpr R a j r) : qExt R R2 := by subst e; exact ⟨Nat.le_refl _, Nat.le_refl _, fun _ _ => rfl⟩
theorem qWT.pr {R R2 : qR} (h : qWT R) {a j r kd : Nat} (ha : qok R a kd) (hr : qok R r (qfk kd j)) (e : R2 = qpr R a j (some r)) : qWT R2 := by
  subst e
  intro b i q hb hq
  show qok R q (qfk (R.2.1 b).1 i)
  have hq' : (if b = a then va_up (R.1 a) j (some r) else R.1 b) i = some q := hq
  by_cases hba : b = a
  · subst hba
    rw [if_pos rfl] at hq'
    unfold va_up at hq'
    split at hq'
    next hij => cases hq'; rw [hij, ha.2]; exact hr
    next => exact h b i q hb hq'
  · rw [if_neg hba] at hq'
    exact h b i q hb hq'
theorem qExt.z {R R2 : qR} {kd len : Nat} (e : R2 = qzR R kd len) : qExt R R2 := by
  subst e
  refine ⟨Nat.le_succ _, Nat.le_add_right _ _, fun a ha => ?_⟩
  show (if a = R.2.2.1 then (kd, len) else R.2.1 a) = R.2.1 a
  rw [if_neg (Nat.ne_of_lt ha)]
theorem qok.z {R R2 : qR} {kd len : Nat} (e : R2 = qzR R kd len) : qok R2 R.2.2.1 kd := by
  subst e
  refine ⟨Nat.lt_succ_self _, ?_⟩
  show (if R.2.2.1 = R.2.2.1 then (kd, len) else R.2.1 R.2.2.1).1 = kd
  rw [if_pos rfl]
theorem qWT.z {R R2 : qR} {kd len : Nat} (h : qWT R) (e : R2 = qzR R kd len) : qWT R2 := by
  have E := qExt.z e
  subst e
  intro b i q hb hq
  have hq' : (if b = R.2.2.1 then (fun _ => none) else R.1 b) i = some q := hq
  by_cases hba : b = R.2.2.1
  · rw [if_pos hba] at hq'; cases hq'
  · rw [if_neg hba] at hq'
    have hb' : b < R.2.2.1 := by
      have : b < R.2.2.1 + 1 := hb
      omega
    have := (h b i q hb' hq').ext E
    rw [E.2.2 b hb']
    exact this
def qnn (x : Int32) : Option Nat := if x < 0 ∨ 100000000 < x.toNatClampNeg then none else some x.toNatClampNeg
theorem qnn_some {x : Int32} {n : Nat} (h : qnn x = some n) : ¬ x < 0 ∧ x.toNatClampNeg = n ∧ n ≤ 100000000 := by
  unfold qnn at h
  split at h
  next => cases h
  next hc =>
    have h' := Option.some.inj h
    refine ⟨fun q => hc (Or.inl q), h', ?_⟩
    rw [← h']
    exact Nat.not_lt.mp fun q => hc (Or.inr q)
theorem qpair {α β : Type} {a c : α} {b d : β} (h : some (a, b) = some (c, d)) : a = c ∧ b = d := by
  injection h with h
  injection h with h1 h2
  exact ⟨h1, h2⟩
/-- a class that is made -/
def qNW (own : String) (index ci N : Nat) : Prop := ∃ (C : String) (T : u_T) (ty : Nat → FieldType), vwCl[ci]? = some (C, T, N) ∧ ci < 9 ∧ (∀ w ∈ u_ws C T N, w ∈ wW) ∧ (∀ k, k < N → parseFieldDescriptor (T k).2.2.1 = some (ty k)) ∧ Cond.classLink own index C ∈ wW ∧ Cond.instantiable C N ∈ wW ∧ Cond.initialized C ∈ wW ∧ (∀ j, j < N → defaultValue (ty j) = vp_V (qflds ci (fun _ => 0) (fun _ => none)) j)
section AWQ
variable {l : Launch} {G : qG} {M0 : qM} {d0 : Nat} {As0 : List Value} {R0 R1 : qR} {v0 : Option Value} {I0 : qI} {pc : Nat} {lv : List (Nat × Value)} {st : List Value} {I I2 : qI} {R R2 : qR}
theorem aw_newq {own : String} {index ci N : Nat} (hn : qNW own index ci N) (eI : I2 = qzI I R.2.2.1) (eR : R2 = qzR R ci N) (hx : qExt R2 R1) (ho : M0.1.cls = own) (hd : decode M0.2.1 pc = .ok (.new index, 3)) (h : AW (Zm l G M0 d0 As0 R0 v0 I0 R1) (pc + 3) lv (.ref (G.1 + R.2.2.1) :: st) I2 R2) : AW (Zm l G M0 d0 As0 R0 v0 I0 R1) pc lv st I R := by
  subst eI eR
  obtain ⟨C, T, ty, h1, h2, h3, h4, h5, h6, h7, h8⟩ := hn
  have a1 : R.2.2.1 + 1 ≤ R1.2.2.1 := hx.1
  have a2 : R.2.2.2 + N ≤ R1.2.2.2 := hx.2.1
  exact aw_new ty h1 h2 h3 h4 h5 h6 h7 h8 (by show R.2.2.1 + 1 - R0.2.2.1 ≤ R1.2.2.1 - R0.2.2.1; omega) (by show R.2.2.2 + N - R0.2.2.2 ≤ R1.2.2.2 - R0.2.2.2; omega) ho hd h
theorem aw_newiq {x : Int32} {N : Nat} (h0 : ¬ x < 0) (hN : x.toNatClampNeg = N) (hb : N ≤ 100000000) (eI : I2 = qzI I R.2.2.1) (eR : R2 = qzR R 9 N) (hx : qExt R2 R1) (hd : decode M0.2.1 pc = .ok (.newarray .int, 2)) (h : AW (Zm l G M0 d0 As0 R0 v0 I0 R1) (pc + 2) lv (.ref (G.1 + R.2.2.1) :: st) I2 R2) : AW (Zm l G M0 d0 As0 R0 v0 I0 R1) pc lv (.int x :: st) I R := by
  subst eI eR
  have a1 : R.2.2.1 + 1 ≤ R1.2.2.1 := hx.1
  have a2 : R.2.2.2 + N ≤ R1.2.2.2 := hx.2.1
  exact aw_newi ca_int h0 hN hb (by show R.2.2.1 + 1 - R0.2.2.1 ≤ R1.2.2.1 - R0.2.2.1; omega) (by show R.2.2.2 + N - R0.2.2.2 ≤ R1.2.2.2 - R0.2.2.2; omega) hd h
theorem aw_newzq {x : Int32} {N : Nat} (h0 : ¬ x < 0) (hN : x.toNatClampNeg = N) (hb : N ≤ 100000000) (eI : I2 = qzI I R.2.2.1) (eR : R2 = qzR R 10 N) (hx : qExt R2 R1) (hd : decode M0.2.1 pc = .ok (.newarray .boolean, 2)) (h : AW (Zm l G M0 d0 As0 R0 v0 I0 R1) (pc + 2) lv (.ref (G.1 + R.2.2.1) :: st) I2 R2) : AW (Zm l G M0 d0 As0 R0 v0 I0 R1) pc lv (.int x :: st) I R := by
  subst eI eR
  have a1 : R.2.2.1 + 1 ≤ R1.2.2.1 := hx.1
  have a2 : R.2.2.2 + N ≤ R1.2.2.2 := hx.2.1
  exact aw_newz ca_boolean h0 hN hb (by show R.2.2.1 + 1 - R0.2.2.1 ≤ R1.2.2.1 - R0.2.2.1; omega) (by show R.2.2.2 + N - R0.2.2.2 ≤ R1.2.2.2 - R0.2.2.2; omega) hd h
theorem aw_newtq {own : String} {index : Nat} {x : Int32} {N : Nat} (hw : Cond.classLink own index RX5 ∈ wW) (h0 : ¬ x < 0) (hN : x.toNatClampNeg = N) (hb : N ≤ 100000000) (eI : I2 = qzI I R.2.2.1) (eR : R2 = qzR R 11 N) (hx : qExt R2 R1) (ho : M0.1.cls = own) (hd : decode M0.2.1 pc = .ok (.anewarray index, 3)) (h : AW (Zm l G M0 d0 As0 R0 v0 I0 R1) (pc + 3) lv (.ref (G.1 + R.2.2.1) :: st) I2 R2) : AW (Zm l G M0 d0 As0 R0 v0 I0 R1) pc lv (.int x :: st) I R := by
  subst eI eR
  have a1 : R.2.2.1 + 1 ≤ R1.2.2.1 := hx.1
  have a2 : R.2.2.2 + N ≤ R1.2.2.2 := hx.2.1
  exact aw_newt hw h0 hN hb (by show R.2.2.1 + 1 - R0.2.2.1 ≤ R1.2.2.1 - R0.2.2.1; omega) (by show R.2.2.2 + N - R0.2.2.2 ≤ R1.2.2.2 - R0.2.2.2; omega) ho hd h
theorem qroomH {M : qM} {d : Nat} {Rc : qR} (h1 : d + 1 ≤ d0) (h2 : M.2.2.1 ≤ 45) (hx : qExt Rc R1) : qroom (Zm l G M0 d0 As0 R0 v0 I0 R1) M d Rc := by
  have a1 := hx.1
  have a2 := hx.2.1
  refine ⟨h1, ?_, ?_, ?_⟩
  · show 8 + (M.2.2.1 + 11) + 64 * d ≤ 64 * d0
    omega
  · show Rc.2.2.1 - R0.2.2.1 ≤ R1.2.2.1 - R0.2.2.1
    omega
  · show Rc.2.2.2 - R0.2.2.2 ≤ R1.2.2.2 - R0.2.2.2
    omega
end AWQ
section AWP
variable {Z : qZ} {pc : Nat} {lv : List (Nat × Value)} {st : List Value} {I : qI} {R R2 : qR}
theorem aw_putrq {own : String} {index ci j a r : Nat} (hf : qFL own index ci j) (hc : ci < 9) (hg : ∀ a i p, qflds ci i (va_up p j (some a)) = (qflds ci i p).set j (.ref a)) (hl : ∀ i p, j < (qflds ci i p).length) (hfin : qTY ci j false) (ha : qok R a ci) (e : R2 = qpr R a j (some r)) (ho : (zM Z).1.cls = own) (hd : decode (zc Z) pc = .ok (.putfield index, 3)) (h : AW Z (pc + 3) lv st I R2) : AW Z pc lv (.ref ((zG Z).1 + r) :: .ref ((zG Z).1 + a) :: st) I R := by
  subst e
  exact aw_putr hf hc (hg _) hl hfin ha ho hd h
theorem aw_putFq {own : String} {index ci j a r : Nat} (hf : qFL own index ci j) (hc : ci < 9) (hg : ∀ a i p, qflds ci i (va_up p j (some a)) = (qflds ci i p).set j (.ref a)) (hl : ∀ i p, j < (qflds ci i p).length) (hfin : qTY ci j true) (hown : ∀ C T N, vwCl[ci]? = some (C, T, N) → C = own) (hin : (zM Z).1.name = "<init>") (ha : qok R a ci) (e : R2 = qpr R a j (some r)) (ho : (zM Z).1.cls = own) (hd : decode (zc Z) pc = .ok (.putfield index, 3)) (h : AW Z (pc + 3) lv st I R2) : AW Z pc lv (.ref ((zG Z).1 + r) :: .ref ((zG Z).1 + a) :: st) I R := by
  subst e
  exact aw_putF hf hc (hg _) hl hfin hown hin ha ho hd h
end AWP
theorem nw_L_7 : qNW RL 7 7 6 := ⟨RX7, TX7, tyX7, rfl, by decide, in_X7, tyX7_ok, cc_L_7, cn_X7, ci_X7, fun j hj => match j, hj with | 0, _ => rfl | 1, _ => rfl | 2, _ => rfl | 3, _ => rfl | 4, _ => rfl | 5, _ => rfl⟩
theorem nw_X7_9 : qNW RX7 9 5 6 := ⟨RX5, TX5, tyX5, rfl, by decide, in_X5, tyX5_ok, cc_X7_9, cn_X5, ci_X5, fun j hj => match j, hj with | 0, _ => rfl | 1, _ => rfl | 2, _ => rfl | 3, _ => rfl | 4, _ => rfl | 5, _ => rfl⟩
theorem nw_X7_15 : qNW RX7 15 3 1 := ⟨RX3, TX3, tyX3, rfl, by decide, in_X3, tyX3_ok, cc_X7_15, cn_X3, ci_X3, fun j hj => match j, hj with | 0, _ => rfl⟩
theorem nw_X7_22 : qNW RX7 22 4 7 := ⟨RX4, TX4, tyX4, rfl, by decide, in_X4, tyX4_ok, cc_X7_22, cn_X4, ci_X4, fun j hj => match j, hj with | 0, _ => rfl | 1, _ => rfl | 2, _ => rfl | 3, _ => rfl | 4, _ => rfl | 5, _ => rfl | 6, _ => rfl⟩
theorem nw_X4_9 : qNW RX4 9 5 6 := ⟨RX5, TX5, tyX5, rfl, by decide, in_X5, tyX5_ok, cc_X4_9, cn_X5, ci_X5, fun j hj => match j, hj with | 0, _ => rfl | 1, _ => rfl | 2, _ => rfl | 3, _ => rfl | 4, _ => rfl | 5, _ => rfl⟩
theorem nw_X4_24 : qNW RX4 24 2 9 := ⟨RX2, TX2, tyX2, rfl, by decide, in_X2, tyX2_ok, cc_X4_24, cn_X2, ci_X2, fun j hj => match j, hj with | 0, _ => rfl | 1, _ => rfl | 2, _ => rfl | 3, _ => rfl | 4, _ => rfl | 5, _ => rfl | 6, _ => rfl | 7, _ => rfl | 8, _ => rfl⟩
theorem nw_X4_31 : qNW RX4 31 0 6 := ⟨RX0, TX0, tyX0, rfl, by decide, in_X0, tyX0_ok, cc_X4_31, cn_X0, ci_X0, fun j hj => match j, hj with | 0, _ => rfl | 1, _ => rfl | 2, _ => rfl | 3, _ => rfl | 4, _ => rfl | 5, _ => rfl⟩
theorem nw_X4_38 : qNW RX4 38 1 3 := ⟨RX1, TX1, tyX1, rfl, by decide, in_X1, tyX1_ok, cc_X4_38, cn_X1, ci_X1, fun j hj => match j, hj with | 0, _ => rfl | 1, _ => rfl | 2, _ => rfl⟩
theorem nw_X7_29 : qNW RX7 29 6 16 := ⟨RX6, TX6, tyX6, rfl, by decide, in_X6, tyX6_ok, cc_X7_29, cn_X6, ci_X6, fun j hj => match j, hj with | 0, _ => rfl | 1, _ => rfl | 2, _ => rfl | 3, _ => rfl | 4, _ => rfl | 5, _ => rfl | 6, _ => rfl | 7, _ => rfl | 8, _ => rfl | 9, _ => rfl | 10, _ => rfl | 11, _ => rfl | 12, _ => rfl | 13, _ => rfl | 14, _ => rfl | 15, _ => rfl | j + 16, h => absurd h (by omega)⟩
theorem nw_X6_9 : qNW RX6 9 5 6 := ⟨RX5, TX5, tyX5, rfl, by decide, in_X5, tyX5_ok, cc_X6_9, cn_X5, ci_X5, fun j hj => match j, hj with | 0, _ => rfl | 1, _ => rfl | 2, _ => rfl | 3, _ => rfl | 4, _ => rfl | 5, _ => rfl⟩
theorem nw_L_10 : qNW RL 10 8 35 := ⟨RX8, TX8, tyX8, rfl, by decide, in_X8, tyX8_ok, cc_L_10, cn_X8, ci_X8, fun j hj => match j, hj with | 0, _ => rfl | 1, _ => rfl | 2, _ => rfl | 3, _ => rfl | 4, _ => rfl | 5, _ => rfl | 6, _ => rfl | 7, _ => rfl | 8, _ => rfl | 9, _ => rfl | 10, _ => rfl | 11, _ => rfl | 12, _ => rfl | 13, _ => rfl | 14, _ => rfl | 15, _ => rfl | 16, _ => rfl | 17, _ => rfl | 18, _ => rfl | 19, _ => rfl | 20, _ => rfl | 21, _ => rfl | 22, _ => rfl | 23, _ => rfl | 24, _ => rfl | 25, _ => rfl | 26, _ => rfl | 27, _ => rfl | 28, _ => rfl | 29, _ => rfl | 30, _ => rfl | 31, _ => rfl | 32, _ => rfl | 33, _ => rfl | 34, _ => rfl | j + 35, h => absurd h (by omega)⟩
theorem fo_X0 (C : String) (T : u_T) (N : Nat) (h : vwCl[0]? = some (C, T, N)) : C = RX0 := by cases h; rfl
theorem fo_X1 (C : String) (T : u_T) (N : Nat) (h : vwCl[1]? = some (C, T, N)) : C = RX1 := by cases h; rfl
theorem fo_X2 (C : String) (T : u_T) (N : Nat) (h : vwCl[2]? = some (C, T, N)) : C = RX2 := by cases h; rfl
theorem fo_X3 (C : String) (T : u_T) (N : Nat) (h : vwCl[3]? = some (C, T, N)) : C = RX3 := by cases h; rfl
theorem fo_X4 (C : String) (T : u_T) (N : Nat) (h : vwCl[4]? = some (C, T, N)) : C = RX4 := by cases h; rfl
theorem fo_X5 (C : String) (T : u_T) (N : Nat) (h : vwCl[5]? = some (C, T, N)) : C = RX5 := by cases h; rfl
theorem fo_X6 (C : String) (T : u_T) (N : Nat) (h : vwCl[6]? = some (C, T, N)) : C = RX6 := by cases h; rfl
theorem fo_X7 (C : String) (T : u_T) (N : Nat) (h : vwCl[7]? = some (C, T, N)) : C = RX7 := by cases h; rfl
theorem fo_X8 (C : String) (T : u_T) (N : Nat) (h : vwCl[8]? = some (C, T, N)) : C = RX8 := by cases h; rfl
