/-! CONTRACTS AND CALLS -/
def qrm (d mc ms : Nat) : Room := { frames := d, cells := mc, slots := ms, locals := 64 * d }
def qQc (G : qG) (v1 : Option Value) (I1 : qI) (R1 : qR) : Array Value → State → Outcome → State → Prop := fun _ st oc t => oc = .returned v1 ∧ qRP G I1 R1 t.heap ∧ va_F (qA G) st t
def qPc (G : qG) (As : List Value) (I : qI) (R : qR) : Array Value → State → Prop := va_Pc As (fun U => U.heap.size = G.1 + R.2.2.1 ∧ qRP G I R U.heap ∧ qK G U)
/-- THE CONTRACT of a method M, at call depth d: with arguments As and heap picture (I, R) it returns v1 and leaves (I1, R1) -/
def qMt (l : Launch) (G : qG) (M : qM) (d : Nat) (As : List Value) (I : qI) (R : qR) (v1 : Option Value) (I1 : qI) (R1 : qR) : Prop :=
  (R.2.2.1 ≤ R1.2.2.1 ∧ R.2.2.2 ≤ R1.2.2.2) ∧ Met l M.1 (qws M) (qrm d (R1.2.2.1 - R.2.2.1) (R1.2.2.2 - R.2.2.2)) (qPc G As I R) (qQc G v1 I1 R1) (R1.2.2.1 - R.2.2.1) (R1.2.2.2 - R.2.2.2) (qA G)
abbrev Zm (l : Launch) (G : qG) (M : qM) (d : Nat) (As : List Value) (R : qR) (v1 : Option Value) (I1 : qI) (R1 : qR) : qZ :=
  (l, G, M, As, (fun _ => True), qrm d (R1.2.2.1 - R.2.2.1) (R1.2.2.2 - R.2.2.2), (R.2.2.1, R.2.2.2), fun below s => MQ below (qQc G v1 I1 R1) As.toArray s (R1.2.2.1 - R.2.2.1) (R1.2.2.2 - R.2.2.2) (qA G))
theorem qblind (G : qG) (As : List Value) (I : qI) (R : qR) : FrameBlind (qPc G As I R) := by
  intro a U g mk h
  obtain ⟨h1, h2, h3, h4⟩ := h
  exact ⟨h1, h2, h3, qK.same (u := U) (U := U.calling g mk a) rfl h4⟩
theorem qMt_of {l : Launch} {G : qG} {M : qM} {d : Nat} {As : List Value} {I : qI} {R : qR} {v1 : Option Value} {I1 : qI} {R1 : qR} (hp : plainName M.1.cls = true) (hlen : (lg_sl As).length ≤ M.2.2.1) (hle : R.2.2.1 ≤ R1.2.2.1 ∧ R.2.2.2 ≤ R1.2.2.2)
    (h : AW (Zm l G M d As R v1 I1 R1) 0 (lv_args 0 As) [] I R) : qMt l G M d As I R v1 I1 R1 := by
  refine ⟨hle, Met.ofW (cc := M.2.1) (maxL := M.2.2.1) (ret := M.2.2.2) hp rfl ?_⟩
  intro p e s m args below meth c s₁ B hml hv
  obtain ⟨rfl, hsz, hP, hK⟩ := hv
  have hts := atoms_spec (ws := qws M) B.pre
  have hl := lv_entry As (n := M.2.2.1) hlen
  rw [lg_entry_eq]
  have := h p e s m below meth c s.heap [] _ ⟨B.exec, B.bytes, B.returns, hml, findClass_of_methodNamed B.named, fun w hw => hts w (List.mem_cons_of_mem _ hw), B.notSynchronized, (name_of_methodNamed B.named B.method).1, hK, hsz, trivial⟩ ⟨hP, Nat.le_refl _, Nat.le_refl _⟩ va_S.rf hl
  rw [show R.2.2.1 - zN (Zm l G M d As R v1 I1 R1) = 0 from Nat.sub_self _, show R.2.2.2 - zS (Zm l G M d As R v1 I1 R1) = 0 from Nat.sub_self _] at this
  exact this
section AWC
variable {Z : qZ} {pc : Nat} {lv : List (Nat × Value)} {st st0 rest : List Value} {I : qI} {R : qR} {v1 : Option Value} {I1 : qI} {R1 : qR} {M : qM} {d : Nat} {As : List Value}
theorem aw_run {a : Array Value} (hle : R.2.2.1 ≤ R1.2.2.1 ∧ R.2.2.2 ≤ R1.2.2.2) (hrun : ∀ (p : Program) (e : Env) (s : State) (m : MethodId) (below : List Frame) (meth : Method) (c : Code) (H : Heap) (locs : List Loc) (ls : Array Slot), qCX Z p s m meth c → H.size = (zG Z).1 + R.2.2.1 → qRP (zG Z) I R H → zN Z ≤ R.2.2.1 → zS Z ≤ R.2.2.2 → lv_has ls (zn Z) lv →
      va_Run p (zl Z) e (zR Z) s m (zA Z).toArray below meth c H locs (R.2.2.1 - zN Z) (R.2.2.2 - zS Z) (R1.2.2.1 - R.2.2.1) (R1.2.2.2 - R.2.2.2) (F0 m pc ls st0) rest (qQc (zG Z) v1 I1 R1 a) (qA (zG Z)))
    (h : AW Z (pc + 3) lv (v1.toList ++ rest) I1 R1) : AW Z pc lv st0 I R := by
  intro p e s m below meth c H locs ls C hR hS hv
  refine qsize C hR hS (fun hz => ?_)
  intro T hT X
  obtain ⟨v, st₀, t, T', L, h0, X', hL, e1, e2, ⟨hv1, hP1, hz1, hk1⟩, stp⟩ := hrun p e s m below meth c H locs ls C hz hR.1 hR.2.1 hR.2.2 hv T hT X
  have hv2 : v = v1 := by injection hv1
  subst hv2
  rw [h0] at hz1 hk1
  have a1 : R.2.2.1 - zN Z + (R1.2.2.1 - R.2.2.1) = R1.2.2.1 - zN Z := by have := hR.2.1; omega
  have a2 : R.2.2.2 - zS Z + (R1.2.2.2 - R.2.2.2) = R1.2.2.2 - zS Z := by have := hR.2.2; omega
  rw [a1, a2] at X'
  have hS1 : va_S (qA (zG Z)) s.heap T'.heap (locs ++ L) := ⟨Nat.le_trans hS.1 (by rw [e1]; exact hz1), fun q g1 g2 => by rw [e1, hk1 q (Nat.lt_of_lt_of_le g1 hS.1) g2]; exact hS.2.1 q g1 g2, fun q hq => by
    rcases List.mem_append.mp hq with g | g
    · exact hS.2.2 q g
    · exact hL q g⟩
  obtain ⟨t2, b1, b2⟩ := h p e s m below meth c T'.heap (locs ++ L) ls C ⟨by rw [e1]; exact hP1, Nat.le_trans hR.2.1 hle.1, Nat.le_trans hR.2.2 hle.2⟩ hS1 hv T' rfl X'
  exact ⟨t2, stp t2 b1, b2⟩
/-- room for a callee -/
def qroom (Z : qZ) (M : qM) (d : Nat) (R1 : qR) : Prop := d + 1 ≤ (zR Z).frames ∧ 8 + (M.2.2.1 + 11) + 64 * d ≤ (zR Z).locals ∧ R1.2.2.1 - zN Z ≤ (zR Z).cells ∧ R1.2.2.2 - zS Z ≤ (zR Z).slots
theorem qroom_fits {M : qM} {d : Nat} (hr : qroom Z M d R1) (hle : R.2.2.1 ≤ R1.2.2.1 ∧ R.2.2.2 ≤ R1.2.2.2) (h1 : zN Z ≤ R.2.2.1) (h2 : zS Z ≤ R.2.2.2) : R.2.2.1 - zN Z + (R1.2.2.1 - R.2.2.1) ≤ (zR Z).cells ∧ R.2.2.2 - zS Z + (R1.2.2.2 - R.2.2.2) ≤ (zR Z).slots := by
  have := hr.2.2.1
  have := hr.2.2.2
  omega
/-- what a callee's name must be -/
def qnm (M : qM) (n : Nat) : Prop := M.1.cls ≠ "java/lang/invoke/MethodHandle" ∧ M.1.cls ≠ "java/lang/invoke/VarHandle" ∧ (parseMethodDescriptor M.1.desc).map (fun d => d.parameters.length) = some n
def qCV (own : String) (index n ci : Nat) (M : qM) : Prop := Cond.code M.1 M.2.1 M.2.2.1 M.2.2.2 ∈ wW ∧ Cond.initialized M.1.cls ∈ wW ∧ Cond.methodLink own index M.1 ∈ wW ∧ Cond.instanceMethod M.1 ∈ wW ∧ Cond.selects M.1.cls M.1 M.1 ∈ wW ∧ qnm M n ∧ ci < 9 ∧ ∃ T N, vwCl[ci]? = some (M.1.cls, T, N)
def qCS (own : String) (index n : Nat) (M : qM) : Prop := Cond.code M.1 M.2.1 M.2.2.1 M.2.2.2 ∈ wW ∧ Cond.initialized M.1.cls ∈ wW ∧ Cond.methodLink own index M.1 ∈ wW ∧ Cond.static M.1 ∈ wW ∧ qnm M n
def qCI (own : String) (index n : Nat) (M : qM) : Prop := Cond.code M.1 M.2.1 M.2.2.1 none ∈ wW ∧ Cond.initialized M.1.cls ∈ wW ∧ Cond.methodLink own index M.1 ∈ wW ∧ Cond.instanceMethod M.1 ∈ wW ∧ M.1.name = "<init>" ∧ qnm M n ∧ M.2.2.2 = none
def qCIN (own : String) (index n : Nat) (host : String) (M : qM) : Prop := Cond.code M.1 M.2.1 M.2.2.1 none ∈ wW ∧ Cond.initialized M.1.cls ∈ wW ∧ Cond.methodLinkNest own index M.1 host ∈ qNest ∧ Cond.instanceMethod M.1 ∈ wW ∧ M.1.name = "<init>" ∧ qnm M n ∧ M.2.2.2 = none
theorem aw_callV {own : String} {index n ci a : Nat} (hM : qMt (zl Z) (zG Z) M d (.ref ((zG Z).1 + a) :: As) I R v1 I1 R1) (hC : qCV own index n ci M) (hn : As.length = n) (hr : qroom Z M d R1) (ho : (zM Z).1.cls = own) (ha : qok R a ci) (hs : (rest.map fun v => v.category).sum ≤ 8) (hd : decode (zc Z) pc = .ok (.invokevirtual index, 3)) (hst : st0 = As.reverse ++ .ref ((zG Z).1 + a) :: rest)
    (h : AW Z (pc + 3) lv (v1.toList ++ rest) I1 R1) : AW Z pc lv st0 I R := by
  obtain ⟨c1, c2, c3, c4, c5, c6, c7, T, N, c8⟩ := hC
  subst ho hst
  refine aw_run (a := (Value.ref ((zG Z).1 + a) :: As).toArray) hM.1 (fun p e s m below meth c H locs ls C hz hP hn0 hs0 hl => ?_) h
  have he := qw_at (zG Z) I R ha.1
  rw [qcell_o ha.2 c7] at he
  have hts := C.2.2.2.2.2.1
  exact va_runV (cc := zc Z) (nL := zn Z) (n := n) (As := As) (C := M.1.cls) (bytes := M.2.1) (maxL := M.2.2.1) (ret := M.2.2.2) (ws := qws M) ⟨C.1, C.2.1, C.2.2.2.1, C.2.2.2.2.1, hts⟩ hM.2 ⟨callB_of n hts (qws_good c1) rfl rfl rfl (hts _ c2) (hts _ c3) c6 ⟨hr.1, hr.2.1⟩, hts _ c4, hts _ c5⟩
    ⟨qblind _ _ _ _, va_recv C.2.2.2.2.2.2.2.2.1.1 hP c8 he, fun U hU hW => ⟨rfl, by rw [hU]; exact hz, by rw [hU]; exact hP, C.2.2.2.2.2.2.2.2.1.moved hW⟩⟩ rfl hn hl.1 rfl (lv_room hs) hd (qroom_fits hr hM.1 hn0 hs0)
theorem aw_callS {own : String} {index n : Nat} (hM : qMt (zl Z) (zG Z) M d As I R v1 I1 R1) (hC : qCS own index n M) (hn : As.length = n) (hr : qroom Z M d R1) (ho : (zM Z).1.cls = own) (hs : (rest.map fun v => v.category).sum ≤ 8) (hd : decode (zc Z) pc = .ok (.invokestatic index, 3)) (hst : st0 = As.reverse ++ rest)
    (h : AW Z (pc + 3) lv (v1.toList ++ rest) I1 R1) : AW Z pc lv st0 I R := by
  obtain ⟨c1, c2, c3, c4, c6⟩ := hC
  subst ho hst
  refine aw_run (a := As.toArray) hM.1 (fun p e s m below meth c H locs ls C hz hP hn0 hs0 hl => ?_) h
  have hts := C.2.2.2.2.2.1
  exact va_runS (cc := zc Z) (nL := zn Z) (n := n) (As := As) (bytes := M.2.1) (maxL := M.2.2.1) (ret := M.2.2.2) (ws := qws M) ⟨C.1, C.2.1, C.2.2.2.1, C.2.2.2.2.1, hts⟩ hM.2 ⟨callB_of n hts (qws_good c1) rfl rfl rfl (hts _ c2) (hts _ c3) c6 ⟨hr.1, hr.2.1⟩, hts _ c4⟩
    ⟨qblind _ _ _ _, fun U hU hW => ⟨rfl, by rw [hU]; exact hz, by rw [hU]; exact hP, C.2.2.2.2.2.2.2.2.1.moved hW⟩⟩ rfl hn hl.1 rfl (lv_room hs) hd (qroom_fits hr hM.1 hn0 hs0)
theorem aw_callI {own : String} {index n a : Nat} (hM : qMt (zl Z) (zG Z) M d (.ref ((zG Z).1 + a) :: As) I R none I1 R1) (hC : qCI own index n M) (hn : As.length = n) (hr : qroom Z M d R1) (ho : (zM Z).1.cls = own) (hs : (rest.map fun v => v.category).sum ≤ 8) (hd : decode (zc Z) pc = .ok (.invokespecial index, 3)) (hst : st0 = As.reverse ++ .ref ((zG Z).1 + a) :: rest)
    (h : AW Z (pc + 3) lv rest I1 R1) : AW Z pc lv st0 I R := by
  obtain ⟨c1, c2, c3, c4, c5, c6, c7⟩ := hC
  obtain ⟨y, cc, mL, rt⟩ := M
  dsimp only at c1 c2 c3 c4 c5 c6 c7
  subst c7
  subst ho hst
  refine aw_run (v1 := none) (rest := rest) (a := (Value.ref ((zG Z).1 + a) :: As).toArray) hM.1 (fun p e s m below meth c H locs ls C hz hP hn0 hs0 hl => ?_) h
  have hts := C.2.2.2.2.2.1
  exact va_runI (cc := zc Z) (nL := zn Z) (n := n) (As := As) (bytes := cc) (maxL := mL) (ws := qws (y, cc, mL, none)) ⟨C.1, C.2.1, C.2.2.2.1, C.2.2.2.2.1, hts⟩ hM.2 ⟨callB_of n hts (qws_good (M := (y, cc, mL, none)) c1) rfl rfl rfl (hts _ c2) (hts _ c3) c6 ⟨hr.1, hr.2.1⟩, c5, hts _ c4⟩
    ⟨qblind _ _ _ _, fun U hU hW => ⟨rfl, by rw [hU]; exact hz, by rw [hU]; exact hP, C.2.2.2.2.2.2.2.2.1.moved hW⟩⟩ rfl hn hl.1 rfl (lv_room hs) hd (qroom_fits hr hM.1 hn0 hs0)
theorem aw_callIN {own host : String} {index n a : Nat} (hM : qMt (zl Z) (zG Z) M d (.ref ((zG Z).1 + a) :: As) I R none I1 R1) (hC : qCIN own index n host M) (hn : As.length = n) (hr : qroom Z M d R1) (ho : (zM Z).1.cls = own) (hs : (rest.map fun v => v.category).sum ≤ 8) (hd : decode (zc Z) pc = .ok (.invokespecial index, 3)) (hst : st0 = As.reverse ++ .ref ((zG Z).1 + a) :: rest)
    (h : AW Z (pc + 3) lv rest I1 R1) : AW Z pc lv st0 I R := by
  obtain ⟨c1, c2, c3, c4, c5, c6, c7⟩ := hC
  obtain ⟨y, cc, mL, rt⟩ := M
  dsimp only at c1 c2 c3 c4 c5 c6 c7
  subst c7
  subst ho hst
  refine aw_run (v1 := none) (rest := rest) (a := (Value.ref ((zG Z).1 + a) :: As).toArray) hM.1 (fun p e s m below meth c H locs ls C hz hP hn0 hs0 hl => ?_) h
  have hts := C.2.2.2.2.2.1
  exact va_runIN (cc := zc Z) (nL := zn Z) (n := n) (As := As) (bytes := cc) (maxL := mL) (ws := qws (y, cc, mL, none)) ⟨C.1, C.2.1, C.2.2.2.1, C.2.2.2.2.1, hts⟩ hM.2 ⟨va_cnB n hts (qws_good (M := (y, cc, mL, none)) c1) rfl rfl rfl (C.2.2.2.2.2.2.2.2.1.2.1 _ c3) (hts _ c2) c6 ⟨hr.1, hr.2.1⟩, c5, hts _ c4⟩
    ⟨qblind _ _ _ _, fun U hU hW => ⟨rfl, by rw [hU]; exact hz, by rw [hU]; exact hP, C.2.2.2.2.2.2.2.2.1.moved hW⟩⟩ rfl hn hl.1 rfl (lv_room hs) hd (qroom_fits hr hM.1 hn0 hs0)
end AWC
section AWE
variable {l : Launch} {G : qG} {M : qM} {d : Nat} {As : List Value} {R0 : qR} {v1 : Option Value} {I1 : qI} {R1 : qR} {pc : Nat} {lv : List (Nat × Value)} {I : qI} {R : qR}
theorem aw_iret {x : Int32} (hr : M.2.2.2 = some .int) (hd : decode M.2.1 pc = .ok (.ireturn, 1)) (h1 : v1 = some (.int x)) (h2 : I1 = I) (h3 : R1 = R) : AW (Zm l G M d As R0 v1 I1 R1) pc lv [.int x] I R := by
  subst h1 h2 h3
  intro p e s m below meth c H locs ls C hR hS hv
  have hlocks := C.2.2.2.2.2.2.1
  exact W.iret C.1 C.2.1 (C.2.2.1.trans hr) (fun t ht hW => ⟨rfl, by rw [ht]; exact hR.1, hS.F ht⟩) hS.2.2 hd
theorem aw_zret {x : Int32} (hr : M.2.2.2 = some .boolean) (hx : narrow .boolean (.int x) = .int x) (hd : decode M.2.1 pc = .ok (.ireturn, 1)) (h1 : v1 = some (.int x)) (h2 : I1 = I) (h3 : R1 = R) : AW (Zm l G M d As R0 v1 I1 R1) pc lv [.int x] I R := by
  subst h1 h2 h3
  intro p e s m below meth c H locs ls C hR hS hv
  have hlocks := C.2.2.2.2.2.2.1
  exact W.zret C.1 C.2.1 (C.2.2.1.trans hr) hx (fun t ht hW => ⟨rfl, by rw [ht]; exact hR.1, hS.F ht⟩) hS.2.2 hd
theorem aw_vret (hr : M.2.2.2 = none) (hd : decode M.2.1 pc = .ok (.return_, 1)) (h1 : v1 = none) (h2 : I1 = I) (h3 : R1 = R) : AW (Zm l G M d As R0 v1 I1 R1) pc lv [] I R := by
  subst h1 h2 h3
  intro p e s m below meth c H locs ls C hR hS hv
  have hlocks := C.2.2.2.2.2.2.1
  exact W.vret C.1 C.2.1 (C.2.2.1.trans hr) (fun t ht hW => ⟨rfl, by rw [ht]; exact hR.1, hS.F ht⟩) hS.2.2 hd
theorem aw_aret {v : Value} {t0 : String} (hr : M.2.2.2 = some (.object t0)) (hx : v = .null ∨ ∃ a, v = .ref a) (hd : decode M.2.1 pc = .ok (.areturn, 1)) (h1 : v1 = some v) (h2 : I1 = I) (h3 : R1 = R) : AW (Zm l G M d As R0 v1 I1 R1) pc lv [v] I R := by
  subst h1 h2 h3
  intro p e s m below meth c H locs ls C hR hS hv
  have hlocks := C.2.2.2.2.2.2.1
  exact W.aret C.1 C.2.1 (C.2.2.1.trans hr) (Or.inl ⟨_, rfl⟩) hx (fun t ht hW => ⟨rfl, by rw [ht]; exact hR.1, hS.F ht⟩) hS.2.2 hd
end AWE
section AWL
variable {Z : qZ} {pc : Nat} {lv : List (Nat × Value)} {st : List Value} {I : qI} {R : qR}
theorem aw_max {own : String} {index : Nat} {x y : Int32} (h1 : Cond.methodLink own index Lib.Math.max.name ∈ wW) (h2 : Cond.static Lib.Math.max.name ∈ wW) (h3 : Cond.initialized "java/lang/Math" ∈ wW) (h4 : Cond.code Lib.Math.max.name Lib.Math.max.code 2 (some .int) ∈ wW) (ho : (zM Z).1.cls = own) (hs : (st.map fun v => v.category).sum ≤ 8) (hf : 1 ≤ (zR Z).frames) (hlo : 64 ≤ (zR Z).locals) (hc : R.2.2.1 - zN Z ≤ (zR Z).cells) (hc2 : R.2.2.2 - zS Z ≤ (zR Z).slots) (hd : decode (zc Z) pc = .ok (.invokestatic index, 3))
    (h : AW Z (pc + 3) lv (.int (if x < y then y else x) :: st) I R) : AW Z pc lv (.int y :: .int x :: st) I R := by
  intro p e s m below meth c H locs ls C hR hS hv
  subst ho
  have hts := C.2.2.2.2.2.1
  exact va_mmax C.1 C.2.1 (C.2.2.2.1.trans hv.1.symm) C.2.2.2.2.1 (hts _ h1) (hts _ h2) (hts _ h3) (hts _ h4) hf (by omega) hc hc2 hd (h p e s m below meth c H locs ls C hR hS hv)
theorem aw_min {own : String} {index : Nat} {x y : Int32} (h1 : Cond.methodLink own index Lib.Math.min.name ∈ wW) (h2 : Cond.static Lib.Math.min.name ∈ wW) (h3 : Cond.initialized "java/lang/Math" ∈ wW) (h4 : Cond.code Lib.Math.min.name Lib.Math.min.code 2 (some .int) ∈ wW) (ho : (zM Z).1.cls = own) (hs : (st.map fun v => v.category).sum ≤ 8) (hf : 1 ≤ (zR Z).frames) (hlo : 64 ≤ (zR Z).locals) (hc : R.2.2.1 - zN Z ≤ (zR Z).cells) (hc2 : R.2.2.2 - zS Z ≤ (zR Z).slots) (hd : decode (zc Z) pc = .ok (.invokestatic index, 3))
    (h : AW Z (pc + 3) lv (.int (if y < x then y else x) :: st) I R) : AW Z pc lv (.int y :: .int x :: st) I R := by
  intro p e s m below meth c H locs ls C hR hS hv
  subst ho
  have hts := C.2.2.2.2.2.1
  exact va_mmin C.1 C.2.1 (C.2.2.2.1.trans hv.1.symm) C.2.2.2.2.1 (hts _ h1) (hts _ h2) (hts _ h3) (hts _ h4) hf (by omega) hc hc2 hd (h p e s m below meth c H locs ls C hR hS hv)
def qcp (I : qI) (a b sp dp n : Nat) : qI := fun x => if x = b then va_cpy (I a) (I b) sp dp n else I x
theorem aw_copy {own : String} {index a b : Nat} {sp dp x : Int32} (h1 : Cond.methodLink own index arraycopyName ∈ wW) (h2 : Cond.native arraycopyName ∈ wW) (h3 : Cond.static arraycopyName ∈ wW) (h4 : Cond.initialized "java/lang/System" ∈ wW) (ho : (zM Z).1.cls = own) (ha : qok R a 9) (hb : qok R b 9) (g1 : ¬ sp < 0) (g2 : ¬ dp < 0) (g3 : ¬ x < 0) (g4 : sp.toNatClampNeg + x.toNatClampNeg ≤ (R.2.1 a).2) (g5 : dp.toNatClampNeg + x.toNatClampNeg ≤ (R.2.1 b).2) (hs : (st.map fun v => v.category).sum ≤ 8) (hf : 1 ≤ (zR Z).frames) (hlo : 64 ≤ (zR Z).locals) (hd : decode (zc Z) pc = .ok (.invokestatic index, 3))
    (h : AW Z (pc + 3) lv st (qcp I a b sp.toNatClampNeg dp.toNatClampNeg x.toNatClampNeg) R) : AW Z pc lv (.int x :: .int dp :: .ref ((zG Z).1 + b) :: .int sp :: .ref ((zG Z).1 + a) :: st) I R := by
  intro p e s m below meth c H locs ls C hR hS hv
  subst ho
  have hts := C.2.2.2.2.2.1
  have he := qw_at (zG Z) I R ha.1
  rw [qcell_i ha.2] at he
  have he2 := qw_at (zG Z) I R hb.1
  rw [qcell_i hb.2] at he2
  refine va_copyi C.1 C.2.1 (C.2.2.2.1.trans hv.1.symm) C.2.2.2.2.1 (hts _ h1) (hts _ h2) (hts _ h3) (hts _ h4) C.2.2.2.2.2.2.2.2.1.1 hR.1 (qD _ I R) hS a b 0 0 he he2 rfl rfl rfl g1 g2 g3 g4 g5 (fun i _ => rfl) hf (by
    have : nativeFrameWords "java/lang/System" "arraycopy" 5 + 11 ≤ 56 := by decide +kernel
    omega) hd (fun H1 locs1 hP1 hD1 hS1 => h p e s m below meth c H1 locs1 ls C ⟨?_, hR.2⟩ hS1 hv)
  have hc : qcell (zG Z) (qcp I a b sp.toNatClampNeg dp.toNatClampNeg x.toNatClampNeg) R b = .inl ((zG Z).2.2.1, (R.2.1 b).2, .inl (va_cpy (I a) (I b) sp.toNatClampNeg dp.toNatClampNeg x.toNatClampNeg)) := by
    rw [qcell_i hb.2]
    simp [qcp]
  rw [← hc, qw_set (zG Z) I _ R R rfl (fun j hj => by unfold qcell qcp; rw [if_neg hj])] at hP1
  exact hP1
end AWL
