/-! THE CLAIM OUT OF ONE WALK OF THE LAW'S BODY. Your part is whole_start (and what it stands on); all else here is the same for every law, but numbers. -/
def R_law : String := "TrainBookLaw"
def lw_P (b : Addr) (xs : List Int32) (args : Array Value) (s : State) : Prop := args = #[.ref b] ∧ s.IntsAt b xs ∧ xs.length ≤ 3072 ∧ (Jvm.Cond.and given_1 narrow_1).before args s = true
def lw_Q (_ : Array Value) (s : State) (o : Outcome) (t : State) : Prop := o = .returned (some (.int 1)) ∧ Framed s o t [] 600000 7302250
def lw_Z (below : List Frame) (a : Array Value) (s : State) : State → Prop := fun t => ∃ o, t.status = .running ∧ Ended t below o ∧ lw_Q a s o t
/-- the law's own end, with 1 on the stack, nothing written that was there before, its room as the claim has it -/
theorem lw_ret {p : Program} {l : Launch} {e : Env} {s : State} {m : MethodId} {below : List Frame} {meth : Method} {c : Code} {b : Nat} (hx : p.tables.exec = Jvm.exec) (hb : c.code = code) (hr : meth.sig.returnType = ret) (hlocks : meth.locks = false) {pc : Nat} {H : Heap} {ls : Array Slot} (hdg : decode code pc = .ok (.ireturn, 1)) : W p l e room_1 s m #[Value.ref b] below meth c H [] 600000 7302250 (lw_Z below #[Value.ref b] s) (F0 m pc ls [.int 1]) := by
  intro T hT X
  obtain ⟨fs, hret, hrun, hended, hW, hframe⟩ := X.leave (v := some (.int 1)) (hlocks := hlocks) (fun h => by rw [hr] at h; cases h)
  have hmeth' : T.vm.method? m = some meth := X.method'
  refine ⟨T.setFrames fs, ?_, .returned (some (.int 1)), hrun, hended, rfl, ⟨_, rfl⟩, hW, hframe⟩
  jvm_step X.here [X.here.top, hx, hb, hdg, hmeth', hr, ret, narrow_b1]
  (try refine ⟨rfl, ?_⟩); (try refine ⟨rfl, ?_⟩)
  first | (intro acts; rw [hret _ acts rfl rfl rfl]) | rw [hret _ _ rfl rfl rfl]
  exact Steps.refl _
/-- what holds at the law's entry: the machine, the code, the tables' words (any of lw_tbl by 'hts w (by decide +kernel)'), the script of L ints xs at the cell b, what the Statement gives of the start (any of its parts by flat_of_before) -/
def lw_At (p : Program) (s : State) (m : MethodId) (meth : Method) (c : Code) (b L : Nat) (xs : Nat → Int32) : Prop :=
  p.tables.exec = Jvm.exec ∧ c.code = code ∧ meth.sig.returnType = ret ∧ c.maxLocals = 4 ∧ s.vm.findClass R_law = some m.cls ∧ (∀ w ∈ lw_tbl, w.before #[Value.ref b] s = true) ∧ va_X b L xs s s.heap ∧ b < s.heap.size ∧ meth.locks = false ∧ (Jvm.Cond.and given_1 narrow_1).before #[Value.ref b] s = true
/-! THE LAW'S OWN WALK -/
abbrev ZL (l : Launch) (G : qG) (nm : String) (b L : Nat) (xs : Nat → Int32) : qZ := (l, G, (⟨R_law, nm, ""⟩, code, 4, ret), [Value.ref b], (fun s => va_X b L xs s s.heap ∧ b < s.heap.size), room_1, (0, 0), fun below s => lw_Z below #[Value.ref b] s)
def qcap (R : qR) : Bool := decide (R.2.2.1 ≤ 600000 ∧ R.2.2.2 ≤ 7302250)
def qsc (L : Nat) (xs : Nat → Int32) (i : Int32) : Option Int32 := if qin i L = true then some (xs i.toNatClampNeg) else none
theorem qiteE {α : Type} {c : Prop} {dc : Decidable c} {a : Option α} {r : α} (h : (if c then a else none) = some r) : c ∧ a = some r := by
  by_cases hc : c
  · rw [if_pos hc] at h; exact ⟨hc, h⟩
  · rw [if_neg hc] at h; cases h
def qck (R : qR) : Option Unit := if qcap R = true then some () else none
theorem qck_some {R : qR} {u : Unit} (h : qck R = some u) : qcap R = true := by
  unfold qck at h
  split at h
  next hc => exact hc
  next => cases h
theorem qcap_iff {R : qR} (h : qcap R = true) : R.2.2.1 ≤ 600000 ∧ R.2.2.2 ≤ 7302250 := by simpa [qcap] using h
section LAWQ
variable {l : Launch} {G : qG} {nm : String} {b L : Nat} {xs : Nat → Int32} {pc : Nat} {lv : List (Nat × Value)} {st : List Value} {I I2 : qI} {R R2 : qR}
theorem qroomW {M : qM} {d : Nat} (h1 : d ≤ 1000) (h2 : M.2.2.1 ≤ 45) (hc : qcap R = true) : qroom (ZL l G nm b L xs) M d R := by
  have h := qcap_iff hc
  refine ⟨?_, ?_, ?_, ?_⟩
  · show d + 1 ≤ 2048
    omega
  · show 8 + (M.2.2.1 + 11) + 64 * d ≤ 84000
    omega
  · show R.2.2.1 - 0 ≤ 600000
    omega
  · show R.2.2.2 - 0 ≤ 7302250
    omega
theorem aw_sldq {i x : Int32} (he : qsc L xs i = some x) (hd : decode code pc = .ok (.iaload, 1)) (h : AW (ZL l G nm b L xs) (pc + 1) lv (.int x :: st) I R) : AW (ZL l G nm b L xs) pc lv (.int i :: .ref b :: st) I R := by
  intro p e s m below meth c H locs ls C hR hS hv
  have hE : va_X b L xs s s.heap ∧ b < s.heap.size := C.2.2.2.2.2.2.2.2.2.2
  have hz : s.heap.size = G.1 + 0 := C.2.2.2.2.2.2.2.2.2.1
  unfold qsc at he
  split at he
  next hc =>
    refine va_sld (A := qA G) C.1 C.2.1 hE.1 hE.2 (by show ¬ G.1 ≤ b; omega) hS (qin_iff.mp hc) hd ?_
    rw [Option.some.inj he]
    exact h p e s m below meth c H locs ls C hR hS hv
  next => cases he
theorem aw_slen {v : Int32} (hl : Int32.ofNat L = v) (hd : decode code pc = .ok (.arraylength, 1)) (h : AW (ZL l G nm b L xs) (pc + 1) lv (.int v :: st) I R) : AW (ZL l G nm b L xs) pc lv (.ref b :: st) I R := by
  intro p e s m below meth c H locs ls C hR hS hv
  have hE : va_X b L xs s s.heap ∧ b < s.heap.size := C.2.2.2.2.2.2.2.2.2.2
  have hz : s.heap.size = G.1 + 0 := C.2.2.2.2.2.2.2.2.2.1
  subst hl
  exact va_slen (A := qA G) C.1 C.2.1 hE.1 hE.2 (by show ¬ G.1 ≤ b; omega) hS hd (h p e s m below meth c H locs ls C hR hS hv)
theorem aw_lawret (hc : qcap R = true) (hd : decode code pc = .ok (.ireturn, 1)) : AW (ZL l G nm b L xs) pc lv [.int 1] I R := by
  intro p e s m below meth c H locs ls C hR hS hv
  have hz : s.heap.size = G.1 + 0 := C.2.2.2.2.2.2.2.2.2.1
  have h := qcap_iff hc
  refine va_forget (fun q hq => ?_) ?_
  · have h1 : G.1 ≤ q.base := hS.2.2 q hq
    omega
  · refine W.widen (k := 600000) (n := 7302250) (by show R.2.2.1 - 0 ≤ _; omega) (by show R.2.2.2 - 0 ≤ _; omega) ?_
    exact lw_ret C.1 C.2.1 C.2.2.1 C.2.2.2.2.2.2.1 hd
theorem aw_newW {own : String} {index ci N : Nat} (hn : qNW own index ci N) (eI : I2 = qzI I R.2.2.1) (eR : R2 = qzR R ci N) (hc : qcap R2 = true) (ho : R_law = own) (hd : decode code pc = .ok (.new index, 3)) (h : AW (ZL l G nm b L xs) (pc + 3) lv (.ref (G.1 + R.2.2.1) :: st) I2 R2) : AW (ZL l G nm b L xs) pc lv st I R := by
  subst eI eR
  obtain ⟨C, T, ty, h1, h2, h3, h4, h5, h6, h7, h8⟩ := hn
  have hq := qcap_iff hc
  have a1 : R.2.2.1 + 1 ≤ 600000 := hq.1
  have a2 : R.2.2.2 + N ≤ 7302250 := hq.2
  exact aw_new ty h1 h2 h3 h4 h5 h6 h7 h8 (by show R.2.2.1 + 1 - 0 ≤ 600000; omega) (by show R.2.2.2 + N - 0 ≤ 7302250; omega) ho hd h
end LAWQ
