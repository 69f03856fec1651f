/-! PICTURES OF THE HEAP. qI: the ints (fields and elements) by cell and place; qR: references by cell and place, kinds and lengths of the cells, how many cells there are. Cells are counted from the law's own start. -/
abbrev qI : Type := Nat → Nat → Int32
abbrev qR : Type := (Nat → Nat → Option Nat) × (Nat → Nat × Nat) × Nat × Nat
abbrev qG : Type := Nat × va_G × ClassId × ClassId × ClassId
def qrf (b : Nat) (r : Option Nat) : Option Nat := r.map (fun k => b + k)
def qflds (ci : Nat) (i : Nat → Int32) (p : Nat → Option Nat) : List Value := match ci with
  | 0 => [va_rf (p 0), .int (i 1), .int (i 2), .int (i 3), va_rf (p 4), va_rf (p 5)]
  | 1 => [.int (i 0), va_rf (p 1), va_rf (p 2)]
  | 2 => [.int (i 0), va_rf (p 1), .int (i 2), .int (i 3), .int (i 4), va_rf (p 5), va_rf (p 6), va_rf (p 7), va_rf (p 8)]
  | 3 => [va_rf (p 0)]
  | 4 => [va_rf (p 0), va_rf (p 1), va_rf (p 2), va_rf (p 3), va_rf (p 4), va_rf (p 5), .int (i 6)]
  | 5 => [.int (i 0), .int (i 1), va_rf (p 2), va_rf (p 3), va_rf (p 4), va_rf (p 5)]
  | 6 => [va_rf (p 0), .int (i 1), .int (i 2), .int (i 3), va_rf (p 4), va_rf (p 5), .int (i 6), .int (i 7), va_rf (p 8), va_rf (p 9), va_rf (p 10), va_rf (p 11), va_rf (p 12), .int (i 13), va_rf (p 14), .int (i 15)]
  | 7 => [va_rf (p 0), va_rf (p 1), va_rf (p 2), va_rf (p 3), .int (i 4), .int (i 5)]
  | _ => [.int (i 0), .int (i 1), .int (i 2), va_rf (p 3), va_rf (p 4), va_rf (p 5), va_rf (p 6), va_rf (p 7), va_rf (p 8), .int (i 9), .int (i 10), va_rf (p 11), va_rf (p 12), va_rf (p 13), va_rf (p 14), va_rf (p 15), va_rf (p 16), va_rf (p 17), va_rf (p 18), va_rf (p 19), .int (i 20), va_rf (p 21), va_rf (p 22), va_rf (p 23), va_rf (p 24), .int (i 25), .int (i 26), va_rf (p 27), va_rf (p 28), va_rf (p 29), va_rf (p 30), va_rf (p 31), va_rf (p 32), .int (i 33), va_rf (p 34)]
/-- the kind that a reference in a place of a cell of a kind has -/
def qfk (c k : Nat) : Nat := match c, k with
  | 0, 0 => 9
  | 0, 4 => 9
  | 0, 5 => 9
  | 1, 1 => 9
  | 1, 2 => 9
  | 2, 1 => 9
  | 2, 5 => 9
  | 2, 6 => 9
  | 2, 7 => 9
  | 2, 8 => 9
  | 3, 0 => 9
  | 4, 0 => 11
  | 4, 1 => 9
  | 4, 2 => 9
  | 4, 3 => 2
  | 4, 4 => 0
  | 4, 5 => 1
  | 5, 2 => 9
  | 5, 3 => 9
  | 5, 4 => 9
  | 5, 5 => 9
  | 6, 0 => 11
  | 6, 4 => 9
  | 6, 5 => 9
  | 6, 8 => 9
  | 6, 9 => 9
  | 6, 10 => 9
  | 6, 11 => 9
  | 6, 12 => 9
  | 6, 14 => 9
  | 7, 0 => 11
  | 7, 1 => 3
  | 7, 2 => 4
  | 7, 3 => 6
  | 8, 3 => 9
  | 8, 4 => 9
  | 8, 5 => 9
  | 8, 6 => 9
  | 8, 7 => 9
  | 8, 8 => 9
  | 8, 11 => 9
  | 8, 12 => 9
  | 8, 13 => 9
  | 8, 14 => 9
  | 8, 15 => 9
  | 8, 16 => 9
  | 8, 17 => 9
  | 8, 18 => 9
  | 8, 19 => 9
  | 8, 21 => 9
  | 8, 22 => 9
  | 8, 23 => 10
  | 8, 24 => 10
  | 8, 27 => 9
  | 8, 28 => 9
  | 8, 29 => 9
  | 8, 30 => 10
  | 8, 31 => 10
  | 8, 32 => 10
  | 8, 34 => 9
  | 11, _ => 5
  | _, _ => 0
def qcell (G : qG) (I : qI) (R : qR) (a : Nat) : va_E := match (R.2.1 a).1 with
  | 9 => .inl (G.2.2.1, (R.2.1 a).2, .inl (I a))
  | 10 => .inl (G.2.2.2.1, (R.2.1 a).2, .inl (I a))
  | 11 => .inl (G.2.2.2.2, (R.2.1 a).2, .inr (.inr (.inr (.inr (fun j => qrf G.1 (R.1 a j))))))
  | ci => .inr (ci, qflds ci (I a) (fun j => qrf G.1 (R.1 a j)))
def qw (G : qG) (I : qI) (R : qR) : va_W := (List.range R.2.2.1).map (fun k => (G.1 + k, qcell G I R k))
def qRP (G : qG) (I : qI) (R : qR) (H : Heap) : Prop := va_P G.2.1 vwCl (qw G I R) H
def qA (G : qG) : Nat → Prop := fun q => G.1 ≤ q
def qtys (G : qG) : List (ClassId × FieldType) := [(G.2.2.1, .int), (G.2.2.2.1, .boolean), (G.2.2.2.2, .object RX5)]
theorem qw_at (G : qG) (I : qI) (R : qR) {k : Nat} (h : k < R.2.2.1) : (qw G I R)[k]? = some (G.1 + k, qcell G I R k) := by
  simp [qw, h]
theorem qw_of {G : qG} {I : qI} {R : qR} {k : Nat} {q : Nat × va_E} (h : (qw G I R)[k]? = some q) : k < R.2.2.1 ∧ q = (G.1 + k, qcell G I R k) := by
  have hl : k < R.2.2.1 := by
    have := (List.getElem?_eq_some_iff.mp h).1
    simpa [qw] using this
  rw [qw_at G I R hl] at h
  exact ⟨hl, (Option.some.inj h).symm⟩
theorem qD (G : qG) (I : qI) (R : qR) : va_D (qA G) (qw G I R) := by
  refine ⟨fun i j p q hp hq h => ?_, fun k q hq => ?_⟩
  · obtain ⟨-, rfl⟩ := qw_of hp
    obtain ⟨-, rfl⟩ := qw_of hq
    have h' : G.1 + i = G.1 + j := h
    omega
  · obtain ⟨-, rfl⟩ := qw_of hq
    exact Nat.le_add_right _ _
/-- one cell moved -/
theorem qw_set (G : qG) (I I' : qI) (R R' : qR) {k : Nat} (hn : R'.2.2.1 = R.2.2.1) (h : ∀ j, j ≠ k → qcell G I' R' j = qcell G I R j) : (qw G I R).set k (G.1 + k, qcell G I' R' k) = qw G I' R' := by
  apply List.ext_getElem?
  intro j
  rw [List.getElem?_set]
  by_cases hj : k = j
  · subst hj
    by_cases hl : k < R.2.2.1
    · rw [if_pos rfl, qw_at G I' R' (by omega)]
      simp [qw, hl]
    · simp [qw, hl, hn]
  · rw [if_neg hj]
    by_cases hl : j < R.2.2.1
    · rw [qw_at G I R hl, qw_at G I' R' (by omega), h j (fun e => hj e.symm)]
    · simp [qw, hl, hn]
/-- one cell more -/
theorem qw_push (G : qG) (I I' : qI) (R R' : qR) (hn : R'.2.2.1 = R.2.2.1 + 1) (h : ∀ j, j < R.2.2.1 → qcell G I' R' j = qcell G I R j) : qw G I R ++ [(G.1 + R.2.2.1, qcell G I' R' R.2.2.1)] = qw G I' R' := by
  unfold qw
  rw [hn, List.range_succ, List.map_append]
  refine congrArg (· ++ _) ?_
  exact List.map_congr_left (fun j hj => by rw [h j (List.mem_range.mp hj)])
/-! THE WORDS: of the tables' words those that stay -/
def wW : List Cond := lw_tbl.filter goodWord
theorem wW_in {w : Cond} (h : w ∈ lw_tbl) (hg : goodWord w = true) : w ∈ wW := List.mem_filter.mpr ⟨h, hg⟩
theorem wW_at (i : Nat) {w : Cond} (h : lw_tbl[i]? = some w) (hg : goodWord w = true) : w ∈ wW := wW_in (List.mem_of_getElem? h) hg
theorem wW_good : GoodIn wW wW := fun w h => ⟨h, good_of_word (List.mem_filter.mp h).2⟩
abbrev qM : Type := MethodName × ByteArray × Nat × Option FieldType
def qws (M : qM) : List Cond := .code M.1 M.2.1 M.2.2.1 M.2.2.2 :: wW
theorem qws_good {M : qM} (h : Cond.code M.1 M.2.1 M.2.2.1 M.2.2.2 ∈ wW) : GoodIn wW (qws M) := fun w hw => by
  rcases List.mem_cons.mp hw with rfl | hw
  · exact wW_good _ h
  · exact wW_good w hw
/-- what holds of the tables -/
def qNest : List Cond := lw_tbl.filter (fun w => match w with | .methodLinkNest .. => true | _ => false)
def qK (G : qG) (U : State) : Prop := va_K G.2.1 vwCl (qtys G) U ∧ (∀ w ∈ qNest, va_Nw w U) ∧ va_AO RX5 U
theorem qK.moved {G : qG} {u U : State} (hW : u.WarmedH U.vm) (h : qK G u) : qK G U := by
  refine ⟨va_K.moved hW.alike h.1, fun w hw => ?_, h.2.2.moved hW.alike⟩
  have h1 := h.2.1 w hw
  have h2 := (List.mem_filter.mp hw).2
  cases w <;> first | exact va_Nw.warmM hW h1 | (simp at h2)
theorem qK.same {G : qG} {u U : State} (hW : U.vm = u.vm) (h : qK G u) : qK G U := by
  refine ⟨va_K.moved (u := u) (by rw [hW]; exact Vm.Alike.refl _) h.1, fun w hw => ?_, h.2.2.moved (by rw [hW]; exact Vm.Alike.refl _)⟩
  have h1 := h.2.1 w hw
  have h2 := (List.mem_filter.mp hw).2
  cases w <;> first | exact va_Nw.same rfl hW.symm h1 | (simp at h2)
abbrev qZ : Type := Launch × qG × qM × List Value × (State → Prop) × Room × (Nat × Nat) × (List Frame → State → State → Prop)
abbrev zl (Z : qZ) : Launch := Z.1
abbrev zG (Z : qZ) : qG := Z.2.1
abbrev zM (Z : qZ) : qM := Z.2.2.1
abbrev zc (Z : qZ) : ByteArray := Z.2.2.1.2.1
abbrev zn (Z : qZ) : Nat := Z.2.2.1.2.2.1
abbrev zA (Z : qZ) : List Value := Z.2.2.2.1
abbrev zE (Z : qZ) : State → Prop := Z.2.2.2.2.1
abbrev zR (Z : qZ) : Room := Z.2.2.2.2.2.1
abbrev zN (Z : qZ) : Nat := Z.2.2.2.2.2.2.1.1
abbrev zS (Z : qZ) : Nat := Z.2.2.2.2.2.2.1.2
abbrev zQ (Z : qZ) : List Frame → State → State → Prop := Z.2.2.2.2.2.2.2
def qCX (Z : qZ) (p : Program) (s : State) (m : MethodId) (meth : Method) (c : Code) : Prop :=
  p.tables.exec = Jvm.exec ∧ c.code = zc Z ∧ meth.sig.returnType = (zM Z).2.2.2 ∧ c.maxLocals = zn Z ∧ s.vm.findClass (zM Z).1.cls = some m.cls ∧ (∀ w ∈ wW, w.before (zA Z).toArray s = true) ∧ meth.locks = false ∧ meth.name = (zM Z).1.name ∧ qK (zG Z) s ∧ s.heap.size = (zG Z).1 + zN Z ∧ zE Z s
/-- THE JUDGEMENT: at pc, with locals lv, stack st, heap picture (I, R), the machine comes to the method's end as Z has it -/
def AW (Z : qZ) (pc : Nat) (lv : List (Nat × Value)) (st : List Value) (I : qI) (R : qR) : Prop :=
  ∀ (p : Program) (e : Env) (s : State) (m : MethodId) (below : List Frame) (meth : Method) (c : Code) (H : Heap) (locs : List Loc) (ls : Array Slot), qCX Z p s m meth c → (qRP (zG Z) I R H ∧ zN Z ≤ R.2.2.1 ∧ zS Z ≤ R.2.2.2) → va_S (qA (zG Z)) s.heap H locs → lv_has ls (zn Z) lv →
    W p (zl Z) e (zR Z) s m (zA Z).toArray below meth c H locs (R.2.2.1 - zN Z) (R.2.2.2 - zS Z) (zQ Z below s) (F0 m pc ls st)
section AWR
variable {Z : qZ} {pc : Nat} {lv : List (Nat × Value)} {st : List Value} {I : qI} {R : qR}
theorem aw_sub (ks : List Nat) {lv' : List (Nat × Value)} (hl : lv_pick lv ks = lv') (h : AW Z pc lv' st I R) : AW Z pc lv st I R :=
  fun p e s m below meth c H locs ls C hR hS hv => h p e s m below meth c H locs ls C hR hS (lv_sub hv ks hl)
theorem aw_pc {pc' : Nat} (hp : pc = pc') (h : AW Z pc' lv st I R) : AW Z pc lv st I R := hp ▸ h
theorem aw_iconst {j : Int} {v : Int32} (hd : decode (zc Z) pc = .ok (.iconst j, 1)) (hv : Int32.ofInt j = v) (h : AW Z (pc + 1) lv (.int v :: st) I R) : AW Z pc lv st I R :=
  fun p e s m below meth c H locs ls C hR hS hw => lv_iconst C.1 C.2.1 hd hv (h p e s m below meth c H locs ls C hR hS hw)
theorem aw_bipush {j : Int} {v : Int32} (hd : decode (zc Z) pc = .ok (.bipush j, 2)) (hv : (Int8.ofInt j).toInt32 = v) (h : AW Z (pc + 2) lv (.int v :: st) I R) : AW Z pc lv st I R :=
  fun p e s m below meth c H locs ls C hR hS hw => lv_bipush C.1 C.2.1 hd hv (h p e s m below meth c H locs ls C hR hS hw)
theorem aw_sipush {j : Int} {v : Int32} (hd : decode (zc Z) pc = .ok (.sipush j, 3)) (hv : (Int16.ofInt j).toInt32 = v) (h : AW Z (pc + 3) lv (.int v :: st) I R) : AW Z pc lv st I R :=
  fun p e s m below meth c H locs ls C hR hS hw => lv_sipush C.1 C.2.1 hd hv (h p e s m below meth c H locs ls C hR hS hw)
theorem aw_lconst {j : Fin 2} {v : Int64} (hd : decode (zc Z) pc = .ok (.lconst j, 1)) (hv : Int64.ofNat (j : Nat) = v) (h : AW Z (pc + 1) lv (.long v :: st) I R) : AW Z pc lv st I R :=
  fun p e s m below meth c H locs ls C hR hS hw => lv_lconst C.1 C.2.1 hd hv (h p e s m below meth c H locs ls C hR hS hw)
theorem aw_ldc {own : String} {index : Nat} {v : Int32} (hw : Cond.constant own index v ∈ wW) (ho : (zM Z).1.cls = own) (hd : decode (zc Z) pc = .ok (.ldc index, 2)) (h : AW Z (pc + 2) lv (.int v :: st) I R) : AW Z pc lv st I R :=
  fun p e s m below meth c H locs ls C hR hS hv => lv_ldc C.1 C.2.1 C.2.2.2.2.1 (C.2.2.2.2.2.1 _ (ho ▸ hw)) hd (h p e s m below meth c H locs ls C hR hS hv)
theorem aw_ldcw {own : String} {index : Nat} {v : Int32} (hw : Cond.constant own index v ∈ wW) (ho : (zM Z).1.cls = own) (hd : decode (zc Z) pc = .ok (.ldc_w index, 3)) (h : AW Z (pc + 3) lv (.int v :: st) I R) : AW Z pc lv st I R :=
  fun p e s m below meth c H locs ls C hR hS hv => lv_ldcw C.1 C.2.1 C.2.2.2.2.1 (C.2.2.2.2.2.1 _ (ho ▸ hw)) hd (h p e s m below meth c H locs ls C hR hS hv)
theorem aw_ldc2 {own : String} {index : Nat} {v : Int64} (hw : Cond.constantLong own index v ∈ wW) (ho : (zM Z).1.cls = own) (hd : decode (zc Z) pc = .ok (.ldc2_w index, 3)) (h : AW Z (pc + 3) lv (.long v :: st) I R) : AW Z pc lv st I R :=
  fun p e s m below meth c H locs ls C hR hS hv => lv_ldc2 C.1 C.2.1 C.2.2.2.2.1 (C.2.2.2.2.2.1 _ (ho ▸ hw)) hd (h p e s m below meth c H locs ls C hR hS hv)
theorem aw_iload_n {j : Fin 4} {x : Int32} (hd : decode (zc Z) pc = .ok (.iload_n j, 1)) (q : Nat) {i : Nat} (hl : lv[q]? = some (i, .int x)) (hi : (j : Nat) = i) (h : AW Z (pc + 1) lv (.int x :: st) I R) : AW Z pc lv st I R :=
  fun p e s m below meth c H locs ls C hR hS hv => lv_iload_n C.1 C.2.1 hd hi (lv_at hv q hl) (h p e s m below meth c H locs ls C hR hS hv)
theorem aw_iload {i : Nat} {x : Int32} (hd : decode (zc Z) pc = .ok (.iload i, 2)) (q : Nat) (hl : lv[q]? = some (i, .int x)) (h : AW Z (pc + 2) lv (.int x :: st) I R) : AW Z pc lv st I R :=
  fun p e s m below meth c H locs ls C hR hS hv => lv_iload C.1 C.2.1 hd (lv_at hv q hl) (h p e s m below meth c H locs ls C hR hS hv)
theorem aw_lload_n {j : Fin 4} {x : Int64} (hd : decode (zc Z) pc = .ok (.lload_n j, 1)) (q : Nat) {i : Nat} (hl : lv[q]? = some (i, .long x)) (hi : (j : Nat) = i) (h : AW Z (pc + 1) lv (.long x :: st) I R) : AW Z pc lv st I R :=
  fun p e s m below meth c H locs ls C hR hS hv => lv_lload_n C.1 C.2.1 hd hi (lv_at hv q hl) (h p e s m below meth c H locs ls C hR hS hv)
theorem aw_lload {i : Nat} {x : Int64} (hd : decode (zc Z) pc = .ok (.lload i, 2)) (q : Nat) (hl : lv[q]? = some (i, .long x)) (h : AW Z (pc + 2) lv (.long x :: st) I R) : AW Z pc lv st I R :=
  fun p e s m below meth c H locs ls C hR hS hv => lv_lload C.1 C.2.1 hd (lv_at hv q hl) (h p e s m below meth c H locs ls C hR hS hv)
theorem aw_aload_n {j : Fin 4} {x : Nat} (hd : decode (zc Z) pc = .ok (.aload_n j, 1)) (q : Nat) {i : Nat} (hl : lv[q]? = some (i, .ref x)) (hi : (j : Nat) = i) (h : AW Z (pc + 1) lv (.ref x :: st) I R) : AW Z pc lv st I R :=
  fun p e s m below meth c H locs ls C hR hS hv => lv_aload_n C.1 C.2.1 hd hi (lv_at hv q hl) (h p e s m below meth c H locs ls C hR hS hv)
theorem aw_aload {i : Nat} {x : Nat} (hd : decode (zc Z) pc = .ok (.aload i, 2)) (q : Nat) (hl : lv[q]? = some (i, .ref x)) (h : AW Z (pc + 2) lv (.ref x :: st) I R) : AW Z pc lv st I R :=
  fun p e s m below meth c H locs ls C hR hS hv => lv_aload C.1 C.2.1 hd (lv_at hv q hl) (h p e s m below meth c H locs ls C hR hS hv)
theorem aw_aload_nN {j : Fin 4} (hd : decode (zc Z) pc = .ok (.aload_n j, 1)) (q : Nat) {i : Nat} (hl : lv[q]? = some (i, .null)) (hi : (j : Nat) = i) (h : AW Z (pc + 1) lv (.null :: st) I R) : AW Z pc lv st I R :=
  fun p e s m below meth c H locs ls C hR hS hv => lv_aload_nN C.1 C.2.1 hd hi (lv_at hv q hl) (h p e s m below meth c H locs ls C hR hS hv)
theorem aw_istore_n {j : Fin 4} {i : Nat} {x : Int32} {lv' : List (Nat × Value)} (hd : decode (zc Z) pc = .ok (.istore_n j, 1)) (hi : (j : Nat) = i) (hn : i < zn Z) (hl : (i, Value.int x) :: lv.filter (fun q => !(q.1 == i) && !(q.1 + 1 == i && q.2.category == 2)) = lv') (h : AW Z (pc + 1) lv' st I R) : AW Z pc lv (.int x :: st) I R :=
  fun p e s m below meth c H locs ls C hR hS hv => lv_istore_n C.1 C.2.1 hd hi hv hn hl (fun ls hv => h p e s m below meth c H locs ls C hR hS hv)
theorem aw_istore {i : Nat} {x : Int32} {lv' : List (Nat × Value)} (hd : decode (zc Z) pc = .ok (.istore i, 2)) (hn : i < zn Z) (hl : (i, Value.int x) :: lv.filter (fun q => !(q.1 == i) && !(q.1 + 1 == i && q.2.category == 2)) = lv') (h : AW Z (pc + 2) lv' st I R) : AW Z pc lv (.int x :: st) I R :=
  fun p e s m below meth c H locs ls C hR hS hv => lv_istore C.1 C.2.1 hd hv hn hl (fun ls hv => h p e s m below meth c H locs ls C hR hS hv)
theorem aw_lstore_n {j : Fin 4} {i : Nat} {x : Int64} {lv' : List (Nat × Value)} (hd : decode (zc Z) pc = .ok (.lstore_n j, 1)) (hi : (j : Nat) = i) (hn : i + 1 < zn Z) (hl : (i, Value.long x) :: lv.filter (fun q => !(q.1 == i) && (!(q.1 == i + 1) && !(q.1 + 1 == i && q.2.category == 2))) = lv') (h : AW Z (pc + 1) lv' st I R) : AW Z pc lv (.long x :: st) I R :=
  fun p e s m below meth c H locs ls C hR hS hv => lv_lstore_n C.1 C.2.1 hd hi hv hn hl (fun ls hv => h p e s m below meth c H locs ls C hR hS hv)
theorem aw_lstore {i : Nat} {x : Int64} {lv' : List (Nat × Value)} (hd : decode (zc Z) pc = .ok (.lstore i, 2)) (hn : i + 1 < zn Z) (hl : (i, Value.long x) :: lv.filter (fun q => !(q.1 == i) && (!(q.1 == i + 1) && !(q.1 + 1 == i && q.2.category == 2))) = lv') (h : AW Z (pc + 2) lv' st I R) : AW Z pc lv (.long x :: st) I R :=
  fun p e s m below meth c H locs ls C hR hS hv => lv_lstore C.1 C.2.1 hd hv hn hl (fun ls hv => h p e s m below meth c H locs ls C hR hS hv)
theorem aw_astore_n {j : Fin 4} {i : Nat} {x : Nat} {lv' : List (Nat × Value)} (hd : decode (zc Z) pc = .ok (.astore_n j, 1)) (hi : (j : Nat) = i) (hn : i < zn Z) (hl : (i, Value.ref x) :: lv.filter (fun q => !(q.1 == i) && !(q.1 + 1 == i && q.2.category == 2)) = lv') (h : AW Z (pc + 1) lv' st I R) : AW Z pc lv (.ref x :: st) I R :=
  fun p e s m below meth c H locs ls C hR hS hv => lv_astore_n C.1 C.2.1 hd hi hv hn hl (fun ls hv => h p e s m below meth c H locs ls C hR hS hv)
theorem aw_astore {i : Nat} {x : Nat} {lv' : List (Nat × Value)} (hd : decode (zc Z) pc = .ok (.astore i, 2)) (hn : i < zn Z) (hl : (i, Value.ref x) :: lv.filter (fun q => !(q.1 == i) && !(q.1 + 1 == i && q.2.category == 2)) = lv') (h : AW Z (pc + 2) lv' st I R) : AW Z pc lv (.ref x :: st) I R :=
  fun p e s m below meth c H locs ls C hR hS hv => lv_astore C.1 C.2.1 hd hv hn hl (fun ls hv => h p e s m below meth c H locs ls C hR hS hv)
theorem aw_astore_nN {j : Fin 4} {i : Nat} {lv' : List (Nat × Value)} (hd : decode (zc Z) pc = .ok (.astore_n j, 1)) (hi : (j : Nat) = i) (hn : i < zn Z) (hl : (i, Value.null) :: lv.filter (fun q => !(q.1 == i) && !(q.1 + 1 == i && q.2.category == 2)) = lv') (h : AW Z (pc + 1) lv' st I R) : AW Z pc lv (.null :: st) I R :=
  fun p e s m below meth c H locs ls C hR hS hv => lv_astore_nN C.1 C.2.1 hd hi hv hn hl (fun ls hv => h p e s m below meth c H locs ls C hR hS hv)
theorem aw_iinc {i q : Nat} {j : Int} {x v : Int32} {lv' : List (Nat × Value)} (hd : decode (zc Z) pc = .ok (.iinc i j, 3)) (hk : lv[q]? = some (i, .int x)) (hv : x + Int32.ofInt j = v) (hn : i < zn Z) (hl : (i, Value.int v) :: lv.filter (fun q => !(q.1 == i) && !(q.1 + 1 == i && q.2.category == 2)) = lv') (h : AW Z (pc + 3) lv' st I R) : AW Z pc lv st I R :=
  fun p e s m below meth c H locs ls C hR hS hw => lv_iinc C.1 C.2.1 hd hw hk hv hn hl (fun ls hv => h p e s m below meth c H locs ls C hR hS hv)
theorem aw_iadd {x y : Int32} (hd : decode (zc Z) pc = .ok (.iadd, 1)) (h : AW Z (pc + 1) lv (.int (x + y) :: st) I R) : AW Z pc lv (.int y :: .int x :: st) I R :=
  fun p e s m below meth c H locs ls C hR hS hv => lv_iadd C.1 C.2.1 hd (h p e s m below meth c H locs ls C hR hS hv)
theorem aw_isub {x y : Int32} (hd : decode (zc Z) pc = .ok (.isub, 1)) (h : AW Z (pc + 1) lv (.int (x - y) :: st) I R) : AW Z pc lv (.int y :: .int x :: st) I R :=
  fun p e s m below meth c H locs ls C hR hS hv => lv_isub C.1 C.2.1 hd (h p e s m below meth c H locs ls C hR hS hv)
theorem aw_imul {x y : Int32} (hd : decode (zc Z) pc = .ok (.imul, 1)) (h : AW Z (pc + 1) lv (.int (x * y) :: st) I R) : AW Z pc lv (.int y :: .int x :: st) I R :=
  fun p e s m below meth c H locs ls C hR hS hv => lv_imul C.1 C.2.1 hd (h p e s m below meth c H locs ls C hR hS hv)
theorem aw_iand {x y : Int32} (hd : decode (zc Z) pc = .ok (.iand, 1)) (h : AW Z (pc + 1) lv (.int (x &&& y) :: st) I R) : AW Z pc lv (.int y :: .int x :: st) I R :=
  fun p e s m below meth c H locs ls C hR hS hv => lv_iand C.1 C.2.1 hd (h p e s m below meth c H locs ls C hR hS hv)
theorem aw_ior {x y : Int32} (hd : decode (zc Z) pc = .ok (.ior, 1)) (h : AW Z (pc + 1) lv (.int (x ||| y) :: st) I R) : AW Z pc lv (.int y :: .int x :: st) I R :=
  fun p e s m below meth c H locs ls C hR hS hv => lv_ior C.1 C.2.1 hd (h p e s m below meth c H locs ls C hR hS hv)
theorem aw_ixor {x y : Int32} (hd : decode (zc Z) pc = .ok (.ixor, 1)) (h : AW Z (pc + 1) lv (.int (x ^^^ y) :: st) I R) : AW Z pc lv (.int y :: .int x :: st) I R :=
  fun p e s m below meth c H locs ls C hR hS hv => lv_ixor C.1 C.2.1 hd (h p e s m below meth c H locs ls C hR hS hv)
theorem aw_ishl {x y : Int32} (hd : decode (zc Z) pc = .ok (.ishl, 1)) (h : AW Z (pc + 1) lv (.int (x <<< (y &&& 31)) :: st) I R) : AW Z pc lv (.int y :: .int x :: st) I R :=
  fun p e s m below meth c H locs ls C hR hS hv => lv_ishl C.1 C.2.1 hd (h p e s m below meth c H locs ls C hR hS hv)
theorem aw_ishr {x y : Int32} (hd : decode (zc Z) pc = .ok (.ishr, 1)) (h : AW Z (pc + 1) lv (.int (x >>> (y &&& 31)) :: st) I R) : AW Z pc lv (.int y :: .int x :: st) I R :=
  fun p e s m below meth c H locs ls C hR hS hv => lv_ishr C.1 C.2.1 hd (h p e s m below meth c H locs ls C hR hS hv)
theorem aw_iushr {x y : Int32} (hd : decode (zc Z) pc = .ok (.iushr, 1)) (h : AW Z (pc + 1) lv (.int ((x.toUInt32 >>> (y.toUInt32 &&& Int32.toUInt32 31)).toInt32) :: st) I R) : AW Z pc lv (.int y :: .int x :: st) I R :=
  fun p e s m below meth c H locs ls C hR hS hv => lv_iushr C.1 C.2.1 hd rfl (h p e s m below meth c H locs ls C hR hS hv)
theorem aw_idiv {x y : Int32} (hd : decode (zc Z) pc = .ok (.idiv, 1)) (hy : ¬ y = 0) (h : AW Z (pc + 1) lv (.int (x / y) :: st) I R) : AW Z pc lv (.int y :: .int x :: st) I R :=
  fun p e s m below meth c H locs ls C hR hS hv => lv_idiv C.1 C.2.1 hd hy (h p e s m below meth c H locs ls C hR hS hv)
theorem aw_irem {x y : Int32} (hd : decode (zc Z) pc = .ok (.irem, 1)) (hy : ¬ y = 0) (h : AW Z (pc + 1) lv (.int (x - x / y * y) :: st) I R) : AW Z pc lv (.int y :: .int x :: st) I R :=
  fun p e s m below meth c H locs ls C hR hS hv => lv_irem C.1 C.2.1 hd hy (h p e s m below meth c H locs ls C hR hS hv)
theorem aw_ladd {x y : Int64} (hd : decode (zc Z) pc = .ok (.ladd, 1)) (h : AW Z (pc + 1) lv (.long (x + y) :: st) I R) : AW Z pc lv (.long y :: .long x :: st) I R :=
  fun p e s m below meth c H locs ls C hR hS hv => lv_ladd C.1 C.2.1 hd (h p e s m below meth c H locs ls C hR hS hv)
theorem aw_i2l {x : Int32} (hd : decode (zc Z) pc = .ok (.i2l, 1)) (h : AW Z (pc + 1) lv (.long x.toInt64 :: st) I R) : AW Z pc lv (.int x :: st) I R :=
  fun p e s m below meth c H locs ls C hR hS hv => lv_i2l C.1 C.2.1 hd rfl (h p e s m below meth c H locs ls C hR hS hv)
theorem aw_dup {va : Value} (hd : decode (zc Z) pc = .ok (.dup, 1)) (hc : va.category = 1) (h : AW Z (pc + 1) lv (va :: va :: st) I R) : AW Z pc lv (va :: st) I R :=
  fun p e s m below meth c H locs ls C hR hS hv => lv_dup C.1 C.2.1 hd hc (h p e s m below meth c H locs ls C hR hS hv)
theorem aw_dup2 {va vb : Value} (hd : decode (zc Z) pc = .ok (.dup2, 1)) (hc : va.category = 1) (hc2 : vb.category = 1) (h : AW Z (pc + 1) lv (va :: vb :: va :: vb :: st) I R) : AW Z pc lv (va :: vb :: st) I R :=
  fun p e s m below meth c H locs ls C hR hS hv => lv_dup2_11 C.1 C.2.1 hd hc hc2 (h p e s m below meth c H locs ls C hR hS hv)
theorem aw_if_eq {x : Int32} {off : Int} {tgt : Nat} (hd : decode (zc Z) pc = .ok (.ifCond .eq off, 3)) (ht : (pc : Int) + off = (tgt : Int)) (h1 : x = 0 → AW Z tgt lv st I R) (h2 : ¬ x = 0 → AW Z (pc + 3) lv st I R) : AW Z pc lv (.int x :: st) I R :=
  fun p e s m below meth c H locs ls C hR hS hv => lv_if_eq C.1 C.2.1 hd ht (fun q => h1 q p e s m below meth c H locs ls C hR hS hv) (fun q => h2 q p e s m below meth c H locs ls C hR hS hv)
theorem aw_icmp_eq {x y : Int32} {off : Int} {tgt : Nat} (hd : decode (zc Z) pc = .ok (.if_icmp .eq off, 3)) (ht : (pc : Int) + off = (tgt : Int)) (h1 : x = y → AW Z tgt lv st I R) (h2 : ¬ x = y → AW Z (pc + 3) lv st I R) : AW Z pc lv (.int y :: .int x :: st) I R :=
  fun p e s m below meth c H locs ls C hR hS hv => lv_icmp_eq C.1 C.2.1 hd ht (fun q => h1 q p e s m below meth c H locs ls C hR hS hv) (fun q => h2 q p e s m below meth c H locs ls C hR hS hv)
theorem aw_if_ne {x : Int32} {off : Int} {tgt : Nat} (hd : decode (zc Z) pc = .ok (.ifCond .ne off, 3)) (ht : (pc : Int) + off = (tgt : Int)) (h1 : ¬ x = 0 → AW Z tgt lv st I R) (h2 : x = 0 → AW Z (pc + 3) lv st I R) : AW Z pc lv (.int x :: st) I R :=
  fun p e s m below meth c H locs ls C hR hS hv => lv_if_ne C.1 C.2.1 hd ht (fun q => h1 q p e s m below meth c H locs ls C hR hS hv) (fun q => h2 q p e s m below meth c H locs ls C hR hS hv)
theorem aw_icmp_ne {x y : Int32} {off : Int} {tgt : Nat} (hd : decode (zc Z) pc = .ok (.if_icmp .ne off, 3)) (ht : (pc : Int) + off = (tgt : Int)) (h1 : ¬ x = y → AW Z tgt lv st I R) (h2 : x = y → AW Z (pc + 3) lv st I R) : AW Z pc lv (.int y :: .int x :: st) I R :=
  fun p e s m below meth c H locs ls C hR hS hv => lv_icmp_ne C.1 C.2.1 hd ht (fun q => h1 q p e s m below meth c H locs ls C hR hS hv) (fun q => h2 q p e s m below meth c H locs ls C hR hS hv)
theorem aw_if_lt {x : Int32} {off : Int} {tgt : Nat} (hd : decode (zc Z) pc = .ok (.ifCond .lt off, 3)) (ht : (pc : Int) + off = (tgt : Int)) (h1 : x < 0 → AW Z tgt lv st I R) (h2 : ¬ x < 0 → AW Z (pc + 3) lv st I R) : AW Z pc lv (.int x :: st) I R :=
  fun p e s m below meth c H locs ls C hR hS hv => lv_if_lt C.1 C.2.1 hd ht (fun q => h1 q p e s m below meth c H locs ls C hR hS hv) (fun q => h2 q p e s m below meth c H locs ls C hR hS hv)
theorem aw_icmp_lt {x y : Int32} {off : Int} {tgt : Nat} (hd : decode (zc Z) pc = .ok (.if_icmp .lt off, 3)) (ht : (pc : Int) + off = (tgt : Int)) (h1 : x < y → AW Z tgt lv st I R) (h2 : ¬ x < y → AW Z (pc + 3) lv st I R) : AW Z pc lv (.int y :: .int x :: st) I R :=
  fun p e s m below meth c H locs ls C hR hS hv => lv_icmp_lt C.1 C.2.1 hd ht (fun q => h1 q p e s m below meth c H locs ls C hR hS hv) (fun q => h2 q p e s m below meth c H locs ls C hR hS hv)
theorem aw_if_ge {x : Int32} {off : Int} {tgt : Nat} (hd : decode (zc Z) pc = .ok (.ifCond .ge off, 3)) (ht : (pc : Int) + off = (tgt : Int)) (h1 : 0 ≤ x → AW Z tgt lv st I R) (h2 : ¬ 0 ≤ x → AW Z (pc + 3) lv st I R) : AW Z pc lv (.int x :: st) I R :=
  fun p e s m below meth c H locs ls C hR hS hv => lv_if_ge C.1 C.2.1 hd ht (fun q => h1 q p e s m below meth c H locs ls C hR hS hv) (fun q => h2 q p e s m below meth c H locs ls C hR hS hv)
theorem aw_icmp_ge {x y : Int32} {off : Int} {tgt : Nat} (hd : decode (zc Z) pc = .ok (.if_icmp .ge off, 3)) (ht : (pc : Int) + off = (tgt : Int)) (h1 : y ≤ x → AW Z tgt lv st I R) (h2 : ¬ y ≤ x → AW Z (pc + 3) lv st I R) : AW Z pc lv (.int y :: .int x :: st) I R :=
  fun p e s m below meth c H locs ls C hR hS hv => lv_icmp_ge C.1 C.2.1 hd ht (fun q => h1 q p e s m below meth c H locs ls C hR hS hv) (fun q => h2 q p e s m below meth c H locs ls C hR hS hv)
theorem aw_if_gt {x : Int32} {off : Int} {tgt : Nat} (hd : decode (zc Z) pc = .ok (.ifCond .gt off, 3)) (ht : (pc : Int) + off = (tgt : Int)) (h1 : 0 < x → AW Z tgt lv st I R) (h2 : ¬ 0 < x → AW Z (pc + 3) lv st I R) : AW Z pc lv (.int x :: st) I R :=
  fun p e s m below meth c H locs ls C hR hS hv => lv_if_gt C.1 C.2.1 hd ht (fun q => h1 q p e s m below meth c H locs ls C hR hS hv) (fun q => h2 q p e s m below meth c H locs ls C hR hS hv)
theorem aw_icmp_gt {x y : Int32} {off : Int} {tgt : Nat} (hd : decode (zc Z) pc = .ok (.if_icmp .gt off, 3)) (ht : (pc : Int) + off = (tgt : Int)) (h1 : y < x → AW Z tgt lv st I R) (h2 : ¬ y < x → AW Z (pc + 3) lv st I R) : AW Z pc lv (.int y :: .int x :: st) I R :=
  fun p e s m below meth c H locs ls C hR hS hv => lv_icmp_gt C.1 C.2.1 hd ht (fun q => h1 q p e s m below meth c H locs ls C hR hS hv) (fun q => h2 q p e s m below meth c H locs ls C hR hS hv)
theorem aw_if_le {x : Int32} {off : Int} {tgt : Nat} (hd : decode (zc Z) pc = .ok (.ifCond .le off, 3)) (ht : (pc : Int) + off = (tgt : Int)) (h1 : x ≤ 0 → AW Z tgt lv st I R) (h2 : ¬ x ≤ 0 → AW Z (pc + 3) lv st I R) : AW Z pc lv (.int x :: st) I R :=
  fun p e s m below meth c H locs ls C hR hS hv => lv_if_le C.1 C.2.1 hd ht (fun q => h1 q p e s m below meth c H locs ls C hR hS hv) (fun q => h2 q p e s m below meth c H locs ls C hR hS hv)
theorem aw_icmp_le {x y : Int32} {off : Int} {tgt : Nat} (hd : decode (zc Z) pc = .ok (.if_icmp .le off, 3)) (ht : (pc : Int) + off = (tgt : Int)) (h1 : x ≤ y → AW Z tgt lv st I R) (h2 : ¬ x ≤ y → AW Z (pc + 3) lv st I R) : AW Z pc lv (.int y :: .int x :: st) I R :=
  fun p e s m below meth c H locs ls C hR hS hv => lv_icmp_le C.1 C.2.1 hd ht (fun q => h1 q p e s m below meth c H locs ls C hR hS hv) (fun q => h2 q p e s m below meth c H locs ls C hR hS hv)
theorem aw_goto {off : Int} {tgt : Nat} (hd : decode (zc Z) pc = .ok (.goto off, 3)) (ht : (pc : Int) + off = (tgt : Int)) (h : AW Z tgt lv st I R) : AW Z pc lv st I R :=
  fun p e s m below meth c H locs ls C hR hS hv => lv_goto C.1 C.2.1 hd ht (h p e s m below meth c H locs ls C hR hS hv)
theorem aw_lcmp {x y : Int64} (hd : decode (zc Z) pc = .ok (.lcmp, 1)) (h : AW Z (pc + 1) lv (.int (lg_cmp x y) :: st) I R) : AW Z pc lv (.long y :: .long x :: st) I R :=
  fun p e s m below meth c H locs ls C hR hS hv => W.lcmp C.1 C.2.1 hd (h p e s m below meth c H locs ls C hR hS hv)
theorem aw_null (hd : decode (zc Z) pc = .ok (.aconst_null, 1)) (h : AW Z (pc + 1) lv (.null :: st) I R) : AW Z pc lv st I R :=
  fun p e s m below meth c H locs ls C hR hS hv => lv_null C.1 C.2.1 hd (h p e s m below meth c H locs ls C hR hS hv)
theorem aw_ifnull {x : Nat} {off : Int} (hd : decode (zc Z) pc = .ok (.ifnull off, 3)) (h : AW Z (pc + 3) lv st I R) : AW Z pc lv (.ref x :: st) I R :=
  fun p e s m below meth c H locs ls C hR hS hv => lv_ifnull C.1 C.2.1 hd (h p e s m below meth c H locs ls C hR hS hv)
theorem aw_ifnullN {off : Int} {tgt : Nat} (hd : decode (zc Z) pc = .ok (.ifnull off, 3)) (ht : (pc : Int) + off = (tgt : Int)) (h : AW Z tgt lv st I R) : AW Z pc lv (.null :: st) I R :=
  fun p e s m below meth c H locs ls C hR hS hv => lv_ifnullN C.1 C.2.1 hd ht (h p e s m below meth c H locs ls C hR hS hv)
theorem aw_ifnonnull {x : Nat} {off : Int} {tgt : Nat} (hd : decode (zc Z) pc = .ok (.ifnonnull off, 3)) (ht : (pc : Int) + off = (tgt : Int)) (h : AW Z tgt lv st I R) : AW Z pc lv (.ref x :: st) I R :=
  fun p e s m below meth c H locs ls C hR hS hv => lv_ifnonnull C.1 C.2.1 hd ht (h p e s m below meth c H locs ls C hR hS hv)
theorem aw_ifnonnullN {off : Int} (hd : decode (zc Z) pc = .ok (.ifnonnull off, 3)) (h : AW Z (pc + 3) lv st I R) : AW Z pc lv (.null :: st) I R :=
  fun p e s m below meth c H locs ls C hR hS hv => lv_ifnonnullN C.1 C.2.1 hd (h p e s m below meth c H locs ls C hR hS hv)
theorem aw_tableOut {dflt lo hi : Int} {offs : Array Int} {len : Nat} {x : Int32} {tgt : Nat} (hd : decode (zc Z) pc = .ok (.tableswitch dflt lo hi offs, len)) (hx : x.toInt < lo ∨ hi < x.toInt) (ht : (pc : Int) + dflt = (tgt : Int)) (h : AW Z tgt lv st I R) : AW Z pc lv (.int x :: st) I R :=
  fun p e s m below meth c H locs ls C hR hS hv => lv_tableOut C.1 C.2.1 hd hx ht (h p e s m below meth c H locs ls C hR hS hv)
theorem aw_tableIn {dflt lo hi : Int} {offs : Array Int} {len : Nat} {x : Int32} {off : Int} {tgt : Nat} (hd : decode (zc Z) pc = .ok (.tableswitch dflt lo hi offs, len)) (h1 : ¬ x.toInt < lo) (h2 : ¬ hi < x.toInt) (ho : offs[(x.toInt - lo).toNat]? = some off) (ht : (pc : Int) + off = (tgt : Int)) (h : AW Z tgt lv st I R) : AW Z pc lv (.int x :: st) I R :=
  fun p e s m below meth c H locs ls C hR hS hv => lv_tableIn C.1 C.2.1 hd h1 h2 ho ht (h p e s m below meth c H locs ls C hR hS hv)
/-! the heap -/
/-- a reference is good: its cell is there, and of the kind -/
def qok (R : qR) (a kd : Nat) : Prop := a < R.2.2.1 ∧ (R.2.1 a).1 = kd
/-- the references of the picture are good -/
def qWT (R : qR) : Prop := ∀ a j r, a < R.2.2.1 → R.1 a j = some r → qok R r (qfk (R.2.1 a).1 j)
theorem qWT.get (h : qWT R) {a j r kd kr : Nat} (ha : qok R a kd) (hp : R.1 a j = some r) (hk : qfk kd j = kr) : qok R r kr := by
  have := h a j r ha.1 hp
  rw [ha.2, hk] at this
  exact this
theorem qcell_o {G : qG} {a ci : Nat} (h : (R.2.1 a).1 = ci) (hc : ci < 9) : qcell G I R a = .inr (ci, qflds ci (I a) (fun j => qrf G.1 (R.1 a j))) := by
  unfold qcell
  rw [h]
  match ci, hc with
  | 0, _ => rfl
  | 1, _ => rfl
  | 2, _ => rfl
  | 3, _ => rfl
  | 4, _ => rfl
  | 5, _ => rfl
  | 6, _ => rfl
  | 7, _ => rfl
  | 8, _ => rfl
theorem qcell_i {G : qG} {a : Nat} (h : (R.2.1 a).1 = 9) : qcell G I R a = .inl (G.2.2.1, (R.2.1 a).2, .inl (I a)) := by
  simp only [qcell, h]
theorem qcell_z {G : qG} {a : Nat} (h : (R.2.1 a).1 = 10) : qcell G I R a = .inl (G.2.2.2.1, (R.2.1 a).2, .inl (I a)) := by
  simp only [qcell, h]
theorem qcell_t {G : qG} {a : Nat} (h : (R.2.1 a).1 = 11) : qcell G I R a = .inl (G.2.2.2.2, (R.2.1 a).2, .inr (.inr (.inr (.inr (fun j => qrf G.1 (R.1 a j)))))) := by
  simp only [qcell, h]
/-- writes -/
def qup (I : qI) (a j : Nat) (v : Int32) : qI := fun b => if b = a then upd (I a) j v else I b
def qpr (R : qR) (a j : Nat) (r : Option Nat) : qR := ((fun b => if b = a then va_up (R.1 a) j r else R.1 b), R.2)
def qzI (I : qI) (a : Nat) : qI := fun b => if b = a then (fun _ => 0) else I b
def qzR (R : qR) (kd len : Nat) : qR := ((fun b => if b = R.2.2.1 then (fun _ => none) else R.1 b), (fun b => if b = R.2.2.1 then (kd, len) else R.2.1 b), R.2.2.1 + 1, R.2.2.2 + len)
theorem qup_self (I : qI) (a j : Nat) (v : Int32) : qup I a j v a = upd (I a) j v := if_pos rfl
theorem qup_ne (I : qI) {a b : Nat} (j : Nat) (v : Int32) (h : b ≠ a) : qup I a j v b = I b := if_neg h
theorem qcell_up {G : qG} {a b j : Nat} {v : Int32} (h : b ≠ a) : qcell G (qup I a j v) R b = qcell G I R b := by
  unfold qcell
  rw [qup_ne I j v h]
theorem qcell_pr {G : qG} {a b j : Nat} {r : Option Nat} (h : b ≠ a) : qcell G I (qpr R a j r) b = qcell G I R b := by
  unfold qcell qpr
  simp only [if_neg h]
theorem qcell_z0 {G : qG} {b kd len : Nat} (h : b < R.2.2.1) : qcell G (qzI I R.2.2.1) (qzR R kd len) b = qcell G I R b := by
  unfold qcell qzI qzR
  simp only [if_neg (Nat.ne_of_lt h)]
/-- a field by its entry of the constant pool -/
def qFL (own : String) (index ci j : Nat) : Prop := ∃ (C : String) (T : u_T) (N : Nat) (ty : Nat → FieldType), vwCl[ci]? = some (C, T, N) ∧ j < N ∧ Cond.fieldLink own index (T j).1 (T j).2.1 (T j).2.2.1 ∈ wW ∧ (∀ w ∈ u_ws C T N, w ∈ wW) ∧ (∀ k, k < N → parseFieldDescriptor (T k).2.2.1 = some (ty k)) ∧ (∀ a, a < N → ∀ b, b < N → a ≠ b → (T a).2.1 ≠ (T b).2.1)
theorem aw_geti {own : String} {index ci j a : Nat} (hf : qFL own index ci j) (hc : ci < 9) (hg : ∀ i p, (qflds ci i p)[j]? = some (.int (i j))) (ha : qok R a ci) (ho : (zM Z).1.cls = own) (hd : decode (zc Z) pc = .ok (.getfield index, 3)) (h : AW Z (pc + 3) lv (.int (I a j) :: st) I R) : AW Z pc lv (.ref ((zG Z).1 + a) :: st) I R := by
  intro p e s m below meth c H locs ls C hR hS hv
  obtain ⟨C0, T, N, ty, h1, h2, h3, h4, h5, h6⟩ := hf
  subst ho
  have he := qw_at (zG Z) I R ha.1
  rw [qcell_o ha.2 hc] at he
  exact va_get C.1 C.2.1 C.2.2.2.2.2.1 h4 C.2.2.2.2.1 C.2.2.2.2.2.2.2.2.1.1 hR.1 a he h1 j h2 (C.2.2.2.2.2.1 _ h3) (fun _ q => q) (hg _ _) hd (h p e s m below meth c H locs ls C hR hS hv)
theorem aw_getr {own : String} {index ci j a r : Nat} (hf : qFL own index ci j) (hc : ci < 9) (hg : ∀ i p, (qflds ci i p)[j]? = some (va_rf (p j))) (ha : qok R a ci) (hr : R.1 a j = some r) (ho : (zM Z).1.cls = own) (hd : decode (zc Z) pc = .ok (.getfield index, 3)) (h : AW Z (pc + 3) lv (.ref ((zG Z).1 + r) :: st) I R) : AW Z pc lv (.ref ((zG Z).1 + a) :: st) I R := by
  intro p e s m below meth c H locs ls C hR hS hv
  obtain ⟨C0, T, N, ty, h1, h2, h3, h4, h5, h6⟩ := hf
  subst ho
  have he := qw_at (zG Z) I R ha.1
  rw [qcell_o ha.2 hc] at he
  have hq := hg (I a) (fun j => qrf (zG Z).1 (R.1 a j))
  simp only [hr, qrf, Option.map_some, va_rf] at hq
  exact va_get C.1 C.2.1 C.2.2.2.2.2.1 h4 C.2.2.2.2.1 C.2.2.2.2.2.2.2.2.1.1 hR.1 a he h1 j h2 (C.2.2.2.2.2.1 _ h3) (fun _ q => q) hq hd (h p e s m below meth c H locs ls C hR hS hv)
theorem aw_puti {own : String} {index ci j a : Nat} {v : Int32} (hf : qFL own index ci j) (hc : ci < 9) (hg : ∀ i p, qflds ci (upd i j v) p = (qflds ci i p).set j (.int v)) (hl : ∀ i p, j < (qflds ci i p).length) (hfin : ∀ C T N, vwCl[ci]? = some (C, T, N) → (T j).2.2.2 = false ∧ parseFieldDescriptor (T j).2.2.1 = some .int) (ha : qok R a ci) (ho : (zM Z).1.cls = own) (hd : decode (zc Z) pc = .ok (.putfield index, 3)) (h : AW Z (pc + 3) lv st (qup I a j v) R) : AW Z pc lv (.int v :: .ref ((zG Z).1 + a) :: st) I R := by
  intro p e s m below meth c H locs ls C hR hS hv
  obtain ⟨C0, T, N, ty, h1, h2, h3, h4, h5, h6⟩ := hf
  subst ho
  have he := qw_at (zG Z) I R ha.1
  rw [qcell_o ha.2 hc] at he
  refine va_put C.1 C.2.1 C.2.2.2.2.2.1 h4 ty h5 h6 C.2.2.2.2.1 C.2.2.2.2.2.2.2.2.1.1 hR.1 (qD _ I R) hS a he h1 j h2 (C.2.2.2.2.2.1 _ h3) (fun _ q => q) (hfin _ _ _ h1).1 (hfin _ _ _ h1).2 rfl rfl (hl _ _) hd (fun H1 locs1 hP1 hD1 hS1 => h p e s m below meth c H1 locs1 ls C ⟨?_, hR.2⟩ hS1 hv)
  rw [← hg, ← qup_self I a j v, ← qcell_o (G := zG Z) (I := qup I a j v) ha.2 hc, qw_set (zG Z) I (qup I a j v) R R rfl (fun b hb => qcell_up hb)] at hP1
  exact hP1
end AWR
