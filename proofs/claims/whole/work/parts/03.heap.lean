section AWH
variable {Z : qZ} {pc : Nat} {lv : List (Nat × Value)} {st : List Value} {I : qI} {R : qR}
theorem qsize {p : Program} {e : Env} {s : State} {m : MethodId} {below : List Frame} {meth : Method} {c : Code} {H : Heap} {locs : List Loc} {Q : State → Prop} {g : JFrame} {w : Nat} (C : qCX Z p s m meth c) (hR : qRP (zG Z) I R H ∧ zN Z ≤ R.2.2.1 ∧ zS Z ≤ R.2.2.2) (hS : va_S (qA (zG Z)) s.heap H locs)
    (h : H.size = (zG Z).1 + R.2.2.1 → W p (zl Z) e (zR Z) s m (zA Z).toArray below meth c H locs (R.2.2.1 - zN Z) w Q g) : W p (zl Z) e (zR Z) s m (zA Z).toArray below meth c H locs (R.2.2.1 - zN Z) w Q g := by
  intro T hT X
  have h1 := X.heapSize
  rw [hT] at h1
  have h2 := C.2.2.2.2.2.2.2.2.2.1
  have h3 := hS.1
  have h4 := hR.2.1
  have h5 : (zG Z).1 + R.2.2.1 ≤ H.size := by
    by_cases hn : R.2.2.1 = 0
    · omega
    · have := (hR.1 (R.2.2.1 - 1) _ (qw_at (zG Z) I R (by omega))).lt
      have h6 : (zG Z).1 + (R.2.2.1 - 1) < H.size := this
      omega
  exact h (by omega) T hT X
theorem aw_iald {a : Nat} {i : Int32} (ha : qok R a 9) (hi : vp_in i (R.2.1 a).2) (hd : decode (zc Z) pc = .ok (.iaload, 1)) (h : AW Z (pc + 1) lv (.int (I a i.toNatClampNeg) :: st) I R) : AW Z pc lv (.int i :: .ref ((zG Z).1 + a) :: st) I R := by
  intro p e s m below meth c H locs ls C hR hS hv
  have he := qw_at (zG Z) I R ha.1
  rw [qcell_i ha.2] at he
  exact va_iald C.1 C.2.1 C.2.2.2.2.2.2.2.2.1.1 hR.1 a 0 he rfl hi hd (h p e s m below meth c H locs ls C hR hS hv)
theorem aw_zald {a : Nat} {i : Int32} (ha : qok R a 10) (hi : vp_in i (R.2.1 a).2) (hd : decode (zc Z) pc = .ok (.baload, 1)) (h : AW Z (pc + 1) lv (.int (I a i.toNatClampNeg) :: st) I R) : AW Z pc lv (.int i :: .ref ((zG Z).1 + a) :: st) I R := by
  intro p e s m below meth c H locs ls C hR hS hv
  have he := qw_at (zG Z) I R ha.1
  rw [qcell_z ha.2] at he
  exact va_zald C.1 C.2.1 C.2.2.2.2.2.2.2.2.1.1 hR.1 a 1 he rfl hi hd (h p e s m below meth c H locs ls C hR hS hv)
theorem aw_aald {a r : Nat} {i : Int32} (ha : qok R a 11) (hi : vp_in i (R.2.1 a).2) (hr : R.1 a i.toNatClampNeg = some r) (hd : decode (zc Z) pc = .ok (.aaload, 1)) (h : AW Z (pc + 1) lv (.ref ((zG Z).1 + r) :: st) I R) : AW Z pc lv (.int i :: .ref ((zG Z).1 + a) :: st) I R := by
  intro p e s m below meth c H locs ls C hR hS hv
  have he := qw_at (zG Z) I R ha.1
  rw [qcell_t ha.2] at he
  refine va_aldq C.1 C.2.1 C.2.2.2.2.2.2.2.2.1.1 hR.1 a 2 he rfl hi hd ?_
  rw [show va_rf (qrf (zG Z).1 (R.1 a i.toNatClampNeg)) = .ref ((zG Z).1 + r) by rw [hr]; rfl]
  exact h p e s m below meth c H locs ls C hR hS hv
theorem aw_alen {a kd : Nat} {v : Int32} (ha : qok R a kd) (hk : kd = 9 ∨ kd = 11) (hl : Int32.ofNat (R.2.1 a).2 = v) (hd : decode (zc Z) pc = .ok (.arraylength, 1)) (h : AW Z (pc + 1) lv (.int v :: st) I R) : AW Z pc lv (.ref ((zG Z).1 + a) :: st) I R := by
  intro p e s m below meth c H locs ls C hR hS hv
  have he := qw_at (zG Z) I R ha.1
  rcases hk with rfl | rfl
  · rw [qcell_i ha.2] at he
    exact va_alen C.1 C.2.1 C.2.2.2.2.2.2.2.2.1.1 hR.1 a 0 he rfl hl hd (h p e s m below meth c H locs ls C hR hS hv)
  · rw [qcell_t ha.2] at he
    exact va_alen C.1 C.2.1 C.2.2.2.2.2.2.2.2.1.1 hR.1 a 2 he rfl hl hd (h p e s m below meth c H locs ls C hR hS hv)
theorem aw_iast {a : Nat} {i x : Int32} (ha : qok R a 9) (hi : vp_in i (R.2.1 a).2) (hd : decode (zc Z) pc = .ok (.iastore, 1)) (h : AW Z (pc + 1) lv st (qup I a i.toNatClampNeg x) R) : AW Z pc lv (.int x :: .int i :: .ref ((zG Z).1 + a) :: st) I R := by
  intro p e s m below meth c H locs ls C hR hS hv
  have he := qw_at (zG Z) I R ha.1
  rw [qcell_i ha.2] at he
  refine va_iast C.1 C.2.1 C.2.2.2.2.2.2.2.2.1.1 hR.1 (qD _ I R) hS a 0 he rfl hi hd (fun H1 locs1 hP1 hD1 hS1 => h p e s m below meth c H1 locs1 ls C ⟨?_, hR.2⟩ hS1 hv)
  rw [← qup_self I a i.toNatClampNeg x, ← qcell_i (G := zG Z) (I := qup I a i.toNatClampNeg x) ha.2, qw_set (zG Z) I (qup I a i.toNatClampNeg x) R R rfl (fun b hb => qcell_up hb)] at hP1
  exact hP1
theorem aw_zast {a : Nat} {i x : Int32} (ha : qok R a 10) (hi : vp_in i (R.2.1 a).2) (hd : decode (zc Z) pc = .ok (.bastore, 1)) (h : AW Z (pc + 1) lv st (qup I a i.toNatClampNeg (vp_nar .boolean x)) R) : AW Z pc lv (.int x :: .int i :: .ref ((zG Z).1 + a) :: st) I R := by
  intro p e s m below meth c H locs ls C hR hS hv
  have he := qw_at (zG Z) I R ha.1
  rw [qcell_z ha.2] at he
  refine va_zast C.1 C.2.1 C.2.2.2.2.2.2.2.2.1.1 hR.1 (qD _ I R) hS a 1 he rfl hi hd (fun H1 locs1 hP1 hD1 hS1 => h p e s m below meth c H1 locs1 ls C ⟨?_, hR.2⟩ hS1 hv)
  rw [← qup_self I a i.toNatClampNeg (vp_nar .boolean x), ← qcell_z (G := zG Z) (I := qup I a i.toNatClampNeg (vp_nar .boolean x)) ha.2, qw_set (zG Z) I (qup I a i.toNatClampNeg (vp_nar .boolean x)) R R rfl (fun b hb => qcell_up hb)] at hP1
  exact hP1
theorem qpr_self (R : qR) (a j : Nat) (r : Option Nat) : (qpr R a j r).1 a = va_up (R.1 a) j r := if_pos rfl
theorem qrf_up (b : Nat) (f : Nat → Option Nat) (j r : Nat) : (fun x => qrf b (va_up f j (some r) x)) = va_up (fun x => qrf b (f x)) j (some (b + r)) := by
  funext x
  unfold va_up
  split <;> rfl
theorem aw_aast {a r : Nat} {i : Int32} (ha : qok R a 11) (hi : vp_in i (R.2.1 a).2) (hr : qok R r 5) (hd : decode (zc Z) pc = .ok (.aastore, 1)) (h : AW Z (pc + 1) lv st I (qpr R a i.toNatClampNeg (some r))) : AW Z pc lv (.ref ((zG Z).1 + r) :: .int i :: .ref ((zG Z).1 + a) :: st) I R := by
  intro p e s m below meth c H locs ls C hR hS hv
  have he := qw_at (zG Z) I R ha.1
  have he2 := qw_at (zG Z) I R hr.1
  rw [qcell_t ha.2] at he
  rw [qcell_o hr.2 (by decide)] at he2
  refine va_astq (r := (RX5, TX5, 6)) C.1 C.2.1 C.2.2.2.2.2.2.2.2.1.1 hR.1 (qD _ I R) hS a 2 r 5 he rfl he2 rfl hi hd (fun H1 locs1 hP1 hD1 hS1 => h p e s m below meth c H1 locs1 ls C ⟨?_, hR.2⟩ hS1 hv)
  rw [← qrf_up] at hP1
  have hc : qcell (zG Z) I (qpr R a i.toNatClampNeg (some r)) a = .inl ((zG Z).2.2.2.2, (R.2.1 a).2, .inr (.inr (.inr (.inr (fun x => qrf (zG Z).1 (va_up (R.1 a) i.toNatClampNeg (some r) x)))))) := by
    rw [qcell_t (R := qpr R a i.toNatClampNeg (some r)) ha.2, qpr_self]
    rfl
  rw [← hc, qw_set (zG Z) I I R (qpr R a i.toNatClampNeg (some r)) rfl (fun b hb => qcell_pr hb)] at hP1
  exact hP1
/-- a reference into a field -/
def qTY (ci j : Nat) (fin : Bool) : Prop := ∀ C T N, vwCl[ci]? = some (C, T, N) → (T j).2.2.2 = fin ∧ (T j).1 = C ∧ ∃ ty, parseFieldDescriptor (T j).2.2.1 = some ty ∧ ∀ x, narrow ty (.ref x) = .ref x ∧ fits ty (.ref x) = true
theorem aw_putr {own : String} {index ci j a r : Nat} (hf : qFL own index ci j) (hc : ci < 9) (hg : ∀ i p, qflds ci i (va_up p j (some ((zG Z).1 + r))) = (qflds ci i p).set j (.ref ((zG Z).1 + r))) (hl : ∀ i p, j < (qflds ci i p).length) (hfin : qTY ci j false) (ha : qok R a ci) (ho : (zM Z).1.cls = own) (hd : decode (zc Z) pc = .ok (.putfield index, 3)) (h : AW Z (pc + 3) lv st I (qpr R a j (some r))) : AW Z pc lv (.ref ((zG Z).1 + r) :: .ref ((zG Z).1 + a) :: st) I R := by
  intro p e s m below meth c H locs ls C hR hS hv
  obtain ⟨C0, T, N, ty, h1, h2, h3, h4, h5, h6⟩ := hf
  subst ho
  have he := qw_at (zG Z) I R ha.1
  rw [qcell_o ha.2 hc] at he
  obtain ⟨f1, f2, ty1, f3, f4⟩ := hfin _ _ _ h1
  refine va_put C.1 C.2.1 C.2.2.2.2.2.1 h4 ty h5 h6 C.2.2.2.2.1 C.2.2.2.2.2.2.2.2.1.1 hR.1 (qD _ I R) hS a he h1 j h2 (C.2.2.2.2.2.1 _ h3) (fun _ q => q) f1 f3 (f4 _).1 (f4 _).2 (hl _ _) hd (fun H1 locs1 hP1 hD1 hS1 => h p e s m below meth c H1 locs1 ls C ⟨?_, hR.2⟩ hS1 hv)
  have hcell : qcell (zG Z) I (qpr R a j (some r)) a = .inr (ci, qflds ci (I a) (va_up (fun x => qrf (zG Z).1 (R.1 a x)) j (some ((zG Z).1 + r)))) := by
    rw [qcell_o (R := qpr R a j (some r)) ha.2 hc, qpr_self, qrf_up]
  rw [← hg, ← hcell, qw_set (zG Z) I I R (qpr R a j (some r)) rfl (fun b hb => qcell_pr hb)] at hP1
  exact hP1
theorem aw_putF {own : String} {index ci j a r : Nat} (hf : qFL own index ci j) (hc : ci < 9) (hg : ∀ i p, qflds ci i (va_up p j (some ((zG Z).1 + r))) = (qflds ci i p).set j (.ref ((zG Z).1 + r))) (hl : ∀ i p, j < (qflds ci i p).length) (hfin : qTY ci j true) (hown : ∀ C T N, vwCl[ci]? = some (C, T, N) → C = own) (hin : (zM Z).1.name = "<init>") (ha : qok R a ci) (ho : (zM Z).1.cls = own) (hd : decode (zc Z) pc = .ok (.putfield index, 3)) (h : AW Z (pc + 3) lv st I (qpr R a j (some r))) : AW Z pc lv (.ref ((zG Z).1 + r) :: .ref ((zG Z).1 + a) :: st) I R := by
  intro p e s m below meth c H locs ls C hR hS hv
  obtain ⟨C0, T, N, ty, h1, h2, h3, h4, h5, h6⟩ := hf
  subst ho
  have he := qw_at (zG Z) I R ha.1
  rw [qcell_o ha.2 hc] at he
  obtain ⟨f1, f2, ty1, f3, f4⟩ := hfin _ _ _ h1
  refine va_putF C.1 C.2.1 C.2.2.2.2.2.1 h4 ty h5 h6 C.2.2.2.2.1 C.2.2.2.2.2.2.2.2.1.1 hR.1 (qD _ I R) hS a he h1 j h2 (C.2.2.2.2.2.1 _ h3) (fun _ q => q) f1 (C.2.2.2.2.2.2.2.1.trans hin) (f2.trans (hown _ _ _ h1)) f3 (f4 _).1 (f4 _).2 (hl _ _) hd (fun H1 locs1 hP1 hD1 hS1 => h p e s m below meth c H1 locs1 ls C ⟨?_, hR.2⟩ hS1 hv)
  have hcell : qcell (zG Z) I (qpr R a j (some r)) a = .inr (ci, qflds ci (I a) (va_up (fun x => qrf (zG Z).1 (R.1 a x)) j (some ((zG Z).1 + r)))) := by
    rw [qcell_o (R := qpr R a j (some r)) ha.2 hc, qpr_self, qrf_up]
  rw [← hg, ← hcell, qw_set (zG Z) I I R (qpr R a j (some r)) rfl (fun b hb => qcell_pr hb)] at hP1
  exact hP1
/-- the heap behind a cell that was pushed -/
theorem qpush {G : qG} {H H1 : Heap} {kd len : Nat} (hP : qRP G I R H) (hz : H.size = G.1 + R.2.2.1) (o1 : ∀ q, q < H.size → H1[q]? = H[q]?) (hc : va_at G.2.1 vwCl (G.1 + R.2.2.1, qcell G (qzI I R.2.2.1) (qzR R kd len) R.2.2.1) H1) : qRP G (qzI I R.2.2.1) (qzR R kd len) H1 := by
  unfold qRP
  rw [← qw_push G I (qzI I R.2.2.1) R (qzR R kd len) rfl (fun j hj => qcell_z0 hj)]
  refine (va_P.kept hP (fun k q hq => ?_)).app (fun k q hq => ?_)
  · obtain ⟨hl, rfl⟩ := qw_of hq
    exact o1 _ (by show G.1 + k < H.size; omega)
  · have hz : k < 1 := (List.getElem?_eq_some_iff.mp hq).1
    rw [show k = 0 by omega] at hq
    cases hq
    exact hc
theorem qS_push {A : Nat → Prop} {H0 H H1 : Heap} {locs : List Loc} (hS : va_S A H0 H locs) (z : H1.size = H.size + 1) (o1 : ∀ q, q < H.size → H1[q]? = H[q]?) : va_S A H0 H1 locs :=
  ⟨Nat.le_trans hS.1 (by omega), fun x h1 h2 => (o1 x (Nat.lt_of_lt_of_le h1 hS.1)).trans (hS.2.1 x h1 h2), hS.2.2⟩
theorem aw_new {own C : String} {T : u_T} {N ci index : Nat} (ty : Nat → FieldType) (hcl : vwCl[ci]? = some (C, T, N)) (hc : ci < 9) (hin : ∀ w ∈ u_ws C T N, w ∈ wW) (hty : ∀ k, k < N → parseFieldDescriptor (T k).2.2.1 = some (ty k)) (h1 : Cond.classLink own index C ∈ wW) (h2 : Cond.instantiable C N ∈ wW) (h3 : Cond.initialized C ∈ wW) (hfs : ∀ j, j < N → defaultValue (ty j) = vp_V (qflds ci (fun _ => 0) (fun _ => none)) j)
    (hr1 : R.2.2.1 + 1 - zN Z ≤ (zR Z).cells) (hr2 : R.2.2.2 + N - zS Z ≤ (zR Z).slots) (ho : (zM Z).1.cls = own) (hd : decode (zc Z) pc = .ok (.new index, 3)) (h : AW Z (pc + 3) lv (.ref ((zG Z).1 + R.2.2.1) :: st) (qzI I R.2.2.1) (qzR R ci N)) : AW Z pc lv st I R := by
  intro p e s m below meth c H locs ls C0 hR hS hv
  subst ho
  refine qsize C0 hR hS (fun hz => ?_)
  have hKn := C0.2.2.2.2.2.2.2.2.1.1.1 ci _ hcl
  have e1 : R.2.2.1 - zN Z + 1 = (qzR R ci N).2.2.1 - zN Z := by show _ = R.2.2.1 + 1 - zN Z; have := hR.2.1; omega
  have e2 : R.2.2.2 - zS Z + N = (qzR R ci N).2.2.2 - zS Z := by show _ = R.2.2.2 + N - zS Z; have := hR.2.2; omega
  refine W.newcK C0.1 C0.2.1 C0.2.2.2.2.1 (C0.2.2.2.2.2.1 _ h1) (C0.2.2.2.2.2.1 _ h2) (C0.2.2.2.2.2.1 _ h3) rfl hd (by rw [e1]; exact hr1) (by rw [e2]; exact hr2) hKn.2.1 hz fun H1 kC hkC g1 z1 o1 => ?_
  rw [e1, e2]
  refine h p e s m below meth c H1 locs ls C0 ⟨qpush hR.1 hz (fun q hq => o1 q (by omega)) ?_, ?_, ?_⟩ (qS_push hS (by omega) (fun q hq => o1 q (by omega))) hv
  · rw [qcell_o (ci := ci) (by simp [qzR]) hc]
    refine ⟨_, hcl, (u_born ty C0.2.2.2.2.2.1 hin hKn hkC g1 hty).to (fun j hj => ?_)⟩
    rw [hfs j hj]
    simp [qzI, qzR, qrf]
  · show zN Z ≤ R.2.2.1 + 1; have := hR.2.1; omega
  · show zS Z ≤ R.2.2.2 + N; have := hR.2.2; omega
theorem aw_newi {x : Int32} {N : Nat} (hw : Cond.arrayClass .int ∈ wW) (h0 : ¬ x < 0) (hN : x.toNatClampNeg = N) (hb : N ≤ 100000000) (hr1 : R.2.2.1 + 1 - zN Z ≤ (zR Z).cells) (hr2 : R.2.2.2 + N - zS Z ≤ (zR Z).slots) (hd : decode (zc Z) pc = .ok (.newarray .int, 2)) (h : AW Z (pc + 2) lv (.ref ((zG Z).1 + R.2.2.1) :: st) (qzI I R.2.2.1) (qzR R 9 N)) : AW Z pc lv (.int x :: st) I R := by
  intro p e s m below meth c H locs ls C0 hR hS hv
  refine qsize C0 hR hS (fun hz => ?_)
  have e1 : R.2.2.1 - zN Z + 1 = (qzR R 9 N).2.2.1 - zN Z := by show _ = R.2.2.1 + 1 - zN Z; have := hR.2.1; omega
  have e2 : R.2.2.2 - zS Z + N = (qzR R 9 N).2.2.2 - zS Z := by show _ = R.2.2.2 + N - zS Z; have := hR.2.2; omega
  refine va_newaK C0.1 C0.2.1 (atype := .int) (C0.2.2.2.2.2.1 _ hw) rfl hd rfl h0 hN (by show N * 4 ≤ _; omega) (by rw [e1]; exact hr1) (by rw [e2]; exact hr2) hz fun H1 cA g1 z1 o1 hAr hNm => ?_
  rw [e1, e2]
  have hcA : cA = (zG Z).2.2.1 := Option.some.inj (hNm.symm.trans (C0.2.2.2.2.2.2.2.2.1.1.2 0 _ rfl).2)
  subst hcA
  refine h p e s m below meth c H1 locs ls C0 ⟨qpush hR.1 hz (fun q hq => o1 q (by omega)) ?_, ?_, ?_⟩ (qS_push hS (by omega) (fun q hq => o1 q (by omega))) hv
  · rw [qcell_i (by simp [qzR])]
    show H1[(zG Z).1 + R.2.2.1]? = _
    rw [g1]
    simp [qzI, qzR, vp_cell_i, defaultValue, newarray.typeOf]
  · show zN Z ≤ R.2.2.1 + 1; have := hR.2.1; omega
  · show zS Z ≤ R.2.2.2 + N; have := hR.2.2; omega
theorem aw_newz {x : Int32} {N : Nat} (hw : Cond.arrayClass .boolean ∈ wW) (h0 : ¬ x < 0) (hN : x.toNatClampNeg = N) (hb : N ≤ 100000000) (hr1 : R.2.2.1 + 1 - zN Z ≤ (zR Z).cells) (hr2 : R.2.2.2 + N - zS Z ≤ (zR Z).slots) (hd : decode (zc Z) pc = .ok (.newarray .boolean, 2)) (h : AW Z (pc + 2) lv (.ref ((zG Z).1 + R.2.2.1) :: st) (qzI I R.2.2.1) (qzR R 10 N)) : AW Z pc lv (.int x :: st) I R := by
  intro p e s m below meth c H locs ls C0 hR hS hv
  refine qsize C0 hR hS (fun hz => ?_)
  have e1 : R.2.2.1 - zN Z + 1 = (qzR R 10 N).2.2.1 - zN Z := by show _ = R.2.2.1 + 1 - zN Z; have := hR.2.1; omega
  have e2 : R.2.2.2 - zS Z + N = (qzR R 10 N).2.2.2 - zS Z := by show _ = R.2.2.2 + N - zS Z; have := hR.2.2; omega
  refine va_newaK C0.1 C0.2.1 (atype := .boolean) (C0.2.2.2.2.2.1 _ hw) rfl hd rfl h0 hN (by show N * 1 ≤ _; omega) (by rw [e1]; exact hr1) (by rw [e2]; exact hr2) hz fun H1 cA g1 z1 o1 hAr hNm => ?_
  rw [e1, e2]
  have hcA : cA = (zG Z).2.2.2.1 := Option.some.inj (hNm.symm.trans (C0.2.2.2.2.2.2.2.2.1.1.2 1 _ rfl).2)
  subst hcA
  refine h p e s m below meth c H1 locs ls C0 ⟨qpush hR.1 hz (fun q hq => o1 q (by omega)) ?_, ?_, ?_⟩ (qS_push hS (by omega) (fun q hq => o1 q (by omega))) hv
  · rw [qcell_z (by simp [qzR])]
    show H1[(zG Z).1 + R.2.2.1]? = _
    rw [g1]
    simp [qzI, qzR, vp_cell_i, defaultValue, newarray.typeOf]
  · show zN Z ≤ R.2.2.1 + 1; have := hR.2.1; omega
  · show zS Z ≤ R.2.2.2 + N; have := hR.2.2; omega
theorem aw_newt {own : String} {index : Nat} {x : Int32} {N : Nat} (hw : Cond.classLink own index RX5 ∈ wW) (h0 : ¬ x < 0) (hN : x.toNatClampNeg = N) (hb : N ≤ 100000000) (hr1 : R.2.2.1 + 1 - zN Z ≤ (zR Z).cells) (hr2 : R.2.2.2 + N - zS Z ≤ (zR Z).slots) (ho : (zM Z).1.cls = own) (hd : decode (zc Z) pc = .ok (.anewarray index, 3)) (h : AW Z (pc + 3) lv (.ref ((zG Z).1 + R.2.2.1) :: st) (qzI I R.2.2.1) (qzR R 11 N)) : AW Z pc lv (.int x :: st) I R := by
  intro p e s m below meth c H locs ls C0 hR hS hv
  subst ho
  refine qsize C0 hR hS (fun hz => ?_)
  have e1 : R.2.2.1 - zN Z + 1 = (qzR R 11 N).2.2.1 - zN Z := by show _ = R.2.2.1 + 1 - zN Z; have := hR.2.1; omega
  have e2 : R.2.2.2 - zS Z + N = (qzR R 11 N).2.2.2 - zS Z := by show _ = R.2.2.2 + N - zS Z; have := hR.2.2; omega
  refine W.anew C0.1 C0.2.1 C0.2.2.2.2.1 (C0.2.2.2.2.2.1 _ hw) (va_AO.use C0.2.2.2.2.2.2.2.2.1.2.2) rfl hd rfl h0 (by rw [hN]; omega) (by rw [e1]; exact hr1) (by rw [hN, e2]; exact hr2) fun cA kA comp f1 f2 f3 f4 => ?_
  generalize hH1 : H.push ({ cls := cA, slots := Array.replicate x.toNatClampNeg .null, vm := .none } : Cell) = H1
  have z1 : H1.size = H.size + 1 := by rw [← hH1, Array.size_push]
  have g1 : H1[H.size]? = some (arrV cA x.toNatClampNeg (fun _ => .null)) := by rw [← hH1, Array.getElem?_push_size, ← arrV_new]
  have o1 : ∀ q : Nat, q < H.size → H1[q]? = H[q]? := fun q hq => by rw [← hH1, Array.getElem?_push, if_neg (Nat.ne_of_lt hq)]
  rw [hN, e1, e2, hz]
  obtain ⟨kA2, comp2, -, -, -, q4⟩ := (C0.2.2.2.2.2.2.2.2.1.1.2 2 _ rfl).2
  have hcA : cA = (zG Z).2.2.2.2 := Option.some.inj (f1.symm.trans q4)
  subst hcA
  refine h p e s m below meth c H1 locs ls C0 ⟨qpush hR.1 hz o1 ?_, ?_, ?_⟩ (qS_push hS z1 o1) hv
  · rw [qcell_t (by simp [qzR])]
    show H1[(zG Z).1 + R.2.2.1]? = _
    rw [← hz, g1, hN]
    simp [qzR, vp_cell_q, qrf, va_rf]
  · show zN Z ≤ R.2.2.1 + 1; have := hR.2.1; omega
  · show zS Z ≤ R.2.2.2 + N; have := hR.2.2; omega
theorem aw_objInit {own : String} {index a : Nat} (h1 : Cond.methodLink own index objectInit ∈ wW) (h2 : Cond.instanceMethod objectInit ∈ wW) (h3 : Cond.code objectInit ⟨#[0xb1]⟩ 1 none ∈ wW) (ho : (zM Z).1.cls = own) (hst : (st.map fun v => v.category).sum ≤ 8) (hf : 1 ≤ (zR Z).frames) (hlo : 20 ≤ (zR Z).locals) (hd : decode (zc Z) pc = .ok (.invokespecial index, 3)) (h : AW Z (pc + 3) lv st I R) : AW Z pc lv (.ref a :: st) I R := by
  intro p e s m below meth c H locs ls C hR hS hv
  subst ho
  refine W.objInit C.1 C.2.1 C.2.2.2.2.1 (C.2.2.2.2.2.1 _ h1) (C.2.2.2.2.2.1 _ h2) (C.2.2.2.2.2.1 _ h3) rfl (by rw [C.2.2.2.1]; exact hv.1) rfl hd hf (by show 2 * 0 + _ + 12 ≤ _; omega) ?_
  exact h p e s m below meth c H locs ls C hR hS hv
end AWH
