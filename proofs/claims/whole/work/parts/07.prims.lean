/-! WHAT THE PRINTED FUNCTIONS ARE MADE OF -/
def qlet {α β : Type} (x : α) (f : α → Option β) : Option β := f x
def qopt {α β : Type} (o : Option α) (n : Option β) (f : α → Option β) : Option β := match o with
  | none => n
  | some q => f q
def qx {α β γ : Type} (o : α ⊕ β) (f : α → Option γ) (g : β → Option γ) : Option γ := match o with
  | .inl e => f e
  | .inr r => g r
def qloop {S O : Type} (body : S → Option (S ⊕ O)) : Nat → S → Option O
  | 0, _ => none
  | n + 1, s => (body s).bind fun x => match x with
    | .inl s' => qloop body n s'
    | .inr o => some o
/-- reads and writes of arrays, in their bounds -/
def qin (i : Int32) (n : Nat) : Bool := decide (¬ (i < 0 ∨ n ≤ i.toNatClampNeg))
def qrd (I : qI) (R : qR) (a : Nat) (i : Int32) : Option Int32 := if qin i (R.2.1 a).2 = true then some (I a i.toNatClampNeg) else none
def qra (R : qR) (a : Nat) (i : Int32) : Option Nat := if qin i (R.2.1 a).2 = true then R.1 a i.toNatClampNeg else none
def qwr (I : qI) (R : qR) (a : Nat) (i x : Int32) : Option qI := if qin i (R.2.1 a).2 = true then some (qup I a i.toNatClampNeg x) else none
def qwz (I : qI) (R : qR) (a : Nat) (i x : Int32) : Option qI := if qin i (R.2.1 a).2 = true then some (qup I a i.toNatClampNeg (vp_nar .boolean x)) else none
def qwa (R : qR) (a : Nat) (i : Int32) (r : Nat) : Option qR := if qin i (R.2.1 a).2 = true then some (qpr R a i.toNatClampNeg (some r)) else none
def qcy (I : qI) (R : qR) (a : Nat) (sp : Int32) (b : Nat) (dp x : Int32) : Option qI := if ¬ sp < 0 ∧ ¬ dp < 0 ∧ ¬ x < 0 ∧ sp.toNatClampNeg + x.toNatClampNeg ≤ (R.2.1 a).2 ∧ dp.toNatClampNeg + x.toNatClampNeg ≤ (R.2.1 b).2 then some (qcp I a b sp.toNatClampNeg dp.toNatClampNeg x.toNatClampNeg) else none
def qrv (G : qG) (o : Option Nat) : Value := match o with
  | none => .null
  | some q => .ref (G.1 + q)
theorem qbind {α β : Type} {o : Option α} {f : α → Option β} {r : β} (h : o.bind f = some r) : ∃ x, o = some x ∧ f x = some r := by
  cases o with
  | none => cases h
  | some x => exact ⟨x, rfl, h⟩
theorem qletE {α β : Type} {x : α} {f : α → Option β} {r : β} (h : qlet x f = some r) : ∃ y, y = x ∧ f y = some r := ⟨x, rfl, h⟩
theorem qoptn {α β : Type} {n : Option β} {f : α → Option β} {r : β} (h : qopt none n f = some r) : n = some r := h
theorem qopts {α β : Type} {q : α} {n : Option β} {f : α → Option β} {r : β} (h : qopt (some q) n f = some r) : f q = some r := h
theorem qxl {α β γ : Type} {e : α} {f : α → Option γ} {g : β → Option γ} {r : γ} (h : qx (.inl e) f g = some r) : f e = some r := h
theorem qxr {α β γ : Type} {e : β} {f : α → Option γ} {g : β → Option γ} {r : γ} (h : qx (.inr e) f g = some r) : g e = some r := h
theorem qite {α : Type} {c : Prop} {dc : Decidable c} {a r : α} (h : (if c then some a else none) = some r) : c ∧ some a = some r := by
  by_cases hc : c
  · rw [if_pos hc] at h; exact ⟨hc, h⟩
  · rw [if_neg hc] at h; cases h
theorem qloop_ind {S O : Type} {body : S → Option (S ⊕ O)} {P : S → Prop} {o : O} (h : ∀ s x, body s = some x → (∀ s', x = .inl s' → P s') → (∀ o', x = .inr o' → o' = o) → P s) : ∀ n s, qloop body n s = some o → P s := by
  intro n
  induction n with
  | zero => intro s hs; cases hs
  | succ n ih =>
    intro s hs
    obtain ⟨x, e, hs⟩ := qbind hs
    refine h s x e (fun s' hx => ?_) (fun o' hx => ?_)
    · subst hx; exact ih s' hs
    · subst hx; exact Option.some.inj hs
/-- total: an invariant and a measure that falls -/
theorem qloop_spec {S O : Type} {body : S → Option (S ⊕ O)} (Inv : S → Prop) (mu : S → Nat) (Post : O → Prop) (h : ∀ s, Inv s → (∃ s', body s = some (.inl s') ∧ Inv s' ∧ mu s' < mu s) ∨ (∃ o, body s = some (.inr o) ∧ Post o)) : ∀ n s, Inv s → mu s < n → ∃ o, qloop body n s = some o ∧ Post o := by
  intro n
  induction n with
  | zero => intro s _ hm; exact absurd hm (Nat.not_lt_zero _)
  | succ n ih =>
    intro s hi hm
    rcases h s hi with ⟨s', e, hi', hm'⟩ | ⟨o, e, hp⟩
    · obtain ⟨o, e2, hp⟩ := ih s' hi' (by omega)
      exact ⟨o, by simp [qloop, e, e2], hp⟩
    · exact ⟨o, by simp [qloop, e], hp⟩
theorem qin_iff {i : Int32} {n : Nat} : qin i n = true ↔ vp_in i n := by simp [qin, vp_in]
theorem qrd_some {I : qI} {R : qR} {a : Nat} {i x : Int32} (h : qrd I R a i = some x) : vp_in i (R.2.1 a).2 ∧ I a i.toNatClampNeg = x := by
  unfold qrd at h
  split at h
  next hc => exact ⟨qin_iff.mp hc, Option.some.inj h⟩
  next => cases h
theorem qra_some {R : qR} {a r : Nat} {i : Int32} (h : qra R a i = some r) : vp_in i (R.2.1 a).2 ∧ R.1 a i.toNatClampNeg = some r := by
  unfold qra at h
  split at h
  next hc => exact ⟨qin_iff.mp hc, h⟩
  next => cases h
theorem qwr_some {I I2 : qI} {R : qR} {a : Nat} {i x : Int32} (h : qwr I R a i x = some I2) : vp_in i (R.2.1 a).2 ∧ qup I a i.toNatClampNeg x = I2 := by
  unfold qwr at h
  split at h
  next hc => exact ⟨qin_iff.mp hc, Option.some.inj h⟩
  next => cases h
theorem qwz_some {I I2 : qI} {R : qR} {a : Nat} {i x : Int32} (h : qwz I R a i x = some I2) : vp_in i (R.2.1 a).2 ∧ qup I a i.toNatClampNeg (vp_nar .boolean x) = I2 := by
  unfold qwz at h
  split at h
  next hc => exact ⟨qin_iff.mp hc, Option.some.inj h⟩
  next => cases h
theorem qwa_some {R R2 : qR} {a r : Nat} {i : Int32} (h : qwa R a i r = some R2) : vp_in i (R.2.1 a).2 ∧ qpr R a i.toNatClampNeg (some r) = R2 := by
  unfold qwa at h
  split at h
  next hc => exact ⟨qin_iff.mp hc, Option.some.inj h⟩
  next => cases h
theorem qnar {x : Int32} (h : vp_nar .boolean x = x) : narrow .boolean (.int x) = .int x := by
  have e : narrow .boolean (.int x) = .int (vp_nar .boolean x) := rfl
  rw [e, h]
theorem qtout (x : Int32) (hi : Nat) (h : ∀ j : Nat, j ≤ hi → ¬ x = Int32.ofInt j) : x.toInt < 0 ∨ (hi : Int) < x.toInt := by
  by_cases h0 : x.toInt < 0
  · exact Or.inl h0
  · refine Or.inr ?_
    by_cases h1 : (hi : Int) < x.toInt
    · exact h1
    · exfalso
      refine h x.toInt.toNat (by omega) ?_
      rw [Int.toNat_of_nonneg (by omega)]
      exact (Int32.ofInt_toInt x).symm
theorem qWT.elem {R : qR} (h : qWT R) {a r : Nat} {i : Int32} (ha : qok R a 11) (hp : qra R a i = some r) : qok R r 5 := h.get ha (qra_some hp).2 rfl
section AWX
variable {Z : qZ} {pc : Nat} {lv : List (Nat × Value)} {st rest st0 : List Value} {I : qI} {R : qR} {v1 : Option Value} {I1 : qI} {R1 : qR} {M : qM} {d : Nat} {As : List Value}
theorem aw_aloadN {i : Nat} (hd : decode (zc Z) pc = .ok (.aload i, 2)) (q : Nat) (hl : lv[q]? = some (i, .null)) (h : AW Z (pc + 2) lv (.null :: st) I R) : AW Z pc lv st I R :=
  fun p e s m below meth c H locs ls C hR hS hv => lv_aloadN C.1 C.2.1 hd (lv_at hv q hl) (h p e s m below meth c H locs ls C hR hS hv)
theorem aw_astoreN {i : Nat} {lv' : List (Nat × Value)} (hd : decode (zc Z) pc = .ok (.astore i, 2)) (hn : i < zn Z) (hl : (i, Value.null) :: lv.filter (fun q => !(q.1 == i) && !(q.1 + 1 == i && q.2.category == 2)) = lv') (h : AW Z (pc + 2) lv' st I R) : AW Z pc lv (.null :: st) I R :=
  fun p e s m below meth c H locs ls C hR hS hv => lv_astoreN C.1 C.2.1 hd hv hn hl (fun ls hv => h p e s m below meth c H locs ls C hR hS hv)
theorem aw_ialdq {a : Nat} {i x : Int32} (ha : qok R a 9) (he : qrd I R a i = some x) (hd : decode (zc Z) pc = .ok (.iaload, 1)) (h : AW Z (pc + 1) lv (.int x :: st) I R) : AW Z pc lv (.int i :: .ref ((zG Z).1 + a) :: st) I R :=
  aw_iald ha (qrd_some he).1 hd (by rw [(qrd_some he).2]; exact h)
theorem aw_zaldq {a : Nat} {i x : Int32} (ha : qok R a 10) (he : qrd I R a i = some x) (hd : decode (zc Z) pc = .ok (.baload, 1)) (h : AW Z (pc + 1) lv (.int x :: st) I R) : AW Z pc lv (.int i :: .ref ((zG Z).1 + a) :: st) I R :=
  aw_zald ha (qrd_some he).1 hd (by rw [(qrd_some he).2]; exact h)
theorem aw_aaldq {a r : Nat} {i : Int32} (ha : qok R a 11) (he : qra R a i = some r) (hd : decode (zc Z) pc = .ok (.aaload, 1)) (h : AW Z (pc + 1) lv (.ref ((zG Z).1 + r) :: st) I R) : AW Z pc lv (.int i :: .ref ((zG Z).1 + a) :: st) I R :=
  aw_aald ha (qra_some he).1 (qra_some he).2 hd h
theorem aw_iastq {a : Nat} {i x : Int32} {I2 : qI} (ha : qok R a 9) (he : qwr I R a i x = some I2) (hd : decode (zc Z) pc = .ok (.iastore, 1)) (h : AW Z (pc + 1) lv st I2 R) : AW Z pc lv (.int x :: .int i :: .ref ((zG Z).1 + a) :: st) I R :=
  aw_iast ha (qwr_some he).1 hd (by rw [(qwr_some he).2]; exact h)
theorem aw_zastq {a : Nat} {i x : Int32} {I2 : qI} (ha : qok R a 10) (he : qwz I R a i x = some I2) (hd : decode (zc Z) pc = .ok (.bastore, 1)) (h : AW Z (pc + 1) lv st I2 R) : AW Z pc lv (.int x :: .int i :: .ref ((zG Z).1 + a) :: st) I R :=
  aw_zast ha (qwz_some he).1 hd (by rw [(qwz_some he).2]; exact h)
theorem aw_aastq {a r : Nat} {i : Int32} {R2 : qR} (ha : qok R a 11) (he : qwa R a i r = some R2) (hr : qok R r 5) (hd : decode (zc Z) pc = .ok (.aastore, 1)) (h : AW Z (pc + 1) lv st I R2) : AW Z pc lv (.ref ((zG Z).1 + r) :: .int i :: .ref ((zG Z).1 + a) :: st) I R :=
  aw_aast ha (qwa_some he).1 hr hd (by rw [(qwa_some he).2]; exact h)
theorem aw_putiq {own : String} {index ci j a : Nat} {v : Int32} {I2 : qI} (hf : qFL own index ci j) (hc : ci < 9) (hg : ∀ v i p, qflds ci (upd i j v) p = (qflds ci i p).set j (.int v)) (hl : ∀ i p, j < (qflds ci i p).length) (hfin : ∀ C T N, vwCl[ci]? = some (C, T, N) → (T j).2.2.2 = false ∧ parseFieldDescriptor (T j).2.2.1 = some .int) (ha : qok R a ci) (he : I2 = qup I a j v) (ho : (zM Z).1.cls = own) (hd : decode (zc Z) pc = .ok (.putfield index, 3)) (h : AW Z (pc + 3) lv st I2 R) : AW Z pc lv (.int v :: .ref ((zG Z).1 + a) :: st) I R :=
  aw_puti hf hc (hg v) hl hfin ha ho hd (by rw [← he]; exact h)
theorem aw_copyq {own : String} {index a b : Nat} {sp dp x : Int32} {I2 : qI} (h1 : Cond.methodLink own index arraycopyName ∈ wW) (ho : (zM Z).1.cls = own) (ha : qok R a 9) (hb : qok R b 9) (he : qcy I R a sp b dp x = some I2) (hs : (st.map fun v => v.category).sum ≤ 8) (hf : 1 ≤ (zR Z).frames) (hlo : 64 ≤ (zR Z).locals) (hd : decode (zc Z) pc = .ok (.invokestatic index, 3))
    (h : AW Z (pc + 3) lv st I2 R) : AW Z pc lv (.int x :: .int dp :: .ref ((zG Z).1 + b) :: .int sp :: .ref ((zG Z).1 + a) :: st) I R := by
  unfold qcy at he
  split at he
  next hc => exact aw_copy h1 cx_cpn cx_cps cx_sys ho ha hb hc.1 hc.2.1 hc.2.2.1 hc.2.2.2.1 hc.2.2.2.2 hs hf hlo hd (by rw [Option.some.inj he]; exact h)
  next => cases he
theorem aw_tableEq {dflt hi : Int} {offs : Array Int} {len : Nat} {x v : Int32} {off : Int} {tgt : Nat} (hd : decode (zc Z) pc = .ok (.tableswitch dflt 0 hi offs, len)) (hx : x = v) (h1 : ¬ v.toInt < 0) (h2 : ¬ hi < v.toInt) (ho : offs[(v.toInt - 0).toNat]? = some off) (ht : (pc : Int) + off = (tgt : Int)) (h : AW Z tgt lv st I R) : AW Z pc lv (.int x :: st) I R := by
  subst hx
  exact aw_tableIn hd h1 h2 ho ht h
theorem qroomL {l : Launch} {G : qG} {M0 : qM} {d0 : Nat} {As0 : List Value} {v0 : Option Value} {I0 : qI} (h1 : d + 1 ≤ d0) (h2 : M.2.2.1 ≤ 45) : qroom (Zm l G M0 d0 As0 R v0 I0 R) M d R := by
  refine ⟨h1, ?_, ?_, ?_⟩
  · show 8 + (M.2.2.1 + 11) + 64 * d ≤ 64 * d0
    omega
  · show R.2.2.1 - R.2.2.1 ≤ _
    omega
  · show R.2.2.2 - R.2.2.2 ≤ _
    omega
theorem aw_maxq {l : Launch} {G : qG} {M0 : qM} {d0 : Nat} {As0 : List Value} {v0 : Option Value} {I0 : qI} {own : String} {index : Nat} {x y : Int32} (h1 : Cond.methodLink own index Lib.Math.max.name ∈ wW) (ho : M0.1.cls = own) (hs : (st.map fun v => v.category).sum ≤ 8) (hf : 1 ≤ d0) (hd : decode M0.2.1 pc = .ok (.invokestatic index, 3))
    (h : AW (Zm l G M0 d0 As0 R v0 I0 R) (pc + 3) lv (.int (if x < y then y else x) :: st) I R) : AW (Zm l G M0 d0 As0 R v0 I0 R) pc lv (.int y :: .int x :: st) I R :=
  aw_max h1 cx_max_s cx_math cx_max_c ho hs hf (by show 64 ≤ 64 * d0; omega) (by show R.2.2.1 - R.2.2.1 ≤ _; omega) (by show R.2.2.2 - R.2.2.2 ≤ _; omega) hd h
theorem aw_minq {l : Launch} {G : qG} {M0 : qM} {d0 : Nat} {As0 : List Value} {v0 : Option Value} {I0 : qI} {own : String} {index : Nat} {x y : Int32} (h1 : Cond.methodLink own index Lib.Math.min.name ∈ wW) (ho : M0.1.cls = own) (hs : (st.map fun v => v.category).sum ≤ 8) (hf : 1 ≤ d0) (hd : decode M0.2.1 pc = .ok (.invokestatic index, 3))
    (h : AW (Zm l G M0 d0 As0 R v0 I0 R) (pc + 3) lv (.int (if y < x then y else x) :: st) I R) : AW (Zm l G M0 d0 As0 R v0 I0 R) pc lv (.int y :: .int x :: st) I R :=
  aw_min h1 cx_min_s cx_math cx_min_c ho hs hf (by show 64 ≤ 64 * d0; omega) (by show R.2.2.1 - R.2.2.1 ≤ _; omega) (by show R.2.2.2 - R.2.2.2 ≤ _; omega) hd h
/-- calls by what they answer -/
theorem aw_callVi {own : String} {index n ci a : Nat} {x : Int32} (hM : qMt (zl Z) (zG Z) M d (.ref ((zG Z).1 + a) :: As) I R (some (.int x)) I1 R1) (hC : qCV own index n ci M) (hn : As.length = n) (hr : qroom Z M d R1) (ho : (zM Z).1.cls = own) (ha : qok R a ci) (hs : (rest.map fun v => v.category).sum ≤ 8) (hd : decode (zc Z) pc = .ok (.invokevirtual index, 3)) (hst : st0 = As.reverse ++ .ref ((zG Z).1 + a) :: rest) (h : AW Z (pc + 3) lv (.int x :: rest) I1 R1) : AW Z pc lv st0 I R := aw_callV hM hC hn hr ho ha hs hd hst h
theorem aw_callVr {own : String} {index n ci a : Nat} {x : Value} (hM : qMt (zl Z) (zG Z) M d (.ref ((zG Z).1 + a) :: As) I R (some x) I1 R1) (hC : qCV own index n ci M) (hn : As.length = n) (hr : qroom Z M d R1) (ho : (zM Z).1.cls = own) (ha : qok R a ci) (hs : (rest.map fun v => v.category).sum ≤ 8) (hd : decode (zc Z) pc = .ok (.invokevirtual index, 3)) (hst : st0 = As.reverse ++ .ref ((zG Z).1 + a) :: rest) (h : AW Z (pc + 3) lv (x :: rest) I1 R1) : AW Z pc lv st0 I R := aw_callV hM hC hn hr ho ha hs hd hst h
theorem aw_callVv {own : String} {index n ci a : Nat} (hM : qMt (zl Z) (zG Z) M d (.ref ((zG Z).1 + a) :: As) I R none I1 R1) (hC : qCV own index n ci M) (hn : As.length = n) (hr : qroom Z M d R1) (ho : (zM Z).1.cls = own) (ha : qok R a ci) (hs : (rest.map fun v => v.category).sum ≤ 8) (hd : decode (zc Z) pc = .ok (.invokevirtual index, 3)) (hst : st0 = As.reverse ++ .ref ((zG Z).1 + a) :: rest) (h : AW Z (pc + 3) lv rest I1 R1) : AW Z pc lv st0 I R := aw_callV hM hC hn hr ho ha hs hd hst h
theorem aw_callSi {own : String} {index n : Nat} {x : Int32} (hM : qMt (zl Z) (zG Z) M d As I R (some (.int x)) I1 R1) (hC : qCS own index n M) (hn : As.length = n) (hr : qroom Z M d R1) (ho : (zM Z).1.cls = own) (hs : (rest.map fun v => v.category).sum ≤ 8) (hd : decode (zc Z) pc = .ok (.invokestatic index, 3)) (hst : st0 = As.reverse ++ rest) (h : AW Z (pc + 3) lv (.int x :: rest) I1 R1) : AW Z pc lv st0 I R := aw_callS hM hC hn hr ho hs hd hst h
theorem aw_callSv {own : String} {index n : Nat} (hM : qMt (zl Z) (zG Z) M d As I R none I1 R1) (hC : qCS own index n M) (hn : As.length = n) (hr : qroom Z M d R1) (ho : (zM Z).1.cls = own) (hs : (rest.map fun v => v.category).sum ≤ 8) (hd : decode (zc Z) pc = .ok (.invokestatic index, 3)) (hst : st0 = As.reverse ++ rest) (h : AW Z (pc + 3) lv rest I1 R1) : AW Z pc lv st0 I R := aw_callS hM hC hn hr ho hs hd hst h
end AWX
