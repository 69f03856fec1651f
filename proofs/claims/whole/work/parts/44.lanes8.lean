/-! THE REFERENCE'S LANES -/
/-- what the reference holds of the rows of its trains -/
def RW (c d : Nat) (ns fr la : Nat → Nat) (I : qI) : Prop := I 111 10 = nI c ∧ I 111 9 = nI d ∧ ∀ m, m < c → I 120 m = nI (ns m) ∧ 1 ≤ ns m ∧ ns m ≤ 7 ∧ I 124 (7 * m) = nI (fr m) ∧ I 124 (7 * m + ns m - 1) = nI (la m) ∧ fr m ≤ la m ∧ la m < d
theorem RW.congr {c d : Nat} {ns fr la : Nat → Nat} {I J : qI} (h : RW c d ns fr la I) (e1 : J 111 10 = I 111 10) (e2 : J 111 9 = I 111 9) (e3 : J 120 = I 120) (e4 : J 124 = I 124) : RW c d ns fr la J := by
  unfold RW
  rw [e1, e2, e3, e4]
  exact h
theorem first8_eq {c d m : Nat} {ns fr la : Nat → Nat} {R : qR} {I : qI} (hL : LR R) (hc : c ≤ 6) (hW : RW c d ns fr la I) (hm : m < c) : fX8_first R I 111 (nI m) = some (nI (fr m)) := by
  obtain ⟨n1, n2, n3, n4, n5, n6, n7⟩ := hW.2.2 m hm
  unfold fX8_first
  simp (disch := first | assumption | omega) only [obs, qle, ↓lm1, l0, qn_add, pk_mul, n_le, n_lt, n_eq, n_sM, n_Ms, n_Mlt, n_Mle, n_ltM, n_leM, ↓reduceIte, eq_self, if_pos, if_neg, qx, p111_3, p111_4, p111_5, p111_6, p111_7, p111_8, p111_11, p111_12, p111_13, p111_14, p111_15, p111_16, p111_17, p111_18, p111_19, p111_21, p111_22, p111_23, p111_24, p111_27, p111_28, p111_29, p111_30, p111_31, p111_32, p111_34, r112, w112, r113, w113, r114, w114, r115, w115, r116, w116, r117, w117, r118, w118, r119, w119, r120, w120, r121, w121, r122, w122, r123, w123, r124, w124, r125, w125, r126, w126, r127, w127, r128, w128, r129, w129, r130, w130, r131, w131, r132, w132, r133, w133, r134, w134, r135, w135, r136, w136, r137, w137, l1, l2, l3, l5, l6, l7, l8, l10, l11, l12, l31, l36, l63, l100, l1000, l1440, l1000000, l16777216, n4]
theorem last8_eq {c d m : Nat} {ns fr la : Nat → Nat} {R : qR} {I : qI} (hL : LR R) (hc : c ≤ 6) (hW : RW c d ns fr la I) (hm : m < c) : fX8_last R I 111 (nI m) = some (nI (la m)) := by
  obtain ⟨n1, n2, n3, n4, n5, n6, n7⟩ := hW.2.2 m hm
  unfold fX8_last
  simp (disch := first | assumption | omega) only [obs, qle, ↓lm1, l0, qn_add, pk_mul, n_le, n_lt, n_eq, n_sM, n_Ms, n_Mlt, n_Mle, n_ltM, n_leM, ↓reduceIte, eq_self, if_pos, if_neg, qx, p111_3, p111_4, p111_5, p111_6, p111_7, p111_8, p111_11, p111_12, p111_13, p111_14, p111_15, p111_16, p111_17, p111_18, p111_19, p111_21, p111_22, p111_23, p111_24, p111_27, p111_28, p111_29, p111_30, p111_31, p111_32, p111_34, r112, w112, r113, w113, r114, w114, r115, w115, r116, w116, r117, w117, r118, w118, r119, w119, r120, w120, r121, w121, r122, w122, r123, w123, r124, w124, r125, w125, r126, w126, r127, w127, r128, w128, r129, w129, r130, w130, r131, w131, r132, w132, r133, w133, r134, w134, r135, w135, r136, w136, r137, w137, l1, l2, l3, l5, l6, l7, l8, l10, l11, l12, l31, l36, l63, l100, l1000, l1440, l1000000, l16777216, n1, qn_sub, n5]
def RLn (c : Nat) (ln : Nat → Nat) (I : qI) : Prop := ∀ k, k < c → ln k ≤ 6 ∧ I 126 k = if ln k = 6 then nM else nI (ln k)
theorem isFree_t {N c d l i : Nat} {ns fr la ln : Nat → Nat} {R : qR} {I : qI} (hN : 300000 ≤ N) (hL : LR R) (hc : c ≤ 6) (hd : d ≤ 42) (hW : RW c d ns fr la I) (hR : RLn c ln I) (hl : l < 6) (hi : i < 42) (hf : fB c la ln i l = true) : fX8_isFree N R I 111 (nI l) (nI i) = some (nI 1) := by
  rw [fB_t] at hf
  unfold fX8_isFree
  have h10 := hW.1
  refine bind_of (qfor2 (fun k => nI k) l0 (.inl ()) c (by omega) (fun k hk => ?_) ?_) (by show some (1 : Int32) = _; rw [l1])
  · obtain ⟨r1, r2⟩ := hR k hk
    have e1 := last8_eq (R := R) hL hc hW hk
    have n7 := (hW.2.2 k hk).2.2.2.2.2.2
    by_cases h6 : ln k = 6
    · rw [if_pos h6] at r2
      simp (disch := first | assumption | omega) only [obs, qle, ↓lm1, l0, qn_add, pk_mul, n_le, n_lt, n_eq, n_sM, n_Ms, n_Mlt, n_Mle, n_ltM, n_leM, ↓reduceIte, eq_self, if_pos, if_neg, qx, p111_3, p111_4, p111_5, p111_6, p111_7, p111_8, p111_11, p111_12, p111_13, p111_14, p111_15, p111_16, p111_17, p111_18, p111_19, p111_21, p111_22, p111_23, p111_24, p111_27, p111_28, p111_29, p111_30, p111_31, p111_32, p111_34, r112, w112, r113, w113, r114, w114, r115, w115, r116, w116, r117, w117, r118, w118, r119, w119, r120, w120, r121, w121, r122, w122, r123, w123, r124, w124, r125, w125, r126, w126, r127, w127, r128, w128, r129, w129, r130, w130, r131, w131, r132, w132, r133, w133, r134, w134, r135, w135, r136, w136, r137, w137, l1, l2, l3, l5, l6, l7, l8, l10, l11, l12, l31, l36, l63, l100, l1000, l1440, l1000000, l16777216, cX8_isFree_2, h10, r2]
    · rw [if_neg h6] at r2
      by_cases hkl : ln k = l
      · have := hf k hk hkl
        simp (disch := first | assumption | omega) only [obs, qle, ↓lm1, l0, qn_add, pk_mul, n_le, n_lt, n_eq, n_sM, n_Ms, n_Mlt, n_Mle, n_ltM, n_leM, ↓reduceIte, eq_self, if_pos, if_neg, qx, p111_3, p111_4, p111_5, p111_6, p111_7, p111_8, p111_11, p111_12, p111_13, p111_14, p111_15, p111_16, p111_17, p111_18, p111_19, p111_21, p111_22, p111_23, p111_24, p111_27, p111_28, p111_29, p111_30, p111_31, p111_32, p111_34, r112, w112, r113, w113, r114, w114, r115, w115, r116, w116, r117, w117, r118, w118, r119, w119, r120, w120, r121, w121, r122, w122, r123, w123, r124, w124, r125, w125, r126, w126, r127, w127, r128, w128, r129, w129, r130, w130, r131, w131, r132, w132, r133, w133, r134, w134, r135, w135, r136, w136, r137, w137, l1, l2, l3, l5, l6, l7, l8, l10, l11, l12, l31, l36, l63, l100, l1000, l1440, l1000000, l16777216, cX8_isFree_2, h10, r2, e1]
      · simp (disch := first | assumption | omega) only [obs, qle, ↓lm1, l0, qn_add, pk_mul, n_le, n_lt, n_eq, n_sM, n_Ms, n_Mlt, n_Mle, n_ltM, n_leM, ↓reduceIte, eq_self, if_pos, if_neg, qx, p111_3, p111_4, p111_5, p111_6, p111_7, p111_8, p111_11, p111_12, p111_13, p111_14, p111_15, p111_16, p111_17, p111_18, p111_19, p111_21, p111_22, p111_23, p111_24, p111_27, p111_28, p111_29, p111_30, p111_31, p111_32, p111_34, r112, w112, r113, w113, r114, w114, r115, w115, r116, w116, r117, w117, r118, w118, r119, w119, r120, w120, r121, w121, r122, w122, r123, w123, r124, w124, r125, w125, r126, w126, r127, w127, r128, w128, r129, w129, r130, w130, r131, w131, r132, w132, r133, w133, r134, w134, r135, w135, r136, w136, r137, w137, l1, l2, l3, l5, l6, l7, l8, l10, l11, l12, l31, l36, l63, l100, l1000, l1440, l1000000, l16777216, cX8_isFree_2, h10, r2]
  · simp (disch := first | assumption | omega) only [obs, qle, ↓lm1, l0, qn_add, pk_mul, n_le, n_lt, n_eq, n_sM, n_Ms, n_Mlt, n_Mle, n_ltM, n_leM, ↓reduceIte, eq_self, if_pos, if_neg, qx, p111_3, p111_4, p111_5, p111_6, p111_7, p111_8, p111_11, p111_12, p111_13, p111_14, p111_15, p111_16, p111_17, p111_18, p111_19, p111_21, p111_22, p111_23, p111_24, p111_27, p111_28, p111_29, p111_30, p111_31, p111_32, p111_34, r112, w112, r113, w113, r114, w114, r115, w115, r116, w116, r117, w117, r118, w118, r119, w119, r120, w120, r121, w121, r122, w122, r123, w123, r124, w124, r125, w125, r126, w126, r127, w127, r128, w128, r129, w129, r130, w130, r131, w131, r132, w132, r133, w133, r134, w134, r135, w135, r136, w136, r137, w137, l1, l2, l3, l5, l6, l7, l8, l10, l11, l12, l31, l36, l63, l100, l1000, l1440, l1000000, l16777216, cX8_isFree_2, h10]
theorem isFree_f {N c d l i : Nat} {ns fr la ln : Nat → Nat} {R : qR} {I : qI} (hN : 300000 ≤ N) (hL : LR R) (hc : c ≤ 6) (hd : d ≤ 42) (hW : RW c d ns fr la I) (hR : RLn c ln I) (hl : l < 6) (hi : i < 42) (hf : fB c la ln i l = false) : fX8_isFree N R I 111 (nI l) (nI i) = some (nI 0) := by
  have hf2 : ¬ ∀ k, k < c → ln k = l → la k < i := fun q => by rw [fB_t.mpr q] at hf; cases hf
  obtain ⟨m, hm, hlst⟩ := pk_least (fun k => k < c ∧ ln k = l ∧ i ≤ la k) (Classical.byContradiction (fun q => hf2 (fun k hk hkl => Classical.byContradiction (fun q2 => q ⟨k, hk, hkl, by omega⟩))))
  unfold fX8_isFree
  have h10 := hW.1
  refine bind_of (qfor2 (fun k => nI k) l0 (.inr (nI 0)) m (by omega) (fun k hk => ?_) ?_) rfl
  · obtain ⟨r1, r2⟩ := hR k (by omega)
    have e1 := last8_eq (R := R) hL hc hW (show k < c by omega)
    have n7 := (hW.2.2 k (by omega)).2.2.2.2.2.2
    by_cases h6 : ln k = 6
    · rw [if_pos h6] at r2
      simp (disch := first | assumption | omega) only [obs, qle, ↓lm1, l0, qn_add, pk_mul, n_le, n_lt, n_eq, n_sM, n_Ms, n_Mlt, n_Mle, n_ltM, n_leM, ↓reduceIte, eq_self, if_pos, if_neg, qx, p111_3, p111_4, p111_5, p111_6, p111_7, p111_8, p111_11, p111_12, p111_13, p111_14, p111_15, p111_16, p111_17, p111_18, p111_19, p111_21, p111_22, p111_23, p111_24, p111_27, p111_28, p111_29, p111_30, p111_31, p111_32, p111_34, r112, w112, r113, w113, r114, w114, r115, w115, r116, w116, r117, w117, r118, w118, r119, w119, r120, w120, r121, w121, r122, w122, r123, w123, r124, w124, r125, w125, r126, w126, r127, w127, r128, w128, r129, w129, r130, w130, r131, w131, r132, w132, r133, w133, r134, w134, r135, w135, r136, w136, r137, w137, l1, l2, l3, l5, l6, l7, l8, l10, l11, l12, l31, l36, l63, l100, l1000, l1440, l1000000, l16777216, cX8_isFree_2, h10, r2]
    · rw [if_neg h6] at r2
      by_cases hkl : ln k = l
      · have : la k < i := Classical.byContradiction (fun q => hlst k hk ⟨by omega, hkl, by omega⟩)
        simp (disch := first | assumption | omega) only [obs, qle, ↓lm1, l0, qn_add, pk_mul, n_le, n_lt, n_eq, n_sM, n_Ms, n_Mlt, n_Mle, n_ltM, n_leM, ↓reduceIte, eq_self, if_pos, if_neg, qx, p111_3, p111_4, p111_5, p111_6, p111_7, p111_8, p111_11, p111_12, p111_13, p111_14, p111_15, p111_16, p111_17, p111_18, p111_19, p111_21, p111_22, p111_23, p111_24, p111_27, p111_28, p111_29, p111_30, p111_31, p111_32, p111_34, r112, w112, r113, w113, r114, w114, r115, w115, r116, w116, r117, w117, r118, w118, r119, w119, r120, w120, r121, w121, r122, w122, r123, w123, r124, w124, r125, w125, r126, w126, r127, w127, r128, w128, r129, w129, r130, w130, r131, w131, r132, w132, r133, w133, r134, w134, r135, w135, r136, w136, r137, w137, l1, l2, l3, l5, l6, l7, l8, l10, l11, l12, l31, l36, l63, l100, l1000, l1440, l1000000, l16777216, cX8_isFree_2, h10, r2, e1]
      · simp (disch := first | assumption | omega) only [obs, qle, ↓lm1, l0, qn_add, pk_mul, n_le, n_lt, n_eq, n_sM, n_Ms, n_Mlt, n_Mle, n_ltM, n_leM, ↓reduceIte, eq_self, if_pos, if_neg, qx, p111_3, p111_4, p111_5, p111_6, p111_7, p111_8, p111_11, p111_12, p111_13, p111_14, p111_15, p111_16, p111_17, p111_18, p111_19, p111_21, p111_22, p111_23, p111_24, p111_27, p111_28, p111_29, p111_30, p111_31, p111_32, p111_34, r112, w112, r113, w113, r114, w114, r115, w115, r116, w116, r117, w117, r118, w118, r119, w119, r120, w120, r121, w121, r122, w122, r123, w123, r124, w124, r125, w125, r126, w126, r127, w127, r128, w128, r129, w129, r130, w130, r131, w131, r132, w132, r133, w133, r134, w134, r135, w135, r136, w136, r137, w137, l1, l2, l3, l5, l6, l7, l8, l10, l11, l12, l31, l36, l63, l100, l1000, l1440, l1000000, l16777216, cX8_isFree_2, h10, r2]
  · obtain ⟨m1, m2, m3⟩ := hm
    obtain ⟨r1, r2⟩ := hR m m1
    have e1 := last8_eq (R := R) hL hc hW m1
    have n7 := (hW.2.2 m m1).2.2.2.2.2.2
    rw [if_neg (by omega)] at r2
    simp (disch := first | assumption | omega) only [obs, qle, ↓lm1, l0, qn_add, pk_mul, n_le, n_lt, n_eq, n_sM, n_Ms, n_Mlt, n_Mle, n_ltM, n_leM, ↓reduceIte, eq_self, if_pos, if_neg, qx, p111_3, p111_4, p111_5, p111_6, p111_7, p111_8, p111_11, p111_12, p111_13, p111_14, p111_15, p111_16, p111_17, p111_18, p111_19, p111_21, p111_22, p111_23, p111_24, p111_27, p111_28, p111_29, p111_30, p111_31, p111_32, p111_34, r112, w112, r113, w113, r114, w114, r115, w115, r116, w116, r117, w117, r118, w118, r119, w119, r120, w120, r121, w121, r122, w122, r123, w123, r124, w124, r125, w125, r126, w126, r127, w127, r128, w128, r129, w129, r130, w130, r131, w131, r132, w132, r133, w133, r134, w134, r135, w135, r136, w136, r137, w137, l1, l2, l3, l5, l6, l7, l8, l10, l11, l12, l31, l36, l63, l100, l1000, l1440, l1000000, l16777216, cX8_isFree_2, h10, r2, e1]
theorem lst1_2 {c i m : Nat} {fr la : Nat → Nat} {s : (Nat → Nat) × Nat} (hf : fr m = i) : (lst1 c fr la i m s).2 = if lane1 c la s.1 i < s.2 then s.2 else lane1 c la s.1 i + 1 := by rw [lst1, if_pos hf]
theorem lst1_1 {c i m : Nat} {fr la : Nat → Nat} {s : (Nat → Nat) × Nat} (hf : fr m = i) (k : Nat) : (lst1 c fr la i m s).1 k = if k = m then lane1 c la s.1 i else s.1 k := by rw [lst1, if_pos hf]
theorem findLanes_ok {N c d : Nat} {ns fr la : Nat → Nat} {R : qR} {I : qI} (hN : 300000 ≤ N) (hL : LR R) (hc : c ≤ 6) (hd : d ≤ 42) (hW : RW c d ns fr la I) : ok (fX8_findLanes N R I 111) (fun J => J 111 20 = nI (lrow c fr la d).2 ∧ (∀ m, m < c → J 126 m = nI ((lrow c fr la d).1 m)) ∧ (∀ a, a ≠ 126 → a ≠ 111 → J a = I a) ∧ ∀ j, j ≠ 20 → J 111 j = I 111 j) := by
  have h10 := hW.1
  have h9 := hW.2.1
  unfold fX8_findLanes
  refine ok_bind (ok_mono (P := fun J => (∀ x, x < c → J 126 x = nM) ∧ ∀ a, a ≠ 126 → J a = I a) ?_ (fun J1 hJ1 => ?_))
  · refine ok_for (fun k q => ∃ J, q = (nI k, J) ∧ (∀ x, x < k → J 126 x = nM) ∧ ∀ a, a ≠ 126 → J a = I a) c (by omega) ⟨I, by rw [l0], fun x hx => by omega, fun _ _ => rfl⟩ (fun k q hk hq => ?_) (fun q hq => ?_)
    · obtain ⟨J, rfl, g1, g2⟩ := hq
      have e1 : J 111 10 = nI c := by rw [g2 _ (by omega)]; exact h10
      refine ⟨.inl (nI (k + 1), qup J 126 k nM), ?_, _, rfl, fun x hx => ?_, fun a ha => by rw [qup_ne _ _ _ ha]; exact g2 a ha⟩
      · show cX8_findLanes_2 N R 111 (nI k) J = _
        unfold cX8_findLanes_2
        simp (disch := first | assumption | omega) only [obs, qle, ↓lm1, l0, qn_add, pk_mul, n_le, n_lt, n_eq, n_sM, n_Ms, n_Mlt, n_Mle, n_ltM, n_leM, ↓reduceIte, eq_self, if_pos, if_neg, qx, p111_3, p111_4, p111_5, p111_6, p111_7, p111_8, p111_11, p111_12, p111_13, p111_14, p111_15, p111_16, p111_17, p111_18, p111_19, p111_21, p111_22, p111_23, p111_24, p111_27, p111_28, p111_29, p111_30, p111_31, p111_32, p111_34, r112, w112, r113, w113, r114, w114, r115, w115, r116, w116, r117, w117, r118, w118, r119, w119, r120, w120, r121, w121, r122, w122, r123, w123, r124, w124, r125, w125, r126, w126, r127, w127, r128, w128, r129, w129, r130, w130, r131, w131, r132, w132, r133, w133, r134, w134, r135, w135, r136, w136, r137, w137, l1, l2, l3, l5, l6, l7, l8, l10, l11, l12, l31, l36, l63, l100, l1000, l1440, l1000000, l16777216, e1]
      · by_cases e : x = k
        · subst e; exact qup_on
        · rw [qup_off (by omega)]; exact g1 x (by omega)
    · obtain ⟨J, rfl, g1, g2⟩ := hq
      have e1 : J 111 10 = nI c := by rw [g2 _ (by omega)]; exact h10
      refine ⟨.inr J, ?_, g1, g2⟩
      show cX8_findLanes_2 N R 111 (nI c) J = _
      unfold cX8_findLanes_2
      simp (disch := first | assumption | omega) only [obs, qle, ↓lm1, l0, qn_add, pk_mul, n_le, n_lt, n_eq, n_sM, n_Ms, n_Mlt, n_Mle, n_ltM, n_leM, ↓reduceIte, eq_self, if_pos, if_neg, qx, p111_3, p111_4, p111_5, p111_6, p111_7, p111_8, p111_11, p111_12, p111_13, p111_14, p111_15, p111_16, p111_17, p111_18, p111_19, p111_21, p111_22, p111_23, p111_24, p111_27, p111_28, p111_29, p111_30, p111_31, p111_32, p111_34, r112, w112, r113, w113, r114, w114, r115, w115, r116, w116, r117, w117, r118, w118, r119, w119, r120, w120, r121, w121, r122, w122, r123, w123, r124, w124, r125, w125, r126, w126, r127, w127, r128, w128, r129, w129, r130, w130, r131, w131, r132, w132, r133, w133, r134, w134, r135, w135, r136, w136, r137, w137, l1, l2, l3, l5, l6, l7, l8, l10, l11, l12, l31, l36, l63, l100, l1000, l1440, l1000000, l16777216, e1]
  obtain ⟨j1, j2⟩ := hJ1
  refine ok_let (ok_bind (ok_mono (P := fun J => J 111 20 = nI (lrow c fr la d).2 ∧ (∀ m, m < c → J 126 m = nI ((lrow c fr la d).1 m)) ∧ (∀ a, a ≠ 126 → a ≠ 111 → J a = I a) ∧ ∀ j, j ≠ 20 → J 111 j = I 111 j) ?_ (fun r hr => ok_some hr)))
  refine ok_for (fun i q => ∃ J, q = (nI i, J) ∧ RLn c (lrow c fr la i).1 J ∧ J 111 20 = nI (lrow c fr la i).2 ∧ (∀ a, a ≠ 126 → a ≠ 111 → J a = I a) ∧ ∀ j, j ≠ 20 → J 111 j = I 111 j) d (by omega) ⟨_, by rw [l0], fun k hk => ⟨Nat.le_refl _, ?_⟩, by rw [qup_on]; rfl, fun a h1 h2 => by rw [qup_ne _ _ _ h2]; exact j2 a h1, fun j hj => by rw [qup_off (by omega), j2 111 (by omega)]⟩ (fun i q hi hq => ?_) (fun q hq => ?_)
  · rw [qup_off (by omega), j1 k hk]; rfl
  · obtain ⟨J, rfl, g1, g2, g3, g4⟩ := hq
    show ok (cX8_findLanes_30 N R 111 (nI i) J) _
    unfold cX8_findLanes_30
    rw [g4 9 (by omega), h9, if_neg (show ¬ nI d ≤ nI i by rw [n_le (by omega) (by omega)]; omega)]
    refine ok_bind (ok_mono (P := fun K => RLn c (lrow c fr la (i + 1)).1 K ∧ K 111 20 = nI (lrow c fr la (i + 1)).2 ∧ (∀ a, a ≠ 126 → a ≠ 111 → K a = I a) ∧ ∀ j, j ≠ 20 → K 111 j = I 111 j) ?_ (fun K hK => ?_))
    · refine ok_for (fun m q => ∃ K, q = (nI m, K) ∧ RLn c (mrow c fr la i (lrow c fr la i) m).1 K ∧ K 111 20 = nI (mrow c fr la i (lrow c fr la i) m).2 ∧ (∀ a, a ≠ 126 → a ≠ 111 → K a = I a) ∧ ∀ j, j ≠ 20 → K 111 j = I 111 j) c (by omega) ⟨J, by rw [l0], g1, g2, g3, g4⟩ (fun m q hm hq => ?_) (fun q hq => ?_)
      · obtain ⟨K, rfl, f1, f2, f3, f4⟩ := hq
        have hWK : RW c d ns fr la K := hW.congr (f4 _ (by omega)) (f4 _ (by omega)) (f3 _ (by omega) (by omega)) (f3 _ (by omega) (by omega))
        obtain ⟨n1, n2, n3, n4, n5, n6, n7⟩ := hWK.2.2 m hm
        have li := LI_m (la := la) (LI_l (fr := fr) (la := la) (c := c) i) m (by omega)
        show ok (cX8_findLanes_40 N R 111 (nI i) (nI m) K) _
        unfold cX8_findLanes_40
        rw [hWK.1, if_neg (show ¬ nI c ≤ nI m by rw [n_le (by omega) (by omega)]; omega)]
        refine ok_bindv (first8_eq hL hc hWK hm) ?_
        by_cases hf : fr m = i
        · rw [if_pos (show nI (fr m) = nI i by rw [hf])]
          have h6 : (mrow c fr la i (lrow c fr la i) m).1 m = 6 := by
            apply Classical.byContradiction
            intro q
            have := (li.1 m hm).mp q
            omega
          obtain ⟨t1, t2⟩ := lane1_free (la := la) (i := i) hc hm h6
          have t5 := lane1_le (c := c) (la := la) (ln := (mrow c fr la i (lrow c fr la i) m).1) (i := i)
          have hs6 := li.2.2
          have el : qloop (fun s => cX8_findLanes_62 N R K 111 (nI i) (nI m) s) N (0 : Int32) = some (nI (lane1 c la (mrow c fr la i (lrow c fr la i) m).1 i)) := by
            refine qfor2 (fun l => nI l) l0 _ (lane1 c la (mrow c fr la i (lrow c fr la i) m).1 i) (by omega) (fun l hl => ?_) ?_
            · have e := isFree_f (N := N) hN hL hc hd hWK f1 (show l < 6 by omega) (show i < 42 by omega) (t2 l hl)
              simp (disch := first | assumption | omega) only [obs, qle, ↓lm1, l0, qn_add, pk_mul, n_le, n_lt, n_eq, n_sM, n_Ms, n_Mlt, n_Mle, n_ltM, n_leM, ↓reduceIte, eq_self, if_pos, if_neg, qx, p111_3, p111_4, p111_5, p111_6, p111_7, p111_8, p111_11, p111_12, p111_13, p111_14, p111_15, p111_16, p111_17, p111_18, p111_19, p111_21, p111_22, p111_23, p111_24, p111_27, p111_28, p111_29, p111_30, p111_31, p111_32, p111_34, r112, w112, r113, w113, r114, w114, r115, w115, r116, w116, r117, w117, r118, w118, r119, w119, r120, w120, r121, w121, r122, w122, r123, w123, r124, w124, r125, w125, r126, w126, r127, w127, r128, w128, r129, w129, r130, w130, r131, w131, r132, w132, r133, w133, r134, w134, r135, w135, r136, w136, r137, w137, l1, l2, l3, l5, l6, l7, l8, l10, l11, l12, l31, l36, l63, l100, l1000, l1440, l1000000, l16777216, cX8_findLanes_62, e]
            · have e := isFree_t (N := N) hN hL hc hd hWK f1 (show lane1 c la (mrow c fr la i (lrow c fr la i) m).1 i < 6 by omega) (show i < 42 by omega) t1
              simp (disch := first | assumption | omega) only [obs, qle, ↓lm1, l0, qn_add, pk_mul, n_le, n_lt, n_eq, n_sM, n_Ms, n_Mlt, n_Mle, n_ltM, n_leM, ↓reduceIte, eq_self, if_pos, if_neg, qx, p111_3, p111_4, p111_5, p111_6, p111_7, p111_8, p111_11, p111_12, p111_13, p111_14, p111_15, p111_16, p111_17, p111_18, p111_19, p111_21, p111_22, p111_23, p111_24, p111_27, p111_28, p111_29, p111_30, p111_31, p111_32, p111_34, r112, w112, r113, w113, r114, w114, r115, w115, r116, w116, r117, w117, r118, w118, r119, w119, r120, w120, r121, w121, r122, w122, r123, w123, r124, w124, r125, w125, r126, w126, r127, w127, r128, w128, r129, w129, r130, w130, r131, w131, r132, w132, r133, w133, r134, w134, r135, w135, r136, w136, r137, w137, l1, l2, l3, l5, l6, l7, l8, l10, l11, l12, l31, l36, l63, l100, l1000, l1440, l1000000, l16777216, cX8_findLanes_62, e]
          refine ok_bindv el (ok_bindv (p111_19 hL) (ok_bindv (w126 hL (by omega)) ?_))
          rw [qup_off (by omega), f2]
          have hRL : ∀ M : qI, (∀ x, M 126 x = qup K 126 m (nI (lane1 c la (mrow c fr la i (lrow c fr la i) m).1 i)) 126 x) → RLn c (mrow c fr la i (lrow c fr la i) (m + 1)).1 M := by
            intro M hM k hk
            rw [hM k, mrow, lst1_1 hf]
            by_cases e : k = m
            · subst e
              rw [if_pos rfl, qup_on, if_neg (by omega)]
              exact ⟨by omega, rfl⟩
            · rw [if_neg e, qup_off (by omega)]
              exact f1 k hk
          by_cases hq : lane1 c la (mrow c fr la i (lrow c fr la i) m).1 i < (mrow c fr la i (lrow c fr la i) m).2
          · rw [if_pos (by rw [n_lt (by omega) (by omega)]; exact hq), nI_1]
            refine ok_some ⟨_, rfl, hRL _ (fun _ => rfl), ?_, fun a h1 h2 => by rw [qup_ne _ _ _ h1]; exact f3 a h1 h2, fun j hj => by rw [qup_off (by omega)]; exact f4 j hj⟩
            rw [qup_off (by omega), f2, mrow, lst1_2 hf, if_pos hq]
          · rw [if_neg (by rw [n_lt (by omega) (by omega)]; exact hq), l1, qn_add, qn_add]
            refine ok_let (ok_some ⟨_, rfl, hRL _ (fun _ => qup_off (by omega)), ?_, fun a h1 h2 => by rw [qup_ne _ _ _ h2, qup_ne _ _ _ h1]; exact f3 a h1 h2, fun j hj => by rw [qup_off (by omega), qup_off (by omega)]; exact f4 j hj⟩)
            rw [qup_on, mrow, lst1_2 hf, if_neg hq]
        · rw [if_neg (show ¬ nI (fr m) = nI i by rw [n_eq (by omega) (by omega)]; exact hf), nI_1]
          refine ok_some ⟨K, rfl, ?_, ?_, f3, f4⟩
          · rw [mrow, lst1, if_neg hf]; exact f1
          · rw [mrow, lst1, if_neg hf]; exact f2
      · obtain ⟨K, rfl, f1, f2, f3, f4⟩ := hq
        have e4 : K 111 10 = nI c := by rw [f4 _ (by omega)]; exact h10
        refine ⟨.inr K, ?_, f1, f2, f3, f4⟩
        show cX8_findLanes_40 N R 111 (nI i) (nI c) K = _
        unfold cX8_findLanes_40
        simp (disch := first | assumption | omega) only [obs, qle, ↓lm1, l0, qn_add, pk_mul, n_le, n_lt, n_eq, n_sM, n_Ms, n_Mlt, n_Mle, n_ltM, n_leM, ↓reduceIte, eq_self, if_pos, if_neg, qx, p111_3, p111_4, p111_5, p111_6, p111_7, p111_8, p111_11, p111_12, p111_13, p111_14, p111_15, p111_16, p111_17, p111_18, p111_19, p111_21, p111_22, p111_23, p111_24, p111_27, p111_28, p111_29, p111_30, p111_31, p111_32, p111_34, r112, w112, r113, w113, r114, w114, r115, w115, r116, w116, r117, w117, r118, w118, r119, w119, r120, w120, r121, w121, r122, w122, r123, w123, r124, w124, r125, w125, r126, w126, r127, w127, r128, w128, r129, w129, r130, w130, r131, w131, r132, w132, r133, w133, r134, w134, r135, w135, r136, w136, r137, w137, l1, l2, l3, l5, l6, l7, l8, l10, l11, l12, l31, l36, l63, l100, l1000, l1440, l1000000, l16777216, e4]
    · rw [nI_1]
      exact ok_some ⟨K, rfl, hK⟩
  · obtain ⟨J, rfl, g1, g2, g3, g4⟩ := hq
    refine ⟨.inr J, ?_, g2, fun m hm => ?_, g3, g4⟩
    · show cX8_findLanes_30 N R 111 (nI d) J = _
      unfold cX8_findLanes_30
      have e8 : J 111 9 = nI d := by rw [g4 9 (by omega)]; exact h9
      simp (disch := first | assumption | omega) only [obs, qle, ↓lm1, l0, qn_add, pk_mul, n_le, n_lt, n_eq, n_sM, n_Ms, n_Mlt, n_Mle, n_ltM, n_leM, ↓reduceIte, eq_self, if_pos, if_neg, qx, p111_3, p111_4, p111_5, p111_6, p111_7, p111_8, p111_11, p111_12, p111_13, p111_14, p111_15, p111_16, p111_17, p111_18, p111_19, p111_21, p111_22, p111_23, p111_24, p111_27, p111_28, p111_29, p111_30, p111_31, p111_32, p111_34, r112, w112, r113, w113, r114, w114, r115, w115, r116, w116, r117, w117, r118, w118, r119, w119, r120, w120, r121, w121, r122, w122, r123, w123, r124, w124, r125, w125, r126, w126, r127, w127, r128, w128, r129, w129, r130, w130, r131, w131, r132, w132, r133, w133, r134, w134, r135, w135, r136, w136, r137, w137, l1, l2, l3, l5, l6, l7, l8, l10, l11, l12, l31, l36, l63, l100, l1000, l1440, l1000000, l16777216, e8]
    · obtain ⟨n1, n2, n3, n4, n5, n6, n7⟩ := hW.2.2 m hm
      have h := (g1 m hm).2
      have h6 : (lrow c fr la d).1 m ≠ 6 := by
        rw [(LI_l (fr := fr) (la := la) (c := c) d).1 m hm]
        omega
      rw [if_neg h6] at h
      exact h
