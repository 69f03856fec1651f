/-! BREACHES -/
/-- the minutes -/
def lv (ns : Nat → Nat) (cm gs : Nat → Nat → Nat) (k i : Nat) : Nat := if i + 1 = ns k then cm k i else gs k i
def bR (ns : Nat → Nat) (st cm gs : Nat → Nat → Nat) (l r : Nat) : Prop := ∃ i, i < ns l ∧ ∃ j, j < ns r ∧ st l i = st r j ∧ lv ns cm gs r j < lv ns cm gs l i
def wm (c : Nat) (ns : Nat → Nat) (cm gs : Nat → Nat → Nat) : Prop := ∀ k i, k < c → i < ns k → cm k i < 1440 ∧ gs k i < 1440
theorem lvx_lt {c : Nat} {ns : Nat → Nat} {cm gs : Nat → Nat → Nat} (h : wm c ns cm gs) {k i : Nat} (hk : k < c) (hi : i < ns k) : lv ns cm gs k i < 1440 := by
  have := h k i hk hi
  unfold lv
  split <;> omega
/-- what the reference holds of the minutes -/
def RF (c : Nat) (ns : Nat → Nat) (cm gs : Nat → Nat → Nat) (I : qI) : Prop := ∀ k i, k < c → i < ns k → I 122 (7 * k + i) = nI (cm k i) ∧ I 123 (7 * k + i) = nI (gs k i)
theorem leaves8_eq {c k i : Nat} {ns : Nat → Nat} {st cm gs : Nat → Nat → Nat} {R : qR} {I : qI} (hL : LR R) (hT : RT c ns st I) (hF : RF c ns cm gs I) (hk : k < c) (hi : i < ns k) : fX8_leaves R I 111 (nI k) (nI i) = some (nI (lv ns cm gs k i)) := by
  obtain ⟨h10, hc6, hns, hst⟩ := hT
  have a1 := hns k hk
  have a2 := hF k i hk hi
  unfold fX8_leaves lv
  by_cases h : i + 1 = ns k
  · rw [if_pos h]
    simp (disch := first | assumption | omega) only [obs, qle, ↓lm1, l0, qn_add, pk_mul, n_le, n_lt, n_eq, n_sM, n_Ms, n_Mlt, n_Mle, n_ltM, n_leM, ↓reduceIte, eq_self, if_pos, if_neg, qx, p111_3, p111_4, p111_5, p111_6, p111_7, p111_8, p111_11, p111_12, p111_13, p111_14, p111_15, p111_16, p111_17, p111_18, p111_19, p111_21, p111_22, p111_23, p111_24, p111_27, p111_28, p111_29, p111_30, p111_31, p111_32, p111_34, r112, w112, r113, w113, r114, w114, r115, w115, r116, w116, r117, w117, r118, w118, r119, w119, r120, w120, r121, w121, r122, w122, r123, w123, r124, w124, r125, w125, r126, w126, r127, w127, r128, w128, r129, w129, r130, w130, r131, w131, r132, w132, r133, w133, r134, w134, r135, w135, r136, w136, r137, w137, l1, l2, l3, l5, l6, l7, l8, l10, l11, l12, l31, l36, l63, l100, l1000, l1440, l1000000, l16777216, a1.1, a2.1, qn_sub]
  · rw [if_neg h]
    simp (disch := first | assumption | omega) only [obs, qle, ↓lm1, l0, qn_add, pk_mul, n_le, n_lt, n_eq, n_sM, n_Ms, n_Mlt, n_Mle, n_ltM, n_leM, ↓reduceIte, eq_self, if_pos, if_neg, qx, p111_3, p111_4, p111_5, p111_6, p111_7, p111_8, p111_11, p111_12, p111_13, p111_14, p111_15, p111_16, p111_17, p111_18, p111_19, p111_21, p111_22, p111_23, p111_24, p111_27, p111_28, p111_29, p111_30, p111_31, p111_32, p111_34, r112, w112, r113, w113, r114, w114, r115, w115, r116, w116, r117, w117, r118, w118, r119, w119, r120, w120, r121, w121, r122, w122, r123, w123, r124, w124, r125, w125, r126, w126, r127, w127, r128, w128, r129, w129, r130, w130, r131, w131, r132, w132, r133, w133, r134, w134, r135, w135, r136, w136, r137, w137, l1, l2, l3, l5, l6, l7, l8, l10, l11, l12, l31, l36, l63, l100, l1000, l1440, l1000000, l16777216, a1.1, a2.2, qn_sub]
theorem isBreach8_ok {N c l r : Nat} {ns : Nat → Nat} {st cm gs : Nat → Nat → Nat} {R : qR} {I : qI} (hN : 300000 ≤ N) (hL : LR R) (hT : RT c ns st I) (hF : RF c ns cm gs I) (hM : wm c ns cm gs) (hl : l < c) (hr : r < c) : ok (fX8_isBreach N R I 111 (nI l) (nI r)) (fun v => (bR ns st cm gs l r ∧ v = nI 1) ∨ (¬ bR ns st cm gs l r ∧ v = nI 0)) := by
  obtain ⟨h10, hc6, hns, hst⟩ := id hT
  have al := hns l hl
  have ar := hns r hr
  have al2 := al.2
  have ar2 := ar.2
  unfold fX8_isBreach
  rw [l0]
  refine ok_bind (ok_mono (P := fun o => match o with
    | .inl _ => ¬ bR ns st cm gs l r
    | .inr v => bR ns st cm gs l r ∧ v = nI 1) ?_ (fun o ho => ?_))
  · refine ok_for (fun i q => q = nI i ∧ ∀ i2, i2 < i → ¬ ∃ j, j < ns r ∧ st l i2 = st r j ∧ lv ns cm gs r j < lv ns cm gs l i2) (ns l) (by omega) ⟨rfl, fun i hi => by omega⟩ (fun i q hi hq => ?_) (fun q hq => ?_)
    · obtain ⟨rfl, g1⟩ := hq
      have b1 := hst l i hl hi
      have c1 := lvx_lt hM hl hi
      have e1 := leaves8_eq (R := R) hL hT hF hl hi
      have b12 := b1.2
      show ok (cX8_isBreach_2 N R I 111 (nI l) (nI r) (nI i)) _
      unfold cX8_isBreach_2
      refine ok_bindv (p111_13 hL) (ok_bindv (r120 hL (by omega)) ?_)
      rw [al.1, if_neg (show ¬ nI (ns l) ≤ nI i by rw [n_le (by omega) (by omega)]; omega), l0]
      refine ok_bind (ok_mono (P := fun o => match o with
        | .inl _ => ¬ ∃ j, j < ns r ∧ st l i = st r j ∧ lv ns cm gs r j < lv ns cm gs l i
        | .inr v => (∃ j, j < ns r ∧ st l i = st r j ∧ lv ns cm gs r j < lv ns cm gs l i) ∧ v = nI 1) ?_ (fun o ho => ?_))
      · refine ok_for (fun j q => q = nI j ∧ ∀ j2, j2 < j → ¬ (st l i = st r j2 ∧ lv ns cm gs r j2 < lv ns cm gs l i)) (ns r) (by omega) ⟨rfl, fun i hi => by omega⟩ (fun j q hj hq => ?_) (fun q hq => ?_)
        · obtain ⟨rfl, f1⟩ := hq
          have b2 := hst r j hr hj
          have c2 := lvx_lt hM hr hj
          have e2 := leaves8_eq (R := R) hL hT hF hr hj
          have b22 := b2.2
          by_cases hs : st l i = st r j
          · by_cases hv : lv ns cm gs r j < lv ns cm gs l i
            · refine ⟨.inr (.inr (nI 1)), ?_, ⟨j, hj, hs, hv⟩, rfl⟩
              show cX8_isBreach_15 N R I 111 (nI l) (nI r) (nI i) (nI j) = _
              unfold cX8_isBreach_15
              simp (disch := first | assumption | omega) only [obs, qle, ↓lm1, l0, qn_add, pk_mul, n_le, n_lt, n_eq, n_sM, n_Ms, n_Mlt, n_Mle, n_ltM, n_leM, ↓reduceIte, eq_self, if_pos, if_neg, qx, p111_3, p111_4, p111_5, p111_6, p111_7, p111_8, p111_11, p111_12, p111_13, p111_14, p111_15, p111_16, p111_17, p111_18, p111_19, p111_21, p111_22, p111_23, p111_24, p111_27, p111_28, p111_29, p111_30, p111_31, p111_32, p111_34, r112, w112, r113, w113, r114, w114, r115, w115, r116, w116, r117, w117, r118, w118, r119, w119, r120, w120, r121, w121, r122, w122, r123, w123, r124, w124, r125, w125, r126, w126, r127, w127, r128, w128, r129, w129, r130, w130, r131, w131, r132, w132, r133, w133, r134, w134, r135, w135, r136, w136, r137, w137, l1, l2, l3, l5, l6, l7, l8, l10, l11, l12, l31, l36, l63, l100, l1000, l1440, l1000000, l16777216, ar.1, b1.1, b2.1, e1, e2]
            · refine ⟨.inl (nI (j + 1)), ?_, rfl, fun j2 hj2 => ?_⟩
              · show cX8_isBreach_15 N R I 111 (nI l) (nI r) (nI i) (nI j) = _
                unfold cX8_isBreach_15
                simp (disch := first | assumption | omega) only [obs, qle, ↓lm1, l0, qn_add, pk_mul, n_le, n_lt, n_eq, n_sM, n_Ms, n_Mlt, n_Mle, n_ltM, n_leM, ↓reduceIte, eq_self, if_pos, if_neg, qx, p111_3, p111_4, p111_5, p111_6, p111_7, p111_8, p111_11, p111_12, p111_13, p111_14, p111_15, p111_16, p111_17, p111_18, p111_19, p111_21, p111_22, p111_23, p111_24, p111_27, p111_28, p111_29, p111_30, p111_31, p111_32, p111_34, r112, w112, r113, w113, r114, w114, r115, w115, r116, w116, r117, w117, r118, w118, r119, w119, r120, w120, r121, w121, r122, w122, r123, w123, r124, w124, r125, w125, r126, w126, r127, w127, r128, w128, r129, w129, r130, w130, r131, w131, r132, w132, r133, w133, r134, w134, r135, w135, r136, w136, r137, w137, l1, l2, l3, l5, l6, l7, l8, l10, l11, l12, l31, l36, l63, l100, l1000, l1440, l1000000, l16777216, ar.1, b1.1, b2.1, e1, e2]
              · by_cases e : j2 = j
                · subst e; exact fun q => hv q.2
                · exact f1 j2 (by omega)
          · refine ⟨.inl (nI (j + 1)), ?_, rfl, fun j2 hj2 => ?_⟩
            · show cX8_isBreach_15 N R I 111 (nI l) (nI r) (nI i) (nI j) = _
              unfold cX8_isBreach_15
              simp (disch := first | assumption | omega) only [obs, qle, ↓lm1, l0, qn_add, pk_mul, n_le, n_lt, n_eq, n_sM, n_Ms, n_Mlt, n_Mle, n_ltM, n_leM, ↓reduceIte, eq_self, if_pos, if_neg, qx, p111_3, p111_4, p111_5, p111_6, p111_7, p111_8, p111_11, p111_12, p111_13, p111_14, p111_15, p111_16, p111_17, p111_18, p111_19, p111_21, p111_22, p111_23, p111_24, p111_27, p111_28, p111_29, p111_30, p111_31, p111_32, p111_34, r112, w112, r113, w113, r114, w114, r115, w115, r116, w116, r117, w117, r118, w118, r119, w119, r120, w120, r121, w121, r122, w122, r123, w123, r124, w124, r125, w125, r126, w126, r127, w127, r128, w128, r129, w129, r130, w130, r131, w131, r132, w132, r133, w133, r134, w134, r135, w135, r136, w136, r137, w137, l1, l2, l3, l5, l6, l7, l8, l10, l11, l12, l31, l36, l63, l100, l1000, l1440, l1000000, l16777216, ar.1, b1.1, b2.1]
            · by_cases e : j2 = j
              · subst e; exact fun q => hs q.1
              · exact f1 j2 (by omega)
        · obtain ⟨rfl, f1⟩ := hq
          refine ⟨.inr (.inl ()), ?_, fun ⟨j, hj, h⟩ => f1 j hj h⟩
          show cX8_isBreach_15 N R I 111 (nI l) (nI r) (nI i) (nI (ns r)) = _
          unfold cX8_isBreach_15
          simp (disch := first | assumption | omega) only [obs, qle, ↓lm1, l0, qn_add, pk_mul, n_le, n_lt, n_eq, n_sM, n_Ms, n_Mlt, n_Mle, n_ltM, n_leM, ↓reduceIte, eq_self, if_pos, if_neg, qx, p111_3, p111_4, p111_5, p111_6, p111_7, p111_8, p111_11, p111_12, p111_13, p111_14, p111_15, p111_16, p111_17, p111_18, p111_19, p111_21, p111_22, p111_23, p111_24, p111_27, p111_28, p111_29, p111_30, p111_31, p111_32, p111_34, r112, w112, r113, w113, r114, w114, r115, w115, r116, w116, r117, w117, r118, w118, r119, w119, r120, w120, r121, w121, r122, w122, r123, w123, r124, w124, r125, w125, r126, w126, r127, w127, r128, w128, r129, w129, r130, w130, r131, w131, r132, w132, r133, w133, r134, w134, r135, w135, r136, w136, r137, w137, l1, l2, l3, l5, l6, l7, l8, l10, l11, l12, l31, l36, l63, l100, l1000, l1440, l1000000, l16777216, ar.1]
      · cases o with
        | inl u =>
          refine ok_some ⟨nI_1 i, fun i2 hi2 => ?_⟩
          by_cases e : i2 = i
          · subst e; exact ho
          · exact g1 i2 (by omega)
        | inr v =>
          refine ok_some ⟨⟨i, hi, ho.1⟩, ho.2⟩
    · obtain ⟨rfl, g1⟩ := hq
      refine ⟨.inr (.inl ()), ?_, fun ⟨i, hi, h⟩ => g1 i hi h⟩
      show cX8_isBreach_2 N R I 111 (nI l) (nI r) (nI (ns l)) = _
      unfold cX8_isBreach_2
      simp (disch := first | assumption | omega) only [obs, qle, ↓lm1, l0, qn_add, pk_mul, n_le, n_lt, n_eq, n_sM, n_Ms, n_Mlt, n_Mle, n_ltM, n_leM, ↓reduceIte, eq_self, if_pos, if_neg, qx, p111_3, p111_4, p111_5, p111_6, p111_7, p111_8, p111_11, p111_12, p111_13, p111_14, p111_15, p111_16, p111_17, p111_18, p111_19, p111_21, p111_22, p111_23, p111_24, p111_27, p111_28, p111_29, p111_30, p111_31, p111_32, p111_34, r112, w112, r113, w113, r114, w114, r115, w115, r116, w116, r117, w117, r118, w118, r119, w119, r120, w120, r121, w121, r122, w122, r123, w123, r124, w124, r125, w125, r126, w126, r127, w127, r128, w128, r129, w129, r130, w130, r131, w131, r132, w132, r133, w133, r134, w134, r135, w135, r136, w136, r137, w137, l1, l2, l3, l5, l6, l7, l8, l10, l11, l12, l31, l36, l63, l100, l1000, l1440, l1000000, l16777216, al.1]
  · cases o with
    | inl u => exact ok_some (Or.inr ⟨ho, rfl⟩)
    | inr v => exact ok_some (Or.inl ho)
/-- what the class holds of its trains beside their stations -/
def CF (c : Nat) (ns : Nat → Nat) (st cm gs : Nat → Nat → Nat) (I : qI) : Prop := ∀ m, m < c → (∀ i, i < ns m → I (21 + 5 * m + 2) i = nI (cm m i) ∧ I (21 + 5 * m + 3) i = nI (gs m i) ∧ I (21 + 5 * m + 4) (st m i) = nI i) ∧ ∀ s, s < 12 → (∀ i, i < ns m → st m i ≠ s) → I (21 + 5 * m + 4) s = nM
theorem CF.congr {c : Nat} {ns : Nat → Nat} {st cm gs : Nat → Nat → Nat} {I J : qI} (h : CF c ns st cm gs I) (hc : c ≤ 6) (e : ∀ a, 21 ≤ a → a < 51 → J a = I a) : CF c ns st cm gs J := by
  intro m hm
  rw [e _ (by omega) (by omega), e _ (by omega) (by omega), e _ (by omega) (by omega)]
  exact h m hm
theorem leaves5_eq {c m i : Nat} {ns : Nat → Nat} {st cm gs : Nat → Nat → Nat} {R : qR} {I : qI} (hL : LR R) (w : wf c ns st) (hC : CM c ns st I) (hF : CF c ns st cm gs I) (hm : m < c) (hi : i < ns m) : fX5_leaves R I (21 + 5 * m) (nI i) = some (nI (lv ns cm gs m i)) := by
  have hc6 := w.1
  have h7 := w.2.1 m hm
  have e1 := (hC m hm).1
  obtain ⟨e2, e3, e4⟩ := (hF m hm).1 i hi
  have hm6 : m < 6 := by omega
  unfold fX5_leaves lv
  by_cases h : i + 1 = ns m
  · rw [if_pos h]
    simp (disch := first | assumption | omega) only [obs, qle, ↓lm1, l0, qn_add, pk_mul, n_le, n_lt, n_eq, n_sM, n_Ms, n_Mlt, n_Mle, n_ltM, n_leM, ↓reduceIte, eq_self, if_pos, if_neg, qx, p0_0, p0_1, p0_2, p0_3, p2_0, p4_0, p4_1, p4_2, p4_3, p4_4, p4_5, p8_1, p8_5, p8_6, p8_7, p14_0, p14_4, p14_5, p18_1, p18_2, p51_4, p51_5, p51_8, p51_9, p51_10, p51_11, p51_12, p51_14, r3, w3, r6, w6, r7, w7, r9, w9, r10, w10, r11, w11, r12, w12, r15, w15, r16, w16, r17, w17, r19, w19, r20, w20, r53, w53, r54, w54, r55, w55, r56, w56, r57, w57, r58, w58, r59, w59, r60, w60, a1, a5, pt2, rt2, wt2, pt3, rt3, wt3, pt4, rt4, wt4, pt5, rt5, wt5, pm2, rm2, wm2, pm3, rm3, wm3, pm4, rm4, wm4, pm5, rm5, wm5, l1, l2, l3, l5, l6, l7, l8, l10, l11, l12, l31, l36, l63, l100, l1000, l1440, l1000000, l16777216, e1, e2, qn_sub]
  · rw [if_neg h]
    simp (disch := first | assumption | omega) only [obs, qle, ↓lm1, l0, qn_add, pk_mul, n_le, n_lt, n_eq, n_sM, n_Ms, n_Mlt, n_Mle, n_ltM, n_leM, ↓reduceIte, eq_self, if_pos, if_neg, qx, p0_0, p0_1, p0_2, p0_3, p2_0, p4_0, p4_1, p4_2, p4_3, p4_4, p4_5, p8_1, p8_5, p8_6, p8_7, p14_0, p14_4, p14_5, p18_1, p18_2, p51_4, p51_5, p51_8, p51_9, p51_10, p51_11, p51_12, p51_14, r3, w3, r6, w6, r7, w7, r9, w9, r10, w10, r11, w11, r12, w12, r15, w15, r16, w16, r17, w17, r19, w19, r20, w20, r53, w53, r54, w54, r55, w55, r56, w56, r57, w57, r58, w58, r59, w59, r60, w60, a1, a5, pt2, rt2, wt2, pt3, rt3, wt3, pt4, rt4, wt4, pt5, rt5, wt5, pm2, rm2, wm2, pm3, rm3, wm3, pm4, rm4, wm4, pm5, rm5, wm5, l1, l2, l3, l5, l6, l7, l8, l10, l11, l12, l31, l36, l63, l100, l1000, l1440, l1000000, l16777216, e1, e3, qn_sub]
theorem ahead_ok {N c a b : Nat} {ns : Nat → Nat} {st cm gs : Nat → Nat → Nat} {R : qR} {I : qI} (hN : 300000 ≤ N) (hL : LR R) (w : wf c ns st) (hC : CM c ns st I) (hF : CF c ns st cm gs I) (hM : wm c ns cm gs) (ha : a < c) (hb : b < c) : ok (fX5_isAheadSomewhere N R I (21 + 5 * a) (21 + 5 * b)) (fun v => (bR ns st cm gs b a ∧ v = nI 1) ∨ (¬ bR ns st cm gs b a ∧ v = nI 0)) := by
  have hc6 := w.1
  have h7 := w.2.1 a ha
  have h8 := w.2.1 b hb
  obtain ⟨e1, e2⟩ := hC a ha
  have ha6 : a < 6 := by omega
  have hb6 : b < 6 := by omega
  unfold fX5_isAheadSomewhere
  rw [l0]
  refine ok_bind (ok_mono (P := fun o => match o with
    | .inl _ => ¬ bR ns st cm gs b a
    | .inr v => bR ns st cm gs b a ∧ v = nI 1) ?_ (fun o ho => ?_))
  · refine ok_for (fun i q => q = nI i ∧ ∀ i2, i2 < i → ¬ ∃ j, j < ns b ∧ st b j = st a i2 ∧ lv ns cm gs a i2 < lv ns cm gs b j) (ns a) (by omega) ⟨rfl, fun i hi => by omega⟩ (fun i q hi hq => ?_) (fun q hq => ?_)
    · obtain ⟨rfl, g1⟩ := hq
      have f1 := e2 i hi
      have s12 := w.2.2 a i ha hi
      have c1 := lvx_lt hM ha hi
      have x1 := leaves5_eq (R := R) hL w hC hF ha hi
      by_cases hex : ∃ j, j < ns b ∧ st b j = st a i
      · obtain ⟨j, hj, hjs⟩ := hex
        have f2 : I (21 + 5 * b + 4) (st a i) = nI j := by rw [← hjs]; exact ((hF b hb).1 j hj).2.2
        have c2 := lvx_lt hM hb hj
        have x2 := leaves5_eq (R := R) hL w hC hF hb hj
        by_cases hv : lv ns cm gs a i < lv ns cm gs b j
        · refine ⟨.inr (.inr (nI 1)), ?_, ⟨j, hj, i, hi, hjs, hv⟩, rfl⟩
          show cX5_isAheadSomewhere_2 N R I (21 + 5 * a) (21 + 5 * b) (nI i) = _
          unfold cX5_isAheadSomewhere_2
          simp (disch := first | assumption | omega) only [obs, qle, ↓lm1, l0, qn_add, pk_mul, n_le, n_lt, n_eq, n_sM, n_Ms, n_Mlt, n_Mle, n_ltM, n_leM, ↓reduceIte, eq_self, if_pos, if_neg, qx, p0_0, p0_1, p0_2, p0_3, p2_0, p4_0, p4_1, p4_2, p4_3, p4_4, p4_5, p8_1, p8_5, p8_6, p8_7, p14_0, p14_4, p14_5, p18_1, p18_2, p51_4, p51_5, p51_8, p51_9, p51_10, p51_11, p51_12, p51_14, r3, w3, r6, w6, r7, w7, r9, w9, r10, w10, r11, w11, r12, w12, r15, w15, r16, w16, r17, w17, r19, w19, r20, w20, r53, w53, r54, w54, r55, w55, r56, w56, r57, w57, r58, w58, r59, w59, r60, w60, a1, a5, pt2, rt2, wt2, pt3, rt3, wt3, pt4, rt4, wt4, pt5, rt5, wt5, pm2, rm2, wm2, pm3, rm3, wm3, pm4, rm4, wm4, pm5, rm5, wm5, l1, l2, l3, l5, l6, l7, l8, l10, l11, l12, l31, l36, l63, l100, l1000, l1440, l1000000, l16777216, e1, f1, f2, x1, x2]
        · refine ⟨.inl (nI (i + 1)), ?_, rfl, fun i2 hi2 => ?_⟩
          · show cX5_isAheadSomewhere_2 N R I (21 + 5 * a) (21 + 5 * b) (nI i) = _
            unfold cX5_isAheadSomewhere_2
            simp (disch := first | assumption | omega) only [obs, qle, ↓lm1, l0, qn_add, pk_mul, n_le, n_lt, n_eq, n_sM, n_Ms, n_Mlt, n_Mle, n_ltM, n_leM, ↓reduceIte, eq_self, if_pos, if_neg, qx, p0_0, p0_1, p0_2, p0_3, p2_0, p4_0, p4_1, p4_2, p4_3, p4_4, p4_5, p8_1, p8_5, p8_6, p8_7, p14_0, p14_4, p14_5, p18_1, p18_2, p51_4, p51_5, p51_8, p51_9, p51_10, p51_11, p51_12, p51_14, r3, w3, r6, w6, r7, w7, r9, w9, r10, w10, r11, w11, r12, w12, r15, w15, r16, w16, r17, w17, r19, w19, r20, w20, r53, w53, r54, w54, r55, w55, r56, w56, r57, w57, r58, w58, r59, w59, r60, w60, a1, a5, pt2, rt2, wt2, pt3, rt3, wt3, pt4, rt4, wt4, pt5, rt5, wt5, pm2, rm2, wm2, pm3, rm3, wm3, pm4, rm4, wm4, pm5, rm5, wm5, l1, l2, l3, l5, l6, l7, l8, l10, l11, l12, l31, l36, l63, l100, l1000, l1440, l1000000, l16777216, e1, f1, f2, x1, x2]
          · by_cases e : i2 = i
            · subst e
              rintro ⟨j2, hj2, hs2, hv2⟩
              have f3 : I (21 + 5 * b + 4) (st a i2) = nI j2 := by rw [← hs2]; exact ((hF b hb).1 j2 hj2).2.2
              rw [f2, n_eq (by omega) (by omega)] at f3
              subst f3
              exact hv hv2
            · exact g1 i2 (by omega)
      · have f2 : I (21 + 5 * b + 4) (st a i) = nM := (hF b hb).2 _ s12 (fun j hj hs => hex ⟨j, hj, hs⟩)
        refine ⟨.inl (nI (i + 1)), ?_, rfl, fun i2 hi2 => ?_⟩
        · show cX5_isAheadSomewhere_2 N R I (21 + 5 * a) (21 + 5 * b) (nI i) = _
          unfold cX5_isAheadSomewhere_2
          simp (disch := first | assumption | omega) only [obs, qle, ↓lm1, l0, qn_add, pk_mul, n_le, n_lt, n_eq, n_sM, n_Ms, n_Mlt, n_Mle, n_ltM, n_leM, ↓reduceIte, eq_self, if_pos, if_neg, qx, p0_0, p0_1, p0_2, p0_3, p2_0, p4_0, p4_1, p4_2, p4_3, p4_4, p4_5, p8_1, p8_5, p8_6, p8_7, p14_0, p14_4, p14_5, p18_1, p18_2, p51_4, p51_5, p51_8, p51_9, p51_10, p51_11, p51_12, p51_14, r3, w3, r6, w6, r7, w7, r9, w9, r10, w10, r11, w11, r12, w12, r15, w15, r16, w16, r17, w17, r19, w19, r20, w20, r53, w53, r54, w54, r55, w55, r56, w56, r57, w57, r58, w58, r59, w59, r60, w60, a1, a5, pt2, rt2, wt2, pt3, rt3, wt3, pt4, rt4, wt4, pt5, rt5, wt5, pm2, rm2, wm2, pm3, rm3, wm3, pm4, rm4, wm4, pm5, rm5, wm5, l1, l2, l3, l5, l6, l7, l8, l10, l11, l12, l31, l36, l63, l100, l1000, l1440, l1000000, l16777216, e1, f1, f2]
        · by_cases e : i2 = i
          · subst e; exact fun ⟨j, hj, hs, _⟩ => hex ⟨j, hj, hs⟩
          · exact g1 i2 (by omega)
    · obtain ⟨rfl, g1⟩ := hq
      refine ⟨.inr (.inl ()), ?_, fun ⟨j, hj, i, hi, h1, h2⟩ => g1 i hi ⟨j, hj, h1, h2⟩⟩
      show cX5_isAheadSomewhere_2 N R I (21 + 5 * a) (21 + 5 * b) (nI (ns a)) = _
      unfold cX5_isAheadSomewhere_2
      simp (disch := first | assumption | omega) only [obs, qle, ↓lm1, l0, qn_add, pk_mul, n_le, n_lt, n_eq, n_sM, n_Ms, n_Mlt, n_Mle, n_ltM, n_leM, ↓reduceIte, eq_self, if_pos, if_neg, qx, p0_0, p0_1, p0_2, p0_3, p2_0, p4_0, p4_1, p4_2, p4_3, p4_4, p4_5, p8_1, p8_5, p8_6, p8_7, p14_0, p14_4, p14_5, p18_1, p18_2, p51_4, p51_5, p51_8, p51_9, p51_10, p51_11, p51_12, p51_14, r3, w3, r6, w6, r7, w7, r9, w9, r10, w10, r11, w11, r12, w12, r15, w15, r16, w16, r17, w17, r19, w19, r20, w20, r53, w53, r54, w54, r55, w55, r56, w56, r57, w57, r58, w58, r59, w59, r60, w60, a1, a5, pt2, rt2, wt2, pt3, rt3, wt3, pt4, rt4, wt4, pt5, rt5, wt5, pm2, rm2, wm2, pm3, rm3, wm3, pm4, rm4, wm4, pm5, rm5, wm5, l1, l2, l3, l5, l6, l7, l8, l10, l11, l12, l31, l36, l63, l100, l1000, l1440, l1000000, l16777216, e1]
  · cases o with
    | inl u => exact ok_some (Or.inr ⟨ho, rfl⟩)
    | inr v => exact ok_some (Or.inl ho)
