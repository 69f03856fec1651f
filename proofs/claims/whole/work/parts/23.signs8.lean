/-! SIGNS, the reference's side -/
def gS (f : Nat → Nat) (i : Nat) : Nat := if i < 7 then 2 ^ i else f (i - 7)
def valid (f : Nat → Nat) (d s : Nat) : Prop := (∀ i, i < 13 → s.testBit i = true → gS f i ≠ 0) ∧ uN (gS f) s 13 = d
theorem gS_lt {f : Nat → Nat} (hf : ∀ i, i < 6 → f i < 128) {i : Nat} (hi : i < 13) : gS f i < 128 := by
  unfold gS
  split
  · exact Nat.pow_lt_pow_right (a := 2) (by decide) (n := 7) (by omega)
  · exact hf _ (by omega)
theorem sign_inner {R : qR} {I : qI} (hL : LR R) {N s : Nat} {f : Nat → Nat} {v1 v2 v3 v4 : Int32} (hs : s < 8192) (hg : ∀ i, i < 13 → I 117 i = nI (gS f i)) (hf : ∀ i, i < 6 → f i < 128) (hN : 20 < N) :
    ok (qloop (fun z => cX8_signs_51 N R I 111 v1 v2 v3 v4 (nI s) z.1 z.2.1 z.2.2) N ((0 : Int32), (1 : Int32), (0 : Int32))) (fun o => (o.2 = 1 ∧ o.1 = nI (uN (gS f) s 13) ∧ ∀ i, i < 13 → s.testBit i = true → gS f i ≠ 0) ∨ (o.2 = 0 ∧ ∃ i, i < 13 ∧ s.testBit i = true ∧ gS f i = 0)) := by
  refine ok_loop (fun z : Int32 × Int32 × Int32 => ∃ k : Nat, k ≤ 13 ∧ z.2.2 = nI k ∧ ((z.2.1 = 1 ∧ z.1 = nI (uN (gS f) s k) ∧ ∀ i, i < k → s.testBit i = true → gS f i ≠ 0) ∨ (z.2.1 = 0 ∧ ∃ i, i < 13 ∧ s.testBit i = true ∧ gS f i = 0))) (fun z => (13 - z.2.2.toInt).toNat) ⟨0, by omega, rfl, Or.inl ⟨rfl, rfl, fun i hi => by omega⟩⟩ (by show (13 - (0 : Int32).toInt).toNat < N; rw [i0]; show 13 < N; omega) (fun z hz => ?_)
  obtain ⟨va, vb, vc⟩ := z
  obtain ⟨k, hk, hz1, hz2⟩ := hz
  dsimp only at hz1 hz2
  subst hz1
  show ok (cX8_signs_51 N R I 111 v1 v2 v3 v4 (nI s) va vb (nI k)) _
  unfold cX8_signs_51
  have ek : (nI k).toInt = k := tI_nI (by omega)
  have e1 : (nI k + 1) = nI (k + 1) := qn_add k 1
  have hmu : k < 13 → (13 - (nI k + 1).toInt).toNat < (13 - (nI k).toInt).toNat := fun h => by rw [e1, tI_nI (by omega), ek]; omega
  refine ok_if (fun q => ?_) (fun q => ?_)
  · rw [ile, i13, ek] at q
    have hk13 : k = 13 := by omega
    subst hk13
    exact ok_some hz2
  · rw [ile, i13, ek] at q
    refine ok_if (fun b0 => ?_) (fun b0 => ?_)
    · refine ok_some ?_
      rcases hz2 with h | h
      · rw [h.1] at b0; exact absurd b0 (by decide)
      · exact Or.inr h
    · have h := hz2.resolve_right (fun h => b0 h.1)
      obtain ⟨rfl, rfl, hall⟩ := h
      refine ok_if (fun b => ?_) (fun b => ?_)
      · rw [q_bit _ _ (by omega)] at b
        refine ok_some ⟨⟨k + 1, by omega, e1, Or.inl ⟨rfl, ?_, fun i hi hb => ?_⟩⟩, hmu (by omega)⟩
        · show nI (uN (gS f) s k) = nI (uN (gS f) s (k + 1))
          rw [uN, if_neg (by rw [b]; decide)]
        · by_cases hik : i = k
          · rw [hik, b] at hb; cases hb
          · exact hall i (by omega) hb
      · rw [q_bit _ _ (by omega)] at b
        have hbt : s.testBit k = true := by
          cases hq : s.testBit k
          · exact absurd hq b
          · rfl
        rw [hL.p 111 8 rfl]
        refine ok_bindv rfl (ok_bindv (qrd_t (hL.l 117 rfl) (by omega) (by omega)) ?_)
        have hlt := gS_lt hf (i := k) (by omega)
        rw [ek, Int.toNat_natCast, hg k (by omega), fa_or]
        have hmu2 : (13 - (nI k + 1).toInt).toNat < (13 - (k : Int)).toNat := by have := hmu (by omega); rw [ek] at this; exact this
        have eu : uN (gS f) s k ||| gS f k = uN (gS f) s (k + 1) := by rw [uN, if_pos hbt]
        refine ok_if (fun z0 => ?_) (fun z0 => ?_)
        · rw [show (0 : Int32) = nI 0 from rfl, qn_eq (by omega) (by omega)] at z0
          exact ok_some ⟨⟨k + 1, by omega, e1, Or.inr ⟨rfl, k, by omega, hbt, z0⟩⟩, hmu2⟩
        · rw [show (0 : Int32) = nI 0 from rfl, qn_eq (by omega) (by omega)] at z0
          refine ok_some ⟨⟨k + 1, by omega, e1, Or.inl ⟨rfl, ?_, fun i hi hb => ?_⟩⟩, hmu2⟩
          · show nI (uN (gS f) s k ||| gS f k) = _
            rw [eu]
          · by_cases hik : i = k
            · rw [hik]; exact z0
            · exact hall i (by omega) hb
theorem sign_outer {R : qR} {I : qI} (hL : LR R) {N t d : Nat} {f : Nat → Nat} {x p : Int32} (ht : t < 10) (hx : x.toInt = t) (hd : I 112 t = nI d) (hd1 : d < 128) (hg : ∀ i, i < 13 → I 117 i = nI (gS f i)) (hf : ∀ i, i < 6 → f i < 128) (hN : 9000 < N) :
    ok (qloop (fun z => cX8_signs_34 N R I 111 x p z.1 z.2.1 z.2.2) N ((8191 : Int32), (0 : Int32), (1 : Int32))) (fun o => (∀ s, 1 ≤ s → s < 8192 → ¬ valid f d s) ∨ ∃ m, o = nI m ∧ m < 8192 ∧ valid f d m ∧ ∀ s, 1 ≤ s → s < 8192 → valid f d s → le2 m s) := by
  refine ok_loop (fun z : Int32 × Int32 × Int32 => ∃ k : Nat, 1 ≤ k ∧ k ≤ 8192 ∧ z.2.2 = nI k ∧ ((z.2.1 = 0 ∧ ∀ s, 1 ≤ s → s < k → ¬ valid f d s) ∨ (z.2.1 = 1 ∧ ∃ m, z.1 = nI m ∧ m < k ∧ valid f d m ∧ ∀ s, 1 ≤ s → s < k → valid f d s → le2 m s))) (fun z => (8192 - z.2.2.toInt).toNat) ⟨1, by omega, by omega, rfl, Or.inl ⟨rfl, fun s h1 h2 => by omega⟩⟩ (by show (8192 - (1 : Int32).toInt).toNat < N; rw [i1]; show 8191 < N; omega) (fun z hz => ?_)
  obtain ⟨va, vb, vc⟩ := z
  obtain ⟨k, hk1, hk, hz1, hz2⟩ := hz
  dsimp only at hz1 hz2
  subst hz1
  show ok (cX8_signs_34 N R I 111 x p va vb (nI k)) _
  unfold cX8_signs_34
  have ek : (nI k).toInt = k := tI_nI (by omega)
  have e1 : (nI k + 1) = nI (k + 1) := qn_add k 1
  have i8192 : (8192 : Int32).toInt = 8192 := by decide
  have hmu : k < 8192 → (8192 - (nI k + 1).toInt).toNat < (8192 - (nI k).toInt).toNat := fun h => by rw [e1, tI_nI (by omega), ek]; omega
  refine ok_if (fun q => ?_) (fun q => ?_)
  · rw [ile, i8192, ek] at q
    have hk13 : k = 8192 := by omega
    subst hk13
    refine ok_some ?_
    rcases hz2 with h | ⟨-, m, rfl, h1, h2, h3⟩
    · exact Or.inl h.2
    · exact Or.inr ⟨m, rfl, h1, h2, h3⟩
  · rw [ile, i8192, ek] at q
    -- nothing changes where k isn't valid
    have skip : ¬ valid f d k → (∃ k' : Nat, 1 ≤ k' ∧ k' ≤ 8192 ∧ nI k + 1 = nI k' ∧ ((vb = 0 ∧ ∀ s, 1 ≤ s → s < k' → ¬ valid f d s) ∨ (vb = 1 ∧ ∃ m, va = nI m ∧ m < k' ∧ valid f d m ∧ ∀ s, 1 ≤ s → s < k' → valid f d s → le2 m s))) := by
      intro hn
      refine ⟨k + 1, by omega, by omega, e1, ?_⟩
      rcases hz2 with h | ⟨h0, m, h1, h2, h3, h4⟩
      · refine Or.inl ⟨h.1, fun s g1 g2 => ?_⟩
        by_cases hsk : s = k
        · rw [hsk]; exact hn
        · exact h.2 s g1 (by omega)
      · refine Or.inr ⟨h0, m, h1, by omega, h3, fun s g1 g2 g3 => ?_⟩
        by_cases hsk : s = k
        · rw [hsk] at g3; exact absurd g3 hn
        · exact h4 s g1 (by omega) g3
    refine ok_bind (ok_mono (sign_inner hL (by omega) hg hf (by omega)) (fun o ho => ?_))
    refine ok_if (fun b0 => ?_) (fun b0 => ?_)
    · have h := ho.resolve_left (fun h => by rw [h.1] at b0; exact absurd b0 (by decide))
      obtain ⟨-, i, hi, hb, hz0⟩ := h
      exact ok_some ⟨skip (fun hv => hv.1 i hi hb hz0), hmu (by omega)⟩
    · have h := ho.resolve_right (fun h => b0 h.1)
      obtain ⟨ho1, ho2, hall⟩ := h
      have hul := uN_lt (f := gS f) (c := k) 13 (fun i hi => gS_lt hf hi)
      rw [hL.p 111 3 rfl]
      refine ok_bindv rfl (ok_bindv (qrd_t (hL.l 112 rfl) (by omega) (by omega)) ?_)
      rw [hx, Int.toNat_natCast, hd, ho2]
      refine ok_if (fun b1 => ?_) (fun b1 => ?_)
      · rw [qn_eq (by omega) (by omega)] at b1
        have hvk : valid f d k := ⟨hall, b1⟩
        refine ok_if (fun b2 => ?_) (fun b2 => ?_)
        · have h := hz2.resolve_right (fun h => by rw [h.1] at b2; exact absurd b2 (by decide))
          refine ok_some ⟨⟨k + 1, by omega, by omega, e1, Or.inr ⟨rfl, k, rfl, by omega, hvk, fun s g1 g2 g3 => ?_⟩⟩, hmu (by omega)⟩
          by_cases hsk : s = k
          · rw [hsk]; exact le2.rf
          · exact absurd g3 (h.2 s g1 (by omega))
        · have h := hz2.resolve_left (fun h => b2 h.1)
          obtain ⟨h0, m, rfl, h2, h3, h4⟩ := h
          refine ok_bindv (ones_eq (by omega) (by omega)) (ok_bindv (ones_eq (by omega) (by omega)) ?_)
          have c1 := bc_le 13 k
          have c2 := bc_le 13 m
          refine ok_if (fun b3 => ?_) (fun b3 => ?_)
          · rw [ilt, tI_nI (by omega), tI_nI (by omega)] at b3
            refine ok_some ⟨⟨k + 1, by omega, by omega, e1, Or.inr ⟨rfl, k, rfl, by omega, hvk, fun s g1 g2 g3 => ?_⟩⟩, hmu (by omega)⟩
            by_cases hsk : s = k
            · rw [hsk]; exact le2.rf
            · exact le2.trans (Or.inl (by omega)) (h4 s g1 (by omega) g3)
          · rw [ilt, tI_nI (by omega), tI_nI (by omega)] at b3
            refine ok_some ⟨⟨k + 1, by omega, by omega, e1, Or.inr ⟨h0, m, rfl, by omega, h3, fun s g1 g2 g3 => ?_⟩⟩, hmu (by omega)⟩
            by_cases hsk : s = k
            · rw [hsk]; unfold le2; omega
            · exact h4 s g1 (by omega) g3
      · rw [qn_eq (by omega) (by omega)] at b1
        exact ok_some ⟨skip (fun hv => b1 hv.2), hmu (by omega)⟩
