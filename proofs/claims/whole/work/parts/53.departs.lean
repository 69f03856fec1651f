/-! DEPARTURES: the minutes, and the class -/
section DEP
variable {n : Nat} {NS : Nat → Nat} {ST CT GT : Nat → Nat → Nat} {D : Nat → Nat} {W F day T N : Nat} {R : qR}
noncomputable def sv (n : Nat) (NS : Nat → Nat) (ST CT GT : Nat → Nat → Nat) (D : Nat → Nat) (W F day T M : Nat) : Nat := @dite Nat (∃ v, SN NS ST CT GT (rD n day D) W F M T v) (Classical.propDecidable _) (fun h => Classical.choose h) (fun _ => 1000000)
theorem sv_no {M : Nat} (h : SNo NS ST CT GT (rD n day D) W F M T) : sv n NS ST CT GT D W F day T M = 1000000 := by
  unfold sv
  refine dif_neg ?_
  rintro ⟨v, ⟨t, j, h1, h2, _⟩, _⟩
  exact h t j h1 h2
theorem sv_sn {M v : Nat} (h : SN NS ST CT GT (rD n day D) W F M T v) : sv n NS ST CT GT D W F day T M = v := by
  have hex : ∃ v, SN NS ST CT GT (rD n day D) W F M T v := ⟨v, h⟩
  have e : sv n NS ST CT GT D W F day T M = Classical.choose hex := by unfold sv; exact dif_pos hex
  obtain ⟨⟨t, j, h1, h2, h3⟩, h4⟩ := Classical.choose_spec hex
  obtain ⟨⟨t2, j2, g1, g2, g3⟩, g4⟩ := h
  have a1 := h4 t2 j2 g1 g2
  have a2 := g4 t j h1 h2
  rw [e]
  omega
theorem sn_lt (w : wb n NS ST CT GT (rD n day D) W F) {M v : Nat} (h : SN NS ST CT GT (rD n day D) W F M T v) : v < 1440 := by
  obtain ⟨⟨t, j, h1, h2, h3⟩, _⟩ := h
  obtain ⟨r1, r2, _⟩ := (RC_iff NS ST CT GT (rD n day D) W F).mp h1
  have := (w.2.2.2.2 t r1.1).2.1 j r2
  omega
theorem sv_cases (w : wb n NS ST CT GT (rD n day D) W F) (M : Nat) : (SNo NS ST CT GT (rD n day D) W F M T ∧ sv n NS ST CT GT D W F day T M = 1000000) ∨ (SN NS ST CT GT (rD n day D) W F M T (sv n NS ST CT GT D W F day T M) ∧ sv n NS ST CT GT D W F day T M < 1440) := by
  rcases SN_or NS ST CT GT (rD n day D) W F M T with h | ⟨v, h⟩
  · exact Or.inl ⟨h, sv_no h⟩
  · rw [sv_sn h]; exact Or.inr ⟨h, sn_lt w h⟩
theorem sv_le (w : wb n NS ST CT GT (rD n day D) W F) (M : Nat) : sv n NS ST CT GT D W F day T M ≤ 1000000 := by
  rcases sv_cases (T := T) w M with ⟨_, h⟩ | ⟨_, h⟩ <;> omega
theorem sv_mono (w : wb n NS ST CT GT (rD n day D) W F) {M M2 : Nat} (h : M ≤ M2) : sv n NS ST CT GT D W F day T M ≤ sv n NS ST CT GT D W F day T M2 := by
  rcases sv_cases (T := T) w M2 with ⟨h1, h2⟩ | ⟨h1, h2⟩
  · rw [h2]; exact sv_le w M
  · obtain ⟨⟨t, j, ⟨k, g1⟩, g2, g3⟩, g4⟩ := h1
    have hr : RC NS ST CT GT (rD n day D) W F M t j := ⟨k, RC_later NS ST CT GT (rD n day D) W F h k t j g1⟩
    rcases sv_cases (T := T) w M with ⟨q1, q2⟩ | ⟨q1, q2⟩
    · exact absurd g2 (q1 t j hr)
    · have := q1.2 t j hr g2
      omega
/-- trains that go from there then (not from their last stop) -/
def DpN (n : Nat) (NS : Nat → Nat) (ST GT : Nat → Nat → Nat) (D : Nat → Nat) (F day m : Nat) : Prop := ∃ t i, rD n day D t ∧ i + 1 < NS t ∧ ST t i = F ∧ GT t i = m
def Dp (n : Nat) (NS : Nat → Nat) (ST GT : Nat → Nat → Nat) (D : Nat → Nat) (F day m : Nat) : Prop := ∃ t i, rD n day D t ∧ i < NS t ∧ ST t i = F ∧ GT t i = m
theorem sv_same (w : wb n NS ST CT GT (rD n day D) W F) {M : Nat} (h : ¬ DpN n NS ST GT D F day M) : sv n NS ST CT GT D W F day T M = sv n NS ST CT GT D W F day T (M + 1) := by
  have h1 := sv_mono (T := T) w (show M ≤ M + 1 by omega)
  have hs := RC_same NS ST CT GT (rD n day D) W F (M := M) (fun t i a1 a2 a3 a4 => h ⟨t, i, a1, a2, a3, a4⟩)
  rcases sv_cases (T := T) w M with ⟨q1, q2⟩ | ⟨q1, q2⟩
  · have := sv_le (T := T) w (M + 1); omega
  · obtain ⟨⟨t, j, ⟨k, g1⟩, g2, g3⟩, g4⟩ := q1
    have hr : RC NS ST CT GT (rD n day D) W F (M + 1) t j := ⟨k, hs k t j g1⟩
    rcases sv_cases (T := T) w (M + 1) with ⟨p1, p2⟩ | ⟨p1, p2⟩
    · exact absurd g2 (p1 t j hr)
    · have := p1.2 t j hr g2
      omega
theorem sv_end (w : wb n NS ST CT GT (rD n day D) W F) : sv n NS ST CT GT D W F day T 1440 = 1000000 := by
  rcases sv_cases (T := T) w 1440 with ⟨_, h⟩ | ⟨⟨⟨t, j, ⟨k, g1⟩, g2, g3⟩, _⟩, h⟩
  · exact h
  · have := RC_min n NS ST CT GT (rD n day D) W F w k t j g1
    omega
theorem sv_next (w : wb n NS ST CT GT (rD n day D) W F) : ∀ d m, m + d = 1440 → sv n NS ST CT GT D W F day T m = 1000000 ∨ ∃ m2, m ≤ m2 ∧ DpN n NS ST GT D F day m2 ∧ sv n NS ST CT GT D W F day T m2 = sv n NS ST CT GT D W F day T m := by
  intro d
  induction d with
  | zero =>
    intro m hm
    left
    have e : m = 1440 := by omega
    rw [e]
    exact sv_end w
  | succ d ih =>
    intro m hm
    by_cases hp : DpN n NS ST GT D F day m
    · exact Or.inr ⟨m, Nat.le_refl _, hp, rfl⟩
    · rcases ih (m + 1) (by omega) with h | ⟨m2, h1, h2, h3⟩
      · left; rw [sv_same w hp]; exact h
      · exact Or.inr ⟨m2, by omega, h2, by rw [sv_same w hp]; exact h3⟩
def Gd (n : Nat) (NS : Nat → Nat) (ST CT GT : Nat → Nat → Nat) (D : Nat → Nat) (W F day T m : Nat) : Prop := Dp n NS ST GT D F day m ∧ sv n NS ST CT GT D W F day T m < 1000000 ∧ ∀ m2, Dp n NS ST GT D F day m2 → m < m2 → sv n NS ST CT GT D W F day T m < sv n NS ST CT GT D W F day T m2
def GdR (n : Nat) (NS : Nat → Nat) (ST CT GT : Nat → Nat → Nat) (D : Nat → Nat) (W F day T m : Nat) : Prop := DpN n NS ST GT D F day m ∧ sv n NS ST CT GT D W F day T m < 1000000 ∧ (m + 1 < 1440 → sv n NS ST CT GT D W F day T m < sv n NS ST CT GT D W F day T (m + 1))
theorem DpN_Dp {m : Nat} (h : DpN n NS ST GT D F day m) : Dp n NS ST GT D F day m := by
  obtain ⟨t, i, h1, h2, h3⟩ := h
  exact ⟨t, i, h1, by omega, h3⟩
theorem Dp_lt (w : wb n NS ST CT GT (rD n day D) W F) {m : Nat} (h : Dp n NS ST GT D F day m) : m < 1440 := by
  obtain ⟨t, i, h1, h2, h3, h4⟩ := h
  have := (w.2.2.2.2 t h1.1).2.1 i h2
  omega
theorem gd_iff (w : wb n NS ST CT GT (rD n day D) W F) {m : Nat} (hm : m < 1440) : Gd n NS ST CT GT D W F day T m ↔ GdR n NS ST CT GT D W F day T m := by
  constructor
  · rintro ⟨h1, h2, h3⟩
    have hN : DpN n NS ST GT D F day m := by
      apply Classical.byContradiction
      intro hp
      have e := sv_same (T := T) w hp
      rcases sv_next (T := T) w (1440 - (m + 1)) (m + 1) (by omega) with q | ⟨m2, q1, q2, q3⟩
      · omega
      · have := h3 m2 (DpN_Dp q2) (by omega)
        omega
    refine ⟨hN, h2, fun hlt => ?_⟩
    rcases sv_next (T := T) w (1440 - (m + 1)) (m + 1) (by omega) with q | ⟨m2, q1, q2, q3⟩
    · omega
    · have := h3 m2 (DpN_Dp q2) (by omega)
      omega
  · rintro ⟨h1, h2, h3⟩
    refine ⟨DpN_Dp h1, h2, fun m2 hd hlt => ?_⟩
    have hm2 := Dp_lt w hd
    have := h3 (by omega)
    have := sv_mono (T := T) w (show m + 1 ≤ m2 by omega)
    omega
/-- one more minute in its place -/
theorem insert_ok {I : qI} {c x : Nat} {f : Nat → Nat} (hN : 300000 ≤ N) (hL : LR R) (hc : c < 10) (h13 : I 51 13 = nI c) (hf : ∀ k, k < c → I 59 k = nI (f k) ∧ f k < 1440) (hs : ∀ i j, i < j → j < c → f i ≤ f j) (hx : x < 1440) : ok (fX6_insertMinute N R I 51 (nI x)) (fun J => ∃ g : Nat → Nat, J 51 13 = nI (c + 1) ∧ (∀ k, k < c + 1 → J 59 k = nI (g k) ∧ (g k = x ∨ ∃ i, i < c ∧ g k = f i)) ∧ (∀ i j, i < j → j < c + 1 → g i ≤ g j) ∧ (∃ k, k < c + 1 ∧ g k = x) ∧ (∀ i, i < c → ∃ k, k < c + 1 ∧ g k = f i) ∧ (∀ a, a ≠ 59 → a ≠ 51 → J a = I a) ∧ ∀ j, j ≠ 13 → J 51 j = I 51 j) := by
  unfold fX6_insertMinute
  rw [h13]
  refine ok_bind (ok_mono (P := fun q => ∃ at1 J, q = (nI at1, J) ∧ at1 ≤ c ∧ (∀ i, i < at1 → J 59 i = nI (f i)) ∧ (∀ i, at1 ≤ i → i < c → J 59 (i + 1) = nI (f i) ∧ x < f i) ∧ (∀ i, i < at1 → f i ≤ x) ∧ ∀ a, a ≠ 59 → J a = I a) ?_ (fun q hq => ?_))
  · refine ok_for (fun k q => ∃ at1 J, at1 + k = c ∧ q = (nI at1, J) ∧ (∀ i, i < at1 → J 59 i = nI (f i)) ∧ (∀ i, at1 ≤ i → i < c → J 59 (i + 1) = nI (f i) ∧ x < f i) ∧ ∀ a, a ≠ 59 → J a = I a) c (by omega) ⟨c, I, by omega, rfl, fun i hi => (hf i hi).1, fun i h1 h2 => by omega, fun _ _ => rfl⟩ (fun k q hk hq => ?_) (fun q hq => ?_)
    · obtain ⟨at1, J, g0, rfl, g1, g2, g3⟩ := hq
      obtain ⟨a, rfl⟩ : ∃ a, at1 = a + 1 := ⟨at1 - 1, by omega⟩
      have e1 := g1 a (by omega)
      have fa := (hf a (by omega)).2
      have e2 : a + 1 - 1 = a := by omega
      by_cases hle : f a ≤ x
      · refine ⟨.inr (nI (a + 1), J), ?_, a + 1, J, rfl, by omega, g1, g2, fun i hi => ?_, g3⟩
        · show cX6_insertMinute_5 N R 51 (nI x) (nI (a + 1)) J = _
          unfold cX6_insertMinute_5
          simp (disch := first | assumption | omega) only [obs, qle, ↓lm1, l0, qn_add, pk_mul, n_le, n_lt, n_eq, n_sM, n_Ms, n_Mlt, n_Mle, n_ltM, n_leM, ↓reduceIte, eq_self, if_pos, if_neg, qx, p0_0, p0_1, p0_2, p0_3, p2_0, p4_0, p4_1, p4_2, p4_3, p4_4, p4_5, p8_1, p8_5, p8_6, p8_7, p14_0, p14_4, p14_5, p18_1, p18_2, p51_4, p51_5, p51_8, p51_9, p51_10, p51_11, p51_12, p51_14, r3, w3, r6, w6, r7, w7, r9, w9, r10, w10, r11, w11, r12, w12, r15, w15, r16, w16, r17, w17, r19, w19, r20, w20, r53, w53, r54, w54, r55, w55, r56, w56, r57, w57, r58, w58, r59, w59, r60, w60, a1, a5, pt2, rt2, wt2, pt3, rt3, wt3, pt4, rt4, wt4, pt5, rt5, wt5, pm2, rm2, wm2, pm3, rm3, wm3, pm4, rm4, wm4, pm5, rm5, wm5, l1, l2, l3, l5, l6, l7, l8, l10, l11, l12, l31, l36, l63, l100, l1000, l1440, l1000000, l16777216, qn_sub, e2, e1]
        · by_cases e : i = a
          · subst e; exact hle
          · have := hs i a (by omega) (by omega); omega
      · refine ⟨.inl (nI a, qup J 59 (a + 1) (nI (f a))), ?_, a, _, by omega, rfl, fun i hi => by rw [qup_off (by omega)]; exact g1 i (by omega), fun i h1 h2 => ?_, fun b hb => by rw [qup_ne _ _ _ hb]; exact g3 b hb⟩
        · show cX6_insertMinute_5 N R 51 (nI x) (nI (a + 1)) J = _
          unfold cX6_insertMinute_5
          simp (disch := first | assumption | omega) only [obs, qle, ↓lm1, l0, qn_add, pk_mul, n_le, n_lt, n_eq, n_sM, n_Ms, n_Mlt, n_Mle, n_ltM, n_leM, ↓reduceIte, eq_self, if_pos, if_neg, qx, p0_0, p0_1, p0_2, p0_3, p2_0, p4_0, p4_1, p4_2, p4_3, p4_4, p4_5, p8_1, p8_5, p8_6, p8_7, p14_0, p14_4, p14_5, p18_1, p18_2, p51_4, p51_5, p51_8, p51_9, p51_10, p51_11, p51_12, p51_14, r3, w3, r6, w6, r7, w7, r9, w9, r10, w10, r11, w11, r12, w12, r15, w15, r16, w16, r17, w17, r19, w19, r20, w20, r53, w53, r54, w54, r55, w55, r56, w56, r57, w57, r58, w58, r59, w59, r60, w60, a1, a5, pt2, rt2, wt2, pt3, rt3, wt3, pt4, rt4, wt4, pt5, rt5, wt5, pm2, rm2, wm2, pm3, rm3, wm3, pm4, rm4, wm4, pm5, rm5, wm5, l1, l2, l3, l5, l6, l7, l8, l10, l11, l12, l31, l36, l63, l100, l1000, l1440, l1000000, l16777216, qn_sub, e2, e1, n_dec]
        · by_cases e : i = a
          · subst e; exact ⟨qup_on, by omega⟩
          · rw [qup_off (by omega)]; exact g2 i (by omega) h2
    · obtain ⟨at1, J, g0, rfl, g1, g2, g3⟩ := hq
      obtain rfl : at1 = 0 := by omega
      refine ⟨.inr (nI 0, J), ?_, 0, J, rfl, by omega, g1, g2, fun i hi => by omega, g3⟩
      show cX6_insertMinute_5 N R 51 (nI x) (nI 0) J = _
      unfold cX6_insertMinute_5
      simp (disch := first | assumption | omega) only [obs, qle, ↓lm1, l0, qn_add, pk_mul, n_le, n_lt, n_eq, n_sM, n_Ms, n_Mlt, n_Mle, n_ltM, n_leM, ↓reduceIte, eq_self, if_pos, if_neg, qx, p0_0, p0_1, p0_2, p0_3, p2_0, p4_0, p4_1, p4_2, p4_3, p4_4, p4_5, p8_1, p8_5, p8_6, p8_7, p14_0, p14_4, p14_5, p18_1, p18_2, p51_4, p51_5, p51_8, p51_9, p51_10, p51_11, p51_12, p51_14, r3, w3, r6, w6, r7, w7, r9, w9, r10, w10, r11, w11, r12, w12, r15, w15, r16, w16, r17, w17, r19, w19, r20, w20, r53, w53, r54, w54, r55, w55, r56, w56, r57, w57, r58, w58, r59, w59, r60, w60, a1, a5, pt2, rt2, wt2, pt3, rt3, wt3, pt4, rt4, wt4, pt5, rt5, wt5, pm2, rm2, wm2, pm3, rm3, wm3, pm4, rm4, wm4, pm5, rm5, wm5, l1, l2, l3, l5, l6, l7, l8, l10, l11, l12, l31, l36, l63, l100, l1000, l1440, l1000000, l16777216]
  · obtain ⟨at1, J, rfl, g0, g1, g2, g3, g4⟩ := hq
    simp only
    refine ok_bindv (p51_12 hL) (ok_bindv (w59 hL (by omega)) (ok_let (ok_some ⟨fun i => if i < at1 then f i else if i = at1 then x else f (i - 1), ?_, fun k hk => ?_, fun i j hij hj => ?_, ⟨at1, by omega, by show (if at1 < at1 then f at1 else if at1 = at1 then x else f (at1 - 1)) = x; rw [if_neg (by omega), if_pos rfl]⟩, fun i hi => ?_, fun a h1 h2 => by rw [qup_ne _ _ _ h2, qup_ne _ _ _ h1]; exact g4 a h1, fun j hj => by rw [qup_off (by omega), qup_off (by omega), g4 51 (by omega)]⟩)))
    · rw [qup_on, qup_off (by omega), g4 51 (by omega), h13, nI_1]
    · rw [qup_off (by omega)]
      show _ = nI (if k < at1 then f k else if k = at1 then x else f (k - 1)) ∧ ((if k < at1 then f k else if k = at1 then x else f (k - 1)) = x ∨ ∃ i, i < c ∧ (if k < at1 then f k else if k = at1 then x else f (k - 1)) = f i)
      by_cases c1 : k < at1
      · rw [if_pos c1, qup_off (by omega)]
        exact ⟨g1 k c1, Or.inr ⟨k, by omega, rfl⟩⟩
      · rw [if_neg c1]
        by_cases c2 : k = at1
        · subst c2
          rw [if_pos rfl]
          exact ⟨qup_on, Or.inl rfl⟩
        · rw [if_neg c2, qup_off (by omega)]
          have := (g2 (k - 1) (by omega) (by omega)).1
          rw [show k - 1 + 1 = k by omega] at this
          exact ⟨this, Or.inr ⟨k - 1, by omega, rfl⟩⟩
    · show (if i < at1 then f i else if i = at1 then x else f (i - 1)) ≤ (if j < at1 then f j else if j = at1 then x else f (j - 1))
      by_cases c1 : i < at1
      · rw [if_pos c1]
        have := g3 i c1
        by_cases d1 : j < at1
        · rw [if_pos d1]; exact hs i j hij (by omega)
        · rw [if_neg d1]
          by_cases d2 : j = at1
          · rw [if_pos d2]; exact this
          · rw [if_neg d2]
            have := (g2 (j - 1) (by omega) (by omega)).2
            omega
      · rw [if_neg c1, if_neg (show ¬ j < at1 by omega), if_neg (show ¬ j = at1 by omega)]
        by_cases c2 : i = at1
        · rw [if_pos c2]
          have := (g2 (j - 1) (by omega) (by omega)).2
          omega
        · rw [if_neg c2]
          exact hs (i - 1) (j - 1) (by omega) (by omega)
    · by_cases c1 : i < at1
      · exact ⟨i, by omega, by show (if i < at1 then f i else if i = at1 then x else f (i - 1)) = f i; rw [if_pos c1]⟩
      · exact ⟨i + 1, by omega, by show (if i + 1 < at1 then f (i + 1) else if i + 1 = at1 then x else f (i + 1 - 1)) = f i; rw [if_neg (by omega), if_neg (by omega), Nat.add_sub_cancel]⟩
theorem collect_ok {I : qI} (hN : 300000 ≤ N) (hL : LR R) (w : wb n NS ST CT GT (rD n day D) W F) (hF : FPx R I n NS ST CT GT D W day) : ok (fX6_collectMinutes N R I 51 (nI F)) (fun J => ∃ (c : Nat) (f : Nat → Nat), c ≤ n ∧ J 51 13 = nI c ∧ (∀ k, k < c → J 59 k = nI (f k) ∧ f k < 1440) ∧ (∀ i j, i < j → j < c → f i ≤ f j) ∧ (∀ k, k < c → Dp n NS ST GT D F day (f k)) ∧ (∀ m, Dp n NS ST GT D F day m → ∃ k, k < c ∧ f k = m) ∧ (∀ a, a ≠ 59 → a ≠ 51 → J a = I a) ∧ ∀ j, j ≠ 13 → J 51 j = I 51 j) := by
  have hn10 := w.1
  have hF12 := w.2.2.1
  unfold fX6_collectMinutes
  rw [l0]
  refine ok_let (ok_bind (ok_mono (P := fun J => ∃ (c : Nat) (f : Nat → Nat), c ≤ n ∧ J 51 13 = nI c ∧ (∀ k, k < c → J 59 k = nI (f k) ∧ f k < 1440) ∧ (∀ i j, i < j → j < c → f i ≤ f j) ∧ (∀ k, k < c → Dp n NS ST GT D F day (f k)) ∧ (∀ m, Dp n NS ST GT D F day m → ∃ k, k < c ∧ f k = m) ∧ (∀ a, a ≠ 59 → a ≠ 51 → J a = I a) ∧ ∀ j, j ≠ 13 → J 51 j = I 51 j) ?_ (fun r hr => ok_some hr)))
  refine ok_for (fun t q => ∃ (J : qI) (c : Nat) (f : Nat → Nat), q = (nI t, J) ∧ c ≤ t ∧ J 51 13 = nI c ∧ (∀ k, k < c → J 59 k = nI (f k) ∧ f k < 1440) ∧ (∀ i j, i < j → j < c → f i ≤ f j) ∧ (∀ k, k < c → Dp n NS ST GT D F day (f k)) ∧ (∀ u i, u < t → rD n day D u → i < NS u → ST u i = F → ∃ k, k < c ∧ f k = GT u i) ∧ (∀ a, a ≠ 59 → a ≠ 51 → J a = I a) ∧ ∀ j, j ≠ 13 → J 51 j = I 51 j) n (by omega) ⟨_, 0, fun _ => 0, rfl, by omega, qup_on, fun k hk => by omega, fun i j _ hj => by omega, fun k hk => by omega, fun u i hu => by omega, fun a _ h2 => qup_ne _ _ _ h2, fun j hj => qup_off (Or.inr hj)⟩ (fun t q ht hq => ?_) (fun q hq => ?_)
  · obtain ⟨J, c, f, rfl, g0, g1, g2, g3, g4, g5, g6, g7⟩ := hq
    have hFJ : FPx R J n NS ST CT GT D W day := hF.congr hn10 (fun a ha => g6 a (by omega) (by omega)) (g7 1 (by omega)) (g7 2 (by omega)) (g7 3 (by omega))
    obtain ⟨p0, p1, p2, p3, p4, p5, p6⟩ := id hFJ
    obtain ⟨z1, z2, z3, z4, z5, z6⟩ := p5 t (by omega)
    have ht10 : t < 10 := by omega
    have skip : (∀ i, i < NS t → ST t i = F → ¬ rD n day D t) → ok (some (Sum.inl (nI t + 1, J)) : Option ((Int32 × qI) ⊕ qI)) (fun x => match x with
      | .inl s' => ∃ (J : qI) (c : Nat) (f : Nat → Nat), s' = (nI (t + 1), J) ∧ c ≤ t + 1 ∧ J 51 13 = nI c ∧ (∀ k, k < c → J 59 k = nI (f k) ∧ f k < 1440) ∧ (∀ i j, i < j → j < c → f i ≤ f j) ∧ (∀ k, k < c → Dp n NS ST GT D F day (f k)) ∧ (∀ u i, u < t + 1 → rD n day D u → i < NS u → ST u i = F → ∃ k, k < c ∧ f k = GT u i) ∧ (∀ a, a ≠ 59 → a ≠ 51 → J a = I a) ∧ ∀ j, j ≠ 13 → J 51 j = I 51 j
      | .inr J => ∃ (c : Nat) (f : Nat → Nat), c ≤ n ∧ J 51 13 = nI c ∧ (∀ k, k < c → J 59 k = nI (f k) ∧ f k < 1440) ∧ (∀ i j, i < j → j < c → f i ≤ f j) ∧ (∀ k, k < c → Dp n NS ST GT D F day (f k)) ∧ (∀ m, Dp n NS ST GT D F day m → ∃ k, k < c ∧ f k = m) ∧ (∀ a, a ≠ 59 → a ≠ 51 → J a = I a) ∧ ∀ j, j ≠ 13 → J 51 j = I 51 j) := by
      intro hno
      refine ok_some ⟨J, c, f, by rw [nI_1], by omega, g1, g2, g3, g4, fun u i hu hru hi hs => ?_, g6, g7⟩
      by_cases e : u = t
      · subst e; exact absurd hru (hno i hi hs)
      · exact g5 u i (by omega) hru hi hs
    show ok (cX6_collectMinutes_7 N R 51 (nI F) (nI t) J) _
    unfold cX6_collectMinutes_7
    rw [p1, p2, if_neg (show ¬ nI n ≤ nI t by rw [n_le (by omega) (by omega)]; omega)]
    refine ok_bindv p0 (ok_bindv (a1 hL ht10) (ok_bindv (pt5 hL ht10) (ok_bindv (rt5 hL ht10 hF12) ?_)))
    by_cases hex : ∃ i, i < NS t ∧ ST t i = F
    · obtain ⟨i, hi, hs⟩ := hex
      have e5 : J (61 + 5 * t + 4) F = nI i := by rw [← hs]; exact (z4 i hi).2.2.2.2.2
      rw [e5, if_neg (show ¬ nI i = -1 by rw [lm1, n_sM (by omega)]; exact fun q => q)]
      by_cases hr : (D t).testBit day = true
      · refine ok_bindv (runs5_t (p6 t ht).1 p4 hr) ?_
        rw [if_neg (show ¬ nI 1 = 0 by decide)]
        have hg := (z4 i hi).2.2.2.2.1
        refine ok_bindv (pt4 hL ht10) (ok_bindv (rt4 hL ht10 (by omega)) ?_)
        rw [(z4 i hi).2.2.1.2]
        refine ok_bind (ok_mono (insert_ok (N := N) (f := f) hN hL (by omega) g1 g2 g3 hg) (fun K hK => ?_))
        obtain ⟨g, k1, k2, k3, k4, k5, k6, k7⟩ := hK
        have hDt : Dp n NS ST GT D F day (GT t i) := ⟨t, i, ⟨ht, hr⟩, hi, hs, rfl⟩
        refine ok_some ⟨K, c + 1, g, by rw [nI_1], by omega, k1, fun k hk => ⟨(k2 k hk).1, ?_⟩, k3, fun k hk => ?_, fun u j hu hru hj hsj => ?_, fun a h1 h2 => (k6 a h1 h2).trans (g6 a h1 h2), fun j hj => (k7 j hj).trans (g7 j hj)⟩
        · rcases (k2 k hk).2 with q | ⟨j, q1, q2⟩
          · omega
          · have := (g2 j q1).2; omega
        · rcases (k2 k hk).2 with q | ⟨j, q1, q2⟩
          · rw [q]; exact hDt
          · rw [q2]; exact g4 j q1
        · by_cases e : u = t
          · subst e
            have : j = i := (w.2.2.2.2 u ht).2.2.2 j i hj hi (by omega)
            rw [this]
            exact k4
          · obtain ⟨k, q1, q2⟩ := g5 u j (by omega) hru hj hsj
            obtain ⟨k', q3, q4⟩ := k5 k q1
            exact ⟨k', q3, by omega⟩
      · refine ok_bindv (runs5_f (p6 t ht).1 p4 hr) ?_
        rw [if_pos (show nI 0 = 0 by decide)]
        exact ok_mono (skip (fun _ _ _ q => hr q.2)) (fun r hr => by cases r <;> exact hr)
    · have e5 : J (61 + 5 * t + 4) F = nM := z6 F hF12 (fun i hi hs => hex ⟨i, hi, hs⟩)
      rw [e5, if_pos (show nM = -1 by rw [lm1])]
      exact ok_mono (skip (fun i hi hs _ => hex ⟨i, hi, hs⟩)) (fun r hr => by cases r <;> exact hr)
  · obtain ⟨J, c, f, rfl, g0, g1, g2, g3, g4, g5, g6, g7⟩ := hq
    have e1 : J 51 1 = nI n := by rw [g7 1 (by omega)]; exact hF.2.1
    refine ⟨.inr J, ?_, c, f, g0, g1, g2, g3, g4, fun m ⟨t, i, h1, h2, h3, h4⟩ => ?_, g6, g7⟩
    · show cX6_collectMinutes_7 N R 51 (nI F) (nI n) J = _
      unfold cX6_collectMinutes_7
      simp (disch := first | assumption | omega) only [obs, qle, ↓lm1, l0, qn_add, pk_mul, n_le, n_lt, n_eq, n_sM, n_Ms, n_Mlt, n_Mle, n_ltM, n_leM, ↓reduceIte, eq_self, if_pos, if_neg, qx, p0_0, p0_1, p0_2, p0_3, p2_0, p4_0, p4_1, p4_2, p4_3, p4_4, p4_5, p8_1, p8_5, p8_6, p8_7, p14_0, p14_4, p14_5, p18_1, p18_2, p51_4, p51_5, p51_8, p51_9, p51_10, p51_11, p51_12, p51_14, r3, w3, r6, w6, r7, w7, r9, w9, r10, w10, r11, w11, r12, w12, r15, w15, r16, w16, r17, w17, r19, w19, r20, w20, r53, w53, r54, w54, r55, w55, r56, w56, r57, w57, r58, w58, r59, w59, r60, w60, a1, a5, pt2, rt2, wt2, pt3, rt3, wt3, pt4, rt4, wt4, pt5, rt5, wt5, pm2, rm2, wm2, pm3, rm3, wm3, pm4, rm4, wm4, pm5, rm5, wm5, l1, l2, l3, l5, l6, l7, l8, l10, l11, l12, l31, l36, l63, l100, l1000, l1440, l1000000, l16777216, e1]
    · obtain ⟨k, q1, q2⟩ := g5 t i h1.1 h1 h2 h3
      exact ⟨k, q1, by omega⟩
end DEP
