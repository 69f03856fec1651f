/-! SHIFT AND ABOUT -/
theorem l64 {x y : Int32} : (x.toInt64 + y.toInt64).toInt = x.toInt + y.toInt := by
  have h1 := irng x
  have h2 := irng y
  rw [Int64.toInt_add, Int32.toInt_toInt64, Int32.toInt_toInt64]
  exact Int.bmod_eq_of_le (by omega) (by omega)
theorem mono_c {I : qI} {t : Nat} (h : tOk I t) : ∀ i j : Nat, i ≤ j → (j : Int) < (I 113 t).toInt → (I 115 (7 * t + i)).toInt ≤ (I 115 (7 * t + j)).toInt ∧ (I 116 (7 * t + i)).toInt ≤ (I 116 (7 * t + j)).toInt := by
  obtain ⟨k1, k2, k3, k4, k5, k6, k7, k8⟩ := h
  intro i j hij
  induction j with
  | zero =>
    intro hj
    rw [show i = 0 by omega]
    exact ⟨Int.le_refl _, Int.le_refl _⟩
  | succ j ih =>
    intro hj
    by_cases hi : i = j + 1
    · rw [hi]; exact ⟨Int.le_refl _, Int.le_refl _⟩
    · have h1 := ih (by omega) (by omega)
      have h2 := k6 j (by omega)
      have h3 := k5 j (by omega)
      have h4 := k5 (j + 1) (by omega)
      omega
theorem move_ok {R : qR} {I : qI} (hL : LR R) {t k N : Nat} {p : Int32} (ht : t < 10) (hk1 : I (61 + 5 * t) 1 = I 113 t) (hk : (I 113 t).toInt = k) (hk7 : k ≤ 7) (hN : 8 < N) :
    ok (fX5_move N R I (61 + 5 * t) p) (fun I1 => (∀ b j, ¬ ((b = 61 + 5 * t + 2 ∨ b = 61 + 5 * t + 3) ∧ j < k) → I1 b j = I b j) ∧ ∀ j, j < k → I1 (61 + 5 * t + 2) j = I (61 + 5 * t + 2) j + p ∧ I1 (61 + 5 * t + 3) j = I (61 + 5 * t + 3) j + p) := by
  unfold fX5_move
  refine ok_bind (ok_loop (fun s : Int32 × qI => 0 ≤ s.1.toInt ∧ s.1.toInt ≤ (k : Int) ∧ (∀ b j : Nat, ¬ ((b = 61 + 5 * t + 2 ∨ b = 61 + 5 * t + 3) ∧ (j : Int) < s.1.toInt) → s.2 b j = I b j) ∧ ∀ j : Nat, (j : Int) < s.1.toInt → s.2 (61 + 5 * t + 2) j = I (61 + 5 * t + 2) j + p ∧ s.2 (61 + 5 * t + 3) j = I (61 + 5 * t + 3) j + p) (fun s => (8 - s.1.toInt).toNat) ⟨by show 0 ≤ (0 : Int32).toInt; rw [i0]; omega, by show (0 : Int32).toInt ≤ _; rw [i0]; omega, fun b j _ => rfl, fun j hj => by have : (j : Int) < (0 : Int32).toInt := hj; rw [i0] at this; omega⟩ (by show (8 - (0 : Int32).toInt).toNat < N; rw [i0]; exact hN) (fun s hs => ?_))
  obtain ⟨v, J⟩ := s
  obtain ⟨v1, v2, v3, v4⟩ := hs
  dsimp only at v1 v2 v3 v4
  show ok (cX5_move_2 N R (61 + 5 * t) p v J) _
  unfold cX5_move_2
  have hJ1 : J (61 + 5 * t) 1 = I 113 t := by rw [v3 _ _ (by omega), hk1]
  refine ok_if (fun c => ?_) (fun c => ?_)
  · rw [ile, hJ1, hk] at c
    refine ok_some (ok_some ⟨fun b j hb => v3 b j (by omega), fun j hj => v4 j (by omega)⟩)
  · rw [ile, hJ1, hk] at c
    rw [hL.t3 ht, hL.t4 ht]
    refine ok_bindv rfl (ok_bindv (qrd_t (hL.tl2 ht) v1 (by omega)) (ok_bindv (qwr_t (hL.tl2 ht) v1 (by omega)) (ok_bindv rfl (ok_bindv (qrd_t (hL.tl3 ht) v1 (by omega)) (ok_bindv (qwr_t (hL.tl3 ht) v1 (by omega)) (ok_some ?_))))))
    have ev : (v + 1).toInt = v.toInt + 1 := by rw [ia (by rw [i1]; omega) (by rw [i1]; omega), i1]
    refine ⟨⟨by show 0 ≤ (v + 1).toInt; omega, by show (v + 1).toInt ≤ _; omega, fun b j hb => ?_, fun j hj => ?_⟩, by show (8 - (v + 1).toInt).toNat < (8 - v.toInt).toNat; omega⟩
    · dsimp only at hb ⊢
      rw [qup_off (by omega), qup_off (by omega), v3 b j (by omega)]
    · dsimp only at hj ⊢
      by_cases hjv : (j : Int) < v.toInt
      · rw [qup_off (by omega), qup_off (by omega), qup_off (by omega), qup_off (by omega)]
        exact v4 j hjv
      · have hjn : j = v.toInt.toNat := by omega
        subst hjn
        rw [qup_off (by omega), qup_on, v3 _ _ (by omega), qup_on, qup_off (by omega), v3 _ _ (by omega)]
        exact ⟨rfl, rfl⟩
theorem move8_ok {R : qR} {I : qI} (hL : LR R) {t k N : Nat} {x p : Int32} (ht : t < 10) (hx : x.toInt = t) (hk : (I 113 t).toInt = k) (hk7 : k ≤ 7) (hN : 8 < N) :
    ok (qloop (fun s => cX8_shift_104 N R 111 x p s.1 s.2) N ((0 : Int32), I)) (fun I1 => (∀ b j, ¬ ((b = 115 ∨ b = 116) ∧ 7 * t ≤ j ∧ j < 7 * t + k) → I1 b j = I b j) ∧ ∀ j, j < k → I1 115 (7 * t + j) = I 115 (7 * t + j) + p ∧ I1 116 (7 * t + j) = I 116 (7 * t + j) + p) := by
  refine ok_loop (fun s : Int32 × qI => 0 ≤ s.1.toInt ∧ s.1.toInt ≤ (k : Int) ∧ (∀ b j : Nat, ¬ ((b = 115 ∨ b = 116) ∧ 7 * t ≤ j ∧ (j : Int) < 7 * t + s.1.toInt) → s.2 b j = I b j) ∧ ∀ j : Nat, (j : Int) < s.1.toInt → s.2 115 (7 * t + j) = I 115 (7 * t + j) + p ∧ s.2 116 (7 * t + j) = I 116 (7 * t + j) + p) (fun s => (8 - s.1.toInt).toNat) ⟨by show 0 ≤ (0 : Int32).toInt; rw [i0]; omega, by show (0 : Int32).toInt ≤ _; rw [i0]; omega, fun b j _ => rfl, fun j hj => by have : (j : Int) < (0 : Int32).toInt := hj; rw [i0] at this; omega⟩ (by show (8 - (0 : Int32).toInt).toNat < N; rw [i0]; exact hN) (fun s hs => ?_)
  obtain ⟨v, J⟩ := s
  obtain ⟨v1, v2, v3, v4⟩ := hs
  dsimp only at v1 v2 v3 v4
  show ok (cX8_shift_104 N R 111 x p v J) _
  unfold cX8_shift_104
  have hJ1 : J 113 t = I 113 t := v3 _ _ (by omega)
  have e7 : ((7 : Int32) * x).toInt = 7 * t := by rw [imu (by rw [i7]; omega) (by rw [i7]; omega), i7, hx]
  rw [hL.p 111 4 rfl]
  refine ok_bindv rfl (ok_bindv (qrd_t (hL.l 113 rfl) (by omega) (by omega)) ?_)
  rw [hx, Int.toNat_natCast, hJ1]
  refine ok_if (fun c => ?_) (fun c => ?_)
  · rw [ile, hk] at c
    exact ok_some ⟨fun b j hb => v3 b j (by omega), fun j hj => v4 j (by omega)⟩
  · rw [ile, hk] at c
    have e8 : ((7 : Int32) * x + v).toInt = 7 * t + v.toInt := by rw [ia (by omega) (by omega), e7]
    have e8n : ((7 : Int32) * x + v).toInt.toNat = 7 * t + v.toInt.toNat := by omega
    rw [hL.p 111 6 rfl, hL.p 111 7 rfl]
    refine ok_bindv rfl (ok_bindv (qrd_t (hL.l 115 rfl) (by omega) (by omega)) (ok_bindv (qwr_t (hL.l 115 rfl) (by omega) (by omega)) (ok_bindv rfl (ok_bindv (qrd_t (hL.l 116 rfl) (by omega) (by omega)) (ok_bindv (qwr_t (hL.l 116 rfl) (by omega) (by omega)) (ok_some ?_))))))
    rw [e8n]
    have ev : (v + 1).toInt = v.toInt + 1 := by rw [ia (by rw [i1]; omega) (by rw [i1]; omega), i1]
    refine ⟨⟨by show 0 ≤ (v + 1).toInt; omega, by show (v + 1).toInt ≤ _; omega, fun b j hb => ?_, fun j hj => ?_⟩, by show (8 - (v + 1).toInt).toNat < (8 - v.toInt).toNat; omega⟩
    · dsimp only at hb ⊢
      rw [qup_off (by omega), qup_off (by omega), v3 b j (by omega)]
    · dsimp only at hj ⊢
      by_cases hjv : (j : Int) < v.toInt
      · rw [qup_off (by omega), qup_off (by omega), qup_off (by omega), qup_off (by omega)]
        exact v4 j hjv
      · have hjn : j = v.toInt.toNat := by omega
        subst hjn
        rw [qup_off (by omega), qup_on, v3 _ _ (by omega), qup_on, qup_off (by omega), v3 _ _ (by omega)]
        exact ⟨rfl, rfl⟩
/-- all stops would be within the day -/
def shiftC (I : qI) (t k : Nat) (p : Int32) : Prop := ∀ i, i < k → 0 ≤ (I 115 (7 * t + i)).toInt + p.toInt ∧ (I 116 (7 * t + i)).toInt + p.toInt < 1440
theorem test8_ok {R : qR} {I : qI} (hL : LR R) {t k N : Nat} {x p : Int32} (ht : t < 10) (hx : x.toInt = t) (k3 : k ≤ 7) (k5 : ∀ i : Nat, i < k → 0 ≤ (I 115 (7 * t + i)).toInt ∧ (I 115 (7 * t + i)).toInt ≤ (I 116 (7 * t + i)).toInt ∧ (I 116 (7 * t + i)).toInt < 1440) (hk : (I 113 t).toInt = k) (hp : -1440 ≤ p.toInt ∧ p.toInt ≤ 1440) (hN : 8 < N) :
    ok (qloop (fun s => cX8_shift_44 N R I 111 x p s) N (0 : Int32)) (fun o => match o with | .inl _ => shiftC I t k p | .inr q => ¬ shiftC I t k p ∧ q = (0, I)) := by
  refine ok_loop (fun v : Int32 => 0 ≤ v.toInt ∧ v.toInt ≤ (k : Int) ∧ ∀ i : Nat, (i : Int) < v.toInt → 0 ≤ (I 115 (7 * t + i)).toInt + p.toInt ∧ (I 116 (7 * t + i)).toInt + p.toInt < 1440) (fun v => (8 - v.toInt).toNat) ⟨by rw [i0]; omega, by rw [i0]; omega, fun i hi => by rw [i0] at hi; omega⟩ (by rw [i0]; exact hN) (fun v hv => ?_)
  obtain ⟨v1, v2, v3⟩ := hv
  unfold cX8_shift_44
  have e7 : ((7 : Int32) * x).toInt = 7 * t := by rw [imu (by rw [i7]; omega) (by rw [i7]; omega), i7, hx]
  rw [hL.p 111 4 rfl]
  refine ok_bindv rfl (ok_bindv (qrd_t (hL.l 113 rfl) (by omega) (by omega)) ?_)
  rw [hx, Int.toNat_natCast]
  refine ok_if (fun c => ?_) (fun c => ?_)
  · rw [ile, hk] at c
    exact ok_some (fun i hi => v3 i (by omega))
  · rw [ile, hk] at c
    have e8 : ((7 : Int32) * x + v).toInt = 7 * t + v.toInt := by rw [ia (by omega) (by omega), e7]
    have e8n : ((7 : Int32) * x + v).toInt.toNat = 7 * t + v.toInt.toNat := by omega
    have q5 := k5 v.toInt.toNat (by omega)
    rw [hL.p 111 6 rfl, hL.p 111 7 rfl]
    refine ok_bindv rfl (ok_bindv (qrd_t (hL.l 115 rfl) (by omega) (by omega)) ?_)
    rw [e8n, isMinute8, ia (by omega) (by omega)]
    refine ok_bindv rfl ?_
    by_cases c1 : 0 ≤ (I 115 (7 * t + v.toInt.toNat)).toInt + p.toInt ∧ (I 115 (7 * t + v.toInt.toNat)).toInt + p.toInt < 1440
    · rw [if_pos c1, if_neg (by decide)]
      refine ok_bindv rfl (ok_bindv (qrd_t (hL.l 116 rfl) (by omega) (by omega)) ?_)
      rw [e8n, isMinute8, ia (by omega) (by omega)]
      refine ok_bindv rfl ?_
      by_cases c2 : 0 ≤ (I 116 (7 * t + v.toInt.toNat)).toInt + p.toInt ∧ (I 116 (7 * t + v.toInt.toNat)).toInt + p.toInt < 1440
      · rw [if_pos c2, if_neg (by decide)]
        have ev : (v + 1).toInt = v.toInt + 1 := by rw [ia (by rw [i1]; omega) (by rw [i1]; omega), i1]
        refine ok_some ⟨⟨by omega, by omega, fun i hi => ?_⟩, by show (8 - (v + 1).toInt).toNat < (8 - v.toInt).toNat; omega⟩
        by_cases hiv : (i : Int) < v.toInt
        · exact v3 i hiv
        · rw [show i = v.toInt.toNat by omega]; exact ⟨c1.1, c2.2⟩
      · rw [if_neg c2]
        refine ok_some ⟨fun hC => ?_, rfl⟩
        have := hC v.toInt.toNat (by omega)
        omega
    · rw [if_neg c1]
      refine ok_some ⟨fun hC => ?_, rfl⟩
      have := hC v.toInt.toNat (by omega)
      omega
theorem stays_eq {R : qR} {I : qI} (hL : LR R) {t k : Nat} {p : Int32} (ht : t < 10) (h : tOk I t) (hk : (I 113 t).toInt = k) (dc : Decidable (shiftC I t k p)) : fX5_staysInDay R I (61 + 5 * t) p = some (if shiftC I t k p then 1 else 0) := by
  have hm := mono_c h
  obtain ⟨k1, k2, k3, k4, k5, k6, k7, k8⟩ := h
  rw [hk] at k3 k4 k5 hm
  unfold fX5_staysInDay
  rw [k1]
  by_cases h0 : k = 0
  · rw [if_pos (by rw [ieq, i0]; omega), if_pos (show shiftC I t k p from fun i hi => by omega)]
  · have hs1 : (I 113 t - 1).toInt = (k : Int) - 1 := by rw [isu (by rw [i1]; omega) (by rw [i1]; omega), i1, hk]
    rw [if_neg (by rw [ieq, i0]; omega), hL.t3 ht, hL.t4 ht]
    simp only [Option.bind_some]
    rw [qrd_t (hL.tl2 ht) (by rw [i0]; omega) (by rw [i0]; omega)]
    simp only [Option.bind_some]
    rw [qrd_t (hL.tl3 ht) (by omega) (by omega), i0, show (I 113 t - 1).toInt.toNat = k - 1 by omega, show (0 : Int).toNat = 0 from rfl, (k4 0 (by omega)).2.1, (k4 (k - 1) (by omega)).2.2]
    simp only [Option.bind_some]
    have q1 : lg_cmp ((I 115 (7 * t + 0)).toInt64 + p.toInt64) 0 < 0 ↔ (I 115 (7 * t + 0)).toInt + p.toInt < 0 := by
      rw [lg_cmp_lt, Int64.lt_iff_toInt_lt, l64, show (0 : Int64).toInt = 0 by decide]
    have q2 : 0 ≤ lg_cmp ((I 116 (7 * t + (k - 1))).toInt64 + p.toInt64) 1440 ↔ 1440 ≤ (I 116 (7 * t + (k - 1))).toInt + p.toInt := by
      rw [lg_cmp_ge, Int64.le_iff_toInt_le, l64, show (1440 : Int64).toInt = 1440 by decide]
    have hC : shiftC I t k p ↔ 0 ≤ (I 115 (7 * t + 0)).toInt + p.toInt ∧ (I 116 (7 * t + (k - 1))).toInt + p.toInt < 1440 := by
      constructor
      · intro hC
        exact ⟨(hC 0 (by omega)).1, (hC (k - 1) (by omega)).2⟩
      · intro hC i hi
        have m1 := (hm 0 i (by omega) (by omega)).1
        have m2 := (hm i (k - 1) (by omega) (by omega)).2
        omega
    by_cases c1 : (I 115 (7 * t + 0)).toInt + p.toInt < 0
    · rw [if_pos (q1.mpr c1), if_neg (fun q => by have := hC.mp q; omega)]
    · rw [if_neg (fun q => c1 (q1.mp q))]
      by_cases c2 : 1440 ≤ (I 116 (7 * t + (k - 1))).toInt + p.toInt
      · rw [if_pos (q2.mpr c2), if_neg (fun q => by have := hC.mp q; omega)]
      · rw [if_neg (fun q => c2 (q2.mp q)), if_pos (hC.mpr ⟨by omega, by omega⟩)]
theorem sim_shift {R : qR} {I : qI} {N : Nat} (hN : 8 < N) (hL : LR R) (hB : BookInv I) (hS : SignInv I) (x p : Int32) : Sim (fun I => fX7_shift N R I 0 x p) (fun I => fX8_shift N R I 111 x p) I := by
  by_cases hT : isT I x
  · obtain ⟨t, htt⟩ : ∃ t : Nat, x.toInt = t := ⟨x.toInt.toNat, by have := hT.1; omega⟩
    have htl : (t : Int) < (I 111 1).toInt := by have := hT.2; omega
    have h10 := hB.2.2.2.1
    have ht : t < 10 := by omega
    obtain ⟨k1, k2, k3, k4, k5, k6, k7, k8⟩ := id (hB.tok ht)
    obtain ⟨k, hk⟩ : ∃ k : Nat, (I 113 t).toInt = k := ⟨(I 113 t).toInt.toNat, by omega⟩
    rw [hk] at k3 k4 k5 k6 k7 k8
    have hprop : Decidable (shiftC I t k p) := Classical.propDecidable _
    have hst := stays_eq (p := p) hL ht (hB.tok ht) hk hprop
    by_cases hC : shiftC I t k p
    · rw [if_pos hC] at hst
      obtain ⟨I1, em1, r1, w1⟩ := move_ok (p := p) hL ht k1 hk (by omega) hN
      have ex : fX7_shift N R I 0 x p = some (1, I1) := by
        unfold fX7_shift
        rw [trainOf_yes hL hB hT]
        simp only [Option.bind_some, qopt]
        rw [htt, Int.toNat_natCast, hst]
        simp only [Option.bind_some]
        rw [if_neg (by decide), em1]
        rfl
      generalize hJ : qup I1 111 0 0 = J
      have rJ : ∀ a j, ¬ ((a = 61 + 5 * t + 2 ∨ a = 61 + 5 * t + 3) ∧ j < k) → ¬ (a = 111 ∧ j = 0) → J a j = I a j := fun a j g1 g2 => by rw [← hJ, qup_off (by omega), r1 a j g1]
      have j113 : J 113 t = I 113 t := rJ _ _ (by omega) (by omega)
      by_cases h0 : k = 0
      · refine ⟨1, I1, J, ex, ?_, book_train hB hS htl (fun a j g1 g2 g3 g4 => rJ a j (by omega) (by omega)) ((hB.tok ht).congr7 (fun r j hr => rJ _ _ (by omega) (by omega)) j113 (fun i hi => ⟨rJ _ _ (by omega) (by omega), rJ _ _ (by omega) (by omega), rJ _ _ (by omega) (by omega)⟩)) ?_⟩
        · show fX8_shift N R I1 111 x p = _
          unfold fX8_shift
          simp only [qlet]
          rw [hJ, isTrain_yes (by unfold isT; rw [rJ _ _ (by omega) (by omega)]; exact hT)]
          simp only [Option.bind_some]
          rw [if_neg (by decide), hL.p 111 4 rfl]
          simp only [Option.bind_some]
          rw [qrd_t (hL.l 113 rfl) (by omega) (by omega), htt, Int.toNat_natCast, j113]
          simp only [Option.bind_some]
          rw [if_pos (by rw [ieq, i0]; omega)]
        · rw [rJ _ _ (by omega) (by omega), rJ _ _ (by omega) (by omega)]
          exact hB.day htl
      · have hp : -1440 ≤ p.toInt ∧ p.toInt ≤ 1440 := by
          have q1 := hC 0 (by omega)
          have q2 := k5 0 (by omega)
          omega
        have hJC : shiftC J t k p := fun i hi => by rw [rJ _ _ (by omega) (by omega), rJ _ _ (by omega) (by omega)]; exact hC i hi
        obtain ⟨o, eo, ho⟩ := test8_ok (I := J) (k := k) (p := p) (N := N) hL ht htt (by omega) (fun i hi => by rw [rJ _ _ (by omega) (by omega), rJ _ _ (by omega) (by omega)]; exact (k5 i (by omega)).2.2) (by rw [j113]; exact hk) hp hN
        obtain ⟨I2, e2, r2, w2⟩ := move8_ok (I := J) (x := x) (p := p) (N := N) hL ht htt (by rw [j113]; exact hk) (by omega) hN
        cases o with
        | inr q => exact absurd hJC ho.1
        | inl u =>
          have em : fX8_shift N R I1 111 x p = some (1, I2) := by
            unfold fX8_shift
            simp only [qlet]
            rw [hJ, isTrain_yes (by unfold isT; rw [rJ _ _ (by omega) (by omega)]; exact hT)]
            simp only [Option.bind_some]
            rw [if_neg (by decide), hL.p 111 4 rfl]
            simp only [Option.bind_some]
            rw [qrd_t (hL.l 113 rfl) (by omega) (by omega), htt, Int.toNat_natCast, j113]
            simp only [Option.bind_some]
            rw [if_neg (by rw [ieq, i0]; omega), if_neg (by rw [ilt, show (-1440 : Int32).toInt = -1440 by decide]; omega), if_pos (by rw [ile, i1440]; omega), eo]
            simp only [Option.bind_some, qx]
            rw [e2]
            rfl
          have r3 : ∀ a j, ¬ ((a = 61 + 5 * t + 2 ∨ a = 61 + 5 * t + 3) ∧ j < k) → ¬ (a = 111 ∧ j = 0) → ¬ ((a = 115 ∨ a = 116) ∧ 7 * t ≤ j ∧ j < 7 * t + k) → I2 a j = I a j := fun a j g1 g2 g3 => by rw [r2 a j g3, rJ a j g1 g2]
          have x2 : ∀ j, j < k → I2 (61 + 5 * t + 2) j = I (61 + 5 * t + 2) j + p ∧ I2 (61 + 5 * t + 3) j = I (61 + 5 * t + 3) j + p := fun j hj => by
            rw [r2 _ _ (by omega), r2 _ _ (by omega), ← hJ, qup_off (by omega), qup_off (by omega)]
            exact w1 j hj
          have y2 : ∀ j, j < k → I2 115 (7 * t + j) = I 115 (7 * t + j) + p ∧ I2 116 (7 * t + j) = I 116 (7 * t + j) + p := fun j hj => by
            have := w2 j hj
            rw [rJ _ _ (by omega) (by omega), rJ _ _ (by omega) (by omega)] at this
            exact this
          have z2 : ∀ j, j < k → (I2 115 (7 * t + j)).toInt = (I 115 (7 * t + j)).toInt + p.toInt ∧ (I2 116 (7 * t + j)).toInt = (I 116 (7 * t + j)).toInt + p.toInt := fun j hj => by
            have q5 := k5 j (by omega)
            rw [(y2 j hj).1, (y2 j hj).2, ia (by omega) (by omega), ia (by omega) (by omega)]
            exact ⟨rfl, rfl⟩
          have w113 : I2 113 t = I 113 t := r3 _ _ (by omega) (by omega) (by omega)
          have w114 : ∀ i, I2 114 (7 * t + i) = I 114 (7 * t + i) := fun i => r3 _ _ (by omega) (by omega) (by omega)
          refine ⟨1, I1, I2, ex, em, book_train hB hS htl (fun a j g1 g2 g3 g4 => r3 a j (by omega) (by omega) (by omega)) ⟨?_, ?_, ?_, ?_, ?_, ?_, ?_, ?_⟩ ?_⟩
          · rw [w113, r3 _ _ (by omega) (by omega) (by omega), k1]
          · rw [w113, hk]; omega
          · rw [w113, hk]; omega
          · intro i hi
            rw [w113, hk] at hi
            rw [w114, r3 _ _ (by omega) (by omega) (by omega), (x2 i (by omega)).1, (x2 i (by omega)).2, (y2 i (by omega)).1, (y2 i (by omega)).2, (k4 i hi).2.1, (k4 i hi).2.2]
            exact ⟨(k4 i hi).1, rfl, rfl⟩
          · intro i hi
            rw [w113, hk] at hi
            have q5 := k5 i hi
            have qc := hC i (by omega)
            have qz := z2 i (by omega)
            rw [w114]
            omega
          · intro i hi
            rw [w113, hk] at hi
            have q6 := k6 i hi
            have qz := z2 i (by omega)
            have qz2 := z2 (i + 1) (by omega)
            omega
          · intro i hi
            rw [w113, hk] at hi
            rw [w114, r3 _ _ (by omega) (by omega) (by omega)]
            exact k7 i hi
          · intro u2 hu hn
            rw [w113, hk] at hn
            rw [r3 _ _ (by omega) (by omega) (by omega)]
            exact k8 u2 hu (fun i hi => by rw [← w114]; exact hn i hi)
          · rw [r3 _ _ (by omega) (by omega) (by omega), r3 _ _ (by omega) (by omega) (by omega)]
            exact hB.day htl
    · rw [if_neg hC] at hst
      have hk0 : k ≠ 0 := fun q => hC (fun i hi => by omega)
      refine ⟨0, I, _, ?_, ?_, same_told hB hS 0⟩
      · show fX7_shift N R I 0 x p = _
        unfold fX7_shift
        rw [trainOf_yes hL hB hT]
        simp only [Option.bind_some, qopt]
        rw [htt, Int.toNat_natCast, hst]
        rfl
      · show fX8_shift N R I 111 x p = _
        generalize hJ : qup I 111 0 0 = J
        have rJ : ∀ a j, ¬ (a = 111 ∧ j = 0) → J a j = I a j := fun a j g2 => by rw [← hJ, qup_off (by omega)]
        have j113 : J 113 t = I 113 t := rJ _ _ (by omega)
        unfold fX8_shift
        simp only [qlet]
        rw [hJ, isTrain_yes (by unfold isT; rw [rJ _ _ (by omega)]; exact hT)]
        simp only [Option.bind_some]
        rw [if_neg (by decide), hL.p 111 4 rfl]
        simp only [Option.bind_some]
        rw [qrd_t (hL.l 113 rfl) (by omega) (by omega), htt, Int.toNat_natCast, j113]
        simp only [Option.bind_some]
        rw [if_neg (by rw [ieq, i0]; omega)]
        by_cases c1 : p.toInt < -1440
        · rw [if_pos (by rw [ilt, show (-1440 : Int32).toInt = -1440 by decide]; omega)]
        · rw [if_neg (by rw [ilt, show (-1440 : Int32).toInt = -1440 by decide]; omega)]
          by_cases c2 : p.toInt ≤ 1440
          · rw [if_pos (by rw [ile, i1440]; omega)]
            obtain ⟨o, eo, ho⟩ := test8_ok (I := J) (k := k) (p := p) (N := N) hL ht htt (by omega) (fun i hi => by rw [rJ _ _ (by omega), rJ _ _ (by omega)]; exact (k5 i (by omega)).2.2) (by rw [j113]; exact hk) ⟨by omega, c2⟩ hN
            cases o with
            | inl u => exact absurd (fun i hi => by have := ho i hi; rw [rJ _ _ (by omega), rJ _ _ (by omega)] at this; exact this) hC
            | inr q =>
              rw [eo]
              simp only [Option.bind_some, qx]
              rw [ho.2]
          · rw [if_neg (by rw [ile, i1440]; omega)]
  · refine ⟨0, I, _, ?_, ?_, same_told hB hS 0⟩
    · show fX7_shift N R I 0 x p = _
      unfold fX7_shift
      rw [trainOf_no hB hT]
      rfl
    · show fX8_shift N R I 111 x p = _
      unfold fX8_shift
      simp only [qlet]
      rw [isTrain_no (fun q => hT (isT_told.mp q))]
      rfl
/-- a call that only looks: the same answer on both sides, and 'told' -/
def SimP (fx : qI → Option Int32) (fm : qI → Option (Int32 × qI)) (I : qI) : Prop := ∃ r, fx I = some r ∧ fm I = some (r, qup I 111 0 0)
theorem idv {x y : Int32} (h0 : 0 ≤ x.toInt) (hy : 0 < y.toInt) : (x / y).toInt = x.toInt / y.toInt := by
  have h1 := irng x
  have h2 : 0 ≤ x.toInt / y.toInt := Int.ediv_nonneg h0 (by omega)
  have h3 : x.toInt / y.toInt ≤ x.toInt := Int.ediv_le_self _ h0
  rw [Int32.toInt_div, Int.tdiv_eq_ediv_of_nonneg h0]
  exact Int.bmod_eq_of_le (by omega) (by omega)
theorem sim_about {R : qR} {I : qI} (hL : LR R) (hB : BookInv I) (h9 : I 8 0 = I 111 9) (h10 : I 4 6 = I 111 10) (x : Int32) : SimP (fun I => fX7_about R I 0 x) (fun I => fX8_about R I 111 x) I := by
  generalize hJ : qup I 111 0 0 = J
  have rJ : ∀ a j, ¬ (a = 111 ∧ j = 0) → J a j = I a j := fun a j g2 => by rw [← hJ, qup_off (by omega)]
  unfold SimP
  rw [hJ]
  by_cases hx : x.toInt < 100
  · have hc : ¬ (100 : Int32) ≤ x := by rw [ile, i100]; omega
    have e7 : fX7_about R I 0 x = fX7_aboutBook R I 0 x := by
      unfold fX7_about
      rw [if_neg hc]
      cases fX7_aboutBook R I 0 x <;> rfl
    show ∃ r, fX7_about R I 0 x = some r ∧ fX8_about R I 111 x = some (r, J)
    rw [e7]
    unfold fX7_aboutBook fX8_about
    simp only [qlet]
    rw [hJ]
    by_cases c0 : x = 0
    · rw [if_pos c0, if_pos c0]
      exact ⟨_, rfl, by rw [rJ _ _ (by omega), hB.1]⟩
    · rw [if_neg c0, if_neg c0]
      by_cases c1 : x = 1
      · rw [if_pos c1, if_pos c1]
        exact ⟨_, rfl, by rw [rJ _ _ (by omega), hB.2.1]⟩
      · rw [if_neg c1, if_neg c1]
        by_cases c2 : x = 2
        · rw [if_pos c2, if_pos c2, hL.p 0 2 rfl]
          unfold fX4_rowCount
          simp only [Option.bind_some]
          rw [hL.p 4 3 rfl]
          exact ⟨_, rfl, by rw [rJ _ _ (by omega), h9]⟩
        · rw [if_neg c2, if_neg c2]
          by_cases c3 : x = 3
          · rw [if_pos c3, if_pos c3, hL.p 0 2 rfl]
            unfold fX4_columnCount
            simp only [Option.bind_some]
            exact ⟨_, rfl, by rw [rJ _ _ (by omega), h10]⟩
          · rw [if_neg c3, if_neg c3, if_pos (by rw [ilt, i100]; omega)]
            exact ⟨_, rfl, rfl⟩
  · have hq : (x / 100).toInt = x.toInt / 100 := idv (by omega) (by decide)
    have hxr := irng x
    have hm : (x / 100 * 100).toInt = x.toInt / 100 * 100 := by rw [imu (by rw [hq, i100]; omega) (by rw [hq, i100]; omega), hq, i100]
    have hK : (x - x / 100 * 100).toInt = x.toInt % 100 := by rw [isu (by omega) (by omega), hm]; omega
    have hTi : (x / 100 - 1).toInt = x.toInt / 100 - 1 := by rw [isu (by rw [i1]; omega) (by rw [i1]; omega), i1, hq]
    show ∃ r, fX7_about R I 0 x = some r ∧ fX8_about R I 111 x = some (r, J)
    unfold fX7_about fX8_about
    simp only [qlet]
    rw [hJ, if_pos (by rw [ile, i100]; omega), if_neg (by rw [ieq, i0]; omega), if_neg (by rw [ieq, i1]; omega), if_neg (by rw [ieq, show (2 : Int32).toInt = 2 by decide]; omega), if_neg (by rw [ieq, show (3 : Int32).toInt = 3 by decide]; omega), if_neg (by rw [ilt, i100]; omega)]
    generalize x - x / 100 * 100 = K at hK ⊢
    generalize x / 100 - 1 = T at hTi ⊢
    by_cases hT : isT I T
    · obtain ⟨t, htt⟩ : ∃ t : Nat, T.toInt = t := ⟨T.toInt.toNat, by have := hT.1; omega⟩
      have htl : (t : Int) < (I 111 1).toInt := by have := hT.2; omega
      have hc10 := hB.2.2.2.1
      have ht : t < 10 := by omega
      obtain ⟨k1, k2, k3, k4, k5, k6, k7, k8⟩ := id (hB.tok ht)
      rw [trainOf_yes hL hB hT, isTrain_yes (by unfold isT; rw [rJ _ _ (by omega)]; exact hT)]
      simp only [Option.bind_some, qopt]
      rw [if_neg (by decide), htt, Int.toNat_natCast]
      unfold fX5_read
      have rd : ∀ a, (R.2.1 a).2 = 10 → qrd J R a T = some (J a t) := fun a h => by rw [qrd_t h (by omega) (by omega), htt, Int.toNat_natCast]
      by_cases c0 : K = 0
      · rw [if_pos c0, if_pos c0, hL.p 111 3 rfl]
        simp only [Option.bind_some, rd 112 (hL.l 112 rfl)]
        exact ⟨_, rfl, by rw [rJ _ _ (by omega), (hB.day htl).1]⟩
      · rw [if_neg c0, if_neg c0]
        by_cases c1 : K = 1
        · rw [if_pos c1, if_pos c1, hL.p 111 4 rfl]
          simp only [Option.bind_some, rd 113 (hL.l 113 rfl)]
          exact ⟨_, rfl, by rw [rJ _ _ (by omega), k1]⟩
        · rw [if_neg c1, if_neg c1]
          have q1 : (K / 10).toInt = K.toInt / 10 := idv (by omega) (by decide)
          have q2 : (K / 10 - 1).toInt = K.toInt / 10 - 1 := by rw [isu (by rw [i1]; omega) (by rw [i1]; omega), i1, q1]
          have q3 : (K / 10 * 10).toInt = K.toInt / 10 * 10 := by rw [imu (by rw [q1, i10]; omega) (by rw [q1, i10]; omega), q1, i10]
          have q4 : (K - K / 10 * 10).toInt = K.toInt % 10 := by rw [isu (by omega) (by omega), q3]; omega
          generalize K - K / 10 * 10 = Dd at q4 ⊢
          generalize K / 10 - 1 = Jx at q2 ⊢
          by_cases c2 : K.toInt < 10
          · rw [if_pos (show Jx < 0 by rw [ilt, i0]; omega), if_pos (show K < 10 by rw [ilt, i10]; omega)]
            exact ⟨_, rfl, rfl⟩
          · rw [if_neg (show ¬ Jx < 0 by rw [ilt, i0]; omega), if_neg (show ¬ K < 10 by rw [ilt, i10]; omega), hL.p 111 4 rfl]
            simp only [Option.bind_some, rd 113 (hL.l 113 rfl)]
            rw [rJ _ _ (by omega), k1]
            by_cases c3 : Jx.toInt < (I 113 t).toInt
            · rw [if_pos (show Jx < I 113 t by rw [ilt]; exact c3), if_neg (show ¬ I 113 t ≤ Jx by rw [ile]; omega)]
              have e7 : ((7 : Int32) * T).toInt = 7 * t := by rw [imu (by rw [i7]; omega) (by rw [i7]; omega), i7, htt]
              have e8 : ((7 : Int32) * T + Jx).toInt = 7 * t + Jx.toInt := by rw [ia (by omega) (by omega), e7]
              have e8n : ((7 : Int32) * T + Jx).toInt.toNat = 7 * t + Jx.toInt.toNat := by omega
              have rm : ∀ a, (R.2.1 a).2 = 70 → qrd J R a ((7 : Int32) * T + Jx) = some (J a (7 * t + Jx.toInt.toNat)) := fun a h => by rw [qrd_t h (by omega) (by omega), e8n]
              have rx : ∀ a, (R.2.1 a).2 = 7 → qrd I R a Jx = some (I a Jx.toInt.toNat) := fun a h => qrd_t h (by omega) (by omega)
              have kk := k4 Jx.toInt.toNat (by omega)
              by_cases d0 : Dd = 0
              · rw [if_pos d0, if_pos (show Dd ≤ 2 by rw [ile, d0]; decide), if_pos d0, hL.t2 ht, hL.p 111 5 rfl]
                simp only [Option.bind_some, rm 114 (hL.l 114 rfl), rx _ (hL.tl1 ht)]
                exact ⟨_, rfl, by rw [rJ _ _ (by omega), kk.1]⟩
              · rw [if_neg d0, if_neg d0]
                by_cases d1 : Dd = 1
                · rw [if_pos d1, if_pos (show Dd ≤ 2 by rw [ile, d1]; decide), if_pos d1, hL.t3 ht, hL.p 111 6 rfl]
                  simp only [Option.bind_some, rm 115 (hL.l 115 rfl), rx _ (hL.tl2 ht)]
                  exact ⟨_, rfl, by rw [rJ _ _ (by omega), kk.2.1]⟩
                · rw [if_neg d1, if_neg d1]
                  by_cases d2 : Dd = 2
                  · rw [if_pos d2, if_pos (show Dd ≤ 2 by rw [ile, d2]; decide), hL.t4 ht, hL.p 111 7 rfl]
                    simp only [Option.bind_some, rm 116 (hL.l 116 rfl), rx _ (hL.tl3 ht)]
                    exact ⟨_, rfl, by rw [rJ _ _ (by omega), kk.2.2]⟩
                  · rw [if_neg d2, if_neg (show ¬ Dd ≤ 2 from ?_)]
                    · exact ⟨_, rfl, rfl⟩
                    · rw [ile, show (2 : Int32).toInt = 2 by decide]
                      rw [ieq, i0] at d0
                      rw [ieq, i1] at d1
                      rw [ieq, show (2 : Int32).toInt = 2 by decide] at d2
                      omega
            · rw [if_neg (show ¬ Jx < I 113 t by rw [ilt]; exact c3), if_pos (show I 113 t ≤ Jx by rw [ile]; omega)]
              exact ⟨_, rfl, rfl⟩
    · rw [trainOf_no hB hT, isTrain_no (fun q => hT (by unfold isT at q; rw [rJ _ _ (by omega)] at q; exact q))]
      exact ⟨_, rfl, rfl⟩
