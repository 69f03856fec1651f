def cX8_soonest_3 (N : Nat) (R : qR) (b0 : Nat) (v1 : Int32) (v2 : Int32) (v3 : Int32) (v4 : Int32) (v5 : Int32) (I : qI) : Option ((Int32 × qI) ⊕ (qI)) :=
  if (70 : Int32) ≤ v5 then
    (some (.inr I))
  else
    ((R.1 b0 23).bind fun r2 =>
    (qwz I R r2 v5 (0 : Int32)).bind fun I3 =>
    some (.inl ((v5 + 1), I3)))
set_option maxHeartbeats 4000000 in
set_option maxRecDepth 100000 in
theorem tX8_soonest_3 {l : Launch} {G : qG} {N : Nat} {R : qR} {As : List Value} {rv : Option Value} {I1 : qI} {b0 : Nat} {v1 : Int32} {v2 : Int32} {v3 : Int32} {v4 : Int32} (hW : qWT R) (hb0 : qok R b0 8) {o : qI} (hx : AW (Zm l G mX8_soonest 3 As R rv I1 R) 24 [(0, .ref (G.1 + b0)), (1, .int v1), (2, .int v2), (3, .int v3), (4, .int v4)] [] o R) : ∀ n s, qloop (fun s => cX8_soonest_3 N R b0 v1 v2 v3 v4 s.1 s.2) n s = some o → (match s with | (v5, I) => AW (Zm l G mX8_soonest 3 As R rv I1 R) 3 [(0, .ref (G.1 + b0)), (1, .int v1), (2, .int v2), (3, .int v3), (4, .int v4), (5, .int v5)] [] I R) := by
  apply qloop_ind
  intro s x hF hc he
  obtain ⟨v5, I⟩ := s
  change cX8_soonest_3 N R b0 v1 v2 v3 v4 v5 I = some x at hF
  unfold cX8_soonest_3 at hF
  show AW _ 3 [(0, .ref (G.1 + b0)), (1, .int v1), (2, .int v2), (3, .int v3), (4, .int v4), (5, .int v5)] [] I R
  refine aw_iload dX8_soonest_3 5 rfl ?_
  refine aw_bipush (v := (70 : Int32)) dX8_soonest_5 (by decide) ?_
  refine aw_icmp_ge (tgt := 24) dX8_soonest_7 (by decide) (fun c1 => ?_) (fun c1 => ?_)
  · rw [if_pos c1] at hF
    cases hF
    have hE := he _ rfl
    subst hE
    exact aw_sub [0, 1, 2, 3, 4] rfl hx
  · rw [if_neg c1] at hF
    refine aw_aload_n dX8_soonest_10 0 rfl rfl ?_
    obtain ⟨r2, er2, hF⟩ := qbind hF
    have kr2 : qok R r2 10 := hW.get hb0 er2 rfl
    refine aw_getr fl_X8_66 (by decide) fg_X8_23 hb0 er2 rfl dX8_soonest_11 ?_
    refine aw_iload dX8_soonest_14 5 rfl ?_
    refine aw_iconst (v := (0 : Int32)) dX8_soonest_16 (by decide) ?_
    obtain ⟨I3, eI3, hF⟩ := qbind hF
    refine aw_zastq kr2 eI3 dX8_soonest_17 ?_
    refine aw_iinc (q := 5) (v := (v5 + 1)) (lv' := [(5, .int (v5 + 1)), (0, .ref (G.1 + b0)), (1, .int v1), (2, .int v2), (3, .int v3), (4, .int v4)]) dX8_soonest_18 rfl rfl (Nat.le_of_ble_eq_true rfl) rfl ?_
    refine aw_goto (tgt := 3) dX8_soonest_21 (by decide) ?_
    cases hF
    exact aw_sub [1, 2, 3, 4, 5, 0] rfl (hc ((v5 + 1), I3) rfl)
def cX8_soonest_53 (N : Nat) (R : qR) (b0 : Nat) (v1 : Int32) (v2 : Int32) (v3 : Int32) (v4 : Int32) (v6 : Int32) (v5 : Int32) (v7 : Int32) (v8 : Int32) (I : qI) : Option ((Int32 × Int32 × Int32 × qI) ⊕ (Int32 × qI)) :=
  (R.1 b0 4).bind fun r7 =>
  (qrd I R r7 v6).bind fun x8 =>
  if x8 ≤ v8 then
    (some (.inr (v5, I)))
  else
    ((fX8_runs R I b0 v6 v3).bind fun y10 =>
    if y10 = 0 then
      (some (.inr (v5, I)))
    else
      (if v7 = 0 then
        ((fX8_isBoarded N R I b0 (((7 : Int32) * v6) + v8) v1 v4 v3).bind fun y13 =>
        if y13 = 0 then
          (some (.inl (v5, (0 : Int32), (v8 + 1), I)))
        else
          (some (.inl (v5, (1 : Int32), (v8 + 1), I))))
      else
        ((R.1 b0 23).bind fun r15 =>
        (qrd I R r15 (((7 : Int32) * v6) + v8)).bind fun x16 =>
        if x16 = 0 then
          ((qwz I R r15 (((7 : Int32) * v6) + v8) (1 : Int32)).bind fun I18 =>
          some (.inl ((1 : Int32), (1 : Int32), (v8 + 1), I18)))
        else
          (some (.inl (v5, (1 : Int32), (v8 + 1), I))))))
set_option maxHeartbeats 4000000 in
set_option maxRecDepth 100000 in
theorem tX8_soonest_53 {l : Launch} {G : qG} {N : Nat} {R : qR} {As : List Value} {rv : Option Value} {I1 : qI} {b0 : Nat} {v1 : Int32} {v2 : Int32} {v3 : Int32} {v4 : Int32} {v6 : Int32} (hW : qWT R) (hb0 : qok R b0 8) {o : Int32 × qI} (hx : match o with | (z0, z1) => AW (Zm l G mX8_soonest 3 As R rv I1 R) 142 [(0, .ref (G.1 + b0)), (1, .int v1), (2, .int v2), (3, .int v3), (4, .int v4), (5, .int z0), (6, .int v6)] [] z1 R) : ∀ n s, qloop (fun s => cX8_soonest_53 N R b0 v1 v2 v3 v4 v6 s.1 s.2.1 s.2.2.1 s.2.2.2) n s = some o → (match s with | (v5, v7, v8, I) => AW (Zm l G mX8_soonest 3 As R rv I1 R) 53 [(0, .ref (G.1 + b0)), (1, .int v1), (2, .int v2), (3, .int v3), (4, .int v4), (5, .int v5), (6, .int v6), (7, .int v7), (8, .int v8)] [] I R) := by
  apply qloop_ind
  intro s x hF hc he
  obtain ⟨v5, v7, v8, I⟩ := s
  change cX8_soonest_53 N R b0 v1 v2 v3 v4 v6 v5 v7 v8 I = some x at hF
  unfold cX8_soonest_53 at hF
  show AW _ 53 [(0, .ref (G.1 + b0)), (1, .int v1), (2, .int v2), (3, .int v3), (4, .int v4), (5, .int v5), (6, .int v6), (7, .int v7), (8, .int v8)] [] I R
  refine aw_iload dX8_soonest_53 8 rfl ?_
  refine aw_aload_n dX8_soonest_55 0 rfl rfl ?_
  obtain ⟨r7, er7, hF⟩ := qbind hF
  have kr7 : qok R r7 9 := hW.get hb0 er7 rfl
  refine aw_getr fl_X8_17 (by decide) fg_X8_4 hb0 er7 rfl dX8_soonest_56 ?_
  refine aw_iload dX8_soonest_59 6 rfl ?_
  obtain ⟨x8, ex8, hF⟩ := qbind hF
  refine aw_ialdq kr7 ex8 dX8_soonest_61 ?_
  refine aw_icmp_ge (tgt := 142) dX8_soonest_62 (by decide) (fun c9 => ?_) (fun c9 => ?_)
  · rw [if_pos c9] at hF
    cases hF
    have hE := he _ rfl
    subst hE
    exact aw_sub [0, 1, 2, 3, 4, 5, 6] rfl hx
  · rw [if_neg c9] at hF
    refine aw_aload_n dX8_soonest_65 0 rfl rfl ?_
    refine aw_iload dX8_soonest_66 6 rfl ?_
    refine aw_iload_n dX8_soonest_68 3 rfl rfl ?_
    obtain ⟨y10, ey10, hF⟩ := qbind hF
    refine aw_callVi (As := [.int v6, .int v3]) (sX8_runs hW hb0 ey10) cl_X8_179 rfl (qroomL (by decide) (by decide)) rfl hb0 (Nat.le_of_ble_eq_true rfl) dX8_soonest_69 rfl ?_
    refine aw_if_eq (tgt := 142) dX8_soonest_72 (by decide) (fun c11 => ?_) (fun c11 => ?_)
    · rw [if_pos c11] at hF
      cases hF
      have hE := he _ rfl
      subst hE
      exact aw_sub [0, 1, 2, 3, 4, 5, 6] rfl hx
    · rw [if_neg c11] at hF
      refine aw_bipush (v := (7 : Int32)) dX8_soonest_75 (by decide) ?_
      refine aw_iload dX8_soonest_77 6 rfl ?_
      refine aw_imul dX8_soonest_79 ?_
      refine aw_iload dX8_soonest_80 8 rfl ?_
      refine aw_iadd dX8_soonest_82 ?_
      refine aw_istore (lv' := [(9, .int (((7 : Int32) * v6) + v8)), (0, .ref (G.1 + b0)), (1, .int v1), (2, .int v2), (3, .int v3), (4, .int v4), (5, .int v5), (6, .int v6), (7, .int v7), (8, .int v8)]) dX8_soonest_83 (Nat.le_of_ble_eq_true rfl) rfl ?_
      refine aw_iload dX8_soonest_85 8 rfl ?_
      refine aw_if_eq (tgt := 111) dX8_soonest_87 (by decide) (fun c12 => ?_) (fun c12 => ?_)
      · rw [if_pos c12] at hF
        refine aw_iload dX8_soonest_111 8 rfl ?_
        refine aw_if_ne (tgt := 129) dX8_soonest_113 (by decide) (fun c => absurd c12 c) (fun c => ?_)
        refine aw_aload_n dX8_soonest_116 1 rfl rfl ?_
        refine aw_iload dX8_soonest_117 0 rfl ?_
        refine aw_iload_n dX8_soonest_119 2 rfl rfl ?_
        refine aw_iload dX8_soonest_120 5 rfl ?_
        refine aw_iload_n dX8_soonest_122 4 rfl rfl ?_
        obtain ⟨y13, ey13, hF⟩ := qbind hF
        refine aw_callVi (As := [.int (((7 : Int32) * v6) + v8), .int v1, .int v4, .int v3]) (sX8_isBoarded hW hb0 ey13) cl_X8_185 rfl (qroomL (by decide) (by decide)) rfl hb0 (Nat.le_of_ble_eq_true rfl) dX8_soonest_123 rfl ?_
        refine aw_if_eq (tgt := 133) dX8_soonest_126 (by decide) (fun c14 => ?_) (fun c14 => ?_)
        · rw [if_pos c14] at hF
          refine aw_iconst (v := (0 : Int32)) dX8_soonest_133 (by decide) ?_
          refine aw_istore (lv' := [(7, .int (0 : Int32)), (9, .int (((7 : Int32) * v6) + v8)), (0, .ref (G.1 + b0)), (1, .int v1), (2, .int v2), (3, .int v3), (4, .int v4), (5, .int v5), (6, .int v6), (8, .int v8)]) dX8_soonest_134 (Nat.le_of_ble_eq_true rfl) rfl ?_
          refine aw_iinc (q := 9) (v := (v8 + 1)) (lv' := [(8, .int (v8 + 1)), (7, .int (0 : Int32)), (9, .int (((7 : Int32) * v6) + v8)), (0, .ref (G.1 + b0)), (1, .int v1), (2, .int v2), (3, .int v3), (4, .int v4), (5, .int v5), (6, .int v6)]) dX8_soonest_136 rfl rfl (Nat.le_of_ble_eq_true rfl) rfl ?_
          refine aw_goto (tgt := 53) dX8_soonest_139 (by decide) ?_
          cases hF
          exact aw_sub [3, 4, 5, 6, 7, 8, 9, 1, 0] rfl (hc (v5, (0 : Int32), (v8 + 1), I) rfl)
        · rw [if_neg c14] at hF
          refine aw_iconst (v := (1 : Int32)) dX8_soonest_129 (by decide) ?_
          refine aw_goto (tgt := 134) dX8_soonest_130 (by decide) ?_
          refine aw_istore (lv' := [(7, .int (1 : Int32)), (9, .int (((7 : Int32) * v6) + v8)), (0, .ref (G.1 + b0)), (1, .int v1), (2, .int v2), (3, .int v3), (4, .int v4), (5, .int v5), (6, .int v6), (8, .int v8)]) dX8_soonest_134 (Nat.le_of_ble_eq_true rfl) rfl ?_
          refine aw_iinc (q := 9) (v := (v8 + 1)) (lv' := [(8, .int (v8 + 1)), (7, .int (1 : Int32)), (9, .int (((7 : Int32) * v6) + v8)), (0, .ref (G.1 + b0)), (1, .int v1), (2, .int v2), (3, .int v3), (4, .int v4), (5, .int v5), (6, .int v6)]) dX8_soonest_136 rfl rfl (Nat.le_of_ble_eq_true rfl) rfl ?_
          refine aw_goto (tgt := 53) dX8_soonest_139 (by decide) ?_
          cases hF
          exact aw_sub [3, 4, 5, 6, 7, 8, 9, 1, 0] rfl (hc (v5, (1 : Int32), (v8 + 1), I) rfl)
      · rw [if_neg c12] at hF
        refine aw_aload_n dX8_soonest_90 1 rfl rfl ?_
        obtain ⟨r15, er15, hF⟩ := qbind hF
        have kr15 : qok R r15 10 := hW.get hb0 er15 rfl
        refine aw_getr fl_X8_66 (by decide) fg_X8_23 hb0 er15 rfl dX8_soonest_91 ?_
        refine aw_iload dX8_soonest_94 0 rfl ?_
        obtain ⟨x16, ex16, hF⟩ := qbind hF
        refine aw_zaldq kr15 ex16 dX8_soonest_96 ?_
        refine aw_if_ne (tgt := 111) dX8_soonest_97 (by decide) (fun c17 => ?_) (fun c17 => ?_)
        · rw [if_neg c17] at hF
          refine aw_iload dX8_soonest_111 8 rfl ?_
          refine aw_if_ne (tgt := 129) dX8_soonest_113 (by decide) (fun c => ?_) (fun c => absurd c c12)
          refine aw_iconst (v := (1 : Int32)) dX8_soonest_129 (by decide) ?_
          refine aw_goto (tgt := 134) dX8_soonest_130 (by decide) ?_
          refine aw_istore (lv' := [(7, .int (1 : Int32)), (9, .int (((7 : Int32) * v6) + v8)), (0, .ref (G.1 + b0)), (1, .int v1), (2, .int v2), (3, .int v3), (4, .int v4), (5, .int v5), (6, .int v6), (8, .int v8)]) dX8_soonest_134 (Nat.le_of_ble_eq_true rfl) rfl ?_
          refine aw_iinc (q := 9) (v := (v8 + 1)) (lv' := [(8, .int (v8 + 1)), (7, .int (1 : Int32)), (9, .int (((7 : Int32) * v6) + v8)), (0, .ref (G.1 + b0)), (1, .int v1), (2, .int v2), (3, .int v3), (4, .int v4), (5, .int v5), (6, .int v6)]) dX8_soonest_136 rfl rfl (Nat.le_of_ble_eq_true rfl) rfl ?_
          refine aw_goto (tgt := 53) dX8_soonest_139 (by decide) ?_
          cases hF
          exact aw_sub [3, 4, 5, 6, 7, 8, 9, 1, 0] rfl (hc (v5, (1 : Int32), (v8 + 1), I) rfl)
        · rw [if_pos c17] at hF
          refine aw_aload_n dX8_soonest_100 1 rfl rfl ?_
          refine aw_getr fl_X8_66 (by decide) fg_X8_23 hb0 er15 rfl dX8_soonest_101 ?_
          refine aw_iload dX8_soonest_104 0 rfl ?_
          refine aw_iconst (v := (1 : Int32)) dX8_soonest_106 (by decide) ?_
          obtain ⟨I18, eI18, hF⟩ := qbind hF
          refine aw_zastq kr15 eI18 dX8_soonest_107 ?_
          refine aw_iconst (v := (1 : Int32)) dX8_soonest_108 (by decide) ?_
          refine aw_istore (lv' := [(5, .int (1 : Int32)), (9, .int (((7 : Int32) * v6) + v8)), (0, .ref (G.1 + b0)), (1, .int v1), (2, .int v2), (3, .int v3), (4, .int v4), (6, .int v6), (7, .int v7), (8, .int v8)]) dX8_soonest_109 (Nat.le_of_ble_eq_true rfl) rfl ?_
          refine aw_iload dX8_soonest_111 8 rfl ?_
          refine aw_if_ne (tgt := 129) dX8_soonest_113 (by decide) (fun c => ?_) (fun c => absurd c c12)
          refine aw_iconst (v := (1 : Int32)) dX8_soonest_129 (by decide) ?_
          refine aw_goto (tgt := 134) dX8_soonest_130 (by decide) ?_
          refine aw_istore (lv' := [(7, .int (1 : Int32)), (5, .int (1 : Int32)), (9, .int (((7 : Int32) * v6) + v8)), (0, .ref (G.1 + b0)), (1, .int v1), (2, .int v2), (3, .int v3), (4, .int v4), (6, .int v6), (8, .int v8)]) dX8_soonest_134 (Nat.le_of_ble_eq_true rfl) rfl ?_
          refine aw_iinc (q := 9) (v := (v8 + 1)) (lv' := [(8, .int (v8 + 1)), (7, .int (1 : Int32)), (5, .int (1 : Int32)), (9, .int (((7 : Int32) * v6) + v8)), (0, .ref (G.1 + b0)), (1, .int v1), (2, .int v2), (3, .int v3), (4, .int v4), (6, .int v6)]) dX8_soonest_136 rfl rfl (Nat.le_of_ble_eq_true rfl) rfl ?_
          refine aw_goto (tgt := 53) dX8_soonest_139 (by decide) ?_
          cases hF
          exact aw_sub [4, 5, 6, 7, 8, 2, 9, 1, 0] rfl (hc ((1 : Int32), (1 : Int32), (v8 + 1), I18) rfl)
def cX8_soonest_38 (N : Nat) (R : qR) (b0 : Nat) (v1 : Int32) (v2 : Int32) (v3 : Int32) (v4 : Int32) (v5 : Int32) (v6 : Int32) (I : qI) : Option ((Int32 × Int32 × qI) ⊕ (Int32 × qI)) :=
  if (I b0 1) ≤ v6 then
    (some (.inr (v5, I)))
  else
    ((qloop (fun s => cX8_soonest_53 N R b0 v1 v2 v3 v4 v6 s.1 s.2.1 s.2.2.1 s.2.2.2) N (v5, (0 : Int32), (0 : Int32), I)).bind fun o19 =>
    some (.inl (o19.1, (v6 + 1), o19.2)))
set_option maxHeartbeats 4000000 in
set_option maxRecDepth 100000 in
theorem tX8_soonest_38 {l : Launch} {G : qG} {N : Nat} {R : qR} {As : List Value} {rv : Option Value} {I1 : qI} {b0 : Nat} {v1 : Int32} {v2 : Int32} {v3 : Int32} {v4 : Int32} (hW : qWT R) (hb0 : qok R b0 8) {o : Int32 × qI} (hx : match o with | (z0, z1) => AW (Zm l G mX8_soonest 3 As R rv I1 R) 148 [(0, .ref (G.1 + b0)), (1, .int v1), (2, .int v2), (3, .int v3), (4, .int v4), (5, .int z0)] [] z1 R) : ∀ n s, qloop (fun s => cX8_soonest_38 N R b0 v1 v2 v3 v4 s.1 s.2.1 s.2.2) n s = some o → (match s with | (v5, v6, I) => AW (Zm l G mX8_soonest 3 As R rv I1 R) 38 [(0, .ref (G.1 + b0)), (1, .int v1), (2, .int v2), (3, .int v3), (4, .int v4), (5, .int v5), (6, .int v6)] [] I R) := by
  apply qloop_ind
  intro s x hF hc he
  obtain ⟨v5, v6, I⟩ := s
  change cX8_soonest_38 N R b0 v1 v2 v3 v4 v5 v6 I = some x at hF
  unfold cX8_soonest_38 at hF
  show AW _ 38 [(0, .ref (G.1 + b0)), (1, .int v1), (2, .int v2), (3, .int v3), (4, .int v4), (5, .int v5), (6, .int v6)] [] I R
  refine aw_iload dX8_soonest_38 6 rfl ?_
  refine aw_aload_n dX8_soonest_40 0 rfl rfl ?_
  refine aw_geti fl_X8_97 (by decide) fg_X8_1 hb0 rfl dX8_soonest_41 ?_
  refine aw_icmp_ge (tgt := 148) dX8_soonest_44 (by decide) (fun c6 => ?_) (fun c6 => ?_)
  · rw [if_pos c6] at hF
    cases hF
    have hE := he _ rfl
    subst hE
    exact aw_sub [0, 1, 2, 3, 4, 5] rfl hx
  · rw [if_neg c6] at hF
    refine aw_iconst (v := (0 : Int32)) dX8_soonest_47 (by decide) ?_
    refine aw_istore (lv' := [(7, .int (0 : Int32)), (0, .ref (G.1 + b0)), (1, .int v1), (2, .int v2), (3, .int v3), (4, .int v4), (5, .int v5), (6, .int v6)]) dX8_soonest_48 (Nat.le_of_ble_eq_true rfl) rfl ?_
    refine aw_iconst (v := (0 : Int32)) dX8_soonest_50 (by decide) ?_
    refine aw_istore (lv' := [(8, .int (0 : Int32)), (7, .int (0 : Int32)), (0, .ref (G.1 + b0)), (1, .int v1), (2, .int v2), (3, .int v3), (4, .int v4), (5, .int v5), (6, .int v6)]) dX8_soonest_51 (Nat.le_of_ble_eq_true rfl) rfl ?_
    obtain ⟨o19, eo19, hF⟩ := qbind hF
    refine aw_sub [2, 3, 4, 5, 6, 7, 8, 1, 0] rfl (tX8_soonest_53 hW hb0 (o := o19) ?_ N (v5, (0 : Int32), (0 : Int32), I) eo19)
    show AW _ 142 [(0, .ref (G.1 + b0)), (1, .int v1), (2, .int v2), (3, .int v3), (4, .int v4), (5, .int o19.1), (6, .int v6)] [] o19.2 R
    refine aw_iinc (q := 6) (v := (v6 + 1)) (lv' := [(6, .int (v6 + 1)), (0, .ref (G.1 + b0)), (1, .int v1), (2, .int v2), (3, .int v3), (4, .int v4), (5, .int o19.1)]) dX8_soonest_142 rfl rfl (Nat.le_of_ble_eq_true rfl) rfl ?_
    refine aw_goto (tgt := 38) dX8_soonest_145 (by decide) ?_
    cases hF
    exact aw_sub [1, 2, 3, 4, 5, 6, 0] rfl (hc (o19.1, (v6 + 1), o19.2) rfl)
def cX8_soonest_27 (N : Nat) (R : qR) (b0 : Nat) (v1 : Int32) (v2 : Int32) (v3 : Int32) (v4 : Int32) (v5 : Int32) (I : qI) : Option ((Int32 × qI) ⊕ (qI)) :=
  if v5 = 0 then
    (some (.inr I))
  else
    ((qloop (fun s => cX8_soonest_38 N R b0 v1 v2 v3 v4 s.1 s.2.1 s.2.2) N ((0 : Int32), (0 : Int32), I)).bind fun o20 =>
    some (.inl (o20.1, o20.2)))
set_option maxHeartbeats 4000000 in
set_option maxRecDepth 100000 in
theorem tX8_soonest_27 {l : Launch} {G : qG} {N : Nat} {R : qR} {As : List Value} {rv : Option Value} {I1 : qI} {b0 : Nat} {v1 : Int32} {v2 : Int32} {v3 : Int32} {v4 : Int32} (hW : qWT R) (hb0 : qok R b0 8) {o : qI} (hx : AW (Zm l G mX8_soonest 3 As R rv I1 R) 151 [(0, .ref (G.1 + b0)), (2, .int v2)] [] o R) : ∀ n s, qloop (fun s => cX8_soonest_27 N R b0 v1 v2 v3 v4 s.1 s.2) n s = some o → (match s with | (v5, I) => AW (Zm l G mX8_soonest 3 As R rv I1 R) 27 [(0, .ref (G.1 + b0)), (1, .int v1), (2, .int v2), (3, .int v3), (4, .int v4), (5, .int v5)] [] I R) := by
  apply qloop_ind
  intro s x hF hc he
  obtain ⟨v5, I⟩ := s
  change cX8_soonest_27 N R b0 v1 v2 v3 v4 v5 I = some x at hF
  unfold cX8_soonest_27 at hF
  show AW _ 27 [(0, .ref (G.1 + b0)), (1, .int v1), (2, .int v2), (3, .int v3), (4, .int v4), (5, .int v5)] [] I R
  refine aw_iload dX8_soonest_27 5 rfl ?_
  refine aw_if_eq (tgt := 151) dX8_soonest_29 (by decide) (fun c5 => ?_) (fun c5 => ?_)
  · rw [if_pos c5] at hF
    cases hF
    have hE := he _ rfl
    subst hE
    exact aw_sub [0, 2] rfl hx
  · rw [if_neg c5] at hF
    refine aw_iconst (v := (0 : Int32)) dX8_soonest_32 (by decide) ?_
    refine aw_istore (lv' := [(5, .int (0 : Int32)), (0, .ref (G.1 + b0)), (1, .int v1), (2, .int v2), (3, .int v3), (4, .int v4)]) dX8_soonest_33 (Nat.le_of_ble_eq_true rfl) rfl ?_
    refine aw_iconst (v := (0 : Int32)) dX8_soonest_35 (by decide) ?_
    refine aw_istore (lv' := [(6, .int (0 : Int32)), (5, .int (0 : Int32)), (0, .ref (G.1 + b0)), (1, .int v1), (2, .int v2), (3, .int v3), (4, .int v4)]) dX8_soonest_36 (Nat.le_of_ble_eq_true rfl) rfl ?_
    obtain ⟨o20, eo20, hF⟩ := qbind hF
    refine aw_sub [2, 3, 4, 5, 6, 1, 0] rfl (tX8_soonest_38 hW hb0 (o := o20) ?_ N ((0 : Int32), (0 : Int32), I) eo20)
    show AW _ 148 [(0, .ref (G.1 + b0)), (1, .int v1), (2, .int v2), (3, .int v3), (4, .int v4), (5, .int o20.1)] [] o20.2 R
    refine aw_goto (tgt := 27) dX8_soonest_148 (by decide) ?_
    cases hF
    exact aw_sub [0, 1, 2, 3, 4, 5] rfl (hc (o20.1, o20.2) rfl)
def cX8_soonest_169 (N : Nat) (R : qR) (I : qI) (b0 : Nat) (v2 : Int32) (v7 : Int32) (v6 : Int32) (v8 : Int32) : Option ((Int32 × Int32) ⊕ (Int32)) :=
  (R.1 b0 4).bind fun r23 =>
  (qrd I R r23 v7).bind fun x24 =>
  if x24 ≤ v8 then
    (some (.inr v6))
  else
    ((R.1 b0 23).bind fun r26 =>
    (qrd I R r26 (((7 : Int32) * v7) + v8)).bind fun x27 =>
    if x27 = 0 then
      (some (.inl (v6, (v8 + 1))))
    else
      ((R.1 b0 5).bind fun r29 =>
      (qrd I R r29 (((7 : Int32) * v7) + v8)).bind fun x30 =>
      if x30 = v2 then
        (if v6 = (-1 : Int32) then
          ((R.1 b0 6).bind fun r33 =>
          (qrd I R r33 (((7 : Int32) * v7) + v8)).bind fun x34 =>
          some (.inl (x34, (v8 + 1))))
        else
          ((R.1 b0 6).bind fun r35 =>
          (qrd I R r35 (((7 : Int32) * v7) + v8)).bind fun x36 =>
          if v6 ≤ x36 then
            (some (.inl (v6, (v8 + 1))))
          else
            (some (.inl (x36, (v8 + 1))))))
      else
        (some (.inl (v6, (v8 + 1))))))
set_option maxHeartbeats 4000000 in
set_option maxRecDepth 100000 in
theorem tX8_soonest_169 {l : Launch} {G : qG} {N : Nat} {R : qR} {I : qI} {As : List Value} {rv : Option Value} {I1 : qI} {b0 : Nat} {v2 : Int32} {v7 : Int32} (hW : qWT R) (hb0 : qok R b0 8) {o : Int32} (hx : AW (Zm l G mX8_soonest 3 As R rv I1 R) 259 [(0, .ref (G.1 + b0)), (2, .int v2), (6, .int o), (7, .int v7)] [] I R) : ∀ n s, qloop (fun s => cX8_soonest_169 N R I b0 v2 v7 s.1 s.2) n s = some o → (match s with | (v6, v8) => AW (Zm l G mX8_soonest 3 As R rv I1 R) 169 [(0, .ref (G.1 + b0)), (2, .int v2), (6, .int v6), (7, .int v7), (8, .int v8)] [] I R) := by
  apply qloop_ind
  intro s x hF hc he
  obtain ⟨v6, v8⟩ := s
  change cX8_soonest_169 N R I b0 v2 v7 v6 v8 = some x at hF
  unfold cX8_soonest_169 at hF
  show AW _ 169 [(0, .ref (G.1 + b0)), (2, .int v2), (6, .int v6), (7, .int v7), (8, .int v8)] [] I R
  refine aw_iload dX8_soonest_169 4 rfl ?_
  refine aw_aload_n dX8_soonest_171 0 rfl rfl ?_
  obtain ⟨r23, er23, hF⟩ := qbind hF
  have kr23 : qok R r23 9 := hW.get hb0 er23 rfl
  refine aw_getr fl_X8_17 (by decide) fg_X8_4 hb0 er23 rfl dX8_soonest_172 ?_
  refine aw_iload dX8_soonest_175 3 rfl ?_
  obtain ⟨x24, ex24, hF⟩ := qbind hF
  refine aw_ialdq kr23 ex24 dX8_soonest_177 ?_
  refine aw_icmp_ge (tgt := 259) dX8_soonest_178 (by decide) (fun c25 => ?_) (fun c25 => ?_)
  · rw [if_pos c25] at hF
    cases hF
    have hE := he _ rfl
    subst hE
    exact aw_sub [0, 1, 2, 3] rfl hx
  · rw [if_neg c25] at hF
    refine aw_aload_n dX8_soonest_181 0 rfl rfl ?_
    obtain ⟨r26, er26, hF⟩ := qbind hF
    have kr26 : qok R r26 10 := hW.get hb0 er26 rfl
    refine aw_getr fl_X8_66 (by decide) fg_X8_23 hb0 er26 rfl dX8_soonest_182 ?_
    refine aw_bipush (v := (7 : Int32)) dX8_soonest_185 (by decide) ?_
    refine aw_iload dX8_soonest_187 3 rfl ?_
    refine aw_imul dX8_soonest_189 ?_
    refine aw_iload dX8_soonest_190 4 rfl ?_
    refine aw_iadd dX8_soonest_192 ?_
    obtain ⟨x27, ex27, hF⟩ := qbind hF
    refine aw_zaldq kr26 ex27 dX8_soonest_193 ?_
    refine aw_if_eq (tgt := 253) dX8_soonest_194 (by decide) (fun c28 => ?_) (fun c28 => ?_)
    · rw [if_pos c28] at hF
      refine aw_iinc (q := 4) (v := (v8 + 1)) (lv' := [(8, .int (v8 + 1)), (0, .ref (G.1 + b0)), (2, .int v2), (6, .int v6), (7, .int v7)]) dX8_soonest_253 rfl rfl (Nat.le_of_ble_eq_true rfl) rfl ?_
      refine aw_goto (tgt := 169) dX8_soonest_256 (by decide) ?_
      cases hF
      exact aw_sub [1, 2, 3, 4, 0] rfl (hc (v6, (v8 + 1)) rfl)
    · rw [if_neg c28] at hF
      refine aw_aload_n dX8_soonest_197 0 rfl rfl ?_
      obtain ⟨r29, er29, hF⟩ := qbind hF
      have kr29 : qok R r29 9 := hW.get hb0 er29 rfl
      refine aw_getr fl_X8_20 (by decide) fg_X8_5 hb0 er29 rfl dX8_soonest_198 ?_
      refine aw_bipush (v := (7 : Int32)) dX8_soonest_201 (by decide) ?_
      refine aw_iload dX8_soonest_203 3 rfl ?_
      refine aw_imul dX8_soonest_205 ?_
      refine aw_iload dX8_soonest_206 4 rfl ?_
      refine aw_iadd dX8_soonest_208 ?_
      obtain ⟨x30, ex30, hF⟩ := qbind hF
      refine aw_ialdq kr29 ex30 dX8_soonest_209 ?_
      refine aw_iload_n dX8_soonest_210 1 rfl rfl ?_
      refine aw_icmp_ne (tgt := 253) dX8_soonest_211 (by decide) (fun c31 => ?_) (fun c31 => ?_)
      · rw [if_neg c31] at hF
        refine aw_iinc (q := 4) (v := (v8 + 1)) (lv' := [(8, .int (v8 + 1)), (0, .ref (G.1 + b0)), (2, .int v2), (6, .int v6), (7, .int v7)]) dX8_soonest_253 rfl rfl (Nat.le_of_ble_eq_true rfl) rfl ?_
        refine aw_goto (tgt := 169) dX8_soonest_256 (by decide) ?_
        cases hF
        exact aw_sub [1, 2, 3, 4, 0] rfl (hc (v6, (v8 + 1)) rfl)
      · rw [if_pos c31] at hF
        refine aw_iload dX8_soonest_214 2 rfl ?_
        refine aw_iconst (v := (-1 : Int32)) dX8_soonest_216 (by decide) ?_
        refine aw_icmp_eq (tgt := 238) dX8_soonest_217 (by decide) (fun c32 => ?_) (fun c32 => ?_)
        · rw [if_pos c32] at hF
          refine aw_aload_n dX8_soonest_238 0 rfl rfl ?_
          obtain ⟨r33, er33, hF⟩ := qbind hF
          have kr33 : qok R r33 9 := hW.get hb0 er33 rfl
          refine aw_getr fl_X8_23 (by decide) fg_X8_6 hb0 er33 rfl dX8_soonest_239 ?_
          refine aw_bipush (v := (7 : Int32)) dX8_soonest_242 (by decide) ?_
          refine aw_iload dX8_soonest_244 3 rfl ?_
          refine aw_imul dX8_soonest_246 ?_
          refine aw_iload dX8_soonest_247 4 rfl ?_
          refine aw_iadd dX8_soonest_249 ?_
          obtain ⟨x34, ex34, hF⟩ := qbind hF
          refine aw_ialdq kr33 ex34 dX8_soonest_250 ?_
          refine aw_istore (lv' := [(6, .int x34), (0, .ref (G.1 + b0)), (2, .int v2), (7, .int v7), (8, .int v8)]) dX8_soonest_251 (Nat.le_of_ble_eq_true rfl) rfl ?_
          refine aw_iinc (q := 4) (v := (v8 + 1)) (lv' := [(8, .int (v8 + 1)), (6, .int x34), (0, .ref (G.1 + b0)), (2, .int v2), (7, .int v7)]) dX8_soonest_253 rfl rfl (Nat.le_of_ble_eq_true rfl) rfl ?_
          refine aw_goto (tgt := 169) dX8_soonest_256 (by decide) ?_
          cases hF
          exact aw_sub [2, 3, 1, 4, 0] rfl (hc (x34, (v8 + 1)) rfl)
        · rw [if_neg c32] at hF
          refine aw_aload_n dX8_soonest_220 0 rfl rfl ?_
          obtain ⟨r35, er35, hF⟩ := qbind hF
          have kr35 : qok R r35 9 := hW.get hb0 er35 rfl
          refine aw_getr fl_X8_23 (by decide) fg_X8_6 hb0 er35 rfl dX8_soonest_221 ?_
          refine aw_bipush (v := (7 : Int32)) dX8_soonest_224 (by decide) ?_
          refine aw_iload dX8_soonest_226 3 rfl ?_
          refine aw_imul dX8_soonest_228 ?_
          refine aw_iload dX8_soonest_229 4 rfl ?_
          refine aw_iadd dX8_soonest_231 ?_
          obtain ⟨x36, ex36, hF⟩ := qbind hF
          refine aw_ialdq kr35 ex36 dX8_soonest_232 ?_
          refine aw_iload dX8_soonest_233 2 rfl ?_
          refine aw_icmp_ge (tgt := 253) dX8_soonest_235 (by decide) (fun c37 => ?_) (fun c37 => ?_)
          · rw [if_pos c37] at hF
            refine aw_iinc (q := 4) (v := (v8 + 1)) (lv' := [(8, .int (v8 + 1)), (0, .ref (G.1 + b0)), (2, .int v2), (6, .int v6), (7, .int v7)]) dX8_soonest_253 rfl rfl (Nat.le_of_ble_eq_true rfl) rfl ?_
            refine aw_goto (tgt := 169) dX8_soonest_256 (by decide) ?_
            cases hF
            exact aw_sub [1, 2, 3, 4, 0] rfl (hc (v6, (v8 + 1)) rfl)
          · rw [if_neg c37] at hF
            refine aw_aload_n dX8_soonest_238 0 rfl rfl ?_
            refine aw_getr fl_X8_23 (by decide) fg_X8_6 hb0 er35 rfl dX8_soonest_239 ?_
            refine aw_bipush (v := (7 : Int32)) dX8_soonest_242 (by decide) ?_
            refine aw_iload dX8_soonest_244 3 rfl ?_
            refine aw_imul dX8_soonest_246 ?_
            refine aw_iload dX8_soonest_247 4 rfl ?_
            refine aw_iadd dX8_soonest_249 ?_
            refine aw_ialdq kr35 ex36 dX8_soonest_250 ?_
            refine aw_istore (lv' := [(6, .int x36), (0, .ref (G.1 + b0)), (2, .int v2), (7, .int v7), (8, .int v8)]) dX8_soonest_251 (Nat.le_of_ble_eq_true rfl) rfl ?_
            refine aw_iinc (q := 4) (v := (v8 + 1)) (lv' := [(8, .int (v8 + 1)), (6, .int x36), (0, .ref (G.1 + b0)), (2, .int v2), (7, .int v7)]) dX8_soonest_253 rfl rfl (Nat.le_of_ble_eq_true rfl) rfl ?_
            refine aw_goto (tgt := 169) dX8_soonest_256 (by decide) ?_
            cases hF
            exact aw_sub [2, 3, 1, 4, 0] rfl (hc (x36, (v8 + 1)) rfl)
def cX8_soonest_157 (N : Nat) (R : qR) (I : qI) (b0 : Nat) (v2 : Int32) (v6 : Int32) (v7 : Int32) : Option ((Int32 × Int32) ⊕ (Int32)) :=
  if (I b0 1) ≤ v7 then
    (some (.inr v6))
  else
    ((qloop (fun s => cX8_soonest_169 N R I b0 v2 v7 s.1 s.2) N (v6, (1 : Int32))).bind fun o38 =>
    some (.inl (o38, (v7 + 1))))
set_option maxHeartbeats 4000000 in
set_option maxRecDepth 100000 in
theorem tX8_soonest_157 {l : Launch} {G : qG} {N : Nat} {R : qR} {I : qI} {As : List Value} {rv : Option Value} {I1 : qI} {b0 : Nat} {v2 : Int32} (hW : qWT R) (hb0 : qok R b0 8) {o : Int32} (hx : AW (Zm l G mX8_soonest 3 As R rv I1 R) 265 [(6, .int o)] [] I R) : ∀ n s, qloop (fun s => cX8_soonest_157 N R I b0 v2 s.1 s.2) n s = some o → (match s with | (v6, v7) => AW (Zm l G mX8_soonest 3 As R rv I1 R) 157 [(0, .ref (G.1 + b0)), (2, .int v2), (6, .int v6), (7, .int v7)] [] I R) := by
  apply qloop_ind
  intro s x hF hc he
  obtain ⟨v6, v7⟩ := s
  change cX8_soonest_157 N R I b0 v2 v6 v7 = some x at hF
  unfold cX8_soonest_157 at hF
  show AW _ 157 [(0, .ref (G.1 + b0)), (2, .int v2), (6, .int v6), (7, .int v7)] [] I R
  refine aw_iload dX8_soonest_157 3 rfl ?_
  refine aw_aload_n dX8_soonest_159 0 rfl rfl ?_
  refine aw_geti fl_X8_97 (by decide) fg_X8_1 hb0 rfl dX8_soonest_160 ?_
  refine aw_icmp_ge (tgt := 265) dX8_soonest_163 (by decide) (fun c22 => ?_) (fun c22 => ?_)
  · rw [if_pos c22] at hF
    cases hF
    have hE := he _ rfl
    subst hE
    exact aw_sub [2] rfl hx
  · rw [if_neg c22] at hF
    refine aw_iconst (v := (1 : Int32)) dX8_soonest_166 (by decide) ?_
    refine aw_istore (lv' := [(8, .int (1 : Int32)), (0, .ref (G.1 + b0)), (2, .int v2), (6, .int v6), (7, .int v7)]) dX8_soonest_167 (Nat.le_of_ble_eq_true rfl) rfl ?_
    obtain ⟨o38, eo38, hF⟩ := qbind hF
    refine aw_sub [1, 2, 3, 4, 0] rfl (tX8_soonest_169 hW hb0 (o := o38) ?_ N (v6, (1 : Int32)) eo38)
    show AW _ 259 [(0, .ref (G.1 + b0)), (2, .int v2), (6, .int o38), (7, .int v7)] [] I R
    refine aw_iinc (q := 3) (v := (v7 + 1)) (lv' := [(7, .int (v7 + 1)), (0, .ref (G.1 + b0)), (2, .int v2), (6, .int o38)]) dX8_soonest_259 rfl rfl (Nat.le_of_ble_eq_true rfl) rfl ?_
    refine aw_goto (tgt := 157) dX8_soonest_262 (by decide) ?_
    cases hF
    exact aw_sub [1, 2, 3, 0] rfl (hc (o38, (v7 + 1)) rfl)
def fX8_soonest (N : Nat) (R : qR) (I : qI) (a0 : Nat) (p1 : Int32) (p2 : Int32) (p3 : Int32) (p4 : Int32) : Option (Int32 × qI) :=
  (qloop (fun s => cX8_soonest_3 N R a0 p1 p2 p3 p4 s.1 s.2) N ((0 : Int32), I)).bind fun o4 =>
  (qloop (fun s => cX8_soonest_27 N R a0 p1 p2 p3 p4 s.1 s.2) N ((1 : Int32), o4)).bind fun o21 =>
  (qloop (fun s => cX8_soonest_157 N R o21 a0 p2 s.1 s.2) N ((-1 : Int32), (0 : Int32))).bind fun o39 =>
  some (o39, o21)
set_option maxHeartbeats 4000000 in
set_option maxRecDepth 100000 in
theorem sX8_soonest {l : Launch} {G : qG} {N : Nat} {R : qR} {I : qI} {a0 : Nat} {p1 : Int32} {p2 : Int32} {p3 : Int32} {p4 : Int32} {rv : Int32} {rI : qI} (hW : qWT R) (ha0 : qok R a0 8) (hF : fX8_soonest N R I a0 p1 p2 p3 p4 = some (rv, rI)) : qMt l G mX8_soonest 3 [.ref (G.1 + a0), .int p1, .int p2, .int p3, .int p4] I R (some (.int rv)) rI R := by
  unfold fX8_soonest at hF
  refine qMt_of (by decide) (Nat.le_of_ble_eq_true rfl) ⟨Nat.le_refl _, Nat.le_refl _⟩ ?_
  show AW _ 0 [(0, .ref (G.1 + a0)), (1, .int p1), (2, .int p2), (3, .int p3), (4, .int p4)] [] I R
  refine aw_iconst (v := (0 : Int32)) dX8_soonest_0 (by decide) ?_
  refine aw_istore (lv' := [(5, .int (0 : Int32)), (0, .ref (G.1 + a0)), (1, .int p1), (2, .int p2), (3, .int p3), (4, .int p4)]) dX8_soonest_1 (Nat.le_of_ble_eq_true rfl) rfl ?_
  obtain ⟨o4, eo4, hF⟩ := qbind hF
  refine aw_sub [1, 2, 3, 4, 5, 0] rfl (tX8_soonest_3 hW ha0 (o := o4) ?_ N ((0 : Int32), I) eo4)
  show AW _ 24 [(0, .ref (G.1 + a0)), (1, .int p1), (2, .int p2), (3, .int p3), (4, .int p4)] [] o4 R
  refine aw_iconst (v := (1 : Int32)) dX8_soonest_24 (by decide) ?_
  refine aw_istore (lv' := [(5, .int (1 : Int32)), (0, .ref (G.1 + a0)), (1, .int p1), (2, .int p2), (3, .int p3), (4, .int p4)]) dX8_soonest_25 (Nat.le_of_ble_eq_true rfl) rfl ?_
  obtain ⟨o21, eo21, hF⟩ := qbind hF
  refine aw_sub [1, 2, 3, 4, 5, 0] rfl (tX8_soonest_27 hW ha0 (o := o21) ?_ N ((1 : Int32), o4) eo21)
  show AW _ 151 [(0, .ref (G.1 + a0)), (2, .int p2)] [] o21 R
  refine aw_iconst (v := (-1 : Int32)) dX8_soonest_151 (by decide) ?_
  refine aw_istore (lv' := [(6, .int (-1 : Int32)), (0, .ref (G.1 + a0)), (2, .int p2)]) dX8_soonest_152 (Nat.le_of_ble_eq_true rfl) rfl ?_
  refine aw_iconst (v := (0 : Int32)) dX8_soonest_154 (by decide) ?_
  refine aw_istore (lv' := [(7, .int (0 : Int32)), (6, .int (-1 : Int32)), (0, .ref (G.1 + a0)), (2, .int p2)]) dX8_soonest_155 (Nat.le_of_ble_eq_true rfl) rfl ?_
  obtain ⟨o39, eo39, hF⟩ := qbind hF
  refine aw_sub [2, 3, 1, 0] rfl (tX8_soonest_157 hW ha0 (o := o39) ?_ N ((-1 : Int32), (0 : Int32)) eo39)
  show AW _ 265 [(6, .int o39)] [] o21 R
  refine aw_iload dX8_soonest_265 0 rfl ?_
  cases hF
  exact aw_iret rfl dX8_soonest_267 rfl rfl rfl
def cX8_canGoOn_31 (N : Nat) (R : qR) (I : qI) (b0 : Nat) (v1 : Int32) (v2 : Int32) (v3 : Int32) (v4 : Int32) (v5 : Int32) (v6 : Int32) : Option ((Int32 × Int32) ⊕ ((Unit) ⊕ (Int32))) :=
  (R.1 b0 4).bind fun r4 =>
  (qrd I R r4 v4).bind fun x5 =>
  if x5 ≤ v6 then
    (some (.inr (.inl ())))
  else
    (if v5 = 0 then
      ((fX8_canChange R I b0 v1 (((7 : Int32) * v4) + v6)).bind fun y8 =>
      if y8 = 0 then
        (some (.inl ((0 : Int32), (v6 + 1))))
      else
        (some (.inl ((1 : Int32), (v6 + 1)))))
    else
      ((R.1 b0 24).bind fun r10 =>
      (qrd I R r10 ((((70 : Int32) * v2) + ((7 : Int32) * v4)) + v6)).bind fun x11 =>
      if x11 = 0 then
        (some (.inl ((1 : Int32), (v6 + 1))))
      else
        (some (.inr (.inr (1 : Int32))))))
set_option maxHeartbeats 4000000 in
set_option maxRecDepth 100000 in
theorem tX8_canGoOn_31 {l : Launch} {G : qG} {N : Nat} {R : qR} {I : qI} {As : List Value} {rv : Option Value} {b0 : Nat} {v1 : Int32} {v2 : Int32} {v3 : Int32} {v4 : Int32} (hW : qWT R) (hb0 : qok R b0 8) {o : (Unit) ⊕ (Int32)} (hx : match o with | .inl _ => AW (Zm l G mX8_canGoOn 2 As R rv I R) 105 [(0, .ref (G.1 + b0)), (1, .int v1), (2, .int v2), (3, .int v3), (4, .int v4)] [] I R | .inr rrv => rv = some (.int rrv) ∧ True) : ∀ n s, qloop (fun s => cX8_canGoOn_31 N R I b0 v1 v2 v3 v4 s.1 s.2) n s = some o → (match s with | (v5, v6) => AW (Zm l G mX8_canGoOn 2 As R rv I R) 31 [(0, .ref (G.1 + b0)), (1, .int v1), (2, .int v2), (3, .int v3), (4, .int v4), (5, .int v5), (6, .int v6)] [] I R) := by
  apply qloop_ind
  intro s x hF hc he
  obtain ⟨v5, v6⟩ := s
  change cX8_canGoOn_31 N R I b0 v1 v2 v3 v4 v5 v6 = some x at hF
  unfold cX8_canGoOn_31 at hF
  show AW _ 31 [(0, .ref (G.1 + b0)), (1, .int v1), (2, .int v2), (3, .int v3), (4, .int v4), (5, .int v5), (6, .int v6)] [] I R
  refine aw_iload dX8_canGoOn_31 6 rfl ?_
  refine aw_aload_n dX8_canGoOn_33 0 rfl rfl ?_
  obtain ⟨r4, er4, hF⟩ := qbind hF
  have kr4 : qok R r4 9 := hW.get hb0 er4 rfl
  refine aw_getr fl_X8_17 (by decide) fg_X8_4 hb0 er4 rfl dX8_canGoOn_34 ?_
  refine aw_iload dX8_canGoOn_37 4 rfl ?_
  obtain ⟨x5, ex5, hF⟩ := qbind hF
  refine aw_ialdq kr4 ex5 dX8_canGoOn_39 ?_
  refine aw_icmp_ge (tgt := 105) dX8_canGoOn_40 (by decide) (fun c6 => ?_) (fun c6 => ?_)
  · rw [if_pos c6] at hF
    cases hF
    have hE := he _ rfl
    subst hE
    exact aw_sub [0, 1, 2, 3, 4] rfl hx
  · rw [if_neg c6] at hF
    refine aw_iload dX8_canGoOn_43 5 rfl ?_
    refine aw_if_eq (tgt := 71) dX8_canGoOn_45 (by decide) (fun c7 => ?_) (fun c7 => ?_)
    · rw [if_pos c7] at hF
      refine aw_iload dX8_canGoOn_71 5 rfl ?_
      refine aw_if_ne (tgt := 92) dX8_canGoOn_73 (by decide) (fun c => absurd c7 c) (fun c => ?_)
      refine aw_aload_n dX8_canGoOn_76 0 rfl rfl ?_
      refine aw_iload_n dX8_canGoOn_77 1 rfl rfl ?_
      refine aw_bipush (v := (7 : Int32)) dX8_canGoOn_78 (by decide) ?_
      refine aw_iload dX8_canGoOn_80 4 rfl ?_
      refine aw_imul dX8_canGoOn_82 ?_
      refine aw_iload dX8_canGoOn_83 6 rfl ?_
      refine aw_iadd dX8_canGoOn_85 ?_
      obtain ⟨y8, ey8, hF⟩ := qbind hF
      refine aw_callVi (As := [.int v1, .int (((7 : Int32) * v4) + v6)]) (sX8_canChange hW hb0 ey8) cl_X8_182 rfl (qroomL (by decide) (by decide)) rfl hb0 (Nat.le_of_ble_eq_true rfl) dX8_canGoOn_86 rfl ?_
      refine aw_if_eq (tgt := 96) dX8_canGoOn_89 (by decide) (fun c9 => ?_) (fun c9 => ?_)
      · rw [if_pos c9] at hF
        refine aw_iconst (v := (0 : Int32)) dX8_canGoOn_96 (by decide) ?_
        refine aw_istore (lv' := [(5, .int (0 : Int32)), (0, .ref (G.1 + b0)), (1, .int v1), (2, .int v2), (3, .int v3), (4, .int v4), (6, .int v6)]) dX8_canGoOn_97 (Nat.le_of_ble_eq_true rfl) rfl ?_
        refine aw_iinc (q := 6) (v := (v6 + 1)) (lv' := [(6, .int (v6 + 1)), (5, .int (0 : Int32)), (0, .ref (G.1 + b0)), (1, .int v1), (2, .int v2), (3, .int v3), (4, .int v4)]) dX8_canGoOn_99 rfl rfl (Nat.le_of_ble_eq_true rfl) rfl ?_
        refine aw_goto (tgt := 31) dX8_canGoOn_102 (by decide) ?_
        cases hF
        exact aw_sub [2, 3, 4, 5, 6, 1, 0] rfl (hc ((0 : Int32), (v6 + 1)) rfl)
      · rw [if_neg c9] at hF
        refine aw_iconst (v := (1 : Int32)) dX8_canGoOn_92 (by decide) ?_
        refine aw_goto (tgt := 97) dX8_canGoOn_93 (by decide) ?_
        refine aw_istore (lv' := [(5, .int (1 : Int32)), (0, .ref (G.1 + b0)), (1, .int v1), (2, .int v2), (3, .int v3), (4, .int v4), (6, .int v6)]) dX8_canGoOn_97 (Nat.le_of_ble_eq_true rfl) rfl ?_
        refine aw_iinc (q := 6) (v := (v6 + 1)) (lv' := [(6, .int (v6 + 1)), (5, .int (1 : Int32)), (0, .ref (G.1 + b0)), (1, .int v1), (2, .int v2), (3, .int v3), (4, .int v4)]) dX8_canGoOn_99 rfl rfl (Nat.le_of_ble_eq_true rfl) rfl ?_
        refine aw_goto (tgt := 31) dX8_canGoOn_102 (by decide) ?_
        cases hF
        exact aw_sub [2, 3, 4, 5, 6, 1, 0] rfl (hc ((1 : Int32), (v6 + 1)) rfl)
    · rw [if_neg c7] at hF
      refine aw_aload_n dX8_canGoOn_48 0 rfl rfl ?_
      obtain ⟨r10, er10, hF⟩ := qbind hF
      have kr10 : qok R r10 10 := hW.get hb0 er10 rfl
      refine aw_getr fl_X8_70 (by decide) fg_X8_24 hb0 er10 rfl dX8_canGoOn_49 ?_
      refine aw_bipush (v := (70 : Int32)) dX8_canGoOn_52 (by decide) ?_
      refine aw_iload_n dX8_canGoOn_54 2 rfl rfl ?_
      refine aw_imul dX8_canGoOn_55 ?_
      refine aw_bipush (v := (7 : Int32)) dX8_canGoOn_56 (by decide) ?_
      refine aw_iload dX8_canGoOn_58 4 rfl ?_
      refine aw_imul dX8_canGoOn_60 ?_
      refine aw_iadd dX8_canGoOn_61 ?_
      refine aw_iload dX8_canGoOn_62 6 rfl ?_
      refine aw_iadd dX8_canGoOn_64 ?_
      obtain ⟨x11, ex11, hF⟩ := qbind hF
      refine aw_zaldq kr10 ex11 dX8_canGoOn_65 ?_
      refine aw_if_eq (tgt := 71) dX8_canGoOn_66 (by decide) (fun c12 => ?_) (fun c12 => ?_)
      · rw [if_pos c12] at hF
        refine aw_iload dX8_canGoOn_71 5 rfl ?_
        refine aw_if_ne (tgt := 92) dX8_canGoOn_73 (by decide) (fun c => ?_) (fun c => absurd c c7)
        refine aw_iconst (v := (1 : Int32)) dX8_canGoOn_92 (by decide) ?_
        refine aw_goto (tgt := 97) dX8_canGoOn_93 (by decide) ?_
        refine aw_istore (lv' := [(5, .int (1 : Int32)), (0, .ref (G.1 + b0)), (1, .int v1), (2, .int v2), (3, .int v3), (4, .int v4), (6, .int v6)]) dX8_canGoOn_97 (Nat.le_of_ble_eq_true rfl) rfl ?_
        refine aw_iinc (q := 6) (v := (v6 + 1)) (lv' := [(6, .int (v6 + 1)), (5, .int (1 : Int32)), (0, .ref (G.1 + b0)), (1, .int v1), (2, .int v2), (3, .int v3), (4, .int v4)]) dX8_canGoOn_99 rfl rfl (Nat.le_of_ble_eq_true rfl) rfl ?_
        refine aw_goto (tgt := 31) dX8_canGoOn_102 (by decide) ?_
        cases hF
        exact aw_sub [2, 3, 4, 5, 6, 1, 0] rfl (hc ((1 : Int32), (v6 + 1)) rfl)
      · rw [if_neg c12] at hF
        refine aw_iconst (v := (1 : Int32)) dX8_canGoOn_69 (by decide) ?_
        cases hF
        have hE := he _ rfl
        subst hE
        exact aw_zret rfl (by decide) dX8_canGoOn_70 hx.1 rfl rfl
def cX8_canGoOn_3 (N : Nat) (R : qR) (I : qI) (b0 : Nat) (v1 : Int32) (v2 : Int32) (v3 : Int32) (v4 : Int32) : Option ((Int32) ⊕ ((Unit) ⊕ (Int32))) :=
  if (I b0 1) ≤ v4 then
    (some (.inr (.inl ())))
  else
    ((fX8_runs R I b0 v4 v3).bind fun y2 =>
    if y2 = 0 then
      (some (.inl (v4 + 1)))
    else
      ((qloop (fun s => cX8_canGoOn_31 N R I b0 v1 v2 v3 v4 s.1 s.2) N ((0 : Int32), (0 : Int32))).bind fun o13 =>
      qx o13 (fun e14 =>
        some (.inl (v4 + 1))) (fun q15 => some (.inr (.inr q15)))))
set_option maxHeartbeats 4000000 in
set_option maxRecDepth 100000 in
theorem tX8_canGoOn_3 {l : Launch} {G : qG} {N : Nat} {R : qR} {I : qI} {As : List Value} {rv : Option Value} {b0 : Nat} {v1 : Int32} {v2 : Int32} {v3 : Int32} (hW : qWT R) (hb0 : qok R b0 8) {o : (Unit) ⊕ (Int32)} (hx : match o with | .inl _ => AW (Zm l G mX8_canGoOn 2 As R rv I R) 111 [] [] I R | .inr rrv => rv = some (.int rrv) ∧ True) : ∀ n s, qloop (fun s => cX8_canGoOn_3 N R I b0 v1 v2 v3 s) n s = some o → AW (Zm l G mX8_canGoOn 2 As R rv I R) 3 [(0, .ref (G.1 + b0)), (1, .int v1), (2, .int v2), (3, .int v3), (4, .int s)] [] I R := by
  apply qloop_ind
  intro s x hF hc he
  obtain ⟨v4, rfl⟩ : ∃ z, z = s := ⟨s, rfl⟩
  change cX8_canGoOn_3 N R I b0 v1 v2 v3 v4 = some x at hF
  unfold cX8_canGoOn_3 at hF
  show AW _ 3 [(0, .ref (G.1 + b0)), (1, .int v1), (2, .int v2), (3, .int v3), (4, .int v4)] [] I R
  refine aw_iload dX8_canGoOn_3 4 rfl ?_
  refine aw_aload_n dX8_canGoOn_5 0 rfl rfl ?_
  refine aw_geti fl_X8_97 (by decide) fg_X8_1 hb0 rfl dX8_canGoOn_6 ?_
  refine aw_icmp_ge (tgt := 111) dX8_canGoOn_9 (by decide) (fun c1 => ?_) (fun c1 => ?_)
  · rw [if_pos c1] at hF
    cases hF
    have hE := he _ rfl
    subst hE
    exact aw_sub [] rfl hx
  · rw [if_neg c1] at hF
    refine aw_aload_n dX8_canGoOn_12 0 rfl rfl ?_
    refine aw_iload dX8_canGoOn_13 4 rfl ?_
    refine aw_iload_n dX8_canGoOn_15 3 rfl rfl ?_
    obtain ⟨y2, ey2, hF⟩ := qbind hF
    refine aw_callVi (As := [.int v4, .int v3]) (sX8_runs hW hb0 ey2) cl_X8_179 rfl (qroomL (by decide) (by decide)) rfl hb0 (Nat.le_of_ble_eq_true rfl) dX8_canGoOn_16 rfl ?_
    refine aw_if_ne (tgt := 25) dX8_canGoOn_19 (by decide) (fun c3 => ?_) (fun c3 => ?_)
    · rw [if_neg c3] at hF
      refine aw_iconst (v := (0 : Int32)) dX8_canGoOn_25 (by decide) ?_
      refine aw_istore (lv' := [(5, .int (0 : Int32)), (0, .ref (G.1 + b0)), (1, .int v1), (2, .int v2), (3, .int v3), (4, .int v4)]) dX8_canGoOn_26 (Nat.le_of_ble_eq_true rfl) rfl ?_
      refine aw_iconst (v := (0 : Int32)) dX8_canGoOn_28 (by decide) ?_
      refine aw_istore (lv' := [(6, .int (0 : Int32)), (5, .int (0 : Int32)), (0, .ref (G.1 + b0)), (1, .int v1), (2, .int v2), (3, .int v3), (4, .int v4)]) dX8_canGoOn_29 (Nat.le_of_ble_eq_true rfl) rfl ?_
      obtain ⟨o13, eo13, hF⟩ := qbind hF
      refine aw_sub [2, 3, 4, 5, 6, 1, 0] rfl (tX8_canGoOn_31 hW hb0 (o := o13) ?_ N ((0 : Int32), (0 : Int32)) eo13)
      cases o13 with
      | inl e14 =>
        replace hF := qxl hF
        show AW _ 105 [(0, .ref (G.1 + b0)), (1, .int v1), (2, .int v2), (3, .int v3), (4, .int v4)] [] I R
        refine aw_iinc (q := 4) (v := (v4 + 1)) (lv' := [(4, .int (v4 + 1)), (0, .ref (G.1 + b0)), (1, .int v1), (2, .int v2), (3, .int v3)]) dX8_canGoOn_105 rfl rfl (Nat.le_of_ble_eq_true rfl) rfl ?_
        refine aw_goto (tgt := 3) dX8_canGoOn_108 (by decide) ?_
        cases hF
        exact aw_sub [1, 2, 3, 4, 0] rfl (hc (v4 + 1) rfl)
      | inr q15 =>
        replace hF := qxr hF
        cases hF
        have hE := he _ rfl
        subst hE
        exact hx
    · rw [if_pos c3] at hF
      refine aw_goto (tgt := 105) dX8_canGoOn_22 (by decide) ?_
      refine aw_iinc (q := 4) (v := (v4 + 1)) (lv' := [(4, .int (v4 + 1)), (0, .ref (G.1 + b0)), (1, .int v1), (2, .int v2), (3, .int v3)]) dX8_canGoOn_105 rfl rfl (Nat.le_of_ble_eq_true rfl) rfl ?_
      refine aw_goto (tgt := 3) dX8_canGoOn_108 (by decide) ?_
      cases hF
      exact aw_sub [1, 2, 3, 4, 0] rfl (hc (v4 + 1) rfl)
def fX8_canGoOn (N : Nat) (R : qR) (I : qI) (a0 : Nat) (p1 : Int32) (p2 : Int32) (p3 : Int32) : Option (Int32) :=
  (qloop (fun s => cX8_canGoOn_3 N R I a0 p1 p2 p3 s) N (0 : Int32)).bind fun o16 =>
  qx o16 (fun e17 =>
    some (0 : Int32)) (fun q18 => some q18)
set_option maxHeartbeats 4000000 in
set_option maxRecDepth 100000 in
theorem sX8_canGoOn {l : Launch} {G : qG} {N : Nat} {R : qR} {I : qI} {a0 : Nat} {p1 : Int32} {p2 : Int32} {p3 : Int32} {rv : Int32} (hW : qWT R) (ha0 : qok R a0 8) (hF : fX8_canGoOn N R I a0 p1 p2 p3 = some rv) : qMt l G mX8_canGoOn 2 [.ref (G.1 + a0), .int p1, .int p2, .int p3] I R (some (.int rv)) I R := by
  unfold fX8_canGoOn at hF
  refine qMt_of (by decide) (Nat.le_of_ble_eq_true rfl) ⟨Nat.le_refl _, Nat.le_refl _⟩ ?_
  show AW _ 0 [(0, .ref (G.1 + a0)), (1, .int p1), (2, .int p2), (3, .int p3)] [] I R
  refine aw_iconst (v := (0 : Int32)) dX8_canGoOn_0 (by decide) ?_
  refine aw_istore (lv' := [(4, .int (0 : Int32)), (0, .ref (G.1 + a0)), (1, .int p1), (2, .int p2), (3, .int p3)]) dX8_canGoOn_1 (Nat.le_of_ble_eq_true rfl) rfl ?_
  obtain ⟨o16, eo16, hF⟩ := qbind hF
  refine aw_sub [1, 2, 3, 4, 0] rfl (tX8_canGoOn_3 hW ha0 (o := o16) ?_ N (0 : Int32) eo16)
  cases o16 with
  | inl e17 =>
    replace hF := qxl hF
    show AW _ 111 [] [] I R
    refine aw_iconst (v := (0 : Int32)) dX8_canGoOn_111 (by decide) ?_
    cases hF
    exact aw_zret rfl (by decide) dX8_canGoOn_112 rfl rfl rfl
  | inr q18 =>
    replace hF := qxr hF
    cases hF
    exact ⟨rfl, trivial⟩
