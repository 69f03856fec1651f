def cX2_prepare_12 (N : Nat) (R : qR) (b0 : Nat) (b1 : Nat) (v2 : Int32) (v3 : Int32) (I : qI) : Option ((Int32 × qI) ⊕ (qI)) :=
  if v2 ≤ v3 then
    (some (.inr I))
  else
    ((qra R b1 v3).bind fun r4 =>
    (fX2_readStops N R I b0 r4 v3).bind fun y5 =>
    qlet (qup y5 b0 3 ((y5 b0 3) ||| ((y5 r4 1) <<< (((3 : Int32) * v3) &&& 31)))) fun I6 =>
    some (.inl ((v3 + 1), I6)))
set_option maxHeartbeats 4000000 in
set_option maxRecDepth 100000 in
theorem tX2_prepare_12 {l : Launch} {G : qG} {N : Nat} {R0 R1 : qR} {R : qR} {As : List Value} {rv : Option Value} {I1 : qI} {b0 : Nat} {b1 : Nat} {v2 : Int32} (hW : qWT R) (hX : qWT R1 ∧ qExt R R1) (hb0 : qok R b0 2) (hb1 : qok R b1 11) {o : qI} (hx : AW (Zm l G mX2_prepare 3 As R0 rv I1 R1) 50 [(0, .ref (G.1 + b0)), (1, .ref (G.1 + b1)), (2, .int v2)] [] o R) : ∀ n s, qloop (fun s => cX2_prepare_12 N R b0 b1 v2 s.1 s.2) n s = some o → (match s with | (v3, I) => AW (Zm l G mX2_prepare 3 As R0 rv I1 R1) 12 [(0, .ref (G.1 + b0)), (1, .ref (G.1 + b1)), (2, .int v2), (3, .int v3)] [] I R) := by
  apply qloop_ind
  intro s x hF hc he
  obtain ⟨v3, I⟩ := s
  change cX2_prepare_12 N R b0 b1 v2 v3 I = some x at hF
  unfold cX2_prepare_12 at hF
  show AW _ 12 [(0, .ref (G.1 + b0)), (1, .ref (G.1 + b1)), (2, .int v2), (3, .int v3)] [] I R
  refine aw_iload_n dX2_prepare_12 3 rfl rfl ?_
  refine aw_iload_n dX2_prepare_13 2 rfl rfl ?_
  refine aw_icmp_ge (tgt := 50) dX2_prepare_14 (by decide) (fun c3 => ?_) (fun c3 => ?_)
  · rw [if_pos c3] at hF
    cases hF
    have hE := he _ rfl
    subst hE
    exact aw_sub [0, 1, 2] rfl hx
  · rw [if_neg c3] at hF
    refine aw_aload_n dX2_prepare_17 0 rfl rfl ?_
    refine aw_aload_n dX2_prepare_18 1 rfl rfl ?_
    refine aw_iload_n dX2_prepare_19 3 rfl rfl ?_
    obtain ⟨r4, er4, hF⟩ := qbind hF
    have kr4 : qok R r4 5 := hW.elem hb1 er4
    refine aw_aaldq hb1 er4 dX2_prepare_20 ?_
    refine aw_iload_n dX2_prepare_21 3 rfl rfl ?_
    obtain ⟨y5, ey5, hF⟩ := qbind hF
    refine aw_callVv (As := [.ref (G.1 + r4), .int v3]) (sX2_readStops hW hb0 kr4 ey5) cl_X2_65 rfl (qroomH (by decide) (by decide) hX.2) rfl hb0 (Nat.le_of_ble_eq_true rfl) dX2_prepare_22 rfl ?_
    refine aw_aload_n dX2_prepare_25 0 rfl rfl ?_
    refine aw_dup dX2_prepare_26 rfl ?_
    refine aw_geti fl_X2_48 (by decide) fg_X2_3 hb0 rfl dX2_prepare_27 ?_
    refine aw_aload_n dX2_prepare_30 1 rfl rfl ?_
    refine aw_iload_n dX2_prepare_31 3 rfl rfl ?_
    refine aw_aaldq hb1 er4 dX2_prepare_32 ?_
    refine aw_geti fl_X2_31 (by decide) fg_X5_1 kr4 rfl dX2_prepare_33 ?_
    refine aw_iconst (v := (3 : Int32)) dX2_prepare_36 (by decide) ?_
    refine aw_iload_n dX2_prepare_37 3 rfl rfl ?_
    refine aw_imul dX2_prepare_38 ?_
    refine aw_ishl dX2_prepare_39 ?_
    refine aw_ior dX2_prepare_40 ?_
    obtain ⟨I6, eI6, hF⟩ := qletE hF
    refine aw_putiq fl_X2_48 (by decide) fs_X2_3 fn_X2_3 ft_X2_3 hb0 eI6 rfl dX2_prepare_41 ?_
    refine aw_iinc (q := 3) (v := (v3 + 1)) (lv' := [(3, .int (v3 + 1)), (0, .ref (G.1 + b0)), (1, .ref (G.1 + b1)), (2, .int v2)]) dX2_prepare_44 rfl rfl (Nat.le_of_ble_eq_true rfl) rfl ?_
    refine aw_goto (tgt := 12) dX2_prepare_47 (by decide) ?_
    cases hF
    exact aw_sub [1, 2, 3, 0] rfl (hc ((v3 + 1), I6) rfl)
def cX2_prepare_64 (N : Nat) (R : qR) (b0 : Nat) (b1 : Nat) (v2 : Int32) (v4 : Int32) (v3 : Int32) (v5 : Int32) (I : qI) : Option ((Int32 × Int32 × qI) ⊕ (Int32 × qI)) :=
  if v4 ≤ v5 then
    (some (.inr (v3, I)))
  else
    ((qra R b1 v4).bind fun r10 =>
    (qra R b1 v5).bind fun r11 =>
    (fX2_fillPair N R I b0 v3 r10 r11).bind fun y12 =>
    some (.inl ((v3 + 1), (v5 + 1), y12)))
set_option maxHeartbeats 4000000 in
set_option maxRecDepth 100000 in
theorem tX2_prepare_64 {l : Launch} {G : qG} {N : Nat} {R0 R1 : qR} {R : qR} {As : List Value} {rv : Option Value} {I1 : qI} {b0 : Nat} {b1 : Nat} {v2 : Int32} {v4 : Int32} (hW : qWT R) (hX : qWT R1 ∧ qExt R R1) (hb0 : qok R b0 2) (hb1 : qok R b1 11) {o : Int32 × qI} (hx : match o with | (z0, z1) => AW (Zm l G mX2_prepare 3 As R0 rv I1 R1) 93 [(0, .ref (G.1 + b0)), (1, .ref (G.1 + b1)), (2, .int v2), (3, .int z0), (4, .int v4)] [] z1 R) : ∀ n s, qloop (fun s => cX2_prepare_64 N R b0 b1 v2 v4 s.1 s.2.1 s.2.2) n s = some o → (match s with | (v3, v5, I) => AW (Zm l G mX2_prepare 3 As R0 rv I1 R1) 64 [(0, .ref (G.1 + b0)), (1, .ref (G.1 + b1)), (2, .int v2), (3, .int v3), (4, .int v4), (5, .int v5)] [] I R) := by
  apply qloop_ind
  intro s x hF hc he
  obtain ⟨v3, v5, I⟩ := s
  change cX2_prepare_64 N R b0 b1 v2 v4 v3 v5 I = some x at hF
  unfold cX2_prepare_64 at hF
  show AW _ 64 [(0, .ref (G.1 + b0)), (1, .ref (G.1 + b1)), (2, .int v2), (3, .int v3), (4, .int v4), (5, .int v5)] [] I R
  refine aw_iload dX2_prepare_64 5 rfl ?_
  refine aw_iload dX2_prepare_66 4 rfl ?_
  refine aw_icmp_ge (tgt := 93) dX2_prepare_68 (by decide) (fun c9 => ?_) (fun c9 => ?_)
  · rw [if_pos c9] at hF
    cases hF
    have hE := he _ rfl
    subst hE
    exact aw_sub [0, 1, 2, 3, 4] rfl hx
  · rw [if_neg c9] at hF
    refine aw_aload_n dX2_prepare_71 0 rfl rfl ?_
    refine aw_iload_n dX2_prepare_72 3 rfl rfl ?_
    refine aw_aload_n dX2_prepare_73 1 rfl rfl ?_
    refine aw_iload dX2_prepare_74 4 rfl ?_
    obtain ⟨r10, er10, hF⟩ := qbind hF
    have kr10 : qok R r10 5 := hW.elem hb1 er10
    refine aw_aaldq hb1 er10 dX2_prepare_76 ?_
    refine aw_aload_n dX2_prepare_77 1 rfl rfl ?_
    refine aw_iload dX2_prepare_78 5 rfl ?_
    obtain ⟨r11, er11, hF⟩ := qbind hF
    have kr11 : qok R r11 5 := hW.elem hb1 er11
    refine aw_aaldq hb1 er11 dX2_prepare_80 ?_
    obtain ⟨y12, ey12, hF⟩ := qbind hF
    refine aw_callVv (As := [.int v3, .ref (G.1 + r10), .ref (G.1 + r11)]) (sX2_fillPair hW hb0 kr10 kr11 ey12) cl_X2_69 rfl (qroomH (by decide) (by decide) hX.2) rfl hb0 (Nat.le_of_ble_eq_true rfl) dX2_prepare_81 rfl ?_
    refine aw_iinc (q := 3) (v := (v3 + 1)) (lv' := [(3, .int (v3 + 1)), (0, .ref (G.1 + b0)), (1, .ref (G.1 + b1)), (2, .int v2), (4, .int v4), (5, .int v5)]) dX2_prepare_84 rfl rfl (Nat.le_of_ble_eq_true rfl) rfl ?_
    refine aw_iinc (q := 5) (v := (v5 + 1)) (lv' := [(5, .int (v5 + 1)), (3, .int (v3 + 1)), (0, .ref (G.1 + b0)), (1, .ref (G.1 + b1)), (2, .int v2), (4, .int v4)]) dX2_prepare_87 rfl rfl (Nat.le_of_ble_eq_true rfl) rfl ?_
    refine aw_goto (tgt := 64) dX2_prepare_90 (by decide) ?_
    cases hF
    exact aw_sub [2, 3, 4, 1, 5, 0] rfl (hc ((v3 + 1), (v5 + 1), y12) rfl)
def cX2_prepare_55 (N : Nat) (R : qR) (b0 : Nat) (b1 : Nat) (v2 : Int32) (v3 : Int32) (v4 : Int32) (I : qI) : Option ((Int32 × Int32 × qI) ⊕ (qI)) :=
  if v2 ≤ v4 then
    (some (.inr I))
  else
    ((qloop (fun s => cX2_prepare_64 N R b0 b1 v2 v4 s.1 s.2.1 s.2.2) N (v3, (0 : Int32), I)).bind fun o13 =>
    some (.inl (o13.1, (v4 + 1), o13.2)))
set_option maxHeartbeats 4000000 in
set_option maxRecDepth 100000 in
theorem tX2_prepare_55 {l : Launch} {G : qG} {N : Nat} {R0 R1 : qR} {R : qR} {As : List Value} {rv : Option Value} {I1 : qI} {b0 : Nat} {b1 : Nat} {v2 : Int32} (hW : qWT R) (hX : qWT R1 ∧ qExt R R1) (hb0 : qok R b0 2) (hb1 : qok R b1 11) {o : qI} (hx : AW (Zm l G mX2_prepare 3 As R0 rv I1 R1) 99 [(0, .ref (G.1 + b0)), (2, .int v2)] [] o R) : ∀ n s, qloop (fun s => cX2_prepare_55 N R b0 b1 v2 s.1 s.2.1 s.2.2) n s = some o → (match s with | (v3, v4, I) => AW (Zm l G mX2_prepare 3 As R0 rv I1 R1) 55 [(0, .ref (G.1 + b0)), (1, .ref (G.1 + b1)), (2, .int v2), (3, .int v3), (4, .int v4)] [] I R) := by
  apply qloop_ind
  intro s x hF hc he
  obtain ⟨v3, v4, I⟩ := s
  change cX2_prepare_55 N R b0 b1 v2 v3 v4 I = some x at hF
  unfold cX2_prepare_55 at hF
  show AW _ 55 [(0, .ref (G.1 + b0)), (1, .ref (G.1 + b1)), (2, .int v2), (3, .int v3), (4, .int v4)] [] I R
  refine aw_iload dX2_prepare_55 4 rfl ?_
  refine aw_iload_n dX2_prepare_57 2 rfl rfl ?_
  refine aw_icmp_ge (tgt := 99) dX2_prepare_58 (by decide) (fun c8 => ?_) (fun c8 => ?_)
  · rw [if_pos c8] at hF
    cases hF
    have hE := he _ rfl
    subst hE
    exact aw_sub [0, 2] rfl hx
  · rw [if_neg c8] at hF
    refine aw_iconst (v := (0 : Int32)) dX2_prepare_61 (by decide) ?_
    refine aw_istore (lv' := [(5, .int (0 : Int32)), (0, .ref (G.1 + b0)), (1, .ref (G.1 + b1)), (2, .int v2), (3, .int v3), (4, .int v4)]) dX2_prepare_62 (Nat.le_of_ble_eq_true rfl) rfl ?_
    obtain ⟨o13, eo13, hF⟩ := qbind hF
    refine aw_sub [1, 2, 3, 4, 5, 0] rfl (tX2_prepare_64 hW hX hb0 hb1 (o := o13) ?_ N (v3, (0 : Int32), I) eo13)
    show AW _ 93 [(0, .ref (G.1 + b0)), (1, .ref (G.1 + b1)), (2, .int v2), (3, .int o13.1), (4, .int v4)] [] o13.2 R
    refine aw_iinc (q := 4) (v := (v4 + 1)) (lv' := [(4, .int (v4 + 1)), (0, .ref (G.1 + b0)), (1, .ref (G.1 + b1)), (2, .int v2), (3, .int o13.1)]) dX2_prepare_93 rfl rfl (Nat.le_of_ble_eq_true rfl) rfl ?_
    refine aw_goto (tgt := 55) dX2_prepare_96 (by decide) ?_
    cases hF
    exact aw_sub [1, 2, 3, 4, 0] rfl (hc (o13.1, (v4 + 1), o13.2) rfl)
def fX2_prepare (N : Nat) (R : qR) (I : qI) (a0 : Nat) (a1 : Nat) (p2 : Int32) : Option (qI × qR) :=
  qlet (qup I a0 2 p2) fun I1 =>
  qlet (qup I1 a0 3 (0 : Int32)) fun I2 =>
  (qloop (fun s => cX2_prepare_12 N R a0 a1 p2 s.1 s.2) N ((0 : Int32), I2)).bind fun o7 =>
  (qloop (fun s => cX2_prepare_55 N R a0 a1 p2 s.1 s.2.1 s.2.2) N ((0 : Int32), (1 : Int32), o7)).bind fun o14 =>
  (fX2_openKnown N R o14 a0 ((1 : Int32) <<< (((3 : Int32) * p2) &&& 31))).bind fun y15 =>
  some (y15.1, y15.2)
set_option maxHeartbeats 4000000 in
set_option maxRecDepth 100000 in
theorem eX2_prepare {N : Nat} {R : qR} {I : qI} {a0 : Nat} {a1 : Nat} {p2 : Int32} {rI : qI} {rR : qR} (hW : qWT R) (ha0 : qok R a0 2) (ha1 : qok R a1 11) (hF : fX2_prepare N R I a0 a1 p2 = some (rI, rR)) : qWT rR ∧ qExt R rR := by
  unfold fX2_prepare at hF
  obtain ⟨I1, eI1, hF⟩ := qletE hF
  obtain ⟨I2, eI2, hF⟩ := qletE hF
  obtain ⟨o7, eo7, hF⟩ := qbind hF
  obtain ⟨o14, eo14, hF⟩ := qbind hF
  obtain ⟨y15, ey15, hF⟩ := qbind hF
  have eX := eX2_openKnown hW ha0 ey15
  have E : qExt R y15.2 := eX.2
  have hW : qWT y15.2 := eX.1
  have ha0 : qok y15.2 a0 2 := ha0.ext E
  refine qx_trans E ?_
  cases hF
  exact ⟨hW, qExt.rf⟩
set_option maxHeartbeats 4000000 in
set_option maxRecDepth 100000 in
theorem sX2_prepare {l : Launch} {G : qG} {N : Nat} {R : qR} {I : qI} {a0 : Nat} {a1 : Nat} {p2 : Int32} {rI : qI} {rR : qR} (hW : qWT R) (ha0 : qok R a0 2) (ha1 : qok R a1 11) (hF : fX2_prepare N R I a0 a1 p2 = some (rI, rR)) : qMt l G mX2_prepare 3 [.ref (G.1 + a0), .ref (G.1 + a1), .int p2] I R (none) rI rR := by
  have hX := eX2_prepare hW ha0 ha1 hF
  unfold fX2_prepare at hF
  refine qMt_of (by decide) (Nat.le_of_ble_eq_true rfl) ⟨hX.2.1, hX.2.2.1⟩ ?_
  show AW _ 0 [(0, .ref (G.1 + a0)), (1, .ref (G.1 + a1)), (2, .int p2)] [] I R
  refine aw_aload_n dX2_prepare_0 0 rfl rfl ?_
  refine aw_iload_n dX2_prepare_1 2 rfl rfl ?_
  obtain ⟨I1, eI1, hF⟩ := qletE hF
  refine aw_putiq fl_X2_62 (by decide) fs_X2_2 fn_X2_2 ft_X2_2 ha0 eI1 rfl dX2_prepare_2 ?_
  refine aw_aload_n dX2_prepare_5 0 rfl rfl ?_
  refine aw_iconst (v := (0 : Int32)) dX2_prepare_6 (by decide) ?_
  obtain ⟨I2, eI2, hF⟩ := qletE hF
  refine aw_putiq fl_X2_48 (by decide) fs_X2_3 fn_X2_3 ft_X2_3 ha0 eI2 rfl dX2_prepare_7 ?_
  refine aw_iconst (v := (0 : Int32)) dX2_prepare_10 (by decide) ?_
  refine aw_istore_n (lv' := [(3, .int (0 : Int32)), (0, .ref (G.1 + a0)), (1, .ref (G.1 + a1)), (2, .int p2)]) dX2_prepare_11 rfl (Nat.le_of_ble_eq_true rfl) rfl ?_
  obtain ⟨o7, eo7, hF⟩ := qbind hF
  refine aw_sub [1, 2, 3, 0] rfl (tX2_prepare_12 hW hX ha0 ha1 (o := o7) ?_ N ((0 : Int32), I2) eo7)
  show AW _ 50 [(0, .ref (G.1 + a0)), (1, .ref (G.1 + a1)), (2, .int p2)] [] o7 R
  refine aw_iconst (v := (0 : Int32)) dX2_prepare_50 (by decide) ?_
  refine aw_istore_n (lv' := [(3, .int (0 : Int32)), (0, .ref (G.1 + a0)), (1, .ref (G.1 + a1)), (2, .int p2)]) dX2_prepare_51 rfl (Nat.le_of_ble_eq_true rfl) rfl ?_
  refine aw_iconst (v := (1 : Int32)) dX2_prepare_52 (by decide) ?_
  refine aw_istore (lv' := [(4, .int (1 : Int32)), (3, .int (0 : Int32)), (0, .ref (G.1 + a0)), (1, .ref (G.1 + a1)), (2, .int p2)]) dX2_prepare_53 (Nat.le_of_ble_eq_true rfl) rfl ?_
  obtain ⟨o14, eo14, hF⟩ := qbind hF
  refine aw_sub [2, 3, 4, 1, 0] rfl (tX2_prepare_55 hW hX ha0 ha1 (o := o14) ?_ N ((0 : Int32), (1 : Int32), o7) eo14)
  show AW _ 99 [(0, .ref (G.1 + a0)), (2, .int p2)] [] o14 R
  refine aw_aload_n dX2_prepare_99 0 rfl rfl ?_
  refine aw_iconst (v := (1 : Int32)) dX2_prepare_100 (by decide) ?_
  refine aw_iconst (v := (3 : Int32)) dX2_prepare_101 (by decide) ?_
  refine aw_iload_n dX2_prepare_102 1 rfl rfl ?_
  refine aw_imul dX2_prepare_103 ?_
  refine aw_ishl dX2_prepare_104 ?_
  obtain ⟨y15, ey15, hF⟩ := qbind hF
  have eX := eX2_openKnown hW ha0 ey15
  have hM := fun {l : Launch} {G : qG} => sX2_openKnown (l := l) (G := G) hW ha0 ey15
  have hrec0 := ha0
  have E : qExt R y15.2 := eX.2
  have hW : qWT y15.2 := eX.1
  have ha0 : qok y15.2 a0 2 := ha0.ext E
  have hX : qWT rR ∧ qExt y15.2 rR := by
    cases hF
    exact ⟨hW, qExt.rf⟩
  refine aw_callVv (As := [.int ((1 : Int32) <<< (((3 : Int32) * p2) &&& 31))]) hM cl_X2_73 rfl (qroomH (by decide) (by decide) hX.2) rfl hrec0 (Nat.le_of_ble_eq_true rfl) dX2_prepare_105 rfl ?_
  cases hF
  exact aw_vret rfl dX2_prepare_108 rfl rfl rfl
def cX2_search_11 (N : Nat) (R : qR) (I : qI) (b0 : Nat) (b1 : Nat) (v2 : Int32) (v3 : Int32) (v4 : Int32) : Option ((Int32 × Int32) ⊕ (Int32)) :=
  if v2 ≤ v4 then
    (some (.inr v3))
  else
    ((qra R b1 v4).bind fun r3 =>
    some (.inl ((v3 + (I r3 1)), (v4 + 1))))
set_option maxHeartbeats 4000000 in
set_option maxRecDepth 100000 in
theorem tX2_search_11 {l : Launch} {G : qG} {N : Nat} {R0 R1 : qR} {R : qR} {I : qI} {As : List Value} {rv : Option Value} {I1 : qI} {b0 : Nat} {b1 : Nat} {v2 : Int32} (hW : qWT R) (hX : qWT R1 ∧ qExt R R1) (hb0 : qok R b0 2) (hb1 : qok R b1 11) {o : Int32} (hx : AW (Zm l G mX2_search 55 As R0 rv I1 R1) 33 [(0, .ref (G.1 + b0)), (3, .int o)] [] I R) : ∀ n s, qloop (fun s => cX2_search_11 N R I b0 b1 v2 s.1 s.2) n s = some o → (match s with | (v3, v4) => AW (Zm l G mX2_search 55 As R0 rv I1 R1) 11 [(0, .ref (G.1 + b0)), (1, .ref (G.1 + b1)), (2, .int v2), (3, .int v3), (4, .int v4)] [] I R) := by
  apply qloop_ind
  intro s x hF hc he
  obtain ⟨v3, v4⟩ := s
  change cX2_search_11 N R I b0 b1 v2 v3 v4 = some x at hF
  unfold cX2_search_11 at hF
  show AW _ 11 [(0, .ref (G.1 + b0)), (1, .ref (G.1 + b1)), (2, .int v2), (3, .int v3), (4, .int v4)] [] I R
  refine aw_iload dX2_search_11 4 rfl ?_
  refine aw_iload_n dX2_search_13 2 rfl rfl ?_
  refine aw_icmp_ge (tgt := 33) dX2_search_14 (by decide) (fun c2 => ?_) (fun c2 => ?_)
  · rw [if_pos c2] at hF
    cases hF
    have hE := he _ rfl
    subst hE
    exact aw_sub [0, 3] rfl hx
  · rw [if_neg c2] at hF
    refine aw_iload_n dX2_search_17 3 rfl rfl ?_
    refine aw_aload_n dX2_search_18 1 rfl rfl ?_
    refine aw_iload dX2_search_19 4 rfl ?_
    obtain ⟨r3, er3, hF⟩ := qbind hF
    have kr3 : qok R r3 5 := hW.elem hb1 er3
    refine aw_aaldq hb1 er3 dX2_search_21 ?_
    refine aw_geti fl_X2_31 (by decide) fg_X5_1 kr3 rfl dX2_search_22 ?_
    refine aw_iadd dX2_search_25 ?_
    refine aw_istore_n (lv' := [(3, .int (v3 + (I r3 1))), (0, .ref (G.1 + b0)), (1, .ref (G.1 + b1)), (2, .int v2), (4, .int v4)]) dX2_search_26 rfl (Nat.le_of_ble_eq_true rfl) rfl ?_
    refine aw_iinc (q := 4) (v := (v4 + 1)) (lv' := [(4, .int (v4 + 1)), (3, .int (v3 + (I r3 1))), (0, .ref (G.1 + b0)), (1, .ref (G.1 + b1)), (2, .int v2)]) dX2_search_27 rfl rfl (Nat.le_of_ble_eq_true rfl) rfl ?_
    refine aw_goto (tgt := 11) dX2_search_30 (by decide) ?_
    cases hF
    exact aw_sub [2, 3, 4, 1, 0] rfl (hc ((v3 + (I r3 1)), (v4 + 1)) rfl)
def cX2_search_43 (N : Nat) (R : qR) (b0 : Nat) (v3 : Int32) (v4 : Int32) (v5 : Int32) (I : qI) : Option ((Int32 × Int32 × qI) ⊕ (qI)) :=
  if v3 < v5 then
    (some (.inr I))
  else
    (if v4 = 0 then
      (qlet (qup I b0 0 v5) fun I8 =>
      (fX2_reach N 50 R I8 b0 (0 : Int32) v5).bind fun y9 =>
      some (.inl (y9.1, (v5 + 1), y9.2)))
    else
      (some (.inr I)))
set_option maxHeartbeats 4000000 in
set_option maxRecDepth 100000 in
theorem tX2_search_43 {l : Launch} {G : qG} {N : Nat} {R0 R1 : qR} {R : qR} {As : List Value} {rv : Option Value} {I1 : qI} {b0 : Nat} {v3 : Int32} (hW : qWT R) (hX : qWT R1 ∧ qExt R R1) (hb0 : qok R b0 2) {o : qI} (hx : AW (Zm l G mX2_search 55 As R0 rv I1 R1) 75 [] [] o R) : ∀ n s, qloop (fun s => cX2_search_43 N R b0 v3 s.1 s.2.1 s.2.2) n s = some o → (match s with | (v4, v5, I) => AW (Zm l G mX2_search 55 As R0 rv I1 R1) 43 [(0, .ref (G.1 + b0)), (3, .int v3), (4, .int v4), (5, .int v5)] [] I R) := by
  apply qloop_ind
  intro s x hF hc he
  obtain ⟨v4, v5, I⟩ := s
  change cX2_search_43 N R b0 v3 v4 v5 I = some x at hF
  unfold cX2_search_43 at hF
  show AW _ 43 [(0, .ref (G.1 + b0)), (3, .int v3), (4, .int v4), (5, .int v5)] [] I R
  refine aw_iload dX2_search_43 3 rfl ?_
  refine aw_iload_n dX2_search_45 1 rfl rfl ?_
  refine aw_icmp_gt (tgt := 75) dX2_search_46 (by decide) (fun c6 => ?_) (fun c6 => ?_)
  · rw [if_pos c6] at hF
    cases hF
    have hE := he _ rfl
    subst hE
    exact aw_sub [] rfl hx
  · rw [if_neg c6] at hF
    refine aw_iload dX2_search_49 2 rfl ?_
    refine aw_if_ne (tgt := 75) dX2_search_51 (by decide) (fun c7 => ?_) (fun c7 => ?_)
    · rw [if_neg c7] at hF
      cases hF
      have hE := he _ rfl
      subst hE
      exact aw_sub [] rfl hx
    · rw [if_pos c7] at hF
      refine aw_aload_n dX2_search_54 0 rfl rfl ?_
      refine aw_iload dX2_search_55 3 rfl ?_
      obtain ⟨I8, eI8, hF⟩ := qletE hF
      refine aw_putiq fl_X2_41 (by decide) fs_X2_0 fn_X2_0 ft_X2_0 hb0 eI8 rfl dX2_search_57 ?_
      refine aw_aload_n dX2_search_60 0 rfl rfl ?_
      refine aw_iconst (v := (0 : Int32)) dX2_search_61 (by decide) ?_
      refine aw_iload dX2_search_62 3 rfl ?_
      obtain ⟨y9, ey9, hF⟩ := qbind hF
      refine aw_callSi (sX2_reach hW hb0 ey9) cl_X2_44 rfl (qroomH (by decide) (by decide) hX.2) rfl (Nat.le_of_ble_eq_true rfl) dX2_search_64 rfl ?_
      refine aw_istore (lv' := [(4, .int y9.1), (0, .ref (G.1 + b0)), (3, .int v3), (5, .int v5)]) dX2_search_67 (Nat.le_of_ble_eq_true rfl) rfl ?_
      refine aw_iinc (q := 3) (v := (v5 + 1)) (lv' := [(5, .int (v5 + 1)), (4, .int y9.1), (0, .ref (G.1 + b0)), (3, .int v3)]) dX2_search_69 rfl rfl (Nat.le_of_ble_eq_true rfl) rfl ?_
      refine aw_goto (tgt := 43) dX2_search_72 (by decide) ?_
      cases hF
      exact aw_sub [2, 3, 1, 0] rfl (hc (y9.1, (v5 + 1), y9.2) rfl)
def fX2_search (N : Nat) (R : qR) (I : qI) (a0 : Nat) (a1 : Nat) (p2 : Int32) : Option (qI × qR) :=
  (fX2_prepare N R I a0 a1 p2).bind fun y1 =>
  (qloop (fun s => cX2_search_11 N y1.2 y1.1 a0 a1 p2 s.1 s.2) N ((0 : Int32), (0 : Int32))).bind fun o4 =>
  (fX2_needOf N y1.2 y1.1 a0 (0 : Int32)).bind fun y5 =>
  (qloop (fun s => cX2_search_43 N y1.2 a0 o4 s.1 s.2.1 s.2.2) N ((0 : Int32), y5.1, y5.2)).bind fun o10 =>
  some (o10, y1.2)
set_option maxHeartbeats 4000000 in
set_option maxRecDepth 100000 in
theorem eX2_search {N : Nat} {R : qR} {I : qI} {a0 : Nat} {a1 : Nat} {p2 : Int32} {rI : qI} {rR : qR} (hW : qWT R) (ha0 : qok R a0 2) (ha1 : qok R a1 11) (hF : fX2_search N R I a0 a1 p2 = some (rI, rR)) : qWT rR ∧ qExt R rR := by
  unfold fX2_search at hF
  obtain ⟨y1, ey1, hF⟩ := qbind hF
  have eX := eX2_prepare hW ha0 ha1 ey1
  have E : qExt R y1.2 := eX.2
  have hW : qWT y1.2 := eX.1
  have ha0 : qok y1.2 a0 2 := ha0.ext E
  have ha1 : qok y1.2 a1 11 := ha1.ext E
  refine qx_trans E ?_
  obtain ⟨o4, eo4, hF⟩ := qbind hF
  obtain ⟨y5, ey5, hF⟩ := qbind hF
  obtain ⟨o10, eo10, hF⟩ := qbind hF
  cases hF
  exact ⟨hW, qExt.rf⟩
set_option maxHeartbeats 4000000 in
set_option maxRecDepth 100000 in
theorem sX2_search {l : Launch} {G : qG} {N : Nat} {R : qR} {I : qI} {a0 : Nat} {a1 : Nat} {p2 : Int32} {rI : qI} {rR : qR} (hW : qWT R) (ha0 : qok R a0 2) (ha1 : qok R a1 11) (hF : fX2_search N R I a0 a1 p2 = some (rI, rR)) : qMt l G mX2_search 55 [.ref (G.1 + a0), .ref (G.1 + a1), .int p2] I R (none) rI rR := by
  have hX := eX2_search hW ha0 ha1 hF
  unfold fX2_search at hF
  refine qMt_of (by decide) (Nat.le_of_ble_eq_true rfl) ⟨hX.2.1, hX.2.2.1⟩ ?_
  show AW _ 0 [(0, .ref (G.1 + a0)), (1, .ref (G.1 + a1)), (2, .int p2)] [] I R
  refine aw_aload_n dX2_search_0 0 rfl rfl ?_
  refine aw_aload_n dX2_search_1 1 rfl rfl ?_
  refine aw_iload_n dX2_search_2 2 rfl rfl ?_
  obtain ⟨y1, ey1, hF⟩ := qbind hF
  have eX := eX2_prepare hW ha0 ha1 ey1
  have hM := fun {l : Launch} {G : qG} => sX2_prepare (l := l) (G := G) hW ha0 ha1 ey1
  have hrec0 := ha0
  have E : qExt R y1.2 := eX.2
  have hW : qWT y1.2 := eX.1
  have ha0 : qok y1.2 a0 2 := ha0.ext E
  have ha1 : qok y1.2 a1 11 := ha1.ext E
  have hX : qWT rR ∧ qExt y1.2 rR := by
    obtain ⟨o4, eo4, hF⟩ := qbind hF
    obtain ⟨y5, ey5, hF⟩ := qbind hF
    obtain ⟨o10, eo10, hF⟩ := qbind hF
    cases hF
    exact ⟨hW, qExt.rf⟩
  refine aw_callVv (As := [.ref (G.1 + a1), .int p2]) hM cl_X2_27 rfl (qroomH (by decide) (by decide) hX.2) rfl hrec0 (Nat.le_of_ble_eq_true rfl) dX2_search_3 rfl ?_
  refine aw_iconst (v := (0 : Int32)) dX2_search_6 (by decide) ?_
  refine aw_istore_n (lv' := [(3, .int (0 : Int32)), (0, .ref (G.1 + a0)), (1, .ref (G.1 + a1)), (2, .int p2)]) dX2_search_7 rfl (Nat.le_of_ble_eq_true rfl) rfl ?_
  refine aw_iconst (v := (0 : Int32)) dX2_search_8 (by decide) ?_
  refine aw_istore (lv' := [(4, .int (0 : Int32)), (3, .int (0 : Int32)), (0, .ref (G.1 + a0)), (1, .ref (G.1 + a1)), (2, .int p2)]) dX2_search_9 (Nat.le_of_ble_eq_true rfl) rfl ?_
  obtain ⟨o4, eo4, hF⟩ := qbind hF
  refine aw_sub [2, 3, 4, 1, 0] rfl (tX2_search_11 hW hX ha0 ha1 (o := o4) ?_ N ((0 : Int32), (0 : Int32)) eo4)
  show AW _ 33 [(0, .ref (G.1 + a0)), (3, .int o4)] [] y1.1 y1.2
  refine aw_iconst (v := (0 : Int32)) dX2_search_33 (by decide) ?_
  refine aw_istore (lv' := [(4, .int (0 : Int32)), (0, .ref (G.1 + a0)), (3, .int o4)]) dX2_search_34 (Nat.le_of_ble_eq_true rfl) rfl ?_
  refine aw_aload_n dX2_search_36 1 rfl rfl ?_
  refine aw_iconst (v := (0 : Int32)) dX2_search_37 (by decide) ?_
  obtain ⟨y5, ey5, hF⟩ := qbind hF
  refine aw_callVi (As := [.int (0 : Int32)]) (sX2_needOf hW ha0 ey5) cl_X2_37 rfl (qroomH (by decide) (by decide) hX.2) rfl ha0 (Nat.le_of_ble_eq_true rfl) dX2_search_38 rfl ?_
  refine aw_istore (lv' := [(5, .int y5.1), (4, .int (0 : Int32)), (0, .ref (G.1 + a0)), (3, .int o4)]) dX2_search_41 (Nat.le_of_ble_eq_true rfl) rfl ?_
  obtain ⟨o10, eo10, hF⟩ := qbind hF
  refine aw_sub [2, 3, 1, 0] rfl (tX2_search_43 hW hX ha0 (o := o10) ?_ N ((0 : Int32), y5.1, y5.2) eo10)
  show AW _ 75 [] [] o10 y1.2
  cases hF
  exact aw_vret rfl dX2_search_75 rfl rfl rfl
def fX3_init (R : qR) (I : qI) (a0 : Nat) : Option (qI × qR) :=
  qlet (qzI I R.2.2.1) fun I1 =>
  qlet (qzR R 9 6) fun R2 =>
  qlet (qpr R2 a0 0 (some R.2.2.1)) fun R4 =>
  some (I1, R4)
set_option maxHeartbeats 4000000 in
set_option maxRecDepth 100000 in
theorem eX3_init {R : qR} {I : qI} {a0 : Nat} {rI : qI} {rR : qR} (hW : qWT R) (ha0 : qok R a0 3) (hF : fX3_init R I a0 = some (rI, rR)) : qWT rR ∧ qExt R rR := by
  unfold fX3_init at hF
  obtain ⟨I1, eI1, hF⟩ := qletE hF
  obtain ⟨R2, eR2, hF⟩ := qletE hF
  have hz3 : qok R2 R.2.2.1 9 := qok.z eR2
  have E_1 : qExt R R2 := qExt.z eR2
  have hW_1 : qWT R2 := hW.z eR2
  have ha0_1 : qok R2 a0 3 := ha0.ext E_1
  obtain ⟨R4, eR4, hF⟩ := qletE hF
  have E_2 : qExt R2 R4 := qExt.pr eR4
  have hW_2 : qWT R4 := hW_1.pr ha0_1 hz3 eR4
  have ha0_2 : qok R4 a0 3 := ha0_1.ext E_2
  obtain ⟨rfl, rfl⟩ := qpair hF
  have hX_2 := qX_end hW_2
  have hX_1 := qx_trans E_2 hX_2
  have hX := qx_trans E_1 hX_1
  exact hX
set_option maxHeartbeats 4000000 in
set_option maxRecDepth 100000 in
theorem sX3_init {l : Launch} {G : qG} {R : qR} {I : qI} {a0 : Nat} {rI : qI} {rR : qR} (hW : qWT R) (ha0 : qok R a0 3) (hF : fX3_init R I a0 = some (rI, rR)) : qMt l G mX3_init 1 [.ref (G.1 + a0)] I R (none) rI rR := by
  unfold fX3_init at hF
  obtain ⟨I1, eI1, hF⟩ := qletE hF
  obtain ⟨R2, eR2, hF⟩ := qletE hF
  have hz3 : qok R2 R.2.2.1 9 := qok.z eR2
  have E_1 : qExt R R2 := qExt.z eR2
  have hW_1 : qWT R2 := hW.z eR2
  have ha0_1 : qok R2 a0 3 := ha0.ext E_1
  obtain ⟨R4, eR4, hF⟩ := qletE hF
  have E_2 : qExt R2 R4 := qExt.pr eR4
  have hW_2 : qWT R4 := hW_1.pr ha0_1 hz3 eR4
  have ha0_2 : qok R4 a0 3 := ha0_1.ext E_2
  obtain ⟨rfl, rfl⟩ := qpair hF
  have hX_2 := qX_end hW_2
  have hX_1 := qx_trans E_2 hX_2
  have hX := qx_trans E_1 hX_1
  refine qMt_of (by decide) (Nat.le_of_ble_eq_true rfl) ⟨hX.2.1, hX.2.2.1⟩ ?_
  show AW _ 0 [(0, .ref (G.1 + a0))] [] I R
  refine aw_aload_n dX3_init_0 0 rfl rfl ?_
  refine aw_objInit cl_X3_3 cx_oi cx_oc rfl (Nat.le_of_ble_eq_true rfl) (Nat.le_of_ble_eq_true rfl) (Nat.le_of_ble_eq_true rfl) dX3_init_1 ?_
  refine aw_aload_n dX3_init_4 0 rfl rfl ?_
  refine aw_bipush (v := (6 : Int32)) dX3_init_5 (by decide) ?_
  refine aw_newiq (by decide) (by decide) (by decide) eI1 eR2 hX_1.2 dX3_init_7 ?_
  refine aw_putFq fl_X3_11 (by decide) fs_X3_0 fn_X3_0 ft_X3_0 fo_X3 rfl ha0_1 eR4 rfl dX3_init_9 ?_
  exact aw_vret rfl dX3_init_12 rfl rfl rfl
def fX5_init (N : Nat) (R : qR) (I : qI) (a0 : Nat) : Option (qI × qR) :=
  qlet (qzI I R.2.2.1) fun I1 =>
  qlet (qzR R 9 7) fun R2 =>
  qlet (qpr R2 a0 2 (some R.2.2.1)) fun R4 =>
  qlet (qzI I1 R4.2.2.1) fun I5 =>
  qlet (qzR R4 9 7) fun R6 =>
  qlet (qpr R6 a0 3 (some R4.2.2.1)) fun R8 =>
  qlet (qzI I5 R8.2.2.1) fun I9 =>
  qlet (qzR R8 9 7) fun R10 =>
  qlet (qpr R10 a0 4 (some R8.2.2.1)) fun R12 =>
  qlet (qzI I9 R12.2.2.1) fun I13 =>
  qlet (qzR R12 9 12) fun R14 =>
  qlet (qpr R14 a0 5 (some R12.2.2.1)) fun R16 =>
  (R16.1 a0 5).bind fun r17 =>
  (fJ7_fill_53178 N R16 I13 r17 (-1 : Int32)).bind fun y18 =>
  some (y18, R16)
set_option maxHeartbeats 4000000 in
set_option maxRecDepth 100000 in
theorem eX5_init {N : Nat} {R : qR} {I : qI} {a0 : Nat} {rI : qI} {rR : qR} (hW : qWT R) (ha0 : qok R a0 5) (hF : fX5_init N R I a0 = some (rI, rR)) : qWT rR ∧ qExt R rR := by
  unfold fX5_init at hF
  obtain ⟨I1, eI1, hF⟩ := qletE hF
  obtain ⟨R2, eR2, hF⟩ := qletE hF
  have hz3 : qok R2 R.2.2.1 9 := qok.z eR2
  have E_1 : qExt R R2 := qExt.z eR2
  have hW_1 : qWT R2 := hW.z eR2
  have ha0_1 : qok R2 a0 5 := ha0.ext E_1
  obtain ⟨R4, eR4, hF⟩ := qletE hF
  have E_2 : qExt R2 R4 := qExt.pr eR4
  have hW_2 : qWT R4 := hW_1.pr ha0_1 hz3 eR4
  have ha0_2 : qok R4 a0 5 := ha0_1.ext E_2
  obtain ⟨I5, eI5, hF⟩ := qletE hF
  obtain ⟨R6, eR6, hF⟩ := qletE hF
  have hz7 : qok R6 R4.2.2.1 9 := qok.z eR6
  have E_3 : qExt R4 R6 := qExt.z eR6
  have hW_3 : qWT R6 := hW_2.z eR6
  have ha0_3 : qok R6 a0 5 := ha0_2.ext E_3
  obtain ⟨R8, eR8, hF⟩ := qletE hF
  have E_4 : qExt R6 R8 := qExt.pr eR8
  have hW_4 : qWT R8 := hW_3.pr ha0_3 hz7 eR8
  have ha0_4 : qok R8 a0 5 := ha0_3.ext E_4
  obtain ⟨I9, eI9, hF⟩ := qletE hF
  obtain ⟨R10, eR10, hF⟩ := qletE hF
  have hz11 : qok R10 R8.2.2.1 9 := qok.z eR10
  have E_5 : qExt R8 R10 := qExt.z eR10
  have hW_5 : qWT R10 := hW_4.z eR10
  have ha0_5 : qok R10 a0 5 := ha0_4.ext E_5
  obtain ⟨R12, eR12, hF⟩ := qletE hF
  have E_6 : qExt R10 R12 := qExt.pr eR12
  have hW_6 : qWT R12 := hW_5.pr ha0_5 hz11 eR12
  have ha0_6 : qok R12 a0 5 := ha0_5.ext E_6
  obtain ⟨I13, eI13, hF⟩ := qletE hF
  obtain ⟨R14, eR14, hF⟩ := qletE hF
  have hz15 : qok R14 R12.2.2.1 9 := qok.z eR14
  have E_7 : qExt R12 R14 := qExt.z eR14
  have hW_7 : qWT R14 := hW_6.z eR14
  have ha0_7 : qok R14 a0 5 := ha0_6.ext E_7
  obtain ⟨R16, eR16, hF⟩ := qletE hF
  have E_8 : qExt R14 R16 := qExt.pr eR16
  have hW_8 : qWT R16 := hW_7.pr ha0_7 hz15 eR16
  have ha0_8 : qok R16 a0 5 := ha0_7.ext E_8
  obtain ⟨r17, er17, hF⟩ := qbind hF
  have kr17 : qok R16 r17 9 := hW_8.get ha0_8 er17 rfl
  obtain ⟨y18, ey18, hF⟩ := qbind hF
  obtain ⟨rfl, rfl⟩ := qpair hF
  have hX_8 := qX_end hW_8
  have hX_7 := qx_trans E_8 hX_8
  have hX_6 := qx_trans E_7 hX_7
  have hX_5 := qx_trans E_6 hX_6
  have hX_4 := qx_trans E_5 hX_5
  have hX_3 := qx_trans E_4 hX_4
  have hX_2 := qx_trans E_3 hX_3
  have hX_1 := qx_trans E_2 hX_2
  have hX := qx_trans E_1 hX_1
  exact hX
set_option maxHeartbeats 4000000 in
set_option maxRecDepth 100000 in
theorem sX5_init {l : Launch} {G : qG} {N : Nat} {R : qR} {I : qI} {a0 : Nat} {rI : qI} {rR : qR} (hW : qWT R) (ha0 : qok R a0 5) (hF : fX5_init N R I a0 = some (rI, rR)) : qMt l G mX5_init 2 [.ref (G.1 + a0)] I R (none) rI rR := by
  unfold fX5_init at hF
  obtain ⟨I1, eI1, hF⟩ := qletE hF
  obtain ⟨R2, eR2, hF⟩ := qletE hF
  have hz3 : qok R2 R.2.2.1 9 := qok.z eR2
  have E_1 : qExt R R2 := qExt.z eR2
  have hW_1 : qWT R2 := hW.z eR2
  have ha0_1 : qok R2 a0 5 := ha0.ext E_1
  obtain ⟨R4, eR4, hF⟩ := qletE hF
  have E_2 : qExt R2 R4 := qExt.pr eR4
  have hW_2 : qWT R4 := hW_1.pr ha0_1 hz3 eR4
  have ha0_2 : qok R4 a0 5 := ha0_1.ext E_2
  obtain ⟨I5, eI5, hF⟩ := qletE hF
  obtain ⟨R6, eR6, hF⟩ := qletE hF
  have hz7 : qok R6 R4.2.2.1 9 := qok.z eR6
  have E_3 : qExt R4 R6 := qExt.z eR6
  have hW_3 : qWT R6 := hW_2.z eR6
  have ha0_3 : qok R6 a0 5 := ha0_2.ext E_3
  obtain ⟨R8, eR8, hF⟩ := qletE hF
  have E_4 : qExt R6 R8 := qExt.pr eR8
  have hW_4 : qWT R8 := hW_3.pr ha0_3 hz7 eR8
  have ha0_4 : qok R8 a0 5 := ha0_3.ext E_4
  obtain ⟨I9, eI9, hF⟩ := qletE hF
  obtain ⟨R10, eR10, hF⟩ := qletE hF
  have hz11 : qok R10 R8.2.2.1 9 := qok.z eR10
  have E_5 : qExt R8 R10 := qExt.z eR10
  have hW_5 : qWT R10 := hW_4.z eR10
  have ha0_5 : qok R10 a0 5 := ha0_4.ext E_5
  obtain ⟨R12, eR12, hF⟩ := qletE hF
  have E_6 : qExt R10 R12 := qExt.pr eR12
  have hW_6 : qWT R12 := hW_5.pr ha0_5 hz11 eR12
  have ha0_6 : qok R12 a0 5 := ha0_5.ext E_6
  obtain ⟨I13, eI13, hF⟩ := qletE hF
  obtain ⟨R14, eR14, hF⟩ := qletE hF
  have hz15 : qok R14 R12.2.2.1 9 := qok.z eR14
  have E_7 : qExt R12 R14 := qExt.z eR14
  have hW_7 : qWT R14 := hW_6.z eR14
  have ha0_7 : qok R14 a0 5 := ha0_6.ext E_7
  obtain ⟨R16, eR16, hF⟩ := qletE hF
  have E_8 : qExt R14 R16 := qExt.pr eR16
  have hW_8 : qWT R16 := hW_7.pr ha0_7 hz15 eR16
  have ha0_8 : qok R16 a0 5 := ha0_7.ext E_8
  obtain ⟨r17, er17, hF⟩ := qbind hF
  have kr17 : qok R16 r17 9 := hW_8.get ha0_8 er17 rfl
  obtain ⟨y18, ey18, hF⟩ := qbind hF
  obtain ⟨rfl, rfl⟩ := qpair hF
  have hX_8 := qX_end hW_8
  have hX_7 := qx_trans E_8 hX_8
  have hX_6 := qx_trans E_7 hX_7
  have hX_5 := qx_trans E_6 hX_6
  have hX_4 := qx_trans E_5 hX_5
  have hX_3 := qx_trans E_4 hX_4
  have hX_2 := qx_trans E_3 hX_3
  have hX_1 := qx_trans E_2 hX_2
  have hX := qx_trans E_1 hX_1
  refine qMt_of (by decide) (Nat.le_of_ble_eq_true rfl) ⟨hX.2.1, hX.2.2.1⟩ ?_
  show AW _ 0 [(0, .ref (G.1 + a0))] [] I R
  refine aw_aload_n dX5_init_0 0 rfl rfl ?_
  refine aw_objInit cl_X5_3 cx_oi cx_oc rfl (Nat.le_of_ble_eq_true rfl) (Nat.le_of_ble_eq_true rfl) (Nat.le_of_ble_eq_true rfl) dX5_init_1 ?_
  refine aw_aload_n dX5_init_4 0 rfl rfl ?_
  refine aw_bipush (v := (7 : Int32)) dX5_init_5 (by decide) ?_
  refine aw_newiq (by decide) (by decide) (by decide) eI1 eR2 hX_1.2 dX5_init_7 ?_
  refine aw_putFq fl_X5_9 (by decide) fs_X5_2 fn_X5_2 ft_X5_2 fo_X5 rfl ha0_1 eR4 rfl dX5_init_9 ?_
  refine aw_aload_n dX5_init_12 0 rfl rfl ?_
  refine aw_bipush (v := (7 : Int32)) dX5_init_13 (by decide) ?_
  refine aw_newiq (by decide) (by decide) (by decide) eI5 eR6 hX_3.2 dX5_init_15 ?_
  refine aw_putFq fl_X5_15 (by decide) fs_X5_3 fn_X5_3 ft_X5_3 fo_X5 rfl ha0_3 eR8 rfl dX5_init_17 ?_
  refine aw_aload_n dX5_init_20 0 rfl rfl ?_
  refine aw_bipush (v := (7 : Int32)) dX5_init_21 (by decide) ?_
  refine aw_newiq (by decide) (by decide) (by decide) eI9 eR10 hX_5.2 dX5_init_23 ?_
  refine aw_putFq fl_X5_18 (by decide) fs_X5_4 fn_X5_4 ft_X5_4 fo_X5 rfl ha0_5 eR12 rfl dX5_init_25 ?_
  refine aw_aload_n dX5_init_28 0 rfl rfl ?_
  refine aw_bipush (v := (12 : Int32)) dX5_init_29 (by decide) ?_
  refine aw_newiq (by decide) (by decide) (by decide) eI13 eR14 hX_7.2 dX5_init_31 ?_
  refine aw_putFq fl_X5_21 (by decide) fs_X5_5 fn_X5_5 ft_X5_5 fo_X5 rfl ha0_7 eR16 rfl dX5_init_33 ?_
  refine aw_aload_n dX5_init_36 0 rfl rfl ?_
  refine aw_getr fl_X5_21 (by decide) fg_X5_5 ha0_8 er17 rfl dX5_init_37 ?_
  refine aw_iconst (v := (-1 : Int32)) dX5_init_40 (by decide) ?_
  refine aw_callSv (sJ7_fill_53178 hW_8 kr17 ey18) cl_X5_24 rfl (qroomH (by decide) (by decide) hX_8.2) rfl (Nat.le_of_ble_eq_true rfl) dX5_init_41 rfl ?_
  exact aw_vret rfl dX5_init_44 rfl rfl rfl
