-- X12_flashes
abbrev T12_flashes : JT := (RX12, cX12_flashes, 3, none, false)
set_option maxRecDepth 100000 in
set_option maxHeartbeats 4000000 in
theorem C12_flashes {l1 : Int} {h : JM} {res : JM} (H : F12_flashes l1 h = some res) : Cn j_W1 6 0 0 yX12_flashes cX12_flashes 3 none [.inr (.inr (some (12, 0))), .inl (l1)] h none res := by
  refine Cn.by (own := RX12) (b := false) [(0, .inr (.inr (some (12, 0)))), (1, .inl (l1))] rfl (fun z => by cases z) (by decide +kernel) (K := ?_)
  unfold F12_flashes at H
  refine ev_aload_n (M := T12_flashes) (pc := 0) 0 dX12_flashes_0 (k := ?_)
  refine ev_getR (M := T12_flashes) (pc := 1) (t := 120) (x := some (120, 0)) fl_X12_59 dX12_flashes_1 (hx := ry_12_20 _ _) (K := ?_)
  refine ev_iload_n (M := T12_flashes) (pc := 4) 1 dX12_flashes_4 (k := ?_)
  obtain ⟨⟨hi0, hi1⟩, H1⟩ := g_e H
  clear H
  refine ev_iaload (M := T12_flashes) (pc := 5) (k := 120) hi0 hi1 dX12_flashes_5 (hc := ac_120) (hlen := ln_120 _ _) (K := ?_)
  refine ev_iconst (M := T12_flashes) (pc := 6) dX12_flashes_6 (k := ?_)
  refine ev_icmpne (M := T12_flashes) (pc := 7) 11 dX12_flashes_7 (kt := fun hc => ?_) (kf := fun hc => ?_)
  · replace H1 := if_ne hc H1
    refine ev_aload_n (M := T12_flashes) (pc := 11) 0 dX12_flashes_11 (k := ?_)
    refine ev_getR (M := T12_flashes) (pc := 12) (t := 120) (x := some (120, 0)) fl_X12_59 dX12_flashes_12 (hx := ry_12_20 _ _) (K := ?_)
    refine ev_iload_n (M := T12_flashes) (pc := 15) 1 dX12_flashes_15 (k := ?_)
    obtain ⟨⟨hi0, hi1⟩, H2⟩ := g_e H1
    clear H1
    refine ev_iaload (M := T12_flashes) (pc := 16) (k := 120) hi0 hi1 dX12_flashes_16 (hc := ac_120) (hlen := ln_120 _ _) (K := ?_)
    obtain ⟨x1, ex1, H3⟩ := lt_e H2
    clear H2
    refine ev_topI ex1 ?_
    refine ev_istore_n (M := T12_flashes) (pc := 17) [(2, .inl (x1)), (0, .inr (.inr (some (12, 0)))), (1, .inl (l1))] dX12_flashes_17 (k := ?_)
    refine ev_aload_n (M := T12_flashes) (pc := 18) 1 dX12_flashes_18 (k := ?_)
    refine ev_getR (M := T12_flashes) (pc := 19) (t := 120) (x := some (120, 0)) fl_X12_59 dX12_flashes_19 (hx := ry_12_20 _ _) (K := ?_)
    refine ev_iload_n (M := T12_flashes) (pc := 22) 2 dX12_flashes_22 (k := ?_)
    refine ev_aload_n (M := T12_flashes) (pc := 23) 1 dX12_flashes_23 (k := ?_)
    refine ev_getR (M := T12_flashes) (pc := 24) (t := 119) (x := some (119, 0)) fl_X12_56 dX12_flashes_24 (hx := ry_12_19 _ _) (K := ?_)
    refine ev_iload_n (M := T12_flashes) (pc := 27) 2 dX12_flashes_27 (k := ?_)
    obtain ⟨⟨hi0, hi1⟩, H4⟩ := g_e H3
    clear H3
    refine ev_iaload (M := T12_flashes) (pc := 28) (k := 119) hi0 hi1 dX12_flashes_28 (hc := ac_119) (hlen := ln_119 _ _) (K := ?_)
    obtain ⟨⟨hi0, hi1⟩, H5⟩ := g_e H4
    clear H4
    obtain ⟨h2, eh2, H6⟩ := lt_e H5
    clear H5
    refine ev_iastore (M := T12_flashes) (pc := 29) (k := 120) j_ok1 hi0 hi1 eh2 dX12_flashes_29 (hc := ac_120) (hlen := ln_120 _ _) (K := ?_)
    refine ev_aload_n (M := T12_flashes) (pc := 30) 1 dX12_flashes_30 (k := ?_)
    refine ev_getR (M := T12_flashes) (pc := 31) (t := 119) (x := some (119, 0)) fl_X12_56 dX12_flashes_31 (hx := ry_12_19 _ _) (K := ?_)
    refine ev_iload_n (M := T12_flashes) (pc := 34) 2 dX12_flashes_34 (k := ?_)
    refine ev_iload_n (M := T12_flashes) (pc := 35) 0 dX12_flashes_35 (k := ?_)
    obtain ⟨⟨hi0, hi1⟩, H7⟩ := g_e H6
    clear H6
    obtain ⟨h3, eh3, H8⟩ := lt_e H7
    clear H7
    refine ev_iastore (M := T12_flashes) (pc := 36) (k := 119) j_ok1 hi0 hi1 eh3 dX12_flashes_36 (hc := ac_119) (hlen := ln_119 _ _) (K := ?_)
    refine ev_aload_n (M := T12_flashes) (pc := 37) 1 dX12_flashes_37 (k := ?_)
    refine ev_getR (M := T12_flashes) (pc := 38) (t := 133) (x := some (133, 0)) fl_X12_95 dX12_flashes_38 (hx := ry_12_33 _ _) (K := ?_)
    refine ev_iload_n (M := T12_flashes) (pc := 41) 0 dX12_flashes_41 (k := ?_)
    obtain ⟨⟨hi0, hi1⟩, H9⟩ := g_e H8
    clear H8
    refine ev_iaload (M := T12_flashes) (pc := 42) (k := 133) hi0 hi1 dX12_flashes_42 (hc := ac_133) (hlen := ln_133 _ _) (K := ?_)
    refine ev_iconst (M := T12_flashes) (pc := 43) dX12_flashes_43 (k := ?_)
    refine ev_icmpne (M := T12_flashes) (pc := 44) 52 dX12_flashes_44 (kt := fun hc => ?_) (kf := fun hc => ?_)
    · replace H9 := if_ne hc H9
      cases H9
      exact ev_return (M := T12_flashes) (pc := 52) dX12_flashes_52
    · replace H9 := if_pe hc H9
      refine ev_aload_n (M := T12_flashes) (pc := 47) 1 dX12_flashes_47 (k := ?_)
      refine ev_iload_n (M := T12_flashes) (pc := 48) 0 dX12_flashes_48 (k := ?_)
      obtain ⟨h4, hq, H10⟩ := bd_e H9
      clear H9
      refine ev_callV (M := T12_flashes) (pc := 49) (mc := 0) (ms := 0) (st := []) (C12_answered hq) md_X12_answered im_X12_answered se_X12_answered ml_X12_320 dX12_flashes_49 _ (by decide) (K := ?_)
      cases H10
      exact ev_return (M := T12_flashes) (pc := 52) dX12_flashes_52
  · replace H1 := if_pe hc H1
    cases H1
    exact ev_return (M := T12_flashes) (pc := 10) dX12_flashes_10
-- X12_forward
abbrev T12_forward : JT := (RX12, cX12_forward, 5, some .int, false)
set_option maxRecDepth 100000 in
set_option maxHeartbeats 4000000 in
theorem E12_forward_31b (k31 : Int → Int → JM → Option (Int × JM)) (hk31 : ∀ (l3 : Int) (l4 : Int) (h : JM) (res : (Int × JM)), k31 l3 l4 h = some res → Ev j_W1 3 0 0 T12_forward 31 [(0, .inr (.inr (some (12, 0)))), (3, .inl (l3)), (4, .inl (l4))] [] h (some (.inl res.1)) res.2) (l3 : Int) (l4 : Int) (h : JM) (res : (Int × JM)) (H : F12_forward_31b k31 l3 l4 h = some res) : Ev j_W1 3 0 0 T12_forward 31 [(0, .inr (.inr (some (12, 0)))), (3, .inl (l3)), (4, .inl (l4))] [] h (some (.inl res.1)) res.2 := by
  unfold F12_forward_31b at H
  refine ev_iload (M := T12_forward) (pc := 31) 2 dX12_forward_31 (k := ?_)
  refine ev_aload_n (M := T12_forward) (pc := 33) 0 dX12_forward_33 (k := ?_)
  refine ev_getI (M := T12_forward) (pc := 34) (x := h.1 12 0 4) fl_X12_272 dX12_forward_34 (K := ?_)
  refine ev_icmpge (M := T12_forward) (pc := 37) 65 dX12_forward_37 (kt := fun hc => ?_) (kf := fun hc => ?_)
  · replace H := if_pe hc H
    refine ev_aload_n (M := T12_forward) (pc := 65) 0 dX12_forward_65 (k := ?_)
    refine ev_getR (M := T12_forward) (pc := 66) (t := 129) (x := some (129, 0)) fl_X12_86 dX12_forward_66 (hx := ry_12_29 _ _) (K := ?_)
    refine ev_iload_n (M := T12_forward) (pc := 69) 1 dX12_forward_69 (k := ?_)
    refine ev_aload_n (M := T12_forward) (pc := 70) 0 dX12_forward_70 (k := ?_)
    refine ev_getI (M := T12_forward) (pc := 71) (x := h.1 12 0 4) fl_X12_272 dX12_forward_71 (K := ?_)
    obtain ⟨⟨hi0, hi1⟩, H1⟩ := g_e H
    clear H
    obtain ⟨h1, eh1, H2⟩ := lt_e H1
    clear H1
    refine ev_iastore (M := T12_forward) (pc := 74) (k := 129) j_ok1 hi0 hi1 eh1 dX12_forward_74 (hc := ac_129) (hlen := ln_129 _ _) (K := ?_)
    refine ev_aload_n (M := T12_forward) (pc := 75) 0 dX12_forward_75 (k := ?_)
    refine ev_iconst (M := T12_forward) (pc := 76) dX12_forward_76 (k := ?_)
    obtain ⟨h2, eh2, H3⟩ := lt_e H2
    clear H2
    refine ev_putI (M := T12_forward) (pc := 77) j_ok1 fl_X12_272 eh2 dX12_forward_77 (K := ?_)
    refine ev_iconst (M := T12_forward) (pc := 80) dX12_forward_80 (k := ?_)
    cases H3
    exact ev_ireturn (M := T12_forward) (pc := 81) dX12_forward_81
  · replace H := if_ne hc H
    refine ev_aload_n (M := T12_forward) (pc := 40) 0 dX12_forward_40 (k := ?_)
    refine ev_getR (M := T12_forward) (pc := 41) (t := 128) (x := some (128, 0)) fl_X12_83 dX12_forward_41 (hx := ry_12_28 _ _) (K := ?_)
    refine ev_bipush (M := T12_forward) (pc := 44) dX12_forward_44 (k := ?_)
    refine ev_iload_n (M := T12_forward) (pc := 46) 1 dX12_forward_46 (k := ?_)
    refine ev_imul (M := T12_forward) (pc := 47) dX12_forward_47 (k := ?_)
    refine ev_iload (M := T12_forward) (pc := 48) 2 dX12_forward_48 (k := ?_)
    refine ev_iadd (M := T12_forward) (pc := 50) dX12_forward_50 (k := ?_)
    refine ev_aload_n (M := T12_forward) (pc := 51) 0 dX12_forward_51 (k := ?_)
    refine ev_getR (M := T12_forward) (pc := 52) (t := 103) (x := some (103, 0)) fl_X12_9 dX12_forward_52 (hx := ry_12_3 _ _) (K := ?_)
    refine ev_iload (M := T12_forward) (pc := 55) 2 dX12_forward_55 (k := ?_)
    obtain ⟨⟨hi0, hi1⟩, H1⟩ := g_e H
    clear H
    refine ev_iaload (M := T12_forward) (pc := 57) (k := 103) hi0 hi1 dX12_forward_57 (hc := ac_103) (hlen := ln_103 _ _) (K := ?_)
    obtain ⟨⟨hi0, hi1⟩, H2⟩ := g_e H1
    clear H1
    obtain ⟨h3, eh3, H3⟩ := lt_e H2
    clear H2
    refine ev_iastore (M := T12_forward) (pc := 58) (k := 128) j_ok1 hi0 hi1 eh3 dX12_forward_58 (hc := ac_128) (hlen := ln_128 _ _) (K := ?_)
    refine ev_iinc (M := T12_forward) (pc := 59) 2 [(4, .inl (w32 (l4 + 1))), (0, .inr (.inr (some (12, 0)))), (3, .inl (l3))] dX12_forward_59 (k := ?_)
    refine ev_goto (M := T12_forward) (pc := 62) 31 dX12_forward_62 (k := ?_)
    refine ev_lv [1, 2, 0] [(0, .inr (.inr (some (12, 0)))), (3, .inl (l3)), (4, .inl (w32 (l4 + 1)))] (k := ?_)
    exact hk31 l3 (w32 (l4 + 1)) h3 _ H3
theorem E12_forward_31 (n : Nat) : ∀ (l3 : Int) (l4 : Int) (h : JM) (res : (Int × JM)), F12_forward_31 n l3 l4 h = some res → Ev j_W1 3 0 0 T12_forward 31 [(0, .inr (.inr (some (12, 0)))), (3, .inl (l3)), (4, .inl (l4))] [] h (some (.inl res.1)) res.2 := by
  induction n with
  | zero =>
    intro l3 l4 h res H
    cases H
  | succ n ih =>
    intro l3 l4 h res H
    exact E12_forward_31b (F12_forward_31 n) ih l3 l4 h res H
set_option maxRecDepth 100000 in
set_option maxHeartbeats 4000000 in
theorem E12_forward_19 (h : JM) (res : (Int × JM)) (H : F12_forward_19 h = some res) : Ev j_W1 3 0 0 T12_forward 19 [] [] h (some (.inl res.1)) res.2 := by
  unfold F12_forward_19 at H
  refine ev_bipush (M := T12_forward) (pc := 19) dX12_forward_19 (k := ?_)
  cases H
  exact ev_ireturn (M := T12_forward) (pc := 21) dX12_forward_21
set_option maxRecDepth 100000 in
set_option maxHeartbeats 4000000 in
theorem C12_forward {l1 : Int} {l2 : Int} {h : JM} {res : (Int × JM)} (H : F12_forward l1 l2 h = some res) : Cn j_W1 3 0 0 yX12_forward cX12_forward 5 (some .int) [.inr (.inr (some (12, 0))), .inl (l1), .inl (l2)] h (some (.inl res.1)) res.2 := by
  refine Cn.by (own := RX12) (b := false) [(0, .inr (.inr (some (12, 0)))), (1, .inl (l1)), (2, .inl (l2))] rfl (fun z => by cases z) (by decide +kernel) (K := ?_)
  unfold F12_forward at H
  refine ev_iload_n (M := T12_forward) (pc := 0) 1 dX12_forward_0 (k := ?_)
  obtain ⟨q4, hq, H1⟩ := bd_e H
  clear H
  refine ev_callS (M := T12_forward) (pc := 1) (mc := 0) (ms := 0) (st := []) (C12_isLine hq) md_X12_isLine ss_X12_isLine ml_X12_288 dX12_forward_1 _ (by decide) (K := ?_)
  refine ev_ifeq (M := T12_forward) (pc := 4) 19 dX12_forward_4 (kt := fun hc => ?_) (kf := fun hc => ?_)
  · replace H1 := if_pe hc H1
    refine ev_lv [] [] (k := ?_)
    exact E12_forward_19 q4.2 _ H1
  · replace H1 := if_ne hc H1
    refine ev_iload_n (M := T12_forward) (pc := 7) 2 dX12_forward_7 (k := ?_)
    refine ev_i2l (M := T12_forward) (pc := 8) dX12_forward_8 (k := ?_)
    refine ev_lconst (M := T12_forward) (pc := 9) (v := 0) dX12_forward_9 (k := ?_)
    refine ev_ldc2 (M := T12_forward) (pc := 10) (n := 2) cl_X12_281 dX12_forward_10 (hv := cw_X12_281) (k := ?_)
    obtain ⟨q5, hq, H2⟩ := bd_e H1
    clear H1
    refine ev_callS (M := T12_forward) (pc := 13) (mc := 0) (ms := 0) (st := []) (C12_in hq) md_X12_in ss_X12_in ml_X12_268 dX12_forward_13 _ (by decide) (K := ?_)
    refine ev_ifne (M := T12_forward) (pc := 16) 22 dX12_forward_16 (kt := fun hc => ?_) (kf := fun hc => ?_)
    · replace H2 := if_ne hc H2
      refine ev_iconst (M := T12_forward) (pc := 22) dX12_forward_22 (k := ?_)
      refine ev_iload_n (M := T12_forward) (pc := 23) 1 dX12_forward_23 (k := ?_)
      refine ev_imul (M := T12_forward) (pc := 24) dX12_forward_24 (k := ?_)
      refine ev_iload_n (M := T12_forward) (pc := 25) 2 dX12_forward_25 (k := ?_)
      refine ev_iadd (M := T12_forward) (pc := 26) dX12_forward_26 (k := ?_)
      obtain ⟨x6, ex6, H3⟩ := lt_e H2
      clear H2
      refine ev_topI ex6 ?_
      refine ev_istore_n (M := T12_forward) (pc := 27) [(3, .inl (x6)), (0, .inr (.inr (some (12, 0)))), (1, .inl (l1)), (2, .inl (l2))] dX12_forward_27 (k := ?_)
      refine ev_iconst (M := T12_forward) (pc := 28) dX12_forward_28 (k := ?_)
      refine ev_istore (M := T12_forward) (pc := 29) [(4, .inl (0)), (3, .inl (x6)), (0, .inr (.inr (some (12, 0)))), (1, .inl (l1)), (2, .inl (l2))] dX12_forward_29 (k := ?_)
      refine ev_lv [2, 1, 0] [(0, .inr (.inr (some (12, 0)))), (3, .inl (x6)), (4, .inl (0))] (k := ?_)
      exact E12_forward_31 j_fu x6 0 q5.2 _ H3
    · replace H2 := if_pe hc H2
      refine ev_lv [] [] (k := ?_)
      exact E12_forward_19 q5.2 _ H2
-- X12_heardOf
abbrev T12_heardOf : JT := (RX12, cX12_heardOf, 2, some .int, false)
set_option maxRecDepth 100000 in
set_option maxHeartbeats 4000000 in
theorem C12_heardOf {l0 : Int} {l1 : Int} {h : JM} {res : (Int × JM)} (H : F12_heardOf l0 l1 h = some res) : Cn j_W1 3 0 0 yX12_heardOf cX12_heardOf 2 (some .int) [.inl (l0), .inl (l1)] h (some (.inl res.1)) res.2 := by
  refine Cn.by (own := RX12) (b := false) [(0, .inl (l0)), (1, .inl (l1))] rfl (fun z => by cases z) (by decide +kernel) (K := ?_)
  unfold F12_heardOf at H
  refine ev_iload_n (M := T12_heardOf) (pc := 0) 0 dX12_heardOf_0 (k := ?_)
  refine ev_iload_n (M := T12_heardOf) (pc := 1) 0 dX12_heardOf_1 (k := ?_)
  refine ev_iload_n (M := T12_heardOf) (pc := 2) 1 dX12_heardOf_2 (k := ?_)
  obtain ⟨q1, hq, H1⟩ := bd_e H
  clear H
  refine ev_callS (M := T12_heardOf) (pc := 3) (mc := 0) (ms := 0) (st := [.inl (l0)]) (C12_codeOf hq) md_X12_codeOf ss_X12_codeOf ml_X12_262 dX12_heardOf_3 _ (by decide) (K := ?_)
  obtain ⟨q2, hq, H2⟩ := bd_e H1
  clear H1
  refine ev_callS (M := T12_heardOf) (pc := 6) (mc := 0) (ms := 0) (st := []) (C12_back hq) md_X12_back ss_X12_back ml_X12_465 dX12_heardOf_6 _ (by decide) (K := ?_)
  cases H2
  exact ev_ireturn (M := T12_heardOf) (pc := 9) dX12_heardOf_9
-- X12_gets
abbrev T12_gets : JT := (RX12, cX12_gets, 5, none, false)
set_option maxRecDepth 100000 in
set_option maxHeartbeats 4000000 in
theorem C12_gets {l1 : Int} {l2 : Int} {l3 : Int} {h : JM} {res : JM} (H : F12_gets l1 l2 l3 h = some res) : Cn j_W1 4 0 0 yX12_gets cX12_gets 5 none [.inr (.inr (some (12, 0))), .inl (l1), .inl (l2), .inl (l3)] h none res := by
  refine Cn.by (own := RX12) (b := false) [(0, .inr (.inr (some (12, 0)))), (1, .inl (l1)), (2, .inl (l2)), (3, .inl (l3))] rfl (fun z => by cases z) (by decide +kernel) (K := ?_)
  unfold F12_gets at H
  refine ev_aload_n (M := T12_gets) (pc := 0) 0 dX12_gets_0 (k := ?_)
  refine ev_getR (M := T12_gets) (pc := 1) (t := 135) (x := some (135, 0)) fl_X12_101 dX12_gets_1 (hx := ry_12_35 _ _) (K := ?_)
  refine ev_iload_n (M := T12_gets) (pc := 4) 1 dX12_gets_4 (k := ?_)
  obtain ⟨⟨hi0, hi1⟩, H1⟩ := g_e H
  clear H
  refine ev_iaload (M := T12_gets) (pc := 5) (k := 135) hi0 hi1 dX12_gets_5 (hc := ac_135) (hlen := ln_135 _ _) (K := ?_)
  obtain ⟨x1, ex1, H2⟩ := lt_e H1
  clear H1
  refine ev_topI ex1 ?_
  refine ev_istore (M := T12_gets) (pc := 6) [(4, .inl (x1)), (0, .inr (.inr (some (12, 0)))), (1, .inl (l1)), (2, .inl (l2)), (3, .inl (l3))] dX12_gets_6 (k := ?_)
  refine ev_iload_n (M := T12_gets) (pc := 8) 3 dX12_gets_8 (k := ?_)
  obtain ⟨q2, hq, H3⟩ := bd_e H2
  clear H2
  refine ev_callS (M := T12_gets) (pc := 9) (mc := 0) (ms := 0) (st := []) (C12_isCircuit hq) md_X12_isCircuit ss_X12_isCircuit ml_X12_379 dX12_gets_9 _ (by decide) (K := ?_)
  refine ev_ifeq (M := T12_gets) (pc := 12) 38 dX12_gets_12 (kt := fun hc => ?_) (kf := fun hc => ?_)
  · replace H3 := if_pe hc H3
    refine ev_aload_n (M := T12_gets) (pc := 38) 1 dX12_gets_38 (k := ?_)
    refine ev_getR (M := T12_gets) (pc := 39) (t := 119) (x := some (119, 0)) fl_X12_56 dX12_gets_39 (hx := ry_12_19 _ _) (K := ?_)
    refine ev_iload_n (M := T12_gets) (pc := 42) 3 dX12_gets_42 (k := ?_)
    obtain ⟨⟨hi0, hi1⟩, H4⟩ := g_e H3
    clear H3
    refine ev_iaload (M := T12_gets) (pc := 43) (k := 119) hi0 hi1 dX12_gets_43 (hc := ac_119) (hlen := ln_119 _ _) (K := ?_)
    refine ev_iload_n (M := T12_gets) (pc := 44) 2 dX12_gets_44 (k := ?_)
    refine ev_icmpne (M := T12_gets) (pc := 45) 60 dX12_gets_45 (kt := fun hc => ?_) (kf := fun hc => ?_)
    · replace H4 := if_ne hc H4
      cases H4
      exact ev_return (M := T12_gets) (pc := 60) dX12_gets_60
    · replace H4 := if_pe hc H4
      refine ev_aload_n (M := T12_gets) (pc := 48) 1 dX12_gets_48 (k := ?_)
      refine ev_getR (M := T12_gets) (pc := 49) (t := 131) (x := some (131, 0)) fl_X12_92 dX12_gets_49 (hx := ry_12_31 _ _) (K := ?_)
      refine ev_iload_n (M := T12_gets) (pc := 52) 3 dX12_gets_52 (k := ?_)
      refine ev_iload (M := T12_gets) (pc := 53) 0 dX12_gets_53 (k := ?_)
      refine ev_iload_n (M := T12_gets) (pc := 55) 4 dX12_gets_55 (k := ?_)
      obtain ⟨q3, hq, H5⟩ := bd_e H4
      clear H4
      refine ev_callS (M := T12_gets) (pc := 56) (mc := 0) (ms := 0) (st := [.inl (l2), .inr (.inr (some (131, 0)))]) (C12_heardOf hq) md_X12_heardOf ss_X12_heardOf ml_X12_468 dX12_gets_56 _ (by decide) (K := ?_)
      obtain ⟨⟨hi0, hi1⟩, H6⟩ := g_e H5
      clear H5
      obtain ⟨h4, eh4, H7⟩ := lt_e H6
      clear H6
      refine ev_iastore (M := T12_gets) (pc := 59) (k := 131) j_ok1 hi0 hi1 eh4 dX12_gets_59 (hc := ac_131) (hlen := ln_131 _ _) (K := ?_)
      cases H7
      exact ev_return (M := T12_gets) (pc := 60) dX12_gets_60
  · replace H3 := if_ne hc H3
    refine ev_aload_n (M := T12_gets) (pc := 15) 1 dX12_gets_15 (k := ?_)
    refine ev_getR (M := T12_gets) (pc := 16) (t := 185) (x := some (185, 0)) fl_X12_237 dX12_gets_16 (hx := ry_12_85 _ _) (K := ?_)
    refine ev_bipush (M := T12_gets) (pc := 19) dX12_gets_19 (k := ?_)
    refine ev_iload (M := T12_gets) (pc := 21) 0 dX12_gets_21 (k := ?_)
    refine ev_imul (M := T12_gets) (pc := 23) dX12_gets_23 (k := ?_)
    refine ev_iload_n (M := T12_gets) (pc := 24) 3 dX12_gets_24 (k := ?_)
    refine ev_iadd (M := T12_gets) (pc := 25) dX12_gets_25 (k := ?_)
    refine ev_bipush (M := T12_gets) (pc := 26) dX12_gets_26 (k := ?_)
    refine ev_isub (M := T12_gets) (pc := 28) dX12_gets_28 (k := ?_)
    refine ev_iconst (M := T12_gets) (pc := 29) dX12_gets_29 (k := ?_)
    refine ev_iload_n (M := T12_gets) (pc := 30) 4 dX12_gets_30 (k := ?_)
    obtain ⟨q5, hq, H4⟩ := bd_e H3
    clear H3
    refine ev_callS (M := T12_gets) (pc := 31) (mc := 0) (ms := 0) (st := [.inl (w32 ((w32 ((w32 (16 * x1)) + l2)) - 100)), .inr (.inr (some (185, 0)))]) (C12_codeOf hq) md_X12_codeOf ss_X12_codeOf ml_X12_262 dX12_gets_31 _ (by decide) (K := ?_)
    obtain ⟨⟨hi0, hi1⟩, H5⟩ := g_e H4
    clear H4
    obtain ⟨h6, eh6, H6⟩ := lt_e H5
    clear H5
    refine ev_iastore (M := T12_gets) (pc := 34) (k := 185) j_ok1 hi0 hi1 eh6 dX12_gets_34 (hc := ac_185) (hlen := ln_185 _ _) (K := ?_)
    refine ev_goto (M := T12_gets) (pc := 35) 60 dX12_gets_35 (k := ?_)
    cases H6
    exact ev_return (M := T12_gets) (pc := 60) dX12_gets_60
-- X12_given
abbrev T12_given : JT := (RX12, cX12_given, 4, some .int, false)
set_option maxRecDepth 100000 in
set_option maxHeartbeats 4000000 in
theorem C12_given {l1 : Int} {l2 : Int} {h : JM} {res : (Int × JM)} (H : F12_given l1 l2 h = some res) : Cn j_W1 4 0 0 yX12_given cX12_given 4 (some .int) [.inr (.inr (some (12, 0))), .inl (l1), .inl (l2)] h (some (.inl res.1)) res.2 := by
  refine Cn.by (own := RX12) (b := false) [(0, .inr (.inr (some (12, 0)))), (1, .inl (l1)), (2, .inl (l2))] rfl (fun z => by cases z) (by decide +kernel) (K := ?_)
  unfold F12_given at H
  refine ev_aload_n (M := T12_given) (pc := 0) 0 dX12_given_0 (k := ?_)
  refine ev_getR (M := T12_given) (pc := 1) (t := 135) (x := some (135, 0)) fl_X12_101 dX12_given_1 (hx := ry_12_35 _ _) (K := ?_)
  refine ev_iload_n (M := T12_given) (pc := 4) 1 dX12_given_4 (k := ?_)
  obtain ⟨⟨hi0, hi1⟩, H1⟩ := g_e H
  clear H
  refine ev_iaload (M := T12_given) (pc := 5) (k := 135) hi0 hi1 dX12_given_5 (hc := ac_135) (hlen := ln_135 _ _) (K := ?_)
  obtain ⟨x1, ex1, H2⟩ := lt_e H1
  clear H1
  refine ev_topI ex1 ?_
  refine ev_istore_n (M := T12_given) (pc := 6) [(3, .inl (x1)), (0, .inr (.inr (some (12, 0)))), (1, .inl (l1)), (2, .inl (l2))] dX12_given_6 (k := ?_)
  refine ev_iload_n (M := T12_given) (pc := 7) 3 dX12_given_7 (k := ?_)
  obtain ⟨q2, hq, H3⟩ := bd_e H2
  clear H2
  refine ev_callS (M := T12_given) (pc := 8) (mc := 0) (ms := 0) (st := []) (C12_isCircuit hq) md_X12_isCircuit ss_X12_isCircuit ml_X12_379 dX12_given_8 _ (by decide) (K := ?_)
  refine ev_ifeq (M := T12_given) (pc := 11) 35 dX12_given_11 (kt := fun hc => ?_) (kf := fun hc => ?_)
  · replace H3 := if_pe hc H3
    refine ev_aload_n (M := T12_given) (pc := 35) 1 dX12_given_35 (k := ?_)
    refine ev_getR (M := T12_given) (pc := 36) (t := 119) (x := some (119, 0)) fl_X12_56 dX12_given_36 (hx := ry_12_19 _ _) (K := ?_)
    refine ev_iload_n (M := T12_given) (pc := 39) 3 dX12_given_39 (k := ?_)
    obtain ⟨⟨hi0, hi1⟩, H4⟩ := g_e H3
    clear H3
    refine ev_iaload (M := T12_given) (pc := 40) (k := 119) hi0 hi1 dX12_given_40 (hc := ac_119) (hlen := ln_119 _ _) (K := ?_)
    refine ev_iload_n (M := T12_given) (pc := 41) 2 dX12_given_41 (k := ?_)
    refine ev_icmpne (M := T12_given) (pc := 42) 58 dX12_given_42 (kt := fun hc => ?_) (kf := fun hc => ?_)
    · replace H4 := if_ne hc H4
      refine ev_iconst (M := T12_given) (pc := 58) dX12_given_58 (k := ?_)
      cases H4
      exact ev_ireturn (M := T12_given) (pc := 59) dX12_given_59
    · replace H4 := if_pe hc H4
      refine ev_iload_n (M := T12_given) (pc := 45) 0 dX12_given_45 (k := ?_)
      refine ev_aload_n (M := T12_given) (pc := 46) 1 dX12_given_46 (k := ?_)
      refine ev_getR (M := T12_given) (pc := 47) (t := 130) (x := some (130, 0)) fl_X12_89 dX12_given_47 (hx := ry_12_30 _ _) (K := ?_)
      refine ev_iload_n (M := T12_given) (pc := 50) 3 dX12_given_50 (k := ?_)
      obtain ⟨⟨hi0, hi1⟩, H5⟩ := g_e H4
      clear H4
      refine ev_iaload (M := T12_given) (pc := 51) (k := 130) hi0 hi1 dX12_given_51 (hc := ac_130) (hlen := ln_130 _ _) (K := ?_)
      obtain ⟨q3, hq, H6⟩ := bd_e H5
      clear H5
      refine ev_callS (M := T12_given) (pc := 52) (mc := 0) (ms := 0) (st := []) (C12_heardOf hq) md_X12_heardOf ss_X12_heardOf ml_X12_468 dX12_given_52 _ (by decide) (K := ?_)
      refine ev_goto (M := T12_given) (pc := 55) 59 dX12_given_55 (k := ?_)
      cases H6
      exact ev_ireturn (M := T12_given) (pc := 59) dX12_given_59
  · replace H3 := if_ne hc H3
    refine ev_iconst (M := T12_given) (pc := 14) dX12_given_14 (k := ?_)
    refine ev_aload_n (M := T12_given) (pc := 15) 1 dX12_given_15 (k := ?_)
    refine ev_getR (M := T12_given) (pc := 16) (t := 184) (x := some (184, 0)) fl_X12_234 dX12_given_16 (hx := ry_12_84 _ _) (K := ?_)
    refine ev_bipush (M := T12_given) (pc := 19) dX12_given_19 (k := ?_)
    refine ev_iconst (M := T12_given) (pc := 21) dX12_given_21 (k := ?_)
    refine ev_iload_n (M := T12_given) (pc := 22) 0 dX12_given_22 (k := ?_)
    refine ev_isub (M := T12_given) (pc := 23) dX12_given_23 (k := ?_)
    refine ev_imul (M := T12_given) (pc := 24) dX12_given_24 (k := ?_)
    refine ev_iload_n (M := T12_given) (pc := 25) 3 dX12_given_25 (k := ?_)
    refine ev_iadd (M := T12_given) (pc := 26) dX12_given_26 (k := ?_)
    refine ev_bipush (M := T12_given) (pc := 27) dX12_given_27 (k := ?_)
    refine ev_isub (M := T12_given) (pc := 29) dX12_given_29 (k := ?_)
    obtain ⟨⟨hi0, hi1⟩, H4⟩ := g_e H3
    clear H3
    refine ev_iaload (M := T12_given) (pc := 30) (k := 184) hi0 hi1 dX12_given_30 (hc := ac_184) (hlen := ln_184 _ _) (K := ?_)
    obtain ⟨q4, hq, H5⟩ := bd_e H4
    clear H4
    refine ev_callS (M := T12_given) (pc := 31) (mc := 0) (ms := 0) (st := []) (C12_back hq) md_X12_back ss_X12_back ml_X12_465 dX12_given_31 _ (by decide) (K := ?_)
    cases H5
    exact ev_ireturn (M := T12_given) (pc := 34) dX12_given_34
-- X12_group
abbrev T12_group : JT := (RX12, cX12_group, 4, some .int, false)
set_option maxRecDepth 100000 in
set_option maxHeartbeats 4000000 in
theorem E12_group_32 (h : JM) (res : (Int × JM)) (H : F12_group_32 h = some res) : Ev j_W1 2 0 0 T12_group 32 [] [] h (some (.inl res.1)) res.2 := by
  unfold F12_group_32 at H
  refine ev_bipush (M := T12_group) (pc := 32) dX12_group_32 (k := ?_)
  cases H
  exact ev_ireturn (M := T12_group) (pc := 34) dX12_group_34
set_option maxRecDepth 100000 in
set_option maxHeartbeats 4000000 in
theorem C12_group {l1 : Int} {l2 : Int} {l3 : Int} {h : JM} {res : (Int × JM)} (H : F12_group l1 l2 l3 h = some res) : Cn j_W1 2 0 0 yX12_group cX12_group 4 (some .int) [.inr (.inr (some (12, 0))), .inl (l1), .inl (l2), .inl (l3)] h (some (.inl res.1)) res.2 := by
  refine Cn.by (own := RX12) (b := false) [(0, .inr (.inr (some (12, 0)))), (1, .inl (l1)), (2, .inl (l2)), (3, .inl (l3))] rfl (fun z => by cases z) (by decide +kernel) (K := ?_)
  unfold F12_group at H
  refine ev_iload_n (M := T12_group) (pc := 0) 1 dX12_group_0 (k := ?_)
  refine ev_i2l (M := T12_group) (pc := 1) dX12_group_1 (k := ?_)
  refine ev_lconst (M := T12_group) (pc := 2) (v := 0) dX12_group_2 (k := ?_)
  refine ev_lconst (M := T12_group) (pc := 3) (v := 1) dX12_group_3 (k := ?_)
  obtain ⟨q1, hq, H1⟩ := bd_e H
  clear H
  refine ev_callS (M := T12_group) (pc := 4) (mc := 0) (ms := 0) (st := []) (C12_in hq) md_X12_in ss_X12_in ml_X12_268 dX12_group_4 _ (by decide) (K := ?_)
  refine ev_ifeq (M := T12_group) (pc := 7) 32 dX12_group_7 (kt := fun hc => ?_) (kf := fun hc => ?_)
  · replace H1 := if_pe hc H1
    refine ev_lv [] [] (k := ?_)
    exact E12_group_32 q1.2 _ H1
  · replace H1 := if_ne hc H1
    refine ev_iload_n (M := T12_group) (pc := 10) 2 dX12_group_10 (k := ?_)
    refine ev_i2l (M := T12_group) (pc := 11) dX12_group_11 (k := ?_)
    refine ev_lconst (M := T12_group) (pc := 12) (v := 0) dX12_group_12 (k := ?_)
    refine ev_ldc2 (M := T12_group) (pc := 13) (n := 2) cl_X12_281 dX12_group_13 (hv := cw_X12_281) (k := ?_)
    obtain ⟨q2, hq, H2⟩ := bd_e H1
    clear H1
    refine ev_callS (M := T12_group) (pc := 16) (mc := 0) (ms := 0) (st := []) (C12_in hq) md_X12_in ss_X12_in ml_X12_268 dX12_group_16 _ (by decide) (K := ?_)
    refine ev_ifeq (M := T12_group) (pc := 19) 32 dX12_group_19 (kt := fun hc => ?_) (kf := fun hc => ?_)
    · replace H2 := if_pe hc H2
      refine ev_lv [] [] (k := ?_)
      exact E12_group_32 q2.2 _ H2
    · replace H2 := if_ne hc H2
      refine ev_iload_n (M := T12_group) (pc := 22) 3 dX12_group_22 (k := ?_)
      refine ev_i2l (M := T12_group) (pc := 23) dX12_group_23 (k := ?_)
      refine ev_lconst (M := T12_group) (pc := 24) (v := 0) dX12_group_24 (k := ?_)
      refine ev_lconst (M := T12_group) (pc := 25) (v := 1) dX12_group_25 (k := ?_)
      obtain ⟨q3, hq, H3⟩ := bd_e H2
      clear H2
      refine ev_callS (M := T12_group) (pc := 26) (mc := 0) (ms := 0) (st := []) (C12_in hq) md_X12_in ss_X12_in ml_X12_268 dX12_group_26 _ (by decide) (K := ?_)
      refine ev_ifne (M := T12_group) (pc := 29) 35 dX12_group_29 (kt := fun hc => ?_) (kf := fun hc => ?_)
      · replace H3 := if_ne hc H3
        refine ev_iload_n (M := T12_group) (pc := 35) 3 dX12_group_35 (k := ?_)
        refine ev_ifne (M := T12_group) (pc := 36) 52 dX12_group_36 (kt := fun hc => ?_) (kf := fun hc => ?_)
        · replace H3 := if_ne hc H3
          refine ev_aload_n (M := T12_group) (pc := 52) 0 dX12_group_52 (k := ?_)
          refine ev_getR (M := T12_group) (pc := 53) (t := 150) (x := some (150, 0)) fl_X12_146 dX12_group_53 (hx := ry_12_50 _ _) (K := ?_)
          refine ev_iconst (M := T12_group) (pc := 56) dX12_group_56 (k := ?_)
          refine ev_iload_n (M := T12_group) (pc := 57) 1 dX12_group_57 (k := ?_)
          refine ev_imul (M := T12_group) (pc := 58) dX12_group_58 (k := ?_)
          refine ev_iload_n (M := T12_group) (pc := 59) 2 dX12_group_59 (k := ?_)
          refine ev_iadd (M := T12_group) (pc := 60) dX12_group_60 (k := ?_)
          obtain ⟨⟨hi0, hi1⟩, H4⟩ := g_e H3
          clear H3
          refine ev_iaload (M := T12_group) (pc := 61) (k := 150) hi0 hi1 dX12_group_61 (hc := ac_150) (hlen := ln_150 _ _) (K := ?_)
          cases H4
          exact ev_ireturn (M := T12_group) (pc := 62) dX12_group_62
        · replace H3 := if_pe hc H3
          refine ev_aload_n (M := T12_group) (pc := 39) 0 dX12_group_39 (k := ?_)
          refine ev_getR (M := T12_group) (pc := 40) (t := 153) (x := some (153, 0)) fl_X12_155 dX12_group_40 (hx := ry_12_53 _ _) (K := ?_)
          refine ev_iconst (M := T12_group) (pc := 43) dX12_group_43 (k := ?_)
          refine ev_iload_n (M := T12_group) (pc := 44) 1 dX12_group_44 (k := ?_)
          refine ev_imul (M := T12_group) (pc := 45) dX12_group_45 (k := ?_)
          refine ev_iload_n (M := T12_group) (pc := 46) 2 dX12_group_46 (k := ?_)
          refine ev_iadd (M := T12_group) (pc := 47) dX12_group_47 (k := ?_)
          obtain ⟨⟨hi0, hi1⟩, H4⟩ := g_e H3
          clear H3
          refine ev_iaload (M := T12_group) (pc := 48) (k := 153) hi0 hi1 dX12_group_48 (hc := ac_153) (hlen := ln_153 _ _) (K := ?_)
          refine ev_goto (M := T12_group) (pc := 49) 62 dX12_group_49 (k := ?_)
          cases H4
          exact ev_ireturn (M := T12_group) (pc := 62) dX12_group_62
      · replace H3 := if_pe hc H3
        refine ev_lv [] [] (k := ?_)
        exact E12_group_32 q3.2 _ H3
-- X12_hangs
abbrev T12_hangs : JT := (RX12, cX12_hangs, 4, none, false)
set_option maxRecDepth 100000 in
set_option maxHeartbeats 4000000 in
theorem E12_hangs_76 (l1 : Int) (h : JM) (res : JM) (H : F12_hangs_76 l1 h = some res) : Ev j_W1 4 0 0 T12_hangs 76 [(0, .inr (.inr (some (12, 0)))), (1, .inl (l1))] [] h none res := by
  unfold F12_hangs_76 at H
  refine ev_aload_n (M := T12_hangs) (pc := 76) 0 dX12_hangs_76 (k := ?_)
  refine ev_getR (M := T12_hangs) (pc := 77) (t := 123) (x := some (123, 0)) fl_X12_68 dX12_hangs_77 (hx := ry_12_23 _ _) (K := ?_)
  refine ev_iload_n (M := T12_hangs) (pc := 80) 1 dX12_hangs_80 (k := ?_)
  refine ev_iconst (M := T12_hangs) (pc := 81) dX12_hangs_81 (k := ?_)
  obtain ⟨⟨hi0, hi1⟩, H1⟩ := g_e H
  clear H
  obtain ⟨h1, eh1, H2⟩ := lt_e H1
  clear H1
  refine ev_iastore (M := T12_hangs) (pc := 82) (k := 123) j_ok1 hi0 hi1 eh1 dX12_hangs_82 (hc := ac_123) (hlen := ln_123 _ _) (K := ?_)
  cases H2
  exact ev_return (M := T12_hangs) (pc := 83) dX12_hangs_83
set_option maxRecDepth 100000 in
set_option maxHeartbeats 4000000 in
theorem E12_hangs_49 (l1 : Int) (h : JM) (res : JM) (H : F12_hangs_49 l1 h = some res) : Ev j_W1 4 0 0 T12_hangs 49 [(0, .inr (.inr (some (12, 0)))), (1, .inl (l1))] [] h none res := by
  unfold F12_hangs_49 at H
  refine ev_aload_n (M := T12_hangs) (pc := 49) 0 dX12_hangs_49 (k := ?_)
  refine ev_getR (M := T12_hangs) (pc := 50) (t := 120) (x := some (120, 0)) fl_X12_59 dX12_hangs_50 (hx := ry_12_20 _ _) (K := ?_)
  refine ev_iload_n (M := T12_hangs) (pc := 53) 1 dX12_hangs_53 (k := ?_)
  obtain ⟨⟨hi0, hi1⟩, H1⟩ := g_e H
  clear H
  refine ev_iaload (M := T12_hangs) (pc := 54) (k := 120) hi0 hi1 dX12_hangs_54 (hc := ac_120) (hlen := ln_120 _ _) (K := ?_)
  obtain ⟨x2, ex2, H2⟩ := lt_e H1
  clear H1
  refine ev_topI ex2 ?_
  refine ev_istore_n (M := T12_hangs) (pc := 55) [(3, .inl (x2)), (0, .inr (.inr (some (12, 0)))), (1, .inl (l1))] dX12_hangs_55 (k := ?_)
  refine ev_aload_n (M := T12_hangs) (pc := 56) 1 dX12_hangs_56 (k := ?_)
  refine ev_getR (M := T12_hangs) (pc := 57) (t := 120) (x := some (120, 0)) fl_X12_59 dX12_hangs_57 (hx := ry_12_20 _ _) (K := ?_)
  refine ev_iload_n (M := T12_hangs) (pc := 60) 2 dX12_hangs_60 (k := ?_)
  refine ev_iconst (M := T12_hangs) (pc := 61) dX12_hangs_61 (k := ?_)
  obtain ⟨⟨hi0, hi1⟩, H3⟩ := g_e H2
  clear H2
  obtain ⟨h3, eh3, H4⟩ := lt_e H3
  clear H3
  refine ev_iastore (M := T12_hangs) (pc := 62) (k := 120) j_ok1 hi0 hi1 eh3 dX12_hangs_62 (hc := ac_120) (hlen := ln_120 _ _) (K := ?_)
  refine ev_iload_n (M := T12_hangs) (pc := 63) 0 dX12_hangs_63 (k := ?_)
  refine ev_iconst (M := T12_hangs) (pc := 64) dX12_hangs_64 (k := ?_)
  refine ev_icmpeq (M := T12_hangs) (pc := 65) 76 dX12_hangs_65 (kt := fun hc => ?_) (kf := fun hc => ?_)
  · replace H4 := if_pe hc H4
    refine ev_lv [1, 2] [(0, .inr (.inr (some (12, 0)))), (1, .inl (l1))] (k := ?_)
    exact E12_hangs_76 l1 h3 _ H4
  · replace H4 := if_ne hc H4
    refine ev_aload_n (M := T12_hangs) (pc := 68) 1 dX12_hangs_68 (k := ?_)
    refine ev_iload_n (M := T12_hangs) (pc := 69) 0 dX12_hangs_69 (k := ?_)
    refine ev_bipush (M := T12_hangs) (pc := 70) dX12_hangs_70 (k := ?_)
    refine ev_iload_n (M := T12_hangs) (pc := 72) 2 dX12_hangs_72 (k := ?_)
    obtain ⟨h4, hq, H5⟩ := bd_e H4
    clear H4
    refine ev_callV (M := T12_hangs) (pc := 73) (mc := 0) (ms := 0) (st := []) (C12_over hq) md_X12_over im_X12_over se_X12_over ml_X12_323 dX12_hangs_73 _ (by decide) (K := ?_)
    refine ev_lv [1, 2] [(0, .inr (.inr (some (12, 0)))), (1, .inl (l1))] (k := ?_)
    exact E12_hangs_76 l1 h4 _ H5
set_option maxRecDepth 100000 in
set_option maxHeartbeats 4000000 in
theorem C12_hangs {l1 : Int} {h : JM} {res : JM} (H : F12_hangs l1 h = some res) : Cn j_W1 4 0 0 yX12_hangs cX12_hangs 4 none [.inr (.inr (some (12, 0))), .inl (l1)] h none res := by
  refine Cn.by (own := RX12) (b := false) [(0, .inr (.inr (some (12, 0)))), (1, .inl (l1))] rfl (fun z => by cases z) (by decide +kernel) (K := ?_)
  unfold F12_hangs at H
  refine ev_aload_n (M := T12_hangs) (pc := 0) 0 dX12_hangs_0 (k := ?_)
  refine ev_getR (M := T12_hangs) (pc := 1) (t := 112) (x := some (112, 0)) fl_X12_34 dX12_hangs_1 (hx := ry_12_12 _ _) (K := ?_)
  refine ev_iload_n (M := T12_hangs) (pc := 4) 1 dX12_hangs_4 (k := ?_)
  refine ev_iconst (M := T12_hangs) (pc := 5) dX12_hangs_5 (k := ?_)
  obtain ⟨⟨hi0, hi1⟩, H1⟩ := g_e H
  clear H
  obtain ⟨h5, eh5, H2⟩ := lt_e H1
  clear H1
  refine ev_zastore (M := T12_hangs) (pc := 6) (k := 112) j_ok1 hi0 hi1 (Or.inl rfl) eh5 dX12_hangs_6 (hc := ac_112) (hlen := ln_112 _ _) (K := ?_)
  refine ev_aload_n (M := T12_hangs) (pc := 7) 0 dX12_hangs_7 (k := ?_)
  refine ev_iload_n (M := T12_hangs) (pc := 8) 1 dX12_hangs_8 (k := ?_)
  obtain ⟨h6, hq, H3⟩ := bd_e H2
  clear H2
  refine ev_callV (M := T12_hangs) (pc := 9) (mc := 0) (ms := 0) (st := []) (C12_clears hq) md_X12_clears im_X12_clears se_X12_clears ml_X12_314 dX12_hangs_9 _ (by decide) (K := ?_)
  refine ev_aload_n (M := T12_hangs) (pc := 12) 0 dX12_hangs_12 (k := ?_)
  refine ev_getR (M := T12_hangs) (pc := 13) (t := 125) (x := some (125, 0)) fl_X12_74 dX12_hangs_13 (hx := ry_12_25 _ _) (K := ?_)
  refine ev_iload_n (M := T12_hangs) (pc := 16) 1 dX12_hangs_16 (k := ?_)
  refine ev_aload_n (M := T12_hangs) (pc := 17) 0 dX12_hangs_17 (k := ?_)
  refine ev_getI (M := T12_hangs) (pc := 18) (x := h6.1 12 0 2) fl_X12_285 dX12_hangs_18 (K := ?_)
  obtain ⟨⟨hi0, hi1⟩, H4⟩ := g_e H3
  clear H3
  obtain ⟨h7, eh7, H5⟩ := lt_e H4
  clear H4
  refine ev_iastore (M := T12_hangs) (pc := 21) (k := 125) j_ok1 hi0 hi1 eh7 dX12_hangs_21 (hc := ac_125) (hlen := ln_125 _ _) (K := ?_)
  refine ev_aload_n (M := T12_hangs) (pc := 22) 0 dX12_hangs_22 (k := ?_)
  refine ev_getR (M := T12_hangs) (pc := 23) (t := 119) (x := some (119, 0)) fl_X12_56 dX12_hangs_23 (hx := ry_12_19 _ _) (K := ?_)
  refine ev_iload_n (M := T12_hangs) (pc := 26) 1 dX12_hangs_26 (k := ?_)
  obtain ⟨⟨hi0, hi1⟩, H6⟩ := g_e H5
  clear H5
  refine ev_iaload (M := T12_hangs) (pc := 27) (k := 119) hi0 hi1 dX12_hangs_27 (hc := ac_119) (hlen := ln_119 _ _) (K := ?_)
  obtain ⟨x8, ex8, H7⟩ := lt_e H6
  clear H6
  refine ev_topI ex8 ?_
  refine ev_istore_n (M := T12_hangs) (pc := 28) [(2, .inl (x8)), (0, .inr (.inr (some (12, 0)))), (1, .inl (l1))] dX12_hangs_28 (k := ?_)
  refine ev_aload_n (M := T12_hangs) (pc := 29) 1 dX12_hangs_29 (k := ?_)
  refine ev_getR (M := T12_hangs) (pc := 30) (t := 119) (x := some (119, 0)) fl_X12_56 dX12_hangs_30 (hx := ry_12_19 _ _) (K := ?_)
  refine ev_iload_n (M := T12_hangs) (pc := 33) 2 dX12_hangs_33 (k := ?_)
  refine ev_iconst (M := T12_hangs) (pc := 34) dX12_hangs_34 (k := ?_)
  obtain ⟨⟨hi0, hi1⟩, H8⟩ := g_e H7
  clear H7
  obtain ⟨h9, eh9, H9⟩ := lt_e H8
  clear H8
  refine ev_iastore (M := T12_hangs) (pc := 35) (k := 119) j_ok1 hi0 hi1 eh9 dX12_hangs_35 (hc := ac_119) (hlen := ln_119 _ _) (K := ?_)
  refine ev_iload_n (M := T12_hangs) (pc := 36) 0 dX12_hangs_36 (k := ?_)
  refine ev_iconst (M := T12_hangs) (pc := 37) dX12_hangs_37 (k := ?_)
  refine ev_icmpeq (M := T12_hangs) (pc := 38) 49 dX12_hangs_38 (kt := fun hc => ?_) (kf := fun hc => ?_)
  · replace H9 := if_pe hc H9
    refine ev_lv [1, 2] [(0, .inr (.inr (some (12, 0)))), (1, .inl (l1))] (k := ?_)
    exact E12_hangs_49 l1 h9 _ H9
  · replace H9 := if_ne hc H9
    refine ev_aload_n (M := T12_hangs) (pc := 41) 1 dX12_hangs_41 (k := ?_)
    refine ev_iload_n (M := T12_hangs) (pc := 42) 0 dX12_hangs_42 (k := ?_)
    refine ev_bipush (M := T12_hangs) (pc := 43) dX12_hangs_43 (k := ?_)
    refine ev_iload_n (M := T12_hangs) (pc := 45) 2 dX12_hangs_45 (k := ?_)
    obtain ⟨h10, hq, H10⟩ := bd_e H9
    clear H9
    refine ev_callV (M := T12_hangs) (pc := 46) (mc := 0) (ms := 0) (st := []) (C12_over hq) md_X12_over im_X12_over se_X12_over ml_X12_323 dX12_hangs_46 _ (by decide) (K := ?_)
    refine ev_lv [1, 2] [(0, .inr (.inr (some (12, 0)))), (1, .inl (l1))] (k := ?_)
    exact E12_hangs_49 l1 h10 _ H10
-- X12_heard
abbrev T12_heard : JT := (RX12, cX12_heard, 2, some .int, false)
set_option maxRecDepth 100000 in
set_option maxHeartbeats 4000000 in
theorem C12_heard {l1 : Int} {h : JM} {res : (Int × JM)} (H : F12_heard l1 h = some res) : Cn j_W1 3 0 0 yX12_heard cX12_heard 2 (some .int) [.inr (.inr (some (12, 0))), .inl (l1)] h (some (.inl res.1)) res.2 := by
  refine Cn.by (own := RX12) (b := false) [(0, .inr (.inr (some (12, 0)))), (1, .inl (l1))] rfl (fun z => by cases z) (by decide +kernel) (K := ?_)
  unfold F12_heard at H
  refine ev_iload_n (M := T12_heard) (pc := 0) 1 dX12_heard_0 (k := ?_)
  obtain ⟨q1, hq, H1⟩ := bd_e H
  clear H
  refine ev_callS (M := T12_heard) (pc := 1) (mc := 0) (ms := 0) (st := []) (C12_isLine hq) md_X12_isLine ss_X12_isLine ml_X12_288 dX12_heard_1 _ (by decide) (K := ?_)
  refine ev_ifeq (M := T12_heard) (pc := 4) 16 dX12_heard_4 (kt := fun hc => ?_) (kf := fun hc => ?_)
  · replace H1 := if_pe hc H1
    refine ev_bipush (M := T12_heard) (pc := 16) dX12_heard_16 (k := ?_)
    cases H1
    exact ev_ireturn (M := T12_heard) (pc := 18) dX12_heard_18
  · replace H1 := if_ne hc H1
    refine ev_aload_n (M := T12_heard) (pc := 7) 0 dX12_heard_7 (k := ?_)
    refine ev_getR (M := T12_heard) (pc := 8) (t := 131) (x := some (131, 0)) fl_X12_92 dX12_heard_8 (hx := ry_12_31 _ _) (K := ?_)
    refine ev_iload_n (M := T12_heard) (pc := 11) 1 dX12_heard_11 (k := ?_)
    obtain ⟨⟨hi0, hi1⟩, H2⟩ := g_e H1
    clear H1
    refine ev_iaload (M := T12_heard) (pc := 12) (k := 131) hi0 hi1 dX12_heard_12 (hc := ac_131) (hlen := ln_131 _ _) (K := ?_)
    refine ev_goto (M := T12_heard) (pc := 13) 18 dX12_heard_13 (k := ?_)
    cases H2
    exact ev_ireturn (M := T12_heard) (pc := 18) dX12_heard_18
-- X12_hook
abbrev T12_hook : JT := (RX12, cX12_hook, 4, some .int, false)
set_option maxRecDepth 100000 in
set_option maxHeartbeats 4000000 in
theorem E12_hook_24 (l1 : Int) (l2 : Int) (s0 : Int) (h : JM) (res : (Int × JM)) (H : F12_hook_24 l1 l2 s0 h = some res) : Ev j_W1 3 0 0 T12_hook 24 [(0, .inr (.inr (some (12, 0)))), (1, .inl (l1)), (2, .inl (l2))] [.inl (s0)] h (some (.inl res.1)) res.2 := by
  unfold F12_hook_24 at H
  refine ev_istore_n (M := T12_hook) (pc := 24) [(3, .inl (s0)), (0, .inr (.inr (some (12, 0)))), (1, .inl (l1)), (2, .inl (l2))] dX12_hook_24 (k := ?_)
  refine ev_aload_n (M := T12_hook) (pc := 25) 1 dX12_hook_25 (k := ?_)
  refine ev_getR (M := T12_hook) (pc := 26) (t := 113) (x := some (113, 0)) fl_X12_38 dX12_hook_26 (hx := ry_12_13 _ _) (K := ?_)
  refine ev_iload_n (M := T12_hook) (pc := 29) 2 dX12_hook_29 (k := ?_)
  refine ev_iload_n (M := T12_hook) (pc := 30) 3 dX12_hook_30 (k := ?_)
  obtain ⟨⟨hi0, hi1⟩, H1⟩ := g_e H
  clear H
  obtain ⟨hz, H2⟩ := g_e H1
  clear H1
  obtain ⟨h1, eh1, H3⟩ := lt_e H2
  clear H2
  refine ev_zastore (M := T12_hook) (pc := 31) (k := 113) j_ok1 hi0 hi1 hz eh1 dX12_hook_31 (hc := ac_113) (hlen := ln_113 _ _) (K := ?_)
  refine ev_iload_n (M := T12_hook) (pc := 32) 0 dX12_hook_32 (k := ?_)
  cases H3
  exact ev_ireturn (M := T12_hook) (pc := 33) dX12_hook_33
set_option maxRecDepth 100000 in
set_option maxHeartbeats 4000000 in
theorem C12_hook {l1 : Int} {l2 : Int} {h : JM} {res : (Int × JM)} (H : F12_hook l1 l2 h = some res) : Cn j_W1 3 0 0 yX12_hook cX12_hook 4 (some .int) [.inr (.inr (some (12, 0))), .inl (l1), .inl (l2)] h (some (.inl res.1)) res.2 := by
  refine Cn.by (own := RX12) (b := false) [(0, .inr (.inr (some (12, 0)))), (1, .inl (l1)), (2, .inl (l2))] rfl (fun z => by cases z) (by decide +kernel) (K := ?_)
  unfold F12_hook at H
  refine ev_iload_n (M := T12_hook) (pc := 0) 1 dX12_hook_0 (k := ?_)
  obtain ⟨q2, hq, H1⟩ := bd_e H
  clear H
  refine ev_callS (M := T12_hook) (pc := 1) (mc := 0) (ms := 0) (st := []) (C12_isLine hq) md_X12_isLine ss_X12_isLine ml_X12_288 dX12_hook_1 _ (by decide) (K := ?_)
  refine ev_ifne (M := T12_hook) (pc := 4) 10 dX12_hook_4 (kt := fun hc => ?_) (kf := fun hc => ?_)
  · replace H1 := if_ne hc H1
    refine ev_aload_n (M := T12_hook) (pc := 10) 0 dX12_hook_10 (k := ?_)
    refine ev_getR (M := T12_hook) (pc := 11) (t := 113) (x := some (113, 0)) fl_X12_38 dX12_hook_11 (hx := ry_12_13 _ _) (K := ?_)
    refine ev_iload_n (M := T12_hook) (pc := 14) 1 dX12_hook_14 (k := ?_)
    obtain ⟨⟨hi0, hi1⟩, H2⟩ := g_e H1
    clear H1
    refine ev_zaload (M := T12_hook) (pc := 15) (k := 113) hi0 hi1 dX12_hook_15 (hc := ac_113) (hlen := ln_113 _ _) (K := ?_)
    refine ev_ifeq (M := T12_hook) (pc := 16) 23 dX12_hook_16 (kt := fun hc => ?_) (kf := fun hc => ?_)
    · replace H2 := if_pe hc H2
      refine ev_iconst (M := T12_hook) (pc := 23) dX12_hook_23 (k := ?_)
      exact E12_hook_24 l1 l2 0 q2.2 _ H2
    · replace H2 := if_ne hc H2
      refine ev_iconst (M := T12_hook) (pc := 19) dX12_hook_19 (k := ?_)
      refine ev_goto (M := T12_hook) (pc := 20) 24 dX12_hook_20 (k := ?_)
      exact E12_hook_24 l1 l2 1 q2.2 _ H2
  · replace H1 := if_pe hc H1
    refine ev_bipush (M := T12_hook) (pc := 7) dX12_hook_7 (k := ?_)
    cases H1
    exact ev_ireturn (M := T12_hook) (pc := 9) dX12_hook_9
