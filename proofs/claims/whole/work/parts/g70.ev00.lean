-- X0_begin
abbrev T0_begin : JT := (RX0, cX0_begin, 3, none, false)
set_option maxRecDepth 100000 in
set_option maxHeartbeats 4000000 in
theorem C0_begin {l0 : Int} {l1 : Option Int} {l2 : Int} {h : JM} {res : JM} (H : F0_begin l0 l1 l2 h = some res) : Cn j_W1 1 0 0 yX0_begin cX0_begin 3 none [.inr (.inr (some (0, l0))), .inr (.inr (Option.map (Prod.mk 1) (l1))), .inl (l2)] h none res := by
  refine Cn.by (own := RX0) (b := false) [(0, .inr (.inr (some (0, l0)))), (1, .inr (.inr (Option.map (Prod.mk 1) (l1)))), (2, .inl (l2))] rfl (fun z => by cases z) (by decide +kernel) (K := ?_)
  unfold F0_begin at H
  refine ev_aload_n (M := T0_begin) (pc := 0) 0 dX0_begin_0 (k := ?_)
  refine ev_aload_n (M := T0_begin) (pc := 1) 1 dX0_begin_1 (k := ?_)
  obtain ⟨h1, eh1, H1⟩ := lt_e H
  clear H
  refine ev_putR (M := T0_begin) (pc := 2) (t := 1) j_ok1 l1 fl_X0_15 eh1 (hdg := dX0_begin_2) (hly := rl_0_0 _) (K := ?_)
  refine ev_aload_n (M := T0_begin) (pc := 5) 0 dX0_begin_5 (k := ?_)
  refine ev_null (M := T0_begin) (pc := 6) dX0_begin_6 (k := ?_)
  obtain ⟨h2, eh2, H2⟩ := lt_e H1
  clear H1
  refine ev_putR (M := T0_begin) (pc := 7) (t := 4) j_ok1 none fl_X0_19 eh2 (hdg := dX0_begin_7) (hly := rl_0_1 _) (K := ?_)
  refine ev_aload_n (M := T0_begin) (pc := 10) 0 dX0_begin_10 (k := ?_)
  refine ev_null (M := T0_begin) (pc := 11) dX0_begin_11 (k := ?_)
  obtain ⟨h3, eh3, H3⟩ := lt_e H2
  clear H2
  refine ev_putR (M := T0_begin) (pc := 12) (t := 8) j_ok1 none fl_X0_23 eh3 (hdg := dX0_begin_12) (hly := rl_0_2 _) (K := ?_)
  refine ev_aload_n (M := T0_begin) (pc := 15) 0 dX0_begin_15 (k := ?_)
  refine ev_null (M := T0_begin) (pc := 16) dX0_begin_16 (k := ?_)
  obtain ⟨h4, eh4, H4⟩ := lt_e H3
  clear H3
  refine ev_putR (M := T0_begin) (pc := 17) (t := 4) j_ok1 none fl_X0_27 eh4 (hdg := dX0_begin_17) (hly := rl_0_3 _) (K := ?_)
  refine ev_aload_n (M := T0_begin) (pc := 20) 0 dX0_begin_20 (k := ?_)
  refine ev_null (M := T0_begin) (pc := 21) dX0_begin_21 (k := ?_)
  obtain ⟨h5, eh5, H5⟩ := lt_e H4
  clear H4
  refine ev_putR (M := T0_begin) (pc := 22) (t := 8) j_ok1 none fl_X0_30 eh5 (hdg := dX0_begin_22) (hly := rl_0_4 _) (K := ?_)
  refine ev_aload_n (M := T0_begin) (pc := 25) 0 dX0_begin_25 (k := ?_)
  refine ev_null (M := T0_begin) (pc := 26) dX0_begin_26 (k := ?_)
  obtain ⟨h6, eh6, H6⟩ := lt_e H5
  clear H5
  refine ev_putR (M := T0_begin) (pc := 27) (t := 2) j_ok1 none fl_X0_33 eh6 (hdg := dX0_begin_27) (hly := rl_0_5 _) (K := ?_)
  refine ev_aload_n (M := T0_begin) (pc := 30) 0 dX0_begin_30 (k := ?_)
  refine ev_iconst (M := T0_begin) (pc := 31) dX0_begin_31 (k := ?_)
  obtain ⟨h7, eh7, H7⟩ := lt_e H6
  clear H6
  refine ev_putI (M := T0_begin) (pc := 32) j_ok1 fl_X0_37 eh7 dX0_begin_32 (K := ?_)
  refine ev_aload_n (M := T0_begin) (pc := 35) 0 dX0_begin_35 (k := ?_)
  refine ev_null (M := T0_begin) (pc := 36) dX0_begin_36 (k := ?_)
  obtain ⟨h8, eh8, H8⟩ := lt_e H7
  clear H7
  refine ev_putR (M := T0_begin) (pc := 37) (t := 6) j_ok1 none fl_X0_40 eh8 (hdg := dX0_begin_37) (hly := rl_0_7 _) (K := ?_)
  refine ev_aload_n (M := T0_begin) (pc := 40) 0 dX0_begin_40 (k := ?_)
  refine ev_lconst (M := T0_begin) (pc := 41) (v := 0) dX0_begin_41 (k := ?_)
  obtain ⟨h9, eh9, H9⟩ := lt_e H8
  clear H8
  refine ev_putL (M := T0_begin) (pc := 42) j_ok1 fl_X0_44 eh9 dX0_begin_42 (K := ?_)
  refine ev_aload_n (M := T0_begin) (pc := 45) 0 dX0_begin_45 (k := ?_)
  refine ev_iconst (M := T0_begin) (pc := 46) dX0_begin_46 (k := ?_)
  obtain ⟨h10, eh10, H10⟩ := lt_e H9
  clear H9
  refine ev_putI (M := T0_begin) (pc := 47) j_ok1 fl_X0_9 eh10 dX0_begin_47 (K := ?_)
  refine ev_aload_n (M := T0_begin) (pc := 50) 0 dX0_begin_50 (k := ?_)
  refine ev_iload_n (M := T0_begin) (pc := 51) 2 dX0_begin_51 (k := ?_)
  obtain ⟨h11, eh11, H11⟩ := lt_e H10
  clear H10
  refine ev_putI (M := T0_begin) (pc := 52) j_ok1 fl_X0_48 eh11 dX0_begin_52 (K := ?_)
  refine ev_aload_n (M := T0_begin) (pc := 55) 0 dX0_begin_55 (k := ?_)
  refine ev_iconst (M := T0_begin) (pc := 56) dX0_begin_56 (k := ?_)
  obtain ⟨h12, eh12, H12⟩ := lt_e H11
  clear H11
  refine ev_putI (M := T0_begin) (pc := 57) j_ok1 fl_X0_51 eh12 dX0_begin_57 (K := ?_)
  refine ev_aload_n (M := T0_begin) (pc := 60) 0 dX0_begin_60 (k := ?_)
  refine ev_iconst (M := T0_begin) (pc := 61) dX0_begin_61 (k := ?_)
  obtain ⟨h13, eh13, H13⟩ := lt_e H12
  clear H12
  refine ev_putI (M := T0_begin) (pc := 62) j_ok1 fl_X0_54 eh13 dX0_begin_62 (K := ?_)
  refine ev_aload_n (M := T0_begin) (pc := 65) 0 dX0_begin_65 (k := ?_)
  refine ev_iconst (M := T0_begin) (pc := 66) dX0_begin_66 (k := ?_)
  obtain ⟨h14, eh14, H14⟩ := lt_e H13
  clear H13
  refine ev_putI (M := T0_begin) (pc := 67) j_ok1 fl_X0_57 eh14 dX0_begin_67 (K := ?_)
  refine ev_aload_n (M := T0_begin) (pc := 70) 0 dX0_begin_70 (k := ?_)
  refine ev_iconst (M := T0_begin) (pc := 71) dX0_begin_71 (k := ?_)
  obtain ⟨h15, eh15, H15⟩ := lt_e H14
  clear H14
  refine ev_putI (M := T0_begin) (pc := 72) j_ok1 fl_X0_60 eh15 dX0_begin_72 (K := ?_)
  refine ev_aload_n (M := T0_begin) (pc := 75) 0 dX0_begin_75 (k := ?_)
  refine ev_iconst (M := T0_begin) (pc := 76) dX0_begin_76 (k := ?_)
  obtain ⟨h16, eh16, H16⟩ := lt_e H15
  clear H15
  refine ev_putZ (M := T0_begin) (pc := 77) j_ok1 (Or.inl rfl) fl_X0_63 eh16 dX0_begin_77 (K := ?_)
  cases H16
  exact ev_return (M := T0_begin) (pc := 80) dX0_begin_80
-- X11_beginsWith
abbrev T11_beginsWith : JT := (RX11, cX11_beginsWith, 5, some .boolean, false)
set_option maxRecDepth 100000 in
set_option maxHeartbeats 4000000 in
theorem E11_beginsWith_39 (h : JM) (res : (Int × JM)) (H : F11_beginsWith_39 h = some res) : Ev j_W1 1 0 0 T11_beginsWith 39 [] [] h (some (.inl res.1)) res.2 := by
  unfold F11_beginsWith_39 at H
  refine ev_iconst (M := T11_beginsWith) (pc := 39) dX11_beginsWith_39 (k := ?_)
  cases H
  exact ev_zreturn (M := T11_beginsWith) (pc := 40) (Or.inl rfl) dX11_beginsWith_40
set_option maxRecDepth 100000 in
set_option maxHeartbeats 4000000 in
theorem C11_beginsWith {l0 : Int} {l2 : Int} {h : JM} {res : (Int × JM)} (H : F11_beginsWith l0 l2 h = some res) : Cn j_W1 1 0 0 yX11_beginsWith cX11_beginsWith 5 (some .boolean) [.inr (.inl (l0)), .inr (.inl (l2))] h (some (.inl res.1)) res.2 := by
  refine Cn.by (own := RX11) (b := false) [(0, .inr (.inl (l0))), (2, .inr (.inl (l2)))] rfl (fun z => by cases z) (by decide +kernel) (K := ?_)
  unfold F11_beginsWith at H
  refine ev_lload_n (M := T11_beginsWith) (pc := 0) 1 dX11_beginsWith_0 (k := ?_)
  refine ev_bipush (M := T11_beginsWith) (pc := 1) dX11_beginsWith_1 (k := ?_)
  refine ev_lshr (M := T11_beginsWith) (pc := 3) dX11_beginsWith_3 (k := ?_)
  refine ev_l2i (M := T11_beginsWith) (pc := 4) dX11_beginsWith_4 (k := ?_)
  obtain ⟨x1, ex1, H1⟩ := lt_e H
  clear H
  refine ev_topI ex1 ?_
  refine ev_istore (M := T11_beginsWith) (pc := 5) [(4, .inl (x1)), (0, .inr (.inl (l0))), (2, .inr (.inl (l2)))] dX11_beginsWith_5 (k := ?_)
  refine ev_lload_n (M := T11_beginsWith) (pc := 7) 1 dX11_beginsWith_7 (k := ?_)
  refine ev_bipush (M := T11_beginsWith) (pc := 8) dX11_beginsWith_8 (k := ?_)
  refine ev_lshr (M := T11_beginsWith) (pc := 10) dX11_beginsWith_10 (k := ?_)
  refine ev_iload (M := T11_beginsWith) (pc := 11) 0 dX11_beginsWith_11 (k := ?_)
  refine ev_i2l (M := T11_beginsWith) (pc := 13) dX11_beginsWith_13 (k := ?_)
  refine ev_lcmp (M := T11_beginsWith) (pc := 14) dX11_beginsWith_14 (k := ?_)
  refine ev_iflt (M := T11_beginsWith) (pc := 15) 39 dX11_beginsWith_15 (kt := fun hc => ?_) (kf := fun hc => ?_)
  · replace H1 := if_pe hc H1
    refine ev_lv [] [] (k := ?_)
    exact E11_beginsWith_39 h _ H1
  · replace H1 := if_ne hc H1
    refine ev_lload_n (M := T11_beginsWith) (pc := 18) 1 dX11_beginsWith_18 (k := ?_)
    refine ev_lload_n (M := T11_beginsWith) (pc := 19) 2 dX11_beginsWith_19 (k := ?_)
    refine ev_lxor (M := T11_beginsWith) (pc := 20) dX11_beginsWith_20 (k := ?_)
    refine ev_lconst (M := T11_beginsWith) (pc := 21) (v := 1) dX11_beginsWith_21 (k := ?_)
    refine ev_iconst (M := T11_beginsWith) (pc := 22) dX11_beginsWith_22 (k := ?_)
    refine ev_iload (M := T11_beginsWith) (pc := 23) 0 dX11_beginsWith_23 (k := ?_)
    refine ev_imul (M := T11_beginsWith) (pc := 25) dX11_beginsWith_25 (k := ?_)
    refine ev_lshl (M := T11_beginsWith) (pc := 26) dX11_beginsWith_26 (k := ?_)
    refine ev_lconst (M := T11_beginsWith) (pc := 27) (v := 1) dX11_beginsWith_27 (k := ?_)
    refine ev_lsub (M := T11_beginsWith) (pc := 28) dX11_beginsWith_28 (k := ?_)
    refine ev_land (M := T11_beginsWith) (pc := 29) dX11_beginsWith_29 (k := ?_)
    refine ev_lconst (M := T11_beginsWith) (pc := 30) (v := 0) dX11_beginsWith_30 (k := ?_)
    refine ev_lcmp (M := T11_beginsWith) (pc := 31) dX11_beginsWith_31 (k := ?_)
    refine ev_ifne (M := T11_beginsWith) (pc := 32) 39 dX11_beginsWith_32 (kt := fun hc => ?_) (kf := fun hc => ?_)
    · replace H1 := if_ne hc H1
      refine ev_lv [] [] (k := ?_)
      exact E11_beginsWith_39 h _ H1
    · replace H1 := if_pe hc H1
      refine ev_iconst (M := T11_beginsWith) (pc := 35) dX11_beginsWith_35 (k := ?_)
      refine ev_goto (M := T11_beginsWith) (pc := 36) 40 dX11_beginsWith_36 (k := ?_)
      cases H1
      exact ev_zreturn (M := T11_beginsWith) (pc := 40) (Or.inr rfl) dX11_beginsWith_40
-- X11_countOf
abbrev T11_countOf : JT := (RX11, cX11_countOf, 2, some .int, false)
set_option maxRecDepth 100000 in
set_option maxHeartbeats 4000000 in
theorem C11_countOf {l0 : Int} {h : JM} {res : (Int × JM)} (H : F11_countOf l0 h = some res) : Cn j_W1 1 0 0 yX11_countOf cX11_countOf 2 (some .int) [.inr (.inl (l0))] h (some (.inl res.1)) res.2 := by
  refine Cn.by (own := RX11) (b := false) [(0, .inr (.inl (l0)))] rfl (fun z => by cases z) (by decide +kernel) (K := ?_)
  unfold F11_countOf at H
  refine ev_lload_n (M := T11_countOf) (pc := 0) 0 dX11_countOf_0 (k := ?_)
  refine ev_bipush (M := T11_countOf) (pc := 1) dX11_countOf_1 (k := ?_)
  refine ev_lshr (M := T11_countOf) (pc := 3) dX11_countOf_3 (k := ?_)
  refine ev_l2i (M := T11_countOf) (pc := 4) dX11_countOf_4 (k := ?_)
  cases H
  exact ev_ireturn (M := T11_countOf) (pc := 5) dX11_countOf_5
-- X1_analyse
abbrev T1_analyse : JT := (RX1, cX1_analyse, 10, some .int, false)
set_option maxRecDepth 100000 in
set_option maxHeartbeats 4000000 in
theorem E1_analyse_110 (h : JM) (res : (Int × JM)) (H : F1_analyse_110 h = some res) : Ev j_W1 2 0 0 T1_analyse 110 [] [] h (some (.inl res.1)) res.2 := by
  unfold F1_analyse_110 at H
  refine ev_bipush (M := T1_analyse) (pc := 110) dX1_analyse_110 (k := ?_)
  cases H
  exact ev_ireturn (M := T1_analyse) (pc := 112) dX1_analyse_112
set_option maxRecDepth 100000 in
set_option maxHeartbeats 4000000 in
theorem E1_analyse_84 (k15 : Int → Int → Int → Int → Int → Int → JM → Option (Int × JM)) (hk15 : ∀ (l0 : Int) (l1 : Int) (l3 : Int) (l4 : Int) (l5 : Int) (l6 : Int) (h : JM) (res : (Int × JM)), k15 l0 l1 l3 l4 l5 l6 h = some res → Ev j_W1 2 0 0 T1_analyse 15 [(0, .inr (.inr (some (1, l0)))), (1, .inr (.inl (l1))), (3, .inl (l3)), (4, .inl (l4)), (5, .inl (l5)), (6, .inl (l6))] [] h (some (.inl res.1)) res.2) (l0 : Int) (l1 : Int) (l3 : Int) (l4 : Int) (l5 : Int) (l6 : Int) (h : JM) (res : (Int × JM)) (H : F1_analyse_84 k15 l0 l1 l3 l4 l5 l6 h = some res) : Ev j_W1 2 0 0 T1_analyse 84 [(0, .inr (.inr (some (1, l0)))), (1, .inr (.inl (l1))), (3, .inl (l3)), (4, .inl (l4)), (5, .inl (l5)), (6, .inl (l6))] [] h (some (.inl res.1)) res.2 := by
  unfold F1_analyse_84 at H
  refine ev_iinc (M := T1_analyse) (pc := 84) 5 [(6, .inl (w32 (l6 + 1))), (0, .inr (.inr (some (1, l0)))), (1, .inr (.inl (l1))), (3, .inl (l3)), (4, .inl (l4)), (5, .inl (l5))] dX1_analyse_84 (k := ?_)
  refine ev_goto (M := T1_analyse) (pc := 87) 15 dX1_analyse_87 (k := ?_)
  refine ev_lv [1, 2, 3, 4, 5, 0] [(0, .inr (.inr (some (1, l0)))), (1, .inr (.inl (l1))), (3, .inl (l3)), (4, .inl (l4)), (5, .inl (l5)), (6, .inl (w32 (l6 + 1)))] (k := ?_)
  exact hk15 l0 l1 l3 l4 l5 (w32 (l6 + 1)) h _ H
set_option maxRecDepth 100000 in
set_option maxHeartbeats 4000000 in
theorem E1_analyse_61 (k15 : Int → Int → Int → Int → Int → Int → JM → Option (Int × JM)) (hk15 : ∀ (l0 : Int) (l1 : Int) (l3 : Int) (l4 : Int) (l5 : Int) (l6 : Int) (h : JM) (res : (Int × JM)), k15 l0 l1 l3 l4 l5 l6 h = some res → Ev j_W1 2 0 0 T1_analyse 15 [(0, .inr (.inr (some (1, l0)))), (1, .inr (.inl (l1))), (3, .inl (l3)), (4, .inl (l4)), (5, .inl (l5)), (6, .inl (l6))] [] h (some (.inl res.1)) res.2) (l0 : Int) (l1 : Int) (l3 : Int) (l4 : Int) (l5 : Int) (l6 : Int) (l7 : Int) (l9 : Int) (h : JM) (res : (Int × JM)) (H : F1_analyse_61 k15 l0 l1 l3 l4 l5 l6 l7 l9 h = some res) : Ev j_W1 2 0 0 T1_analyse 61 [(0, .inr (.inr (some (1, l0)))), (1, .inr (.inl (l1))), (3, .inl (l3)), (4, .inl (l4)), (5, .inl (l5)), (6, .inl (l6)), (7, .inr (.inl (l7))), (9, .inl (l9))] [] h (some (.inl res.1)) res.2 := by
  unfold F1_analyse_61 at H
  refine ev_iload (M := T1_analyse) (pc := 61) 7 dX1_analyse_61 (k := ?_)
  refine ev_iload (M := T1_analyse) (pc := 63) 3 dX1_analyse_63 (k := ?_)
  refine ev_icmple (M := T1_analyse) (pc := 65) 84 dX1_analyse_65 (kt := fun hc => ?_) (kf := fun hc => ?_)
  · replace H := if_pe hc H
    refine ev_lv [0, 1, 2, 3, 4, 5] [(0, .inr (.inr (some (1, l0)))), (1, .inr (.inl (l1))), (3, .inl (l3)), (4, .inl (l4)), (5, .inl (l5)), (6, .inl (l6))] (k := ?_)
    exact E1_analyse_84 k15 hk15 l0 l1 l3 l4 l5 l6 h _ H
  · replace H := if_ne hc H
    refine ev_lload_n (M := T1_analyse) (pc := 68) 1 dX1_analyse_68 (k := ?_)
    refine ev_lload (M := T1_analyse) (pc := 69) 6 dX1_analyse_69 (k := ?_)
    obtain ⟨q1, hq, H1⟩ := bd_e H
    clear H
    refine ev_callSN (M := T1_analyse) (pc := 71) (mc := 0) (ms := 0) (st := []) (C11_beginsWith hq) md_X11_beginsWith ss_X11_beginsWith ml_X1_62 dX1_analyse_71 _ (by decide) (K := ?_)
    refine ev_ifeq (M := T1_analyse) (pc := 74) 84 dX1_analyse_74 (kt := fun hc => ?_) (kf := fun hc => ?_)
    · replace H1 := if_pe hc H1
      refine ev_lv [0, 1, 2, 3, 4, 5] [(0, .inr (.inr (some (1, l0)))), (1, .inr (.inl (l1))), (3, .inl (l3)), (4, .inl (l4)), (5, .inl (l5)), (6, .inl (l6))] (k := ?_)
      exact E1_analyse_84 k15 hk15 l0 l1 l3 l4 l5 l6 q1.2 _ H1
    · replace H1 := if_ne hc H1
      refine ev_iload (M := T1_analyse) (pc := 77) 5 dX1_analyse_77 (k := ?_)
      refine ev_istore_n (M := T1_analyse) (pc := 79) [(3, .inl (l6)), (0, .inr (.inr (some (1, l0)))), (1, .inr (.inl (l1))), (4, .inl (l4)), (5, .inl (l5)), (6, .inl (l6)), (7, .inr (.inl (l7))), (9, .inl (l9))] dX1_analyse_79 (k := ?_)
      refine ev_iload (M := T1_analyse) (pc := 80) 7 dX1_analyse_80 (k := ?_)
      refine ev_istore (M := T1_analyse) (pc := 82) [(4, .inl (l9)), (3, .inl (l6)), (0, .inr (.inr (some (1, l0)))), (1, .inr (.inl (l1))), (5, .inl (l5)), (6, .inl (l6)), (7, .inr (.inl (l7))), (9, .inl (l9))] dX1_analyse_82 (k := ?_)
      refine ev_lv [2, 3, 1, 0, 4, 5] [(0, .inr (.inr (some (1, l0)))), (1, .inr (.inl (l1))), (3, .inl (l6)), (4, .inl (l9)), (5, .inl (l5)), (6, .inl (l6))] (k := ?_)
      exact E1_analyse_84 k15 hk15 l0 l1 l6 l9 l5 l6 q1.2 _ H1
set_option maxRecDepth 100000 in
set_option maxHeartbeats 4000000 in
theorem E1_analyse_15b (k15 : Int → Int → Int → Int → Int → Int → JM → Option (Int × JM)) (hk15 : ∀ (l0 : Int) (l1 : Int) (l3 : Int) (l4 : Int) (l5 : Int) (l6 : Int) (h : JM) (res : (Int × JM)), k15 l0 l1 l3 l4 l5 l6 h = some res → Ev j_W1 2 0 0 T1_analyse 15 [(0, .inr (.inr (some (1, l0)))), (1, .inr (.inl (l1))), (3, .inl (l3)), (4, .inl (l4)), (5, .inl (l5)), (6, .inl (l6))] [] h (some (.inl res.1)) res.2) (l0 : Int) (l1 : Int) (l3 : Int) (l4 : Int) (l5 : Int) (l6 : Int) (h : JM) (res : (Int × JM)) (H : F1_analyse_15b k15 l0 l1 l3 l4 l5 l6 h = some res) : Ev j_W1 2 0 0 T1_analyse 15 [(0, .inr (.inr (some (1, l0)))), (1, .inr (.inl (l1))), (3, .inl (l3)), (4, .inl (l4)), (5, .inl (l5)), (6, .inl (l6))] [] h (some (.inl res.1)) res.2 := by
  unfold F1_analyse_15b at H
  refine ev_iload (M := T1_analyse) (pc := 15) 5 dX1_analyse_15 (k := ?_)
  refine ev_aload_n (M := T1_analyse) (pc := 17) 0 dX1_analyse_17 (k := ?_)
  refine ev_getI (M := T1_analyse) (pc := 18) (x := h.1 1 l0 4) fl_X1_51 dX1_analyse_18 (K := ?_)
  refine ev_icmpge (M := T1_analyse) (pc := 21) 90 dX1_analyse_21 (kt := fun hc => ?_) (kf := fun hc => ?_)
  · replace H := if_pe hc H
    refine ev_iload_n (M := T1_analyse) (pc := 90) 2 dX1_analyse_90 (k := ?_)
    refine ev_bipush (M := T1_analyse) (pc := 91) dX1_analyse_91 (k := ?_)
    refine ev_icmpeq (M := T1_analyse) (pc := 93) 110 dX1_analyse_93 (kt := fun hc => ?_) (kf := fun hc => ?_)
    · replace H := if_pe hc H
      refine ev_lv [] [] (k := ?_)
      exact E1_analyse_110 h _ H
    · replace H := if_ne hc H
      refine ev_aload_n (M := T1_analyse) (pc := 96) 0 dX1_analyse_96 (k := ?_)
      refine ev_getR (M := T1_analyse) (pc := 97) (t := 22) (x := some (22, l0)) fl_X1_19 dX1_analyse_97 (hx := ry_1_3 _ _) (K := ?_)
      refine ev_iload_n (M := T1_analyse) (pc := 100) 2 dX1_analyse_100 (k := ?_)
      obtain ⟨⟨hi0, hi1⟩, H1⟩ := g_e H
      clear H
      refine ev_aaload (M := T1_analyse) (pc := 101) (k := 22) 6 (x := Option.map (Prod.mk 6) (h.2.2 22 l0 l3)) hi0 hi1 dX1_analyse_101 (hc := ac_22) (hlen := ln_22 _ _) (hx := rz_22 _ _ _) (K := ?_)
      obtain ⟨a2, ea2, H2⟩ := bd_e H1
      clear H1
      rw [ea2]
      refine ev_getI (M := T1_analyse) (pc := 102) (x := h.1 6 a2 1) fl_X1_66 dX1_analyse_102 (K := ?_)
      refine ev_iload (M := T1_analyse) (pc := 105) 4 dX1_analyse_105 (k := ?_)
      refine ev_icmpge (M := T1_analyse) (pc := 107) 113 dX1_analyse_107 (kt := fun hc => ?_) (kf := fun hc => ?_)
      · replace H2 := if_pe hc H2
        refine ev_aload_n (M := T1_analyse) (pc := 113) 0 dX1_analyse_113 (k := ?_)
        refine ev_getR (M := T1_analyse) (pc := 114) (t := 22) (x := some (22, l0)) fl_X1_19 dX1_analyse_114 (hx := ry_1_3 _ _) (K := ?_)
        refine ev_iload_n (M := T1_analyse) (pc := 117) 2 dX1_analyse_117 (k := ?_)
        obtain ⟨⟨hi0, hi1⟩, H3⟩ := g_e H2
        clear H2
        refine ev_aaload (M := T1_analyse) (pc := 118) (k := 22) 6 (x := Option.map (Prod.mk 6) (h.2.2 22 l0 l3)) hi0 hi1 dX1_analyse_118 (hc := ac_22) (hlen := ln_22 _ _) (hx := rz_22 _ _ _) (K := ?_)
        obtain ⟨a3, ea3, H4⟩ := bd_e H3
        clear H3
        rw [ea3]
        refine ev_getI (M := T1_analyse) (pc := 119) (x := h.1 6 a3 1) fl_X1_66 dX1_analyse_119 (K := ?_)
        refine ev_iload (M := T1_analyse) (pc := 122) 4 dX1_analyse_122 (k := ?_)
        refine ev_icmple (M := T1_analyse) (pc := 124) 131 dX1_analyse_124 (kt := fun hc => ?_) (kf := fun hc => ?_)
        · replace H4 := if_pe hc H4
          refine ev_iload_n (M := T1_analyse) (pc := 131) 2 dX1_analyse_131 (k := ?_)
          cases H4
          exact ev_ireturn (M := T1_analyse) (pc := 132) dX1_analyse_132
        · replace H4 := if_ne hc H4
          refine ev_iconst (M := T1_analyse) (pc := 127) dX1_analyse_127 (k := ?_)
          refine ev_goto (M := T1_analyse) (pc := 128) 132 dX1_analyse_128 (k := ?_)
          cases H4
          exact ev_ireturn (M := T1_analyse) (pc := 132) dX1_analyse_132
      · replace H2 := if_ne hc H2
        refine ev_lv [] [] (k := ?_)
        exact E1_analyse_110 h _ H2
  · replace H := if_ne hc H
    refine ev_aload_n (M := T1_analyse) (pc := 24) 0 dX1_analyse_24 (k := ?_)
    refine ev_getR (M := T1_analyse) (pc := 25) (t := 22) (x := some (22, l0)) fl_X1_19 dX1_analyse_25 (hx := ry_1_3 _ _) (K := ?_)
    refine ev_iload (M := T1_analyse) (pc := 28) 5 dX1_analyse_28 (k := ?_)
    obtain ⟨⟨hi0, hi1⟩, H1⟩ := g_e H
    clear H
    refine ev_aaload (M := T1_analyse) (pc := 30) (k := 22) 6 (x := Option.map (Prod.mk 6) (h.2.2 22 l0 l6)) hi0 hi1 dX1_analyse_30 (hc := ac_22) (hlen := ln_22 _ _) (hx := rz_22 _ _ _) (K := ?_)
    obtain ⟨a4, ea4, H2⟩ := bd_e H1
    clear H1
    rw [ea4]
    refine ev_getL (M := T1_analyse) (pc := 31) (x := h.2.1 6 a4 0) fl_X1_54 dX1_analyse_31 (K := ?_)
    obtain ⟨x5, ex5, H3⟩ := lt_e H2
    clear H2
    refine ev_topL ex5 ?_
    refine ev_lstore (M := T1_analyse) (pc := 34) [(7, .inr (.inl (x5))), (0, .inr (.inr (some (1, l0)))), (1, .inr (.inl (l1))), (3, .inl (l3)), (4, .inl (l4)), (5, .inl (l5)), (6, .inl (l6))] dX1_analyse_34 (k := ?_)
    refine ev_lload (M := T1_analyse) (pc := 36) 0 dX1_analyse_36 (k := ?_)
    obtain ⟨q6, hq, H4⟩ := bd_e H3
    clear H3
    refine ev_callSN (M := T1_analyse) (pc := 38) (mc := 0) (ms := 0) (st := []) (C11_countOf hq) md_X11_countOf ss_X11_countOf ml_X1_58 dX1_analyse_38 _ (by decide) (K := ?_)
    refine ev_istore (M := T1_analyse) (pc := 41) [(9, .inl (q6.1)), (7, .inr (.inl (x5))), (0, .inr (.inr (some (1, l0)))), (1, .inr (.inl (l1))), (3, .inl (l3)), (4, .inl (l4)), (5, .inl (l5)), (6, .inl (l6))] dX1_analyse_41 (k := ?_)
    refine ev_iload (M := T1_analyse) (pc := 43) 0 dX1_analyse_43 (k := ?_)
    refine ev_iload (M := T1_analyse) (pc := 45) 6 dX1_analyse_45 (k := ?_)
    refine ev_icmple (M := T1_analyse) (pc := 47) 61 dX1_analyse_47 (kt := fun hc => ?_) (kf := fun hc => ?_)
    · replace H4 := if_pe hc H4
      refine ev_lv [2, 3, 4, 5, 6, 7, 1, 0] [(0, .inr (.inr (some (1, l0)))), (1, .inr (.inl (l1))), (3, .inl (l3)), (4, .inl (l4)), (5, .inl (l5)), (6, .inl (l6)), (7, .inr (.inl (x5))), (9, .inl (q6.1))] (k := ?_)
      exact E1_analyse_61 k15 hk15 l0 l1 l3 l4 l5 l6 x5 q6.1 q6.2 _ H4
    · replace H4 := if_ne hc H4
      refine ev_lload (M := T1_analyse) (pc := 50) 1 dX1_analyse_50 (k := ?_)
      refine ev_lload_n (M := T1_analyse) (pc := 52) 3 dX1_analyse_52 (k := ?_)
      obtain ⟨q7, hq, H5⟩ := bd_e H4
      clear H4
      refine ev_callSN (M := T1_analyse) (pc := 53) (mc := 0) (ms := 0) (st := []) (C11_beginsWith hq) md_X11_beginsWith ss_X11_beginsWith ml_X1_62 dX1_analyse_53 _ (by decide) (K := ?_)
      refine ev_ifeq (M := T1_analyse) (pc := 56) 61 dX1_analyse_56 (kt := fun hc => ?_) (kf := fun hc => ?_)
      · replace H5 := if_pe hc H5
        refine ev_lv [2, 3, 4, 5, 6, 7, 1, 0] [(0, .inr (.inr (some (1, l0)))), (1, .inr (.inl (l1))), (3, .inl (l3)), (4, .inl (l4)), (5, .inl (l5)), (6, .inl (l6)), (7, .inr (.inl (x5))), (9, .inl (q6.1))] (k := ?_)
        exact E1_analyse_61 k15 hk15 l0 l1 l3 l4 l5 l6 x5 q6.1 q7.2 _ H5
      · replace H5 := if_ne hc H5
        refine ev_iconst (M := T1_analyse) (pc := 59) dX1_analyse_59 (k := ?_)
        cases H5
        exact ev_ireturn (M := T1_analyse) (pc := 60) dX1_analyse_60
theorem E1_analyse_15 (n : Nat) : ∀ (l0 : Int) (l1 : Int) (l3 : Int) (l4 : Int) (l5 : Int) (l6 : Int) (h : JM) (res : (Int × JM)), F1_analyse_15 n l0 l1 l3 l4 l5 l6 h = some res → Ev j_W1 2 0 0 T1_analyse 15 [(0, .inr (.inr (some (1, l0)))), (1, .inr (.inl (l1))), (3, .inl (l3)), (4, .inl (l4)), (5, .inl (l5)), (6, .inl (l6))] [] h (some (.inl res.1)) res.2 := by
  induction n with
  | zero =>
    intro l0 l1 l3 l4 l5 l6 h res H
    cases H
  | succ n ih =>
    intro l0 l1 l3 l4 l5 l6 h res H
    exact E1_analyse_15b (F1_analyse_15 n) ih l0 l1 l3 l4 l5 l6 h res H
set_option maxRecDepth 100000 in
set_option maxHeartbeats 4000000 in
theorem C1_analyse {l0 : Int} {l1 : Int} {h : JM} {res : (Int × JM)} (H : F1_analyse l0 l1 h = some res) : Cn j_W1 2 0 0 yX1_analyse cX1_analyse 10 (some .int) [.inr (.inr (some (1, l0))), .inr (.inl (l1))] h (some (.inl res.1)) res.2 := by
  refine Cn.by (own := RX1) (b := false) [(0, .inr (.inr (some (1, l0)))), (1, .inr (.inl (l1)))] rfl (fun z => by cases z) (by decide +kernel) (K := ?_)
  unfold F1_analyse at H
  refine ev_bipush (M := T1_analyse) (pc := 0) dX1_analyse_0 (k := ?_)
  refine ev_istore_n (M := T1_analyse) (pc := 2) [(3, .inl ((-2))), (0, .inr (.inr (some (1, l0)))), (1, .inr (.inl (l1)))] dX1_analyse_2 (k := ?_)
  refine ev_iconst (M := T1_analyse) (pc := 3) dX1_analyse_3 (k := ?_)
  refine ev_istore (M := T1_analyse) (pc := 4) [(4, .inl (0)), (3, .inl ((-2))), (0, .inr (.inr (some (1, l0)))), (1, .inr (.inl (l1)))] dX1_analyse_4 (k := ?_)
  refine ev_lload_n (M := T1_analyse) (pc := 6) 3 dX1_analyse_6 (k := ?_)
  obtain ⟨q8, hq, H1⟩ := bd_e H
  clear H
  refine ev_callSN (M := T1_analyse) (pc := 7) (mc := 0) (ms := 0) (st := []) (C11_countOf hq) md_X11_countOf ss_X11_countOf ml_X1_58 dX1_analyse_7 _ (by decide) (K := ?_)
  refine ev_istore (M := T1_analyse) (pc := 10) [(5, .inl (q8.1)), (4, .inl (0)), (3, .inl ((-2))), (0, .inr (.inr (some (1, l0)))), (1, .inr (.inl (l1)))] dX1_analyse_10 (k := ?_)
  refine ev_iconst (M := T1_analyse) (pc := 12) dX1_analyse_12 (k := ?_)
  refine ev_istore (M := T1_analyse) (pc := 13) [(6, .inl (0)), (5, .inl (q8.1)), (4, .inl (0)), (3, .inl ((-2))), (0, .inr (.inr (some (1, l0)))), (1, .inr (.inl (l1)))] dX1_analyse_13 (k := ?_)
  refine ev_lv [4, 5, 3, 2, 1, 0] [(0, .inr (.inr (some (1, l0)))), (1, .inr (.inl (l1))), (3, .inl ((-2))), (4, .inl (0)), (5, .inl (q8.1)), (6, .inl (0))] (k := ?_)
  exact E1_analyse_15 j_fu l0 l1 (-2) 0 q8.1 0 q8.2 _ H1
-- X1_findIdle
abbrev T1_findIdle : JT := (RX1, cX1_findIdle, 5, some (.object "TelephoneTown$Trunk"), false)
set_option maxRecDepth 100000 in
set_option maxHeartbeats 4000000 in
theorem E1_findIdle_53 (k7 : Int → Int → Int → Option Int → Int → JM → Option (Option Int × JM)) (hk7 : ∀ (l0 : Int) (l1 : Int) (l2 : Int) (l3 : Option Int) (l4 : Int) (h : JM) (res : (Option Int × JM)), k7 l0 l1 l2 l3 l4 h = some res → Ev j_W1 1 0 0 T1_findIdle 7 [(0, .inr (.inr (some (1, l0)))), (1, .inl (l1)), (2, .inl (l2)), (3, .inr (.inr (Option.map (Prod.mk 8) (l3)))), (4, .inl (l4))] [] h (some (.inr (.inr (Option.map (Prod.mk 8) res.1)))) res.2) (l0 : Int) (l1 : Int) (l2 : Int) (l3 : Option Int) (l4 : Int) (h : JM) (res : (Option Int × JM)) (H : F1_findIdle_53 k7 l0 l1 l2 l3 l4 h = some res) : Ev j_W1 1 0 0 T1_findIdle 53 [(0, .inr (.inr (some (1, l0)))), (1, .inl (l1)), (2, .inl (l2)), (3, .inr (.inr (Option.map (Prod.mk 8) (l3)))), (4, .inl (l4))] [] h (some (.inr (.inr (Option.map (Prod.mk 8) res.1)))) res.2 := by
  unfold F1_findIdle_53 at H
  refine ev_iinc (M := T1_findIdle) (pc := 53) 4 [(4, .inl (w32 (l4 + 1))), (0, .inr (.inr (some (1, l0)))), (1, .inl (l1)), (2, .inl (l2)), (3, .inr (.inr (Option.map (Prod.mk 8) (l3))))] dX1_findIdle_53 (k := ?_)
  refine ev_goto (M := T1_findIdle) (pc := 56) 7 dX1_findIdle_56 (k := ?_)
  refine ev_lv [1, 2, 3, 4, 0] [(0, .inr (.inr (some (1, l0)))), (1, .inl (l1)), (2, .inl (l2)), (3, .inr (.inr (Option.map (Prod.mk 8) (l3)))), (4, .inl (w32 (l4 + 1)))] (k := ?_)
  exact hk7 l0 l1 l2 l3 (w32 (l4 + 1)) h _ H
set_option maxRecDepth 100000 in
set_option maxHeartbeats 4000000 in
theorem E1_findIdle_45 (k7 : Int → Int → Int → Option Int → Int → JM → Option (Option Int × JM)) (hk7 : ∀ (l0 : Int) (l1 : Int) (l2 : Int) (l3 : Option Int) (l4 : Int) (h : JM) (res : (Option Int × JM)), k7 l0 l1 l2 l3 l4 h = some res → Ev j_W1 1 0 0 T1_findIdle 7 [(0, .inr (.inr (some (1, l0)))), (1, .inl (l1)), (2, .inl (l2)), (3, .inr (.inr (Option.map (Prod.mk 8) (l3)))), (4, .inl (l4))] [] h (some (.inr (.inr (Option.map (Prod.mk 8) res.1)))) res.2) (l0 : Int) (l1 : Int) (l2 : Int) (l4 : Int) (h : JM) (res : (Option Int × JM)) (H : F1_findIdle_45 k7 l0 l1 l2 l4 h = some res) : Ev j_W1 1 0 0 T1_findIdle 45 [(0, .inr (.inr (some (1, l0)))), (1, .inl (l1)), (2, .inl (l2)), (4, .inl (l4))] [] h (some (.inr (.inr (Option.map (Prod.mk 8) res.1)))) res.2 := by
  unfold F1_findIdle_45 at H
  refine ev_aload_n (M := T1_findIdle) (pc := 45) 0 dX1_findIdle_45 (k := ?_)
  refine ev_getR (M := T1_findIdle) (pc := 46) (t := 20) (x := some (20, l0)) fl_X1_43 dX1_findIdle_46 (hx := ry_1_1 _ _) (K := ?_)
  refine ev_iload (M := T1_findIdle) (pc := 49) 3 dX1_findIdle_49 (k := ?_)
  obtain ⟨⟨hi0, hi1⟩, H1⟩ := g_e H
  clear H
  refine ev_aaload (M := T1_findIdle) (pc := 51) (k := 20) 8 (x := some (8, (16 * l0 + l4))) hi0 hi1 dX1_findIdle_51 (hc := ac_20) (hlen := ln_20 _ _) (hx := rz_20 _ _ _) (K := ?_)
  refine ev_astore_n (M := T1_findIdle) (pc := 52) [(3, .inr (.inr (some (8, (16 * l0 + l4))))), (0, .inr (.inr (some (1, l0)))), (1, .inl (l1)), (2, .inl (l2)), (4, .inl (l4))] dX1_findIdle_52 (k := ?_)
  refine ev_lv [1, 2, 3, 0, 4] [(0, .inr (.inr (some (1, l0)))), (1, .inl (l1)), (2, .inl (l2)), (3, .inr (.inr (some (8, (16 * l0 + l4))))), (4, .inl (l4))] (k := ?_)
  exact E1_findIdle_53 k7 hk7 l0 l1 l2 (some (16 * l0 + l4)) l4 h _ H1
set_option maxRecDepth 100000 in
set_option maxHeartbeats 4000000 in
theorem E1_findIdle_7b (k7 : Int → Int → Int → Option Int → Int → JM → Option (Option Int × JM)) (hk7 : ∀ (l0 : Int) (l1 : Int) (l2 : Int) (l3 : Option Int) (l4 : Int) (h : JM) (res : (Option Int × JM)), k7 l0 l1 l2 l3 l4 h = some res → Ev j_W1 1 0 0 T1_findIdle 7 [(0, .inr (.inr (some (1, l0)))), (1, .inl (l1)), (2, .inl (l2)), (3, .inr (.inr (Option.map (Prod.mk 8) (l3)))), (4, .inl (l4))] [] h (some (.inr (.inr (Option.map (Prod.mk 8) res.1)))) res.2) (l0 : Int) (l1 : Int) (l2 : Int) (l3 : Option Int) (l4 : Int) (h : JM) (res : (Option Int × JM)) (H : F1_findIdle_7b k7 l0 l1 l2 l3 l4 h = some res) : Ev j_W1 1 0 0 T1_findIdle 7 [(0, .inr (.inr (some (1, l0)))), (1, .inl (l1)), (2, .inl (l2)), (3, .inr (.inr (Option.map (Prod.mk 8) (l3)))), (4, .inl (l4))] [] h (some (.inr (.inr (Option.map (Prod.mk 8) res.1)))) res.2 := by
  unfold F1_findIdle_7b at H
  refine ev_iload (M := T1_findIdle) (pc := 7) 4 dX1_findIdle_7 (k := ?_)
  refine ev_aload_n (M := T1_findIdle) (pc := 9) 0 dX1_findIdle_9 (k := ?_)
  refine ev_getR (M := T1_findIdle) (pc := 10) (t := 20) (x := some (20, l0)) fl_X1_43 dX1_findIdle_10 (hx := ry_1_1 _ _) (K := ?_)
  obtain ⟨⟨hi0, hi1⟩, H1⟩ := g_e H
  clear H
  refine ev_alen (M := T1_findIdle) (pc := 13) (k := 20) (c := 18) (t0 := 9) (len := h.1 1020 l0 1) dX1_findIdle_13 (fun _ => rfl) hi0 hi1 (hc := ac_20) (hlen := ln_20 _ _) (K := ?_)
  refine ev_icmpge (M := T1_findIdle) (pc := 14) 59 dX1_findIdle_14 (kt := fun hc => ?_) (kf := fun hc => ?_)
  · replace H1 := if_pe hc H1
    refine ev_iload_n (M := T1_findIdle) (pc := 59) 2 dX1_findIdle_59 (k := ?_)
    refine ev_iload_n (M := T1_findIdle) (pc := 60) 1 dX1_findIdle_60 (k := ?_)
    refine ev_icmple (M := T1_findIdle) (pc := 61) 68 dX1_findIdle_61 (kt := fun hc => ?_) (kf := fun hc => ?_)
    · replace H1 := if_pe hc H1
      refine ev_null (M := T1_findIdle) (pc := 68) dX1_findIdle_68 (k := ?_)
      cases H1
      exact ev_areturn (M := T1_findIdle) (pc := 69) dX1_findIdle_69
    · replace H1 := if_ne hc H1
      refine ev_aload_n (M := T1_findIdle) (pc := 64) 3 dX1_findIdle_64 (k := ?_)
      refine ev_goto (M := T1_findIdle) (pc := 65) 69 dX1_findIdle_65 (k := ?_)
      cases H1
      exact ev_areturn (M := T1_findIdle) (pc := 69) dX1_findIdle_69
  · replace H1 := if_ne hc H1
    refine ev_aload_n (M := T1_findIdle) (pc := 17) 0 dX1_findIdle_17 (k := ?_)
    refine ev_getR (M := T1_findIdle) (pc := 18) (t := 20) (x := some (20, l0)) fl_X1_43 dX1_findIdle_18 (hx := ry_1_1 _ _) (K := ?_)
    refine ev_iload (M := T1_findIdle) (pc := 21) 4 dX1_findIdle_21 (k := ?_)
    obtain ⟨⟨hi0, hi1⟩, H2⟩ := g_e H1
    clear H1
    refine ev_aaload (M := T1_findIdle) (pc := 23) (k := 20) 8 (x := some (8, (16 * l0 + l4))) hi0 hi1 dX1_findIdle_23 (hc := ac_20) (hlen := ln_20 _ _) (hx := rz_20 _ _ _) (K := ?_)
    refine ev_getI (M := T1_findIdle) (pc := 24) (x := h.1 8 (16 * l0 + l4) 2) fl_X1_69 dX1_findIdle_24 (K := ?_)
    refine ev_ifne (M := T1_findIdle) (pc := 27) 53 dX1_findIdle_27 (kt := fun hc => ?_) (kf := fun hc => ?_)
    · replace H2 := if_ne hc H2
      exact E1_findIdle_53 k7 hk7 l0 l1 l2 l3 l4 h _ H2
    · replace H2 := if_pe hc H2
      refine ev_iinc (M := T1_findIdle) (pc := 30) 2 [(2, .inl (w32 (l2 + 1))), (0, .inr (.inr (some (1, l0)))), (1, .inl (l1)), (3, .inr (.inr (Option.map (Prod.mk 8) (l3)))), (4, .inl (l4))] dX1_findIdle_30 (k := ?_)
      refine ev_aload_n (M := T1_findIdle) (pc := 33) 3 dX1_findIdle_33 (k := ?_)
      refine ev_nullK (M := T1_findIdle) (pc := 34) l3 45 dX1_findIdle_34 (kt := fun hc => ?_) (kf := fun hc => ?_)
      · replace H2 := if_pe hc H2
        refine ev_lv [1, 2, 0, 4] [(0, .inr (.inr (some (1, l0)))), (1, .inl (l1)), (2, .inl (w32 (l2 + 1))), (4, .inl (l4))] (k := ?_)
        exact E1_findIdle_45 k7 hk7 l0 l1 (w32 (l2 + 1)) l4 h _ H2
      · replace H2 := if_ne hc H2
        refine ev_aload_n (M := T1_findIdle) (pc := 37) 1 dX1_findIdle_37 (k := ?_)
        refine ev_getI (M := T1_findIdle) (pc := 38) (x := h.1 1 l0 0) fl_X1_37 dX1_findIdle_38 (K := ?_)
        refine ev_iconst (M := T1_findIdle) (pc := 41) dX1_findIdle_41 (k := ?_)
        refine ev_icmpne (M := T1_findIdle) (pc := 42) 53 dX1_findIdle_42 (kt := fun hc => ?_) (kf := fun hc => ?_)
        · replace H2 := if_ne hc H2
          refine ev_lv [1, 2, 0, 3, 4] [(0, .inr (.inr (some (1, l0)))), (1, .inl (l1)), (2, .inl (w32 (l2 + 1))), (3, .inr (.inr (Option.map (Prod.mk 8) (l3)))), (4, .inl (l4))] (k := ?_)
          exact E1_findIdle_53 k7 hk7 l0 l1 (w32 (l2 + 1)) l3 l4 h _ H2
        · replace H2 := if_pe hc H2
          refine ev_lv [1, 2, 0, 4] [(0, .inr (.inr (some (1, l0)))), (1, .inl (l1)), (2, .inl (w32 (l2 + 1))), (4, .inl (l4))] (k := ?_)
          exact E1_findIdle_45 k7 hk7 l0 l1 (w32 (l2 + 1)) l4 h _ H2
theorem E1_findIdle_7 (n : Nat) : ∀ (l0 : Int) (l1 : Int) (l2 : Int) (l3 : Option Int) (l4 : Int) (h : JM) (res : (Option Int × JM)), F1_findIdle_7 n l0 l1 l2 l3 l4 h = some res → Ev j_W1 1 0 0 T1_findIdle 7 [(0, .inr (.inr (some (1, l0)))), (1, .inl (l1)), (2, .inl (l2)), (3, .inr (.inr (Option.map (Prod.mk 8) (l3)))), (4, .inl (l4))] [] h (some (.inr (.inr (Option.map (Prod.mk 8) res.1)))) res.2 := by
  induction n with
  | zero =>
    intro l0 l1 l2 l3 l4 h res H
    cases H
  | succ n ih =>
    intro l0 l1 l2 l3 l4 h res H
    exact E1_findIdle_7b (F1_findIdle_7 n) ih l0 l1 l2 l3 l4 h res H
set_option maxRecDepth 100000 in
set_option maxHeartbeats 4000000 in
theorem C1_findIdle {l0 : Int} {l1 : Int} {h : JM} {res : (Option Int × JM)} (H : F1_findIdle l0 l1 h = some res) : Cn j_W1 1 0 0 yX1_findIdle cX1_findIdle 5 (some (.object "TelephoneTown$Trunk")) [.inr (.inr (some (1, l0))), .inl (l1)] h (some (.inr (.inr (Option.map (Prod.mk 8) res.1)))) res.2 := by
  refine Cn.by (own := RX1) (b := false) [(0, .inr (.inr (some (1, l0)))), (1, .inl (l1))] rfl (fun z => by cases z) (by decide +kernel) (K := ?_)
  unfold F1_findIdle at H
  refine ev_iconst (M := T1_findIdle) (pc := 0) dX1_findIdle_0 (k := ?_)
  refine ev_istore_n (M := T1_findIdle) (pc := 1) [(2, .inl (0)), (0, .inr (.inr (some (1, l0)))), (1, .inl (l1))] dX1_findIdle_1 (k := ?_)
  refine ev_null (M := T1_findIdle) (pc := 2) dX1_findIdle_2 (k := ?_)
  refine ev_astore_n (M := T1_findIdle) (pc := 3) [(3, .inr (.inr none)), (2, .inl (0)), (0, .inr (.inr (some (1, l0)))), (1, .inl (l1))] dX1_findIdle_3 (k := ?_)
  refine ev_iconst (M := T1_findIdle) (pc := 4) dX1_findIdle_4 (k := ?_)
  refine ev_istore (M := T1_findIdle) (pc := 5) [(4, .inl (0)), (3, .inr (.inr none)), (2, .inl (0)), (0, .inr (.inr (some (1, l0)))), (1, .inl (l1))] dX1_findIdle_5 (k := ?_)
  refine ev_lv [3, 4, 2, 1, 0] [(0, .inr (.inr (some (1, l0)))), (1, .inl (l1)), (2, .inl (0)), (3, .inr (.inr none)), (4, .inl (0))] (k := ?_)
  exact E1_findIdle_7 j_fu l0 l1 0 none 0 h _ H
-- X1_hasPrefix
abbrev T1_hasPrefix : JT := (RX1, cX1_hasPrefix, 4, some .boolean, false)
set_option maxRecDepth 100000 in
set_option maxHeartbeats 4000000 in
theorem E1_hasPrefix_2b (k2 : Int → Int → Int → JM → Option (Int × JM)) (hk2 : ∀ (l0 : Int) (l1 : Int) (l3 : Int) (h : JM) (res : (Int × JM)), k2 l0 l1 l3 h = some res → Ev j_W1 1 0 0 T1_hasPrefix 2 [(0, .inr (.inr (some (1, l0)))), (1, .inr (.inl (l1))), (3, .inl (l3))] [] h (some (.inl res.1)) res.2) (l0 : Int) (l1 : Int) (l3 : Int) (h : JM) (res : (Int × JM)) (H : F1_hasPrefix_2b k2 l0 l1 l3 h = some res) : Ev j_W1 1 0 0 T1_hasPrefix 2 [(0, .inr (.inr (some (1, l0)))), (1, .inr (.inl (l1))), (3, .inl (l3))] [] h (some (.inl res.1)) res.2 := by
  unfold F1_hasPrefix_2b at H
  refine ev_iload_n (M := T1_hasPrefix) (pc := 2) 2 dX1_hasPrefix_2 (k := ?_)
  refine ev_aload_n (M := T1_hasPrefix) (pc := 3) 0 dX1_hasPrefix_3 (k := ?_)
  refine ev_getI (M := T1_hasPrefix) (pc := 4) (x := h.1 1 l0 4) fl_X1_51 dX1_hasPrefix_4 (K := ?_)
  refine ev_icmpge (M := T1_hasPrefix) (pc := 7) 32 dX1_hasPrefix_7 (kt := fun hc => ?_) (kf := fun hc => ?_)
  · replace H := if_pe hc H
    refine ev_iconst (M := T1_hasPrefix) (pc := 32) dX1_hasPrefix_32 (k := ?_)
    cases H
    exact ev_zreturn (M := T1_hasPrefix) (pc := 33) (Or.inl rfl) dX1_hasPrefix_33
  · replace H := if_ne hc H
    refine ev_aload_n (M := T1_hasPrefix) (pc := 10) 0 dX1_hasPrefix_10 (k := ?_)
    refine ev_getR (M := T1_hasPrefix) (pc := 11) (t := 22) (x := some (22, l0)) fl_X1_19 dX1_hasPrefix_11 (hx := ry_1_3 _ _) (K := ?_)
    refine ev_iload_n (M := T1_hasPrefix) (pc := 14) 2 dX1_hasPrefix_14 (k := ?_)
    obtain ⟨⟨hi0, hi1⟩, H1⟩ := g_e H
    clear H
    refine ev_aaload (M := T1_hasPrefix) (pc := 15) (k := 22) 6 (x := Option.map (Prod.mk 6) (h.2.2 22 l0 l3)) hi0 hi1 dX1_hasPrefix_15 (hc := ac_22) (hlen := ln_22 _ _) (hx := rz_22 _ _ _) (K := ?_)
    obtain ⟨a1, ea1, H2⟩ := bd_e H1
    clear H1
    rw [ea1]
    refine ev_getL (M := T1_hasPrefix) (pc := 16) (x := h.2.1 6 a1 0) fl_X1_54 dX1_hasPrefix_16 (K := ?_)
    refine ev_lload_n (M := T1_hasPrefix) (pc := 19) 1 dX1_hasPrefix_19 (k := ?_)
    refine ev_lcmp (M := T1_hasPrefix) (pc := 20) dX1_hasPrefix_20 (k := ?_)
    refine ev_ifne (M := T1_hasPrefix) (pc := 21) 26 dX1_hasPrefix_21 (kt := fun hc => ?_) (kf := fun hc => ?_)
    · replace H2 := if_ne hc H2
      refine ev_iinc (M := T1_hasPrefix) (pc := 26) 2 [(3, .inl (w32 (l3 + 1))), (0, .inr (.inr (some (1, l0)))), (1, .inr (.inl (l1)))] dX1_hasPrefix_26 (k := ?_)
      refine ev_goto (M := T1_hasPrefix) (pc := 29) 2 dX1_hasPrefix_29 (k := ?_)
      refine ev_lv [1, 2, 0] [(0, .inr (.inr (some (1, l0)))), (1, .inr (.inl (l1))), (3, .inl (w32 (l3 + 1)))] (k := ?_)
      exact hk2 l0 l1 (w32 (l3 + 1)) h _ H2
    · replace H2 := if_pe hc H2
      refine ev_iconst (M := T1_hasPrefix) (pc := 24) dX1_hasPrefix_24 (k := ?_)
      cases H2
      exact ev_zreturn (M := T1_hasPrefix) (pc := 25) (Or.inr rfl) dX1_hasPrefix_25
theorem E1_hasPrefix_2 (n : Nat) : ∀ (l0 : Int) (l1 : Int) (l3 : Int) (h : JM) (res : (Int × JM)), F1_hasPrefix_2 n l0 l1 l3 h = some res → Ev j_W1 1 0 0 T1_hasPrefix 2 [(0, .inr (.inr (some (1, l0)))), (1, .inr (.inl (l1))), (3, .inl (l3))] [] h (some (.inl res.1)) res.2 := by
  induction n with
  | zero =>
    intro l0 l1 l3 h res H
    cases H
  | succ n ih =>
    intro l0 l1 l3 h res H
    exact E1_hasPrefix_2b (F1_hasPrefix_2 n) ih l0 l1 l3 h res H
set_option maxRecDepth 100000 in
set_option maxHeartbeats 4000000 in
theorem C1_hasPrefix {l0 : Int} {l1 : Int} {h : JM} {res : (Int × JM)} (H : F1_hasPrefix l0 l1 h = some res) : Cn j_W1 1 0 0 yX1_hasPrefix cX1_hasPrefix 4 (some .boolean) [.inr (.inr (some (1, l0))), .inr (.inl (l1))] h (some (.inl res.1)) res.2 := by
  refine Cn.by (own := RX1) (b := false) [(0, .inr (.inr (some (1, l0)))), (1, .inr (.inl (l1)))] rfl (fun z => by cases z) (by decide +kernel) (K := ?_)
  unfold F1_hasPrefix at H
  refine ev_iconst (M := T1_hasPrefix) (pc := 0) dX1_hasPrefix_0 (k := ?_)
  refine ev_istore_n (M := T1_hasPrefix) (pc := 1) [(3, .inl (0)), (0, .inr (.inr (some (1, l0)))), (1, .inr (.inl (l1)))] dX1_hasPrefix_1 (k := ?_)
  refine ev_lv [1, 2, 0] [(0, .inr (.inr (some (1, l0)))), (1, .inr (.inl (l1))), (3, .inl (0))] (k := ?_)
  exact E1_hasPrefix_2 j_fu l0 l1 0 h _ H
-- X1_hush
abbrev T1_hush : JT := (RX1, cX1_hush, 2, none, false)
set_option maxRecDepth 100000 in
set_option maxHeartbeats 4000000 in
theorem E1_hush_49b (k49 : Int → Int → JM → Option JM) (hk49 : ∀ (l0 : Int) (l1 : Int) (h : JM) (res : JM), k49 l0 l1 h = some res → Ev j_W1 1 0 0 T1_hush 49 [(0, .inr (.inr (some (1, l0)))), (1, .inl (l1))] [] h none res) (l0 : Int) (l1 : Int) (h : JM) (res : JM) (H : F1_hush_49b k49 l0 l1 h = some res) : Ev j_W1 1 0 0 T1_hush 49 [(0, .inr (.inr (some (1, l0)))), (1, .inl (l1))] [] h none res := by
  unfold F1_hush_49b at H
  refine ev_iload_n (M := T1_hush) (pc := 49) 1 dX1_hush_49 (k := ?_)
  refine ev_iconst (M := T1_hush) (pc := 50) dX1_hush_50 (k := ?_)
  refine ev_icmpge (M := T1_hush) (pc := 51) 67 dX1_hush_51 (kt := fun hc => ?_) (kf := fun hc => ?_)
  · replace H := if_pe hc H
    cases H
    exact ev_return (M := T1_hush) (pc := 67) dX1_hush_67
  · replace H := if_ne hc H
    refine ev_aload_n (M := T1_hush) (pc := 54) 0 dX1_hush_54 (k := ?_)
    refine ev_getR (M := T1_hush) (pc := 55) (t := 24) (x := some (24, l0)) fl_X1_27 dX1_hush_55 (hx := ry_1_6 _ _) (K := ?_)
    refine ev_iload_n (M := T1_hush) (pc := 58) 1 dX1_hush_58 (k := ?_)
    refine ev_iconst (M := T1_hush) (pc := 59) dX1_hush_59 (k := ?_)
    obtain ⟨⟨hi0, hi1⟩, H1⟩ := g_e H
    clear H
    obtain ⟨h1, eh1, H2⟩ := lt_e H1
    clear H1
    refine ev_iastore (M := T1_hush) (pc := 60) (k := 24) j_ok1 hi0 hi1 eh1 dX1_hush_60 (hc := ac_24) (hlen := ln_24 _ _) (K := ?_)
    refine ev_iinc (M := T1_hush) (pc := 61) 1 [(1, .inl (w32 (l1 + 1))), (0, .inr (.inr (some (1, l0))))] dX1_hush_61 (k := ?_)
    refine ev_goto (M := T1_hush) (pc := 64) 49 dX1_hush_64 (k := ?_)
    refine ev_lv [1, 0] [(0, .inr (.inr (some (1, l0)))), (1, .inl (w32 (l1 + 1)))] (k := ?_)
    exact hk49 l0 (w32 (l1 + 1)) h1 _ H2
theorem E1_hush_49 (n : Nat) : ∀ (l0 : Int) (l1 : Int) (h : JM) (res : JM), F1_hush_49 n l0 l1 h = some res → Ev j_W1 1 0 0 T1_hush 49 [(0, .inr (.inr (some (1, l0)))), (1, .inl (l1))] [] h none res := by
  induction n with
  | zero =>
    intro l0 l1 h res H
    cases H
  | succ n ih =>
    intro l0 l1 h res H
    exact E1_hush_49b (F1_hush_49 n) ih l0 l1 h res H
set_option maxRecDepth 100000 in
set_option maxHeartbeats 4000000 in
theorem E1_hush_2b (k2 : Int → Int → JM → Option JM) (hk2 : ∀ (l0 : Int) (l1 : Int) (h : JM) (res : JM), k2 l0 l1 h = some res → Ev j_W1 1 0 0 T1_hush 2 [(0, .inr (.inr (some (1, l0)))), (1, .inl (l1))] [] h none res) (l0 : Int) (l1 : Int) (h : JM) (res : JM) (H : F1_hush_2b k2 l0 l1 h = some res) : Ev j_W1 1 0 0 T1_hush 2 [(0, .inr (.inr (some (1, l0)))), (1, .inl (l1))] [] h none res := by
  unfold F1_hush_2b at H
  refine ev_iload_n (M := T1_hush) (pc := 2) 1 dX1_hush_2 (k := ?_)
  refine ev_aload_n (M := T1_hush) (pc := 3) 0 dX1_hush_3 (k := ?_)
  refine ev_getR (M := T1_hush) (pc := 4) (t := 20) (x := some (20, l0)) fl_X1_43 dX1_hush_4 (hx := ry_1_1 _ _) (K := ?_)
  obtain ⟨⟨hi0, hi1⟩, H1⟩ := g_e H
  clear H
  refine ev_alen (M := T1_hush) (pc := 7) (k := 20) (c := 18) (t0 := 9) (len := h.1 1020 l0 1) dX1_hush_7 (fun _ => rfl) hi0 hi1 (hc := ac_20) (hlen := ln_20 _ _) (K := ?_)
  refine ev_icmpge (M := T1_hush) (pc := 8) 47 dX1_hush_8 (kt := fun hc => ?_) (kf := fun hc => ?_)
  · replace H1 := if_pe hc H1
    refine ev_iconst (M := T1_hush) (pc := 47) dX1_hush_47 (k := ?_)
    refine ev_istore_n (M := T1_hush) (pc := 48) [(1, .inl (0)), (0, .inr (.inr (some (1, l0))))] dX1_hush_48 (k := ?_)
    refine ev_lv [1, 0] [(0, .inr (.inr (some (1, l0)))), (1, .inl (0))] (k := ?_)
    exact E1_hush_49 j_fu l0 0 h _ H1
  · replace H1 := if_ne hc H1
    refine ev_aload_n (M := T1_hush) (pc := 11) 0 dX1_hush_11 (k := ?_)
    refine ev_getR (M := T1_hush) (pc := 12) (t := 20) (x := some (20, l0)) fl_X1_43 dX1_hush_12 (hx := ry_1_1 _ _) (K := ?_)
    refine ev_iload_n (M := T1_hush) (pc := 15) 1 dX1_hush_15 (k := ?_)
    obtain ⟨⟨hi0, hi1⟩, H2⟩ := g_e H1
    clear H1
    refine ev_aaload (M := T1_hush) (pc := 16) (k := 20) 8 (x := some (8, (16 * l0 + l1))) hi0 hi1 dX1_hush_16 (hc := ac_20) (hlen := ln_20 _ _) (hx := rz_20 _ _ _) (K := ?_)
    refine ev_aload_n (M := T1_hush) (pc := 17) 0 dX1_hush_17 (k := ?_)
    refine ev_getR (M := T1_hush) (pc := 18) (t := 20) (x := some (20, l0)) fl_X1_43 dX1_hush_18 (hx := ry_1_1 _ _) (K := ?_)
    refine ev_iload_n (M := T1_hush) (pc := 21) 1 dX1_hush_21 (k := ?_)
    obtain ⟨⟨hi0, hi1⟩, H3⟩ := g_e H2
    clear H2
    refine ev_aaload (M := T1_hush) (pc := 22) (k := 20) 8 (x := some (8, (16 * l0 + l1))) hi0 hi1 dX1_hush_22 (hc := ac_20) (hlen := ln_20 _ _) (hx := rz_20 _ _ _) (K := ?_)
    refine ev_getI (M := T1_hush) (pc := 23) (x := h.1 8 (16 * l0 + l1) 4) fl_X1_72 dX1_hush_23 (K := ?_)
    obtain ⟨h2, eh2, H4⟩ := lt_e H3
    clear H3
    refine ev_putI (M := T1_hush) (pc := 26) j_ok1 fl_X1_75 eh2 dX1_hush_26 (K := ?_)
    refine ev_aload_n (M := T1_hush) (pc := 29) 0 dX1_hush_29 (k := ?_)
    refine ev_getR (M := T1_hush) (pc := 30) (t := 20) (x := some (20, l0)) fl_X1_43 dX1_hush_30 (hx := ry_1_1 _ _) (K := ?_)
    refine ev_iload_n (M := T1_hush) (pc := 33) 1 dX1_hush_33 (k := ?_)
    obtain ⟨⟨hi0, hi1⟩, H5⟩ := g_e H4
    clear H4
    refine ev_aaload (M := T1_hush) (pc := 34) (k := 20) 8 (x := some (8, (16 * l0 + l1))) hi0 hi1 dX1_hush_34 (hc := ac_20) (hlen := ln_20 _ _) (hx := rz_20 _ _ _) (K := ?_)
    refine ev_sipush (M := T1_hush) (pc := 35) dX1_hush_35 (k := ?_)
    obtain ⟨h3, eh3, H6⟩ := lt_e H5
    clear H5
    refine ev_putI (M := T1_hush) (pc := 38) j_ok1 fl_X1_72 eh3 dX1_hush_38 (K := ?_)
    refine ev_iinc (M := T1_hush) (pc := 41) 1 [(1, .inl (w32 (l1 + 1))), (0, .inr (.inr (some (1, l0))))] dX1_hush_41 (k := ?_)
    refine ev_goto (M := T1_hush) (pc := 44) 2 dX1_hush_44 (k := ?_)
    refine ev_lv [1, 0] [(0, .inr (.inr (some (1, l0)))), (1, .inl (w32 (l1 + 1)))] (k := ?_)
    exact hk2 l0 (w32 (l1 + 1)) h3 _ H6
theorem E1_hush_2 (n : Nat) : ∀ (l0 : Int) (l1 : Int) (h : JM) (res : JM), F1_hush_2 n l0 l1 h = some res → Ev j_W1 1 0 0 T1_hush 2 [(0, .inr (.inr (some (1, l0)))), (1, .inl (l1))] [] h none res := by
  induction n with
  | zero =>
    intro l0 l1 h res H
    cases H
  | succ n ih =>
    intro l0 l1 h res H
    exact E1_hush_2b (F1_hush_2 n) ih l0 l1 h res H
set_option maxRecDepth 100000 in
set_option maxHeartbeats 4000000 in
theorem C1_hush {l0 : Int} {h : JM} {res : JM} (H : F1_hush l0 h = some res) : Cn j_W1 1 0 0 yX1_hush cX1_hush 2 none [.inr (.inr (some (1, l0)))] h none res := by
  refine Cn.by (own := RX1) (b := false) [(0, .inr (.inr (some (1, l0))))] rfl (fun z => by cases z) (by decide +kernel) (K := ?_)
  unfold F1_hush at H
  refine ev_iconst (M := T1_hush) (pc := 0) dX1_hush_0 (k := ?_)
  refine ev_istore_n (M := T1_hush) (pc := 1) [(1, .inl (0)), (0, .inr (.inr (some (1, l0))))] dX1_hush_1 (k := ?_)
  refine ev_lv [1, 0] [(0, .inr (.inr (some (1, l0)))), (1, .inl (0))] (k := ?_)
  exact E1_hush_2 j_fu l0 0 h _ H
-- X2_has
abbrev T2_has : JT := (RX2, cX2_has, 3, some .boolean, false)
set_option maxRecDepth 100000 in
set_option maxHeartbeats 4000000 in
theorem E2_has_2b (k2 : Int → Option Int → Int → JM → Option (Int × JM)) (hk2 : ∀ (l0 : Int) (l1 : Option Int) (l2 : Int) (h : JM) (res : (Int × JM)), k2 l0 l1 l2 h = some res → Ev j_W1 1 0 0 T2_has 2 [(0, .inr (.inr (some (2, l0)))), (1, .inr (.inr (Option.map (Prod.mk 4) (l1)))), (2, .inl (l2))] [] h (some (.inl res.1)) res.2) (l0 : Int) (l1 : Option Int) (l2 : Int) (h : JM) (res : (Int × JM)) (H : F2_has_2b k2 l0 l1 l2 h = some res) : Ev j_W1 1 0 0 T2_has 2 [(0, .inr (.inr (some (2, l0)))), (1, .inr (.inr (Option.map (Prod.mk 4) (l1)))), (2, .inl (l2))] [] h (some (.inl res.1)) res.2 := by
  unfold F2_has_2b at H
  refine ev_iload_n (M := T2_has) (pc := 2) 2 dX2_has_2 (k := ?_)
  refine ev_aload_n (M := T2_has) (pc := 3) 0 dX2_has_3 (k := ?_)
  refine ev_getI (M := T2_has) (pc := 4) (x := h.1 2 l0 1) fl_X2_24 dX2_has_4 (K := ?_)
  refine ev_icmpge (M := T2_has) (pc := 7) 28 dX2_has_7 (kt := fun hc => ?_) (kf := fun hc => ?_)
  · replace H := if_pe hc H
    refine ev_iconst (M := T2_has) (pc := 28) dX2_has_28 (k := ?_)
    cases H
    exact ev_zreturn (M := T2_has) (pc := 29) (Or.inl rfl) dX2_has_29
  · replace H := if_ne hc H
    refine ev_aload_n (M := T2_has) (pc := 10) 0 dX2_has_10 (k := ?_)
    refine ev_getR (M := T2_has) (pc := 11) (t := 25) (x := some (25, l0)) fl_X2_11 dX2_has_11 (hx := ry_2_0 _ _) (K := ?_)
    refine ev_iload_n (M := T2_has) (pc := 14) 2 dX2_has_14 (k := ?_)
    obtain ⟨⟨hi0, hi1⟩, H1⟩ := g_e H
    clear H
    refine ev_aaload (M := T2_has) (pc := 15) (k := 25) 4 (x := Option.map (Prod.mk 4) (h.2.2 25 l0 l2)) hi0 hi1 dX2_has_15 (hc := ac_25) (hlen := ln_25 _ _) (hx := rz_25 _ _ _) (K := ?_)
    refine ev_aload_n (M := T2_has) (pc := 16) 1 dX2_has_16 (k := ?_)
    refine ev_acmpneK (M := T2_has) (pc := 17) (h.2.2 25 l0 l2) l1 22 dX2_has_17 (kt := fun hc => ?_) (kf := fun hc => ?_)
    · replace H1 := if_ne hc H1
      refine ev_iinc (M := T2_has) (pc := 22) 2 [(2, .inl (w32 (l2 + 1))), (0, .inr (.inr (some (2, l0)))), (1, .inr (.inr (Option.map (Prod.mk 4) (l1))))] dX2_has_22 (k := ?_)
      refine ev_goto (M := T2_has) (pc := 25) 2 dX2_has_25 (k := ?_)
      refine ev_lv [1, 2, 0] [(0, .inr (.inr (some (2, l0)))), (1, .inr (.inr (Option.map (Prod.mk 4) (l1)))), (2, .inl (w32 (l2 + 1)))] (k := ?_)
      exact hk2 l0 l1 (w32 (l2 + 1)) h _ H1
    · replace H1 := if_pe hc H1
      refine ev_iconst (M := T2_has) (pc := 20) dX2_has_20 (k := ?_)
      cases H1
      exact ev_zreturn (M := T2_has) (pc := 21) (Or.inr rfl) dX2_has_21
theorem E2_has_2 (n : Nat) : ∀ (l0 : Int) (l1 : Option Int) (l2 : Int) (h : JM) (res : (Int × JM)), F2_has_2 n l0 l1 l2 h = some res → Ev j_W1 1 0 0 T2_has 2 [(0, .inr (.inr (some (2, l0)))), (1, .inr (.inr (Option.map (Prod.mk 4) (l1)))), (2, .inl (l2))] [] h (some (.inl res.1)) res.2 := by
  induction n with
  | zero =>
    intro l0 l1 l2 h res H
    cases H
  | succ n ih =>
    intro l0 l1 l2 h res H
    exact E2_has_2b (F2_has_2 n) ih l0 l1 l2 h res H
set_option maxRecDepth 100000 in
set_option maxHeartbeats 4000000 in
theorem C2_has {l0 : Int} {l1 : Option Int} {h : JM} {res : (Int × JM)} (H : F2_has l0 l1 h = some res) : Cn j_W1 1 0 0 yX2_has cX2_has 3 (some .boolean) [.inr (.inr (some (2, l0))), .inr (.inr (Option.map (Prod.mk 4) (l1)))] h (some (.inl res.1)) res.2 := by
  refine Cn.by (own := RX2) (b := false) [(0, .inr (.inr (some (2, l0)))), (1, .inr (.inr (Option.map (Prod.mk 4) (l1))))] rfl (fun z => by cases z) (by decide +kernel) (K := ?_)
  unfold F2_has at H
  refine ev_iconst (M := T2_has) (pc := 0) dX2_has_0 (k := ?_)
  refine ev_istore_n (M := T2_has) (pc := 1) [(2, .inl (0)), (0, .inr (.inr (some (2, l0)))), (1, .inr (.inr (Option.map (Prod.mk 4) (l1))))] dX2_has_1 (k := ?_)
  refine ev_lv [1, 2, 0] [(0, .inr (.inr (some (2, l0)))), (1, .inr (.inr (Option.map (Prod.mk 4) (l1)))), (2, .inl (0))] (k := ?_)
  exact E2_has_2 j_fu l0 l1 0 h _ H
-- X2_letWait
abbrev T2_letWait : JT := (RX2, cX2_letWait, 3, none, false)
set_option maxRecDepth 100000 in
set_option maxHeartbeats 4000000 in
theorem E2_letWait_43 (l0 : Int) (h : JM) (res : JM) (H : F2_letWait_43 l0 h = some res) : Ev j_W1 1 0 0 T2_letWait 43 [(0, .inr (.inr (some (2, l0))))] [] h none res := by
  unfold F2_letWait_43 at H
  refine ev_aload_n (M := T2_letWait) (pc := 43) 0 dX2_letWait_43 (k := ?_)
  refine ev_dup (M := T2_letWait) (pc := 44) dX2_letWait_44 (k := ?_)
  refine ev_getI (M := T2_letWait) (pc := 45) (x := h.1 2 l0 3) fl_X2_43 dX2_letWait_45 (K := ?_)
  refine ev_iconst (M := T2_letWait) (pc := 48) dX2_letWait_48 (k := ?_)
  refine ev_iadd (M := T2_letWait) (pc := 49) dX2_letWait_49 (k := ?_)
  obtain ⟨h1, eh1, H1⟩ := lt_e H
  clear H
  refine ev_putI (M := T2_letWait) (pc := 50) j_ok1 fl_X2_43 eh1 dX2_letWait_50 (K := ?_)
  cases H1
  exact ev_return (M := T2_letWait) (pc := 53) dX2_letWait_53
set_option maxRecDepth 100000 in
set_option maxHeartbeats 4000000 in
theorem C2_letWait {l0 : Int} {l1 : Option Int} {l2 : Int} {h : JM} {res : JM} (H : F2_letWait l0 l1 l2 h = some res) : Cn j_W1 1 0 0 yX2_letWait cX2_letWait 3 none [.inr (.inr (some (2, l0))), .inr (.inr (Option.map (Prod.mk 0) (l1))), .inl (l2)] h none res := by
  refine Cn.by (own := RX2) (b := false) [(0, .inr (.inr (some (2, l0)))), (1, .inr (.inr (Option.map (Prod.mk 0) (l1)))), (2, .inl (l2))] rfl (fun z => by cases z) (by decide +kernel) (K := ?_)
  unfold F2_letWait at H
  refine ev_iload_n (M := T2_letWait) (pc := 0) 2 dX2_letWait_0 (k := ?_)
  refine ev_ifeq (M := T2_letWait) (pc := 1) 25 dX2_letWait_1 (kt := fun hc => ?_) (kf := fun hc => ?_)
  · replace H := if_pe hc H
    refine ev_aload_n (M := T2_letWait) (pc := 25) 0 dX2_letWait_25 (k := ?_)
    refine ev_dup (M := T2_letWait) (pc := 26) dX2_letWait_26 (k := ?_)
    refine ev_getI (M := T2_letWait) (pc := 27) (x := h.1 2 l0 5) fl_X2_21 dX2_letWait_27 (K := ?_)
    refine ev_iconst (M := T2_letWait) (pc := 30) dX2_letWait_30 (k := ?_)
    refine ev_iadd (M := T2_letWait) (pc := 31) dX2_letWait_31 (k := ?_)
    obtain ⟨h2, eh2, H1⟩ := lt_e H
    clear H
    refine ev_putI (M := T2_letWait) (pc := 32) j_ok1 fl_X2_21 eh2 dX2_letWait_32 (K := ?_)
    refine ev_aload_n (M := T2_letWait) (pc := 35) 1 dX2_letWait_35 (k := ?_)
    refine ev_aload_n (M := T2_letWait) (pc := 36) 0 dX2_letWait_36 (k := ?_)
    refine ev_getI (M := T2_letWait) (pc := 37) (x := h2.1 2 l0 5) fl_X2_21 dX2_letWait_37 (K := ?_)
    obtain ⟨a3, ea3, H2⟩ := bd_e H1
    clear H1
    rw [ea3]
    obtain ⟨h4, eh4, H3⟩ := lt_e H2
    clear H2
    refine ev_putI (M := T2_letWait) (pc := 40) j_ok1 fl_X2_38 eh4 dX2_letWait_40 (K := ?_)
    refine ev_lv [0] [(0, .inr (.inr (some (2, l0))))] (k := ?_)
    exact E2_letWait_43 l0 h4 _ H3
  · replace H := if_ne hc H
    refine ev_aload_n (M := T2_letWait) (pc := 4) 0 dX2_letWait_4 (k := ?_)
    refine ev_dup (M := T2_letWait) (pc := 5) dX2_letWait_5 (k := ?_)
    refine ev_getI (M := T2_letWait) (pc := 6) (x := h.1 2 l0 4) fl_X2_17 dX2_letWait_6 (K := ?_)
    refine ev_iconst (M := T2_letWait) (pc := 9) dX2_letWait_9 (k := ?_)
    refine ev_isub (M := T2_letWait) (pc := 10) dX2_letWait_10 (k := ?_)
    obtain ⟨h5, eh5, H1⟩ := lt_e H
    clear H
    refine ev_putI (M := T2_letWait) (pc := 11) j_ok1 fl_X2_17 eh5 dX2_letWait_11 (K := ?_)
    refine ev_aload_n (M := T2_letWait) (pc := 14) 1 dX2_letWait_14 (k := ?_)
    refine ev_aload_n (M := T2_letWait) (pc := 15) 0 dX2_letWait_15 (k := ?_)
    refine ev_getI (M := T2_letWait) (pc := 16) (x := h5.1 2 l0 4) fl_X2_17 dX2_letWait_16 (K := ?_)
    obtain ⟨a6, ea6, H2⟩ := bd_e H1
    clear H1
    rw [ea6]
    obtain ⟨h7, eh7, H3⟩ := lt_e H2
    clear H2
    refine ev_putI (M := T2_letWait) (pc := 19) j_ok1 fl_X2_38 eh7 dX2_letWait_19 (K := ?_)
    refine ev_goto (M := T2_letWait) (pc := 22) 43 dX2_letWait_22 (k := ?_)
    refine ev_lv [0] [(0, .inr (.inr (some (2, l0))))] (k := ?_)
    exact E2_letWait_43 l0 h7 _ H3
-- X4_isFree
abbrev T4_isFree : JT := (RX4, cX4_isFree, 1, some .boolean, false)
set_option maxRecDepth 100000 in
set_option maxHeartbeats 4000000 in
theorem E4_isFree_18 (h : JM) (res : (Int × JM)) (H : F4_isFree_18 h = some res) : Ev j_W1 1 0 0 T4_isFree 18 [] [] h (some (.inl res.1)) res.2 := by
  unfold F4_isFree_18 at H
  refine ev_iconst (M := T4_isFree) (pc := 18) dX4_isFree_18 (k := ?_)
  cases H
  exact ev_zreturn (M := T4_isFree) (pc := 19) (Or.inl rfl) dX4_isFree_19
set_option maxRecDepth 100000 in
set_option maxHeartbeats 4000000 in
theorem C4_isFree {l0 : Int} {h : JM} {res : (Int × JM)} (H : F4_isFree l0 h = some res) : Cn j_W1 1 0 0 yX4_isFree cX4_isFree 1 (some .boolean) [.inr (.inr (some (4, l0)))] h (some (.inl res.1)) res.2 := by
  refine Cn.by (own := RX4) (b := false) [(0, .inr (.inr (some (4, l0))))] rfl (fun z => by cases z) (by decide +kernel) (K := ?_)
  unfold F4_isFree at H
  refine ev_aload_n (M := T4_isFree) (pc := 0) 0 dX4_isFree_0 (k := ?_)
  refine ev_getI (M := T4_isFree) (pc := 1) (x := h.1 4 l0 6) fl_X4_30 dX4_isFree_1 (K := ?_)
  refine ev_ifne (M := T4_isFree) (pc := 4) 18 dX4_isFree_4 (kt := fun hc => ?_) (kf := fun hc => ?_)
  · replace H := if_ne hc H
    refine ev_lv [] [] (k := ?_)
    exact E4_isFree_18 h _ H
  · replace H := if_pe hc H
    refine ev_aload_n (M := T4_isFree) (pc := 7) 0 dX4_isFree_7 (k := ?_)
    refine ev_getR (M := T4_isFree) (pc := 8) (t := 0) (x := Option.map (Prod.mk 0) (h.2.2 4 l0 13)) fl_X4_34 dX4_isFree_8 (hx := ry_4_13 _ _) (K := ?_)
    refine ev_nonnullK (M := T4_isFree) (pc := 11) (h.2.2 4 l0 13) 18 dX4_isFree_11 (kt := fun hc => ?_) (kf := fun hc => ?_)
    · replace H := if_ne hc H
      refine ev_lv [] [] (k := ?_)
      exact E4_isFree_18 h _ H
    · replace H := if_pe hc H
      refine ev_iconst (M := T4_isFree) (pc := 14) dX4_isFree_14 (k := ?_)
      refine ev_goto (M := T4_isFree) (pc := 15) 19 dX4_isFree_15 (k := ?_)
      cases H
      exact ev_zreturn (M := T4_isFree) (pc := 19) (Or.inr rfl) dX4_isFree_19
