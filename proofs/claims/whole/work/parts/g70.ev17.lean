-- X12_charges
abbrev T12_charges : JT := (RX12, cX12_charges, 4, none, false)
set_option maxRecDepth 100000 in
set_option maxHeartbeats 4000000 in
theorem E12_charges_55 (l1 : Int) (l2 : Int) (h : JM) (res : JM) (H : F12_charges_55 l1 l2 h = some res) : Ev j_W1 4 0 0 T12_charges 55 [(0, .inr (.inr (some (12, 0)))), (1, .inl (l1)), (2, .inl (l2))] [] h none res := by
  unfold F12_charges_55 at H
  refine ev_aload_n (M := T12_charges) (pc := 55) 0 dX12_charges_55 (k := ?_)
  refine ev_getR (M := T12_charges) (pc := 56) (t := 147) (x := some (147, 0)) fl_X12_137 dX12_charges_56 (hx := ry_12_47 _ _) (K := ?_)
  refine ev_iload_n (M := T12_charges) (pc := 59) 1 dX12_charges_59 (k := ?_)
  refine ev_dup2 (M := T12_charges) (pc := 60) dX12_charges_60 (k := ?_)
  obtain ⟨⟨hi0, hi1⟩, H1⟩ := g_e H
  clear H
  refine ev_iaload (M := T12_charges) (pc := 61) (k := 147) hi0 hi1 dX12_charges_61 (hc := ac_147) (hlen := ln_147 _ _) (K := ?_)
  refine ev_iload_n (M := T12_charges) (pc := 62) 2 dX12_charges_62 (k := ?_)
  refine ev_iadd (M := T12_charges) (pc := 63) dX12_charges_63 (k := ?_)
  obtain ⟨⟨hi0, hi1⟩, H2⟩ := g_e H1
  clear H1
  obtain ⟨h1, eh1, H3⟩ := lt_e H2
  clear H2
  refine ev_iastore (M := T12_charges) (pc := 64) (k := 147) j_ok1 hi0 hi1 eh1 dX12_charges_64 (hc := ac_147) (hlen := ln_147 _ _) (K := ?_)
  cases H3
  exact ev_return (M := T12_charges) (pc := 65) dX12_charges_65
set_option maxRecDepth 100000 in
set_option maxHeartbeats 4000000 in
theorem E12_charges_35 (l1 : Int) (l2 : Int) (l3 : Int) (h : JM) (res : JM) (H : F12_charges_35 l1 l2 l3 h = some res) : Ev j_W1 4 0 0 T12_charges 35 [(0, .inr (.inr (some (12, 0)))), (1, .inl (l1)), (2, .inl (l2)), (3, .inl (l3))] [] h none res := by
  unfold F12_charges_35 at H
  refine ev_aload_n (M := T12_charges) (pc := 35) 0 dX12_charges_35 (k := ?_)
  refine ev_getR (M := T12_charges) (pc := 36) (t := 126) (x := some (126, 0)) fl_X12_77 dX12_charges_36 (hx := ry_12_26 _ _) (K := ?_)
  refine ev_iload_n (M := T12_charges) (pc := 39) 3 dX12_charges_39 (k := ?_)
  obtain ⟨⟨hi0, hi1⟩, H1⟩ := g_e H
  clear H
  refine ev_iaload (M := T12_charges) (pc := 40) (k := 126) hi0 hi1 dX12_charges_40 (hc := ac_126) (hlen := ln_126 _ _) (K := ?_)
  refine ev_iconst (M := T12_charges) (pc := 41) dX12_charges_41 (k := ?_)
  refine ev_icmpeq (M := T12_charges) (pc := 42) 55 dX12_charges_42 (kt := fun hc => ?_) (kf := fun hc => ?_)
  · replace H1 := if_pe hc H1
    refine ev_lv [0, 1, 2] [(0, .inr (.inr (some (12, 0)))), (1, .inl (l1)), (2, .inl (l2))] (k := ?_)
    exact E12_charges_55 l1 l2 h _ H1
  · replace H1 := if_ne hc H1
    refine ev_aload_n (M := T12_charges) (pc := 45) 0 dX12_charges_45 (k := ?_)
    refine ev_getR (M := T12_charges) (pc := 46) (t := 126) (x := some (126, 0)) fl_X12_77 dX12_charges_46 (hx := ry_12_26 _ _) (K := ?_)
    refine ev_iload_n (M := T12_charges) (pc := 49) 3 dX12_charges_49 (k := ?_)
    refine ev_dup2 (M := T12_charges) (pc := 50) dX12_charges_50 (k := ?_)
    obtain ⟨⟨hi0, hi1⟩, H2⟩ := g_e H1
    clear H1
    refine ev_iaload (M := T12_charges) (pc := 51) (k := 126) hi0 hi1 dX12_charges_51 (hc := ac_126) (hlen := ln_126 _ _) (K := ?_)
    refine ev_iload_n (M := T12_charges) (pc := 52) 2 dX12_charges_52 (k := ?_)
    refine ev_isub (M := T12_charges) (pc := 53) dX12_charges_53 (k := ?_)
    obtain ⟨⟨hi0, hi1⟩, H3⟩ := g_e H2
    clear H2
    obtain ⟨h2, eh2, H4⟩ := lt_e H3
    clear H3
    refine ev_iastore (M := T12_charges) (pc := 54) (k := 126) j_ok1 hi0 hi1 eh2 dX12_charges_54 (hc := ac_126) (hlen := ln_126 _ _) (K := ?_)
    refine ev_lv [0, 1, 2] [(0, .inr (.inr (some (12, 0)))), (1, .inl (l1)), (2, .inl (l2))] (k := ?_)
    exact E12_charges_55 l1 l2 h2 _ H4
set_option maxRecDepth 100000 in
set_option maxHeartbeats 4000000 in
theorem C12_charges {l1 : Int} {l2 : Int} {h : JM} {res : JM} (H : F12_charges l1 l2 h = some res) : Cn j_W1 4 0 0 yX12_charges cX12_charges 4 none [.inr (.inr (some (12, 0))), .inl (l1), .inl (l2)] h none res := by
  refine Cn.by (own := RX12) (b := false) [(0, .inr (.inr (some (12, 0)))), (1, .inl (l1)), (2, .inl (l2))] rfl (fun z => by cases z) (by decide +kernel) (K := ?_)
  unfold F12_charges at H
  refine ev_aload_n (M := T12_charges) (pc := 0) 0 dX12_charges_0 (k := ?_)
  refine ev_getR (M := T12_charges) (pc := 1) (t := 136) (x := some (136, 0)) fl_X12_104 dX12_charges_1 (hx := ry_12_36 _ _) (K := ?_)
  refine ev_iload_n (M := T12_charges) (pc := 4) 1 dX12_charges_4 (k := ?_)
  obtain ⟨⟨hi0, hi1⟩, H1⟩ := g_e H
  clear H
  refine ev_iaload (M := T12_charges) (pc := 5) (k := 136) hi0 hi1 dX12_charges_5 (hc := ac_136) (hlen := ln_136 _ _) (K := ?_)
  obtain ⟨x3, ex3, H2⟩ := lt_e H1
  clear H1
  refine ev_topI ex3 ?_
  refine ev_istore_n (M := T12_charges) (pc := 6) [(3, .inl (x3)), (0, .inr (.inr (some (12, 0)))), (1, .inl (l1)), (2, .inl (l2))] dX12_charges_6 (k := ?_)
  refine ev_aload_n (M := T12_charges) (pc := 7) 1 dX12_charges_7 (k := ?_)
  refine ev_getR (M := T12_charges) (pc := 8) (t := 126) (x := some (126, 0)) fl_X12_77 dX12_charges_8 (hx := ry_12_26 _ _) (K := ?_)
  refine ev_iload_n (M := T12_charges) (pc := 11) 0 dX12_charges_11 (k := ?_)
  obtain ⟨⟨hi0, hi1⟩, H3⟩ := g_e H2
  clear H2
  refine ev_iaload (M := T12_charges) (pc := 12) (k := 126) hi0 hi1 dX12_charges_12 (hc := ac_126) (hlen := ln_126 _ _) (K := ?_)
  refine ev_iconst (M := T12_charges) (pc := 13) dX12_charges_13 (k := ?_)
  refine ev_icmpeq (M := T12_charges) (pc := 14) 35 dX12_charges_14 (kt := fun hc => ?_) (kf := fun hc => ?_)
  · replace H3 := if_pe hc H3
    refine ev_lv [1, 2, 3, 0] [(0, .inr (.inr (some (12, 0)))), (1, .inl (l1)), (2, .inl (l2)), (3, .inl (x3))] (k := ?_)
    exact E12_charges_35 l1 l2 x3 h _ H3
  · replace H3 := if_ne hc H3
    refine ev_aload_n (M := T12_charges) (pc := 17) 1 dX12_charges_17 (k := ?_)
    refine ev_getR (M := T12_charges) (pc := 18) (t := 126) (x := some (126, 0)) fl_X12_77 dX12_charges_18 (hx := ry_12_26 _ _) (K := ?_)
    refine ev_iload_n (M := T12_charges) (pc := 21) 0 dX12_charges_21 (k := ?_)
    obtain ⟨⟨hi0, hi1⟩, H4⟩ := g_e H3
    clear H3
    refine ev_iaload (M := T12_charges) (pc := 22) (k := 126) hi0 hi1 dX12_charges_22 (hc := ac_126) (hlen := ln_126 _ _) (K := ?_)
    refine ev_iload_n (M := T12_charges) (pc := 23) 3 dX12_charges_23 (k := ?_)
    refine ev_icmpge (M := T12_charges) (pc := 24) 35 dX12_charges_24 (kt := fun hc => ?_) (kf := fun hc => ?_)
    · replace H4 := if_pe hc H4
      refine ev_lv [1, 2, 3, 0] [(0, .inr (.inr (some (12, 0)))), (1, .inl (l1)), (2, .inl (l2)), (3, .inl (x3))] (k := ?_)
      exact E12_charges_35 l1 l2 x3 h _ H4
    · replace H4 := if_ne hc H4
      refine ev_aload_n (M := T12_charges) (pc := 27) 1 dX12_charges_27 (k := ?_)
      refine ev_iload_n (M := T12_charges) (pc := 28) 2 dX12_charges_28 (k := ?_)
      refine ev_iconst (M := T12_charges) (pc := 29) dX12_charges_29 (k := ?_)
      refine ev_iconst (M := T12_charges) (pc := 30) dX12_charges_30 (k := ?_)
      obtain ⟨h4, hq, H5⟩ := bd_e H4
      clear H4
      refine ev_callV (M := T12_charges) (pc := 31) (mc := 0) (ms := 0) (st := []) (C12_over hq) md_X12_over im_X12_over se_X12_over ml_X12_323 dX12_charges_31 _ (by decide) (K := ?_)
      cases H5
      exact ev_return (M := T12_charges) (pc := 34) dX12_charges_34
-- X12_price
abbrev T12_price : JT := (RX12, cX12_price, 2, some .int, false)
set_option maxRecDepth 100000 in
set_option maxHeartbeats 4000000 in
theorem C12_price {l1 : Int} {h : JM} {res : (Int × JM)} (H : F12_price l1 h = some res) : Cn j_W1 1 0 0 yX12_price cX12_price 2 (some .int) [.inr (.inr (some (12, 0))), .inl (l1)] h (some (.inl res.1)) res.2 := by
  refine Cn.by (own := RX12) (b := false) [(0, .inr (.inr (some (12, 0)))), (1, .inl (l1))] rfl (fun z => by cases z) (by decide +kernel) (K := ?_)
  unfold F12_price at H
  refine ev_aload_n (M := T12_price) (pc := 0) 0 dX12_price_0 (k := ?_)
  refine ev_getI (M := T12_price) (pc := 1) (x := h.1 12 0 2) fl_X12_285 dX12_price_1 (K := ?_)
  refine ev_sipush (M := T12_price) (pc := 4) dX12_price_4 (k := ?_)
  refine ev_irem (M := T12_price) (pc := 7) dX12_price_7 (by decide) (k := ?_)
  refine ev_sipush (M := T12_price) (pc := 8) dX12_price_8 (k := ?_)
  refine ev_icmpge (M := T12_price) (pc := 11) 23 dX12_price_11 (kt := fun hc => ?_) (kf := fun hc => ?_)
  · replace H := if_pe hc H
    refine ev_aload_n (M := T12_price) (pc := 23) 0 dX12_price_23 (k := ?_)
    refine ev_getR (M := T12_price) (pc := 24) (t := 188) (x := some (188, 0)) fl_X12_246 dX12_price_24 (hx := ry_12_88 _ _) (K := ?_)
    refine ev_iload_n (M := T12_price) (pc := 27) 1 dX12_price_27 (k := ?_)
    obtain ⟨⟨hi0, hi1⟩, H1⟩ := g_e H
    clear H
    refine ev_iaload (M := T12_price) (pc := 28) (k := 188) hi0 hi1 dX12_price_28 (hc := ac_188) (hlen := ln_188 _ _) (K := ?_)
    cases H1
    exact ev_ireturn (M := T12_price) (pc := 29) dX12_price_29
  · replace H := if_ne hc H
    refine ev_aload_n (M := T12_price) (pc := 14) 0 dX12_price_14 (k := ?_)
    refine ev_getR (M := T12_price) (pc := 15) (t := 189) (x := some (189, 0)) fl_X12_249 dX12_price_15 (hx := ry_12_89 _ _) (K := ?_)
    refine ev_iload_n (M := T12_price) (pc := 18) 1 dX12_price_18 (k := ?_)
    obtain ⟨⟨hi0, hi1⟩, H1⟩ := g_e H
    clear H
    refine ev_iaload (M := T12_price) (pc := 19) (k := 189) hi0 hi1 dX12_price_19 (hc := ac_189) (hlen := ln_189 _ _) (K := ?_)
    refine ev_goto (M := T12_price) (pc := 20) 29 dX12_price_20 (k := ?_)
    cases H1
    exact ev_ireturn (M := T12_price) (pc := 29) dX12_price_29
-- X12_answered
abbrev T12_answered : JT := (RX12, cX12_answered, 2, none, false)
set_option maxRecDepth 100000 in
set_option maxHeartbeats 4000000 in
theorem C12_answered {l1 : Int} {h : JM} {res : JM} (H : F12_answered l1 h = some res) : Cn j_W1 5 0 0 yX12_answered cX12_answered 2 none [.inr (.inr (some (12, 0))), .inl (l1)] h none res := by
  refine Cn.by (own := RX12) (b := false) [(0, .inr (.inr (some (12, 0)))), (1, .inl (l1))] rfl (fun z => by cases z) (by decide +kernel) (K := ?_)
  unfold F12_answered at H
  refine ev_aload_n (M := T12_answered) (pc := 0) 0 dX12_answered_0 (k := ?_)
  refine ev_iload_n (M := T12_answered) (pc := 1) 1 dX12_answered_1 (k := ?_)
  obtain ⟨h1, hq, H1⟩ := bd_e H
  clear H
  refine ev_callV (M := T12_answered) (pc := 2) (mc := 0) (ms := 0) (st := []) (C12_acm hq) md_X12_acm im_X12_acm se_X12_acm ml_X12_364 dX12_answered_2 _ (by decide) (K := ?_)
  refine ev_aload_n (M := T12_answered) (pc := 5) 0 dX12_answered_5 (k := ?_)
  refine ev_iload_n (M := T12_answered) (pc := 6) 1 dX12_answered_6 (k := ?_)
  refine ev_iconst (M := T12_answered) (pc := 7) dX12_answered_7 (k := ?_)
  obtain ⟨h2, hq, H2⟩ := bd_e H1
  clear H1
  refine ev_callV (M := T12_answered) (pc := 8) (mc := 0) (ms := 0) (st := []) (C12_becomes hq) md_X12_becomes im_X12_becomes se_X12_becomes ml_X12_361 dX12_answered_8 _ (by decide) (K := ?_)
  refine ev_aload_n (M := T12_answered) (pc := 11) 0 dX12_answered_11 (k := ?_)
  refine ev_getR (M := T12_answered) (pc := 12) (t := 138) (x := some (138, 0)) fl_X12_110 dX12_answered_12 (hx := ry_12_38 _ _) (K := ?_)
  refine ev_iload_n (M := T12_answered) (pc := 15) 1 dX12_answered_15 (k := ?_)
  refine ev_iconst (M := T12_answered) (pc := 16) dX12_answered_16 (k := ?_)
  obtain ⟨⟨hi0, hi1⟩, H3⟩ := g_e H2
  clear H2
  obtain ⟨h3, eh3, H4⟩ := lt_e H3
  clear H3
  refine ev_iastore (M := T12_answered) (pc := 17) (k := 138) j_ok1 hi0 hi1 eh3 dX12_answered_17 (hc := ac_138) (hlen := ln_138 _ _) (K := ?_)
  refine ev_aload_n (M := T12_answered) (pc := 18) 0 dX12_answered_18 (k := ?_)
  refine ev_getR (M := T12_answered) (pc := 19) (t := 146) (x := some (146, 0)) fl_X12_134 dX12_answered_19 (hx := ry_12_46 _ _) (K := ?_)
  refine ev_iload_n (M := T12_answered) (pc := 22) 1 dX12_answered_22 (k := ?_)
  refine ev_aload_n (M := T12_answered) (pc := 23) 0 dX12_answered_23 (k := ?_)
  refine ev_getI (M := T12_answered) (pc := 24) (x := h3.1 12 0 2) fl_X12_285 dX12_answered_24 (K := ?_)
  obtain ⟨⟨hi0, hi1⟩, H5⟩ := g_e H4
  clear H4
  obtain ⟨h4, eh4, H6⟩ := lt_e H5
  clear H5
  refine ev_iastore (M := T12_answered) (pc := 27) (k := 146) j_ok1 hi0 hi1 eh4 dX12_answered_27 (hc := ac_146) (hlen := ln_146 _ _) (K := ?_)
  refine ev_aload_n (M := T12_answered) (pc := 28) 0 dX12_answered_28 (k := ?_)
  refine ev_getR (M := T12_answered) (pc := 29) (t := 136) (x := some (136, 0)) fl_X12_104 dX12_answered_29 (hx := ry_12_36 _ _) (K := ?_)
  refine ev_iload_n (M := T12_answered) (pc := 32) 1 dX12_answered_32 (k := ?_)
  obtain ⟨⟨hi0, hi1⟩, H7⟩ := g_e H6
  clear H6
  refine ev_iaload (M := T12_answered) (pc := 33) (k := 136) hi0 hi1 dX12_answered_33 (hc := ac_136) (hlen := ln_136 _ _) (K := ?_)
  obtain ⟨q5, hq, H8⟩ := bd_e H7
  clear H7
  refine ev_callS (M := T12_answered) (pc := 34) (mc := 0) (ms := 0) (st := []) (C12_isCircuit hq) md_X12_isCircuit ss_X12_isCircuit ml_X12_379 dX12_answered_34 _ (by decide) (K := ?_)
  refine ev_ifeq (M := T12_answered) (pc := 37) 67 dX12_answered_37 (kt := fun hc => ?_) (kf := fun hc => ?_)
  · replace H8 := if_pe hc H8
    refine ev_aload_n (M := T12_answered) (pc := 67) 0 dX12_answered_67 (k := ?_)
    refine ev_iload_n (M := T12_answered) (pc := 68) 1 dX12_answered_68 (k := ?_)
    refine ev_aload_n (M := T12_answered) (pc := 69) 0 dX12_answered_69 (k := ?_)
    refine ev_getR (M := T12_answered) (pc := 70) (t := 186) (x := some (186, 0)) fl_X12_240 dX12_answered_70 (hx := ry_12_86 _ _) (K := ?_)
    refine ev_aload_n (M := T12_answered) (pc := 73) 0 dX12_answered_73 (k := ?_)
    refine ev_getR (M := T12_answered) (pc := 74) (t := 143) (x := some (143, 0)) fl_X12_125 dX12_answered_74 (hx := ry_12_43 _ _) (K := ?_)
    refine ev_iload_n (M := T12_answered) (pc := 77) 1 dX12_answered_77 (k := ?_)
    obtain ⟨⟨hi0, hi1⟩, H9⟩ := g_e H8
    clear H8
    refine ev_iaload (M := T12_answered) (pc := 78) (k := 143) hi0 hi1 dX12_answered_78 (hc := ac_143) (hlen := ln_143 _ _) (K := ?_)
    obtain ⟨⟨hi0, hi1⟩, H10⟩ := g_e H9
    clear H9
    refine ev_iaload (M := T12_answered) (pc := 79) (k := 186) hi0 hi1 dX12_answered_79 (hc := ac_186) (hlen := ln_186 _ _) (K := ?_)
    refine ev_aload_n (M := T12_answered) (pc := 80) 0 dX12_answered_80 (k := ?_)
    refine ev_aload_n (M := T12_answered) (pc := 81) 0 dX12_answered_81 (k := ?_)
    refine ev_getR (M := T12_answered) (pc := 82) (t := 143) (x := some (143, 0)) fl_X12_125 dX12_answered_82 (hx := ry_12_43 _ _) (K := ?_)
    refine ev_iload_n (M := T12_answered) (pc := 85) 1 dX12_answered_85 (k := ?_)
    obtain ⟨⟨hi0, hi1⟩, H11⟩ := g_e H10
    clear H10
    refine ev_iaload (M := T12_answered) (pc := 86) (k := 143) hi0 hi1 dX12_answered_86 (hc := ac_143) (hlen := ln_143 _ _) (K := ?_)
    obtain ⟨q6, hq, H12⟩ := bd_e H11
    clear H11
    refine ev_callV (M := T12_answered) (pc := 87) (mc := 0) (ms := 0) (st := [.inl (q5.2.1 186 0 (q5.2.1 143 0 l1)), .inl (l1), .inr (.inr (some (12, 0)))]) (C12_price hq) md_X12_price im_X12_price se_X12_price ml_X12_382 dX12_answered_87 _ (by decide) (K := ?_)
    refine ev_iadd (M := T12_answered) (pc := 90) dX12_answered_90 (k := ?_)
    obtain ⟨h7, hq, H13⟩ := bd_e H12
    clear H12
    refine ev_callV (M := T12_answered) (pc := 91) (mc := 0) (ms := 0) (st := []) (C12_charges hq) md_X12_charges im_X12_charges se_X12_charges ml_X12_385 dX12_answered_91 _ (by decide) (K := ?_)
    cases H13
    exact ev_return (M := T12_answered) (pc := 94) dX12_answered_94
  · replace H8 := if_ne hc H8
    refine ev_aload_n (M := T12_answered) (pc := 40) 0 dX12_answered_40 (k := ?_)
    refine ev_aload_n (M := T12_answered) (pc := 41) 0 dX12_answered_41 (k := ?_)
    refine ev_getR (M := T12_answered) (pc := 42) (t := 136) (x := some (136, 0)) fl_X12_104 dX12_answered_42 (hx := ry_12_36 _ _) (K := ?_)
    refine ev_iload_n (M := T12_answered) (pc := 45) 1 dX12_answered_45 (k := ?_)
    obtain ⟨⟨hi0, hi1⟩, H9⟩ := g_e H8
    clear H8
    refine ev_iaload (M := T12_answered) (pc := 46) (k := 136) hi0 hi1 dX12_answered_46 (hc := ac_136) (hlen := ln_136 _ _) (K := ?_)
    refine ev_bipush (M := T12_answered) (pc := 47) dX12_answered_47 (k := ?_)
    refine ev_isub (M := T12_answered) (pc := 49) dX12_answered_49 (k := ?_)
    refine ev_iconst (M := T12_answered) (pc := 50) dX12_answered_50 (k := ?_)
    obtain ⟨h8, hq, H10⟩ := bd_e H9
    clear H9
    refine ev_callV (M := T12_answered) (pc := 51) (mc := 0) (ms := 0) (st := []) (C12_begins hq) md_X12_begins im_X12_begins se_X12_begins ml_X12_352 dX12_answered_51 _ (by decide) (K := ?_)
    refine ev_aload_n (M := T12_answered) (pc := 54) 0 dX12_answered_54 (k := ?_)
    refine ev_aload_n (M := T12_answered) (pc := 55) 0 dX12_answered_55 (k := ?_)
    refine ev_getR (M := T12_answered) (pc := 56) (t := 135) (x := some (135, 0)) fl_X12_101 dX12_answered_56 (hx := ry_12_35 _ _) (K := ?_)
    refine ev_iload_n (M := T12_answered) (pc := 59) 1 dX12_answered_59 (k := ?_)
    obtain ⟨⟨hi0, hi1⟩, H11⟩ := g_e H10
    clear H10
    refine ev_iaload (M := T12_answered) (pc := 60) (k := 135) hi0 hi1 dX12_answered_60 (hc := ac_135) (hlen := ln_135 _ _) (K := ?_)
    obtain ⟨h9, hq, H12⟩ := bd_e H11
    clear H11
    refine ev_callV (M := T12_answered) (pc := 61) (mc := 0) (ms := 0) (st := []) (C12_goes hq) md_X12_goes im_X12_goes se_X12_goes ml_X12_358 dX12_answered_61 _ (by decide) (K := ?_)
    refine ev_goto (M := T12_answered) (pc := 64) 94 dX12_answered_64 (k := ?_)
    cases H12
    exact ev_return (M := T12_answered) (pc := 94) dX12_answered_94
-- X12_back
abbrev T12_back : JT := (RX12, cX12_back, 6, some .int, false)
set_option maxRecDepth 100000 in
set_option maxHeartbeats 4000000 in
theorem E12_back_94 (l2 : Int) (s0 : Int) (h : JM) (res : (Int × JM)) (H : F12_back_94 l2 s0 h = some res) : Ev j_W1 1 0 0 T12_back 94 [(2, .inl (l2))] [.inl (s0)] h (some (.inl res.1)) res.2 := by
  unfold F12_back_94 at H
  refine ev_istore (M := T12_back) (pc := 94) [(5, .inl (s0)), (2, .inl (l2))] dX12_back_94 (k := ?_)
  refine ev_iload_n (M := T12_back) (pc := 96) 1 dX12_back_96 (k := ?_)
  refine ev_sipush (M := T12_back) (pc := 97) dX12_back_97 (k := ?_)
  refine ev_icmpge (M := T12_back) (pc := 100) 109 dX12_back_100 (kt := fun hc => ?_) (kf := fun hc => ?_)
  · replace H := if_pe hc H
    refine ev_iload (M := T12_back) (pc := 109) 0 dX12_back_109 (k := ?_)
    cases H
    exact ev_ireturn (M := T12_back) (pc := 111) dX12_back_111
  · replace H := if_ne hc H
    refine ev_iload (M := T12_back) (pc := 103) 0 dX12_back_103 (k := ?_)
    refine ev_ineg (M := T12_back) (pc := 105) dX12_back_105 (k := ?_)
    refine ev_goto (M := T12_back) (pc := 106) 111 dX12_back_106 (k := ?_)
    cases H
    exact ev_ireturn (M := T12_back) (pc := 111) dX12_back_111
set_option maxRecDepth 100000 in
set_option maxHeartbeats 4000000 in
theorem E12_back_17 (l0 : Int) (s0 : Int) (h : JM) (res : (Int × JM)) (H : F12_back_17 l0 s0 h = some res) : Ev j_W1 1 0 0 T12_back 17 [(0, .inl (l0))] [.inl (s0)] h (some (.inl res.1)) res.2 := by
  unfold F12_back_17 at H
  refine ev_istore_n (M := T12_back) (pc := 17) [(2, .inl (s0)), (0, .inl (l0))] dX12_back_17 (k := ?_)
  refine ev_iload_n (M := T12_back) (pc := 18) 0 dX12_back_18 (k := ?_)
  refine ev_bipush (M := T12_back) (pc := 19) dX12_back_19 (k := ?_)
  refine ev_idiv (M := T12_back) (pc := 21) dX12_back_21 (by decide) (k := ?_)
  refine ev_bipush (M := T12_back) (pc := 22) dX12_back_22 (k := ?_)
  refine ev_irem (M := T12_back) (pc := 24) dX12_back_24 (by decide) (k := ?_)
  obtain ⟨x1, ex1, H1⟩ := lt_e H
  clear H
  refine ev_topI ex1 ?_
  refine ev_istore_n (M := T12_back) (pc := 25) [(3, .inl (x1)), (2, .inl (s0)), (0, .inl (l0))] dX12_back_25 (k := ?_)
  refine ev_iload_n (M := T12_back) (pc := 26) 1 dX12_back_26 (k := ?_)
  refine ev_bipush (M := T12_back) (pc := 27) dX12_back_27 (k := ?_)
  refine ev_irem (M := T12_back) (pc := 29) dX12_back_29 (by decide) (k := ?_)
  obtain ⟨x2, ex2, H2⟩ := lt_e H1
  clear H1
  refine ev_topI ex2 ?_
  refine ev_istore (M := T12_back) (pc := 30) [(4, .inl (x2)), (3, .inl (x1)), (2, .inl (s0)), (0, .inl (l0))] dX12_back_30 (k := ?_)
  refine ev_iload_n (M := T12_back) (pc := 32) 3 dX12_back_32 (k := ?_)
  refine ev_iconst (M := T12_back) (pc := 33) dX12_back_33 (k := ?_)
  refine ev_icmpne (M := T12_back) (pc := 34) 66 dX12_back_34 (kt := fun hc => ?_) (kf := fun hc => ?_)
  · replace H2 := if_ne hc H2
    refine ev_iload_n (M := T12_back) (pc := 66) 1 dX12_back_66 (k := ?_)
    refine ev_ifne (M := T12_back) (pc := 67) 81 dX12_back_67 (kt := fun hc => ?_) (kf := fun hc => ?_)
    · replace H2 := if_ne hc H2
      refine ev_iconst (M := T12_back) (pc := 81) dX12_back_81 (k := ?_)
      refine ev_iconst (M := T12_back) (pc := 82) dX12_back_82 (k := ?_)
      refine ev_iload (M := T12_back) (pc := 83) 0 dX12_back_83 (k := ?_)
      refine ev_imul (M := T12_back) (pc := 85) dX12_back_85 (k := ?_)
      refine ev_bipush (M := T12_back) (pc := 86) dX12_back_86 (k := ?_)
      refine ev_iadd (M := T12_back) (pc := 88) dX12_back_88 (k := ?_)
      refine ev_iload_n (M := T12_back) (pc := 89) 1 dX12_back_89 (k := ?_)
      refine ev_iconst (M := T12_back) (pc := 90) dX12_back_90 (k := ?_)
      refine ev_isub (M := T12_back) (pc := 91) dX12_back_91 (k := ?_)
      refine ev_ishl (M := T12_back) (pc := 92) dX12_back_92 (k := ?_)
      refine ev_imul (M := T12_back) (pc := 93) dX12_back_93 (k := ?_)
      refine ev_lv [2] [(2, .inl (s0))] (k := ?_)
      exact E12_back_94 s0 (w32 (2 * (j_shl (w32 ((w32 (2 * x2)) + 33)) (w32 (x1 - 1))))) h _ H2
    · replace H2 := if_pe hc H2
      refine ev_iconst (M := T12_back) (pc := 70) dX12_back_70 (k := ?_)
      refine ev_iconst (M := T12_back) (pc := 71) dX12_back_71 (k := ?_)
      refine ev_iload (M := T12_back) (pc := 72) 0 dX12_back_72 (k := ?_)
      refine ev_imul (M := T12_back) (pc := 74) dX12_back_74 (k := ?_)
      refine ev_iconst (M := T12_back) (pc := 75) dX12_back_75 (k := ?_)
      refine ev_iadd (M := T12_back) (pc := 76) dX12_back_76 (k := ?_)
      refine ev_imul (M := T12_back) (pc := 77) dX12_back_77 (k := ?_)
      refine ev_goto (M := T12_back) (pc := 78) 94 dX12_back_78 (k := ?_)
      refine ev_lv [2] [(2, .inl (s0))] (k := ?_)
      exact E12_back_94 s0 (w32 (2 * (w32 ((w32 (2 * x2)) + 1)))) h _ H2
  · replace H2 := if_pe hc H2
    refine ev_iconst (M := T12_back) (pc := 37) dX12_back_37 (k := ?_)
    refine ev_iload (M := T12_back) (pc := 38) 0 dX12_back_38 (k := ?_)
    refine ev_imul (M := T12_back) (pc := 40) dX12_back_40 (k := ?_)
    refine ev_bipush (M := T12_back) (pc := 41) dX12_back_41 (k := ?_)
    refine ev_iadd (M := T12_back) (pc := 43) dX12_back_43 (k := ?_)
    refine ev_iload_n (M := T12_back) (pc := 44) 1 dX12_back_44 (k := ?_)
    refine ev_ishl (M := T12_back) (pc := 45) dX12_back_45 (k := ?_)
    refine ev_bipush (M := T12_back) (pc := 46) dX12_back_46 (k := ?_)
    refine ev_isub (M := T12_back) (pc := 48) dX12_back_48 (k := ?_)
    obtain ⟨x3, ex3, H3⟩ := lt_e H2
    clear H2
    refine ev_topI ex3 ?_
    refine ev_istore (M := T12_back) (pc := 49) [(5, .inl (x3)), (4, .inl (x2)), (3, .inl (x1)), (2, .inl (s0)), (0, .inl (l0))] dX12_back_49 (k := ?_)
    refine ev_iload_n (M := T12_back) (pc := 51) 3 dX12_back_51 (k := ?_)
    refine ev_bipush (M := T12_back) (pc := 52) dX12_back_52 (k := ?_)
    refine ev_icmple (M := T12_back) (pc := 54) 63 dX12_back_54 (kt := fun hc => ?_) (kf := fun hc => ?_)
    · replace H3 := if_pe hc H3
      refine ev_iload (M := T12_back) (pc := 63) 0 dX12_back_63 (k := ?_)
      cases H3
      exact ev_ireturn (M := T12_back) (pc := 65) dX12_back_65
    · replace H3 := if_ne hc H3
      refine ev_iload (M := T12_back) (pc := 57) 0 dX12_back_57 (k := ?_)
      refine ev_ineg (M := T12_back) (pc := 59) dX12_back_59 (k := ?_)
      refine ev_goto (M := T12_back) (pc := 60) 65 dX12_back_60 (k := ?_)
      cases H3
      exact ev_ireturn (M := T12_back) (pc := 65) dX12_back_65
set_option maxRecDepth 100000 in
set_option maxHeartbeats 4000000 in
theorem C12_back {l0 : Int} {l1 : Int} {h : JM} {res : (Int × JM)} (H : F12_back l0 l1 h = some res) : Cn j_W1 1 0 0 yX12_back cX12_back 6 (some .int) [.inl (l0), .inl (l1)] h (some (.inl res.1)) res.2 := by
  refine Cn.by (own := RX12) (b := false) [(0, .inl (l0)), (1, .inl (l1))] rfl (fun z => by cases z) (by decide +kernel) (K := ?_)
  unfold F12_back at H
  refine ev_iload_n (M := T12_back) (pc := 0) 0 dX12_back_0 (k := ?_)
  refine ev_iconst (M := T12_back) (pc := 1) dX12_back_1 (k := ?_)
  refine ev_icmpne (M := T12_back) (pc := 2) 13 dX12_back_2 (kt := fun hc => ?_) (kf := fun hc => ?_)
  · replace H := if_ne hc H
    refine ev_iload_n (M := T12_back) (pc := 13) 1 dX12_back_13 (k := ?_)
    refine ev_bipush (M := T12_back) (pc := 14) dX12_back_14 (k := ?_)
    refine ev_ixor (M := T12_back) (pc := 16) dX12_back_16 (k := ?_)
    refine ev_lv [0] [(0, .inl (l0))] (k := ?_)
    exact E12_back_17 l0 (j_xor l1 85) h _ H
  · replace H := if_pe hc H
    refine ev_sipush (M := T12_back) (pc := 5) dX12_back_5 (k := ?_)
    refine ev_iload_n (M := T12_back) (pc := 8) 1 dX12_back_8 (k := ?_)
    refine ev_isub (M := T12_back) (pc := 9) dX12_back_9 (k := ?_)
    refine ev_goto (M := T12_back) (pc := 10) 17 dX12_back_10 (k := ?_)
    refine ev_lv [0] [(0, .inl (l0))] (k := ?_)
    exact E12_back_17 l0 (w32 (255 - l1)) h _ H
-- X12_in
abbrev T12_in : JT := (RX12, cX12_in, 6, some .boolean, false)
set_option maxRecDepth 100000 in
set_option maxHeartbeats 4000000 in
theorem E12_in_17 (h : JM) (res : (Int × JM)) (H : F12_in_17 h = some res) : Ev j_W1 1 0 0 T12_in 17 [] [] h (some (.inl res.1)) res.2 := by
  unfold F12_in_17 at H
  refine ev_iconst (M := T12_in) (pc := 17) dX12_in_17 (k := ?_)
  cases H
  exact ev_zreturn (M := T12_in) (pc := 18) (Or.inl rfl) dX12_in_18
set_option maxRecDepth 100000 in
set_option maxHeartbeats 4000000 in
theorem C12_in {l0 : Int} {l2 : Int} {l4 : Int} {h : JM} {res : (Int × JM)} (H : F12_in l0 l2 l4 h = some res) : Cn j_W1 1 0 0 yX12_in cX12_in 6 (some .boolean) [.inr (.inl (l0)), .inr (.inl (l2)), .inr (.inl (l4))] h (some (.inl res.1)) res.2 := by
  refine Cn.by (own := RX12) (b := false) [(0, .inr (.inl (l0))), (2, .inr (.inl (l2))), (4, .inr (.inl (l4)))] rfl (fun z => by cases z) (by decide +kernel) (K := ?_)
  unfold F12_in at H
  refine ev_lload_n (M := T12_in) (pc := 0) 0 dX12_in_0 (k := ?_)
  refine ev_lload_n (M := T12_in) (pc := 1) 1 dX12_in_1 (k := ?_)
  refine ev_lcmp (M := T12_in) (pc := 2) dX12_in_2 (k := ?_)
  refine ev_iflt (M := T12_in) (pc := 3) 17 dX12_in_3 (kt := fun hc => ?_) (kf := fun hc => ?_)
  · replace H := if_pe hc H
    refine ev_lv [] [] (k := ?_)
    exact E12_in_17 h _ H
  · replace H := if_ne hc H
    refine ev_lload_n (M := T12_in) (pc := 6) 0 dX12_in_6 (k := ?_)
    refine ev_lload (M := T12_in) (pc := 7) 2 dX12_in_7 (k := ?_)
    refine ev_lcmp (M := T12_in) (pc := 9) dX12_in_9 (k := ?_)
    refine ev_ifgt (M := T12_in) (pc := 10) 17 dX12_in_10 (kt := fun hc => ?_) (kf := fun hc => ?_)
    · replace H := if_pe hc H
      refine ev_lv [] [] (k := ?_)
      exact E12_in_17 h _ H
    · replace H := if_ne hc H
      refine ev_iconst (M := T12_in) (pc := 13) dX12_in_13 (k := ?_)
      refine ev_goto (M := T12_in) (pc := 14) 18 dX12_in_14 (k := ?_)
      cases H
      exact ev_zreturn (M := T12_in) (pc := 18) (Or.inr rfl) dX12_in_18
-- X12_bit
abbrev T12_bit : JT := (RX12, cX12_bit, 5, some .int, false)
set_option maxRecDepth 100000 in
set_option maxHeartbeats 4000000 in
theorem E12_bit_36 (l1 : Int) (l2 : Int) (l3 : Int) (s0 : Int) (s1 : Int) (h : JM) (res : (Int × JM)) (H : F12_bit_36 l1 l2 l3 s0 s1 h = some res) : Ev j_W1 2 0 0 T12_bit 36 [(0, .inr (.inr (some (12, 0)))), (1, .inl (l1)), (2, .inl (l2)), (3, .inl (l3))] [.inr (.inl (s1)), .inr (.inl (s0))] h (some (.inl res.1)) res.2 := by
  unfold F12_bit_36 at H
  refine ev_aload_n (M := T12_bit) (pc := 36) 0 dX12_bit_36 (k := ?_)
  refine ev_getI (M := T12_bit) (pc := 37) (x := h.1 12 0 2) fl_X12_285 dX12_bit_37 (K := ?_)
  refine ev_iconst (M := T12_bit) (pc := 40) dX12_bit_40 (k := ?_)
  refine ev_isub (M := T12_bit) (pc := 41) dX12_bit_41 (k := ?_)
  refine ev_i2l (M := T12_bit) (pc := 42) dX12_bit_42 (k := ?_)
  obtain ⟨q1, hq, H1⟩ := bd_e H
  clear H
  refine ev_callS (M := T12_bit) (pc := 43) (mc := 0) (ms := 0) (st := []) (C12_in hq) md_X12_in ss_X12_in ml_X12_268 dX12_bit_43 _ (by decide) (K := ?_)
  refine ev_ifne (M := T12_bit) (pc := 46) 51 dX12_bit_46 (kt := fun hc => ?_) (kf := fun hc => ?_)
  · replace H1 := if_ne hc H1
    refine ev_bipush (M := T12_bit) (pc := 51) dX12_bit_51 (k := ?_)
    refine ev_iload_n (M := T12_bit) (pc := 53) 1 dX12_bit_53 (k := ?_)
    refine ev_imul (M := T12_bit) (pc := 54) dX12_bit_54 (k := ?_)
    refine ev_iload_n (M := T12_bit) (pc := 55) 2 dX12_bit_55 (k := ?_)
    refine ev_bipush (M := T12_bit) (pc := 56) dX12_bit_56 (k := ?_)
    refine ev_irem (M := T12_bit) (pc := 58) dX12_bit_58 (by decide) (k := ?_)
    refine ev_iadd (M := T12_bit) (pc := 59) dX12_bit_59 (k := ?_)
    obtain ⟨x2, ex2, H2⟩ := lt_e H1
    clear H1
    refine ev_topI ex2 ?_
    refine ev_istore (M := T12_bit) (pc := 60) [(4, .inl (x2)), (0, .inr (.inr (some (12, 0)))), (1, .inl (l1)), (2, .inl (l2)), (3, .inl (l3))] dX12_bit_60 (k := ?_)
    refine ev_iload_n (M := T12_bit) (pc := 62) 4 dX12_bit_62 (k := ?_)
    refine ev_i2l (M := T12_bit) (pc := 63) dX12_bit_63 (k := ?_)
    refine ev_lconst (M := T12_bit) (pc := 64) (v := 0) dX12_bit_64 (k := ?_)
    refine ev_aload_n (M := T12_bit) (pc := 65) 1 dX12_bit_65 (k := ?_)
    refine ev_getR (M := T12_bit) (pc := 66) (t := 172) (x := some (172, 0)) fl_X12_207 dX12_bit_66 (hx := ry_12_72 _ _) (K := ?_)
    refine ev_iload (M := T12_bit) (pc := 69) 0 dX12_bit_69 (k := ?_)
    obtain ⟨⟨hi0, hi1⟩, H3⟩ := g_e H2
    clear H2
    refine ev_iaload (M := T12_bit) (pc := 71) (k := 172) hi0 hi1 dX12_bit_71 (hc := ac_172) (hlen := ln_172 _ _) (K := ?_)
    refine ev_iconst (M := T12_bit) (pc := 72) dX12_bit_72 (k := ?_)
    refine ev_isub (M := T12_bit) (pc := 73) dX12_bit_73 (k := ?_)
    refine ev_i2l (M := T12_bit) (pc := 74) dX12_bit_74 (k := ?_)
    obtain ⟨q3, hq, H4⟩ := bd_e H3
    clear H3
    refine ev_callS (M := T12_bit) (pc := 75) (mc := 0) (ms := 0) (st := []) (C12_in hq) md_X12_in ss_X12_in ml_X12_268 dX12_bit_75 _ (by decide) (K := ?_)
    refine ev_ifeq (M := T12_bit) (pc := 78) 97 dX12_bit_78 (kt := fun hc => ?_) (kf := fun hc => ?_)
    · replace H4 := if_pe hc H4
      refine ev_iconst (M := T12_bit) (pc := 97) dX12_bit_97 (k := ?_)
      cases H4
      exact ev_ireturn (M := T12_bit) (pc := 98) dX12_bit_98
    · replace H4 := if_ne hc H4
      refine ev_aload_n (M := T12_bit) (pc := 81) 1 dX12_bit_81 (k := ?_)
      refine ev_getR (M := T12_bit) (pc := 82) (t := 171) (x := some (171, 0)) fl_X12_204 dX12_bit_82 (hx := ry_12_71 _ _) (K := ?_)
      refine ev_sipush (M := T12_bit) (pc := 85) dX12_bit_85 (k := ?_)
      refine ev_iload (M := T12_bit) (pc := 88) 0 dX12_bit_88 (k := ?_)
      refine ev_imul (M := T12_bit) (pc := 90) dX12_bit_90 (k := ?_)
      refine ev_iload_n (M := T12_bit) (pc := 91) 4 dX12_bit_91 (k := ?_)
      refine ev_iadd (M := T12_bit) (pc := 92) dX12_bit_92 (k := ?_)
      obtain ⟨⟨hi0, hi1⟩, H5⟩ := g_e H4
      clear H4
      refine ev_iaload (M := T12_bit) (pc := 93) (k := 171) hi0 hi1 dX12_bit_93 (hc := ac_171) (hlen := ln_171 _ _) (K := ?_)
      refine ev_goto (M := T12_bit) (pc := 94) 98 dX12_bit_94 (k := ?_)
      cases H5
      exact ev_ireturn (M := T12_bit) (pc := 98) dX12_bit_98
  · replace H1 := if_pe hc H1
    refine ev_iconst (M := T12_bit) (pc := 49) dX12_bit_49 (k := ?_)
    cases H1
    exact ev_ireturn (M := T12_bit) (pc := 50) dX12_bit_50
set_option maxRecDepth 100000 in
set_option maxHeartbeats 4000000 in
theorem C12_bit {l1 : Int} {l2 : Int} {l3 : Int} {h : JM} {res : (Int × JM)} (H : F12_bit l1 l2 l3 h = some res) : Cn j_W1 2 0 0 yX12_bit cX12_bit 5 (some .int) [.inr (.inr (some (12, 0))), .inl (l1), .inl (l2), .inl (l3)] h (some (.inl res.1)) res.2 := by
  refine Cn.by (own := RX12) (b := false) [(0, .inr (.inr (some (12, 0)))), (1, .inl (l1)), (2, .inl (l2)), (3, .inl (l3))] rfl (fun z => by cases z) (by decide +kernel) (K := ?_)
  unfold F12_bit at H
  refine ev_iload_n (M := T12_bit) (pc := 0) 1 dX12_bit_0 (k := ?_)
  refine ev_i2l (M := T12_bit) (pc := 1) dX12_bit_1 (k := ?_)
  refine ev_lconst (M := T12_bit) (pc := 2) (v := 0) dX12_bit_2 (k := ?_)
  refine ev_lconst (M := T12_bit) (pc := 3) (v := 1) dX12_bit_3 (k := ?_)
  obtain ⟨q4, hq, H1⟩ := bd_e H
  clear H
  refine ev_callS (M := T12_bit) (pc := 4) (mc := 0) (ms := 0) (st := []) (C12_in hq) md_X12_in ss_X12_in ml_X12_268 dX12_bit_4 _ (by decide) (K := ?_)
  refine ev_ifne (M := T12_bit) (pc := 7) 13 dX12_bit_7 (kt := fun hc => ?_) (kf := fun hc => ?_)
  · replace H1 := if_ne hc H1
    refine ev_iload_n (M := T12_bit) (pc := 13) 2 dX12_bit_13 (k := ?_)
    refine ev_i2l (M := T12_bit) (pc := 14) dX12_bit_14 (k := ?_)
    refine ev_aload_n (M := T12_bit) (pc := 15) 0 dX12_bit_15 (k := ?_)
    refine ev_getI (M := T12_bit) (pc := 16) (x := q4.2.1 12 0 2) fl_X12_285 dX12_bit_16 (K := ?_)
    refine ev_bipush (M := T12_bit) (pc := 19) dX12_bit_19 (k := ?_)
    refine ev_icmpge (M := T12_bit) (pc := 21) 28 dX12_bit_21 (kt := fun hc => ?_) (kf := fun hc => ?_)
    · replace H1 := if_pe hc H1
      refine ev_aload_n (M := T12_bit) (pc := 28) 0 dX12_bit_28 (k := ?_)
      refine ev_getI (M := T12_bit) (pc := 29) (x := q4.2.1 12 0 2) fl_X12_285 dX12_bit_29 (K := ?_)
      refine ev_bipush (M := T12_bit) (pc := 32) dX12_bit_32 (k := ?_)
      refine ev_isub (M := T12_bit) (pc := 34) dX12_bit_34 (k := ?_)
      refine ev_i2l (M := T12_bit) (pc := 35) dX12_bit_35 (k := ?_)
      exact E12_bit_36 l1 l2 l3 l2 (w32 ((q4.2.1 12 0 2) - 64)) q4.2 _ H1
    · replace H1 := if_ne hc H1
      refine ev_lconst (M := T12_bit) (pc := 24) (v := 0) dX12_bit_24 (k := ?_)
      refine ev_goto (M := T12_bit) (pc := 25) 36 dX12_bit_25 (k := ?_)
      exact E12_bit_36 l1 l2 l3 l2 0 q4.2 _ H1
  · replace H1 := if_pe hc H1
    refine ev_bipush (M := T12_bit) (pc := 10) dX12_bit_10 (k := ?_)
    cases H1
    exact ev_ireturn (M := T12_bit) (pc := 12) dX12_bit_12
-- X12_check
abbrev T12_check : JT := (RX12, cX12_check, 6, some .int, false)
set_option maxRecDepth 100000 in
set_option maxHeartbeats 4000000 in
theorem E12_check_39 (k7 : Option Int → Int → Int → Int → JM → Option (Int × JM)) (hk7 : ∀ (l0 : Option Int) (l2 : Int) (l3 : Int) (l4 : Int) (h : JM) (res : (Int × JM)), k7 l0 l2 l3 l4 h = some res → Ev j_W1 1 0 0 T12_check 7 [(0, .inr (.inr (Option.map (Prod.mk 182) (l0)))), (2, .inl (l2)), (3, .inl (l3)), (4, .inl (l4))] [] h (some (.inl res.1)) res.2) (l0 : Option Int) (l2 : Int) (l4 : Int) (s0 : Int) (s1 : Int) (h : JM) (res : (Int × JM)) (H : F12_check_39 k7 l0 l2 l4 s0 s1 h = some res) : Ev j_W1 1 0 0 T12_check 39 [(0, .inr (.inr (Option.map (Prod.mk 182) (l0)))), (2, .inl (l2)), (4, .inl (l4))] [.inl (s1), .inl (s0)] h (some (.inl res.1)) res.2 := by
  unfold F12_check_39 at H
  refine ev_ixor (M := T12_check) (pc := 39) dX12_check_39 (k := ?_)
  obtain ⟨x1, ex1, H1⟩ := lt_e H
  clear H
  refine ev_topI ex1 ?_
  refine ev_istore_n (M := T12_check) (pc := 40) [(3, .inl (x1)), (0, .inr (.inr (Option.map (Prod.mk 182) (l0)))), (2, .inl (l2)), (4, .inl (l4))] dX12_check_40 (k := ?_)
  refine ev_iinc (M := T12_check) (pc := 41) 3 [(4, .inl (w32 (l4 + 1))), (3, .inl (x1)), (0, .inr (.inr (Option.map (Prod.mk 182) (l0)))), (2, .inl (l2))] dX12_check_41 (k := ?_)
  refine ev_goto (M := T12_check) (pc := 44) 7 dX12_check_44 (k := ?_)
  refine ev_lv [2, 3, 1, 0] [(0, .inr (.inr (Option.map (Prod.mk 182) (l0)))), (2, .inl (l2)), (3, .inl (x1)), (4, .inl (w32 (l4 + 1)))] (k := ?_)
  exact hk7 l0 l2 x1 (w32 (l4 + 1)) h _ H1
set_option maxRecDepth 100000 in
set_option maxHeartbeats 4000000 in
theorem E12_check_7b (k7 : Option Int → Int → Int → Int → JM → Option (Int × JM)) (hk7 : ∀ (l0 : Option Int) (l2 : Int) (l3 : Int) (l4 : Int) (h : JM) (res : (Int × JM)), k7 l0 l2 l3 l4 h = some res → Ev j_W1 1 0 0 T12_check 7 [(0, .inr (.inr (Option.map (Prod.mk 182) (l0)))), (2, .inl (l2)), (3, .inl (l3)), (4, .inl (l4))] [] h (some (.inl res.1)) res.2) (l0 : Option Int) (l2 : Int) (l3 : Int) (l4 : Int) (h : JM) (res : (Int × JM)) (H : F12_check_7b k7 l0 l2 l3 l4 h = some res) : Ev j_W1 1 0 0 T12_check 7 [(0, .inr (.inr (Option.map (Prod.mk 182) (l0)))), (2, .inl (l2)), (3, .inl (l3)), (4, .inl (l4))] [] h (some (.inl res.1)) res.2 := by
  unfold F12_check_7b at H
  refine ev_iload (M := T12_check) (pc := 7) 3 dX12_check_7 (k := ?_)
  refine ev_iload_n (M := T12_check) (pc := 9) 1 dX12_check_9 (k := ?_)
  refine ev_icmpge (M := T12_check) (pc := 10) 47 dX12_check_10 (kt := fun hc => ?_) (kf := fun hc => ?_)
  · replace H := if_pe hc H
    refine ev_ldcw (M := T12_check) (pc := 47) (n := 65535) ct_X12_431 dX12_check_47 (hv := cv_X12_431) (k := ?_)
    refine ev_iload_n (M := T12_check) (pc := 50) 2 dX12_check_50 (k := ?_)
    refine ev_isub (M := T12_check) (pc := 51) dX12_check_51 (k := ?_)
    cases H
    exact ev_ireturn (M := T12_check) (pc := 52) dX12_check_52
  · replace H := if_ne hc H
    refine ev_iload_n (M := T12_check) (pc := 13) 2 dX12_check_13 (k := ?_)
    refine ev_aload_n (M := T12_check) (pc := 14) 0 dX12_check_14 (k := ?_)
    refine ev_iload (M := T12_check) (pc := 15) 3 dX12_check_15 (k := ?_)
    obtain ⟨a2, ea2, H1⟩ := bd_e H
    clear H
    rw [ea2]
    obtain ⟨⟨hi0, hi1⟩, H2⟩ := g_e H1
    clear H1
    refine ev_iaload (M := T12_check) (pc := 17) (k := 182) hi0 hi1 dX12_check_17 (hc := ac_182) (hlen := ln_182 _ _) (K := ?_)
    refine ev_ixor (M := T12_check) (pc := 18) dX12_check_18 (k := ?_)
    obtain ⟨x3, ex3, H3⟩ := lt_e H2
    clear H2
    refine ev_topI ex3 ?_
    refine ev_istore (M := T12_check) (pc := 19) [(5, .inl (x3)), (0, .inr (.inr (some (182, a2)))), (2, .inl (l2)), (3, .inl (l3)), (4, .inl (l4))] dX12_check_19 (k := ?_)
    refine ev_iload_n (M := T12_check) (pc := 21) 3 dX12_check_21 (k := ?_)
    refine ev_iconst (M := T12_check) (pc := 22) dX12_check_22 (k := ?_)
    refine ev_ishr (M := T12_check) (pc := 23) dX12_check_23 (k := ?_)
    refine ev_iload (M := T12_check) (pc := 24) 0 dX12_check_24 (k := ?_)
    refine ev_iconst (M := T12_check) (pc := 26) dX12_check_26 (k := ?_)
    refine ev_irem (M := T12_check) (pc := 27) dX12_check_27 (by decide) (k := ?_)
    refine ev_iconst (M := T12_check) (pc := 28) dX12_check_28 (k := ?_)
    refine ev_icmpne (M := T12_check) (pc := 29) 38 dX12_check_29 (kt := fun hc => ?_) (kf := fun hc => ?_)
    · replace H3 := if_ne hc H3
      refine ev_iconst (M := T12_check) (pc := 38) dX12_check_38 (k := ?_)
      refine ev_lv [1, 2, 4] [(0, .inr (.inr (some (182, a2)))), (2, .inl (l2)), (4, .inl (l4))] (k := ?_)
      exact E12_check_39 k7 hk7 (some a2) l2 l4 (j_shr l3 1) 0 h _ H3
    · replace H3 := if_pe hc H3
      refine ev_ldcw (M := T12_check) (pc := 32) (n := 33800) ct_X12_432 dX12_check_32 (hv := cv_X12_432) (k := ?_)
      refine ev_goto (M := T12_check) (pc := 35) 39 dX12_check_35 (k := ?_)
      refine ev_lv [1, 2, 4] [(0, .inr (.inr (some (182, a2)))), (2, .inl (l2)), (4, .inl (l4))] (k := ?_)
      exact E12_check_39 k7 hk7 (some a2) l2 l4 (j_shr l3 1) 33800 h _ H3
theorem E12_check_7 (n : Nat) : ∀ (l0 : Option Int) (l2 : Int) (l3 : Int) (l4 : Int) (h : JM) (res : (Int × JM)), F12_check_7 n l0 l2 l3 l4 h = some res → Ev j_W1 1 0 0 T12_check 7 [(0, .inr (.inr (Option.map (Prod.mk 182) (l0)))), (2, .inl (l2)), (3, .inl (l3)), (4, .inl (l4))] [] h (some (.inl res.1)) res.2 := by
  induction n with
  | zero =>
    intro l0 l2 l3 l4 h res H
    cases H
  | succ n ih =>
    intro l0 l2 l3 l4 h res H
    exact E12_check_7b (F12_check_7 n) ih l0 l2 l3 l4 h res H
set_option maxRecDepth 100000 in
set_option maxHeartbeats 4000000 in
theorem C12_check {l0 : Option Int} {l1 : Int} {l2 : Int} {h : JM} {res : (Int × JM)} (H : F12_check l0 l1 l2 h = some res) : Cn j_W1 1 0 0 yX12_check cX12_check 6 (some .int) [.inr (.inr (Option.map (Prod.mk 182) (l0))), .inl (l1), .inl (l2)] h (some (.inl res.1)) res.2 := by
  refine Cn.by (own := RX12) (b := false) [(0, .inr (.inr (Option.map (Prod.mk 182) (l0)))), (1, .inl (l1)), (2, .inl (l2))] rfl (fun z => by cases z) (by decide +kernel) (K := ?_)
  unfold F12_check at H
  refine ev_ldcw (M := T12_check) (pc := 0) (n := 65535) ct_X12_431 dX12_check_0 (hv := cv_X12_431) (k := ?_)
  refine ev_istore_n (M := T12_check) (pc := 3) [(3, .inl (65535)), (0, .inr (.inr (Option.map (Prod.mk 182) (l0)))), (1, .inl (l1)), (2, .inl (l2))] dX12_check_3 (k := ?_)
  refine ev_iload_n (M := T12_check) (pc := 4) 2 dX12_check_4 (k := ?_)
  refine ev_istore (M := T12_check) (pc := 5) [(4, .inl (l1)), (3, .inl (65535)), (0, .inr (.inr (Option.map (Prod.mk 182) (l0)))), (1, .inl (l1)), (2, .inl (l2))] dX12_check_5 (k := ?_)
  refine ev_lv [2, 4, 1, 0] [(0, .inr (.inr (Option.map (Prod.mk 182) (l0)))), (2, .inl (l2)), (3, .inl (65535)), (4, .inl (l1))] (k := ?_)
  exact E12_check_7 j_fu l0 l2 65535 l1 h _ H
-- X12_circuit
abbrev T12_circuit : JT := (RX12, cX12_circuit, 3, some .int, false)
set_option maxRecDepth 100000 in
set_option maxHeartbeats 4000000 in
theorem E12_circuit_40 (h : JM) (res : (Int × JM)) (H : F12_circuit_40 h = some res) : Ev j_W1 2 0 0 T12_circuit 40 [] [] h (some (.inl res.1)) res.2 := by
  unfold F12_circuit_40 at H
  refine ev_bipush (M := T12_circuit) (pc := 40) dX12_circuit_40 (k := ?_)
  cases H
  exact ev_ireturn (M := T12_circuit) (pc := 42) dX12_circuit_42
set_option maxRecDepth 100000 in
set_option maxHeartbeats 4000000 in
theorem C12_circuit {l1 : Int} {l2 : Int} {h : JM} {res : (Int × JM)} (H : F12_circuit l1 l2 h = some res) : Cn j_W1 2 0 0 yX12_circuit cX12_circuit 3 (some .int) [.inr (.inr (some (12, 0))), .inl (l1), .inl (l2)] h (some (.inl res.1)) res.2 := by
  refine Cn.by (own := RX12) (b := false) [(0, .inr (.inr (some (12, 0)))), (1, .inl (l1)), (2, .inl (l2))] rfl (fun z => by cases z) (by decide +kernel) (K := ?_)
  unfold F12_circuit at H
  refine ev_iload_n (M := T12_circuit) (pc := 0) 1 dX12_circuit_0 (k := ?_)
  refine ev_i2l (M := T12_circuit) (pc := 1) dX12_circuit_1 (k := ?_)
  refine ev_lconst (M := T12_circuit) (pc := 2) (v := 0) dX12_circuit_2 (k := ?_)
  refine ev_lconst (M := T12_circuit) (pc := 3) (v := 1) dX12_circuit_3 (k := ?_)
  obtain ⟨q1, hq, H1⟩ := bd_e H
  clear H
  refine ev_callS (M := T12_circuit) (pc := 4) (mc := 0) (ms := 0) (st := []) (C12_in hq) md_X12_in ss_X12_in ml_X12_268 dX12_circuit_4 _ (by decide) (K := ?_)
  refine ev_ifeq (M := T12_circuit) (pc := 7) 40 dX12_circuit_7 (kt := fun hc => ?_) (kf := fun hc => ?_)
  · replace H1 := if_pe hc H1
    refine ev_lv [] [] (k := ?_)
    exact E12_circuit_40 q1.2 _ H1
  · replace H1 := if_ne hc H1
    refine ev_iload_n (M := T12_circuit) (pc := 10) 2 dX12_circuit_10 (k := ?_)
    refine ev_i2l (M := T12_circuit) (pc := 11) dX12_circuit_11 (k := ?_)
    refine ev_lconst (M := T12_circuit) (pc := 12) (v := 0) dX12_circuit_12 (k := ?_)
    refine ev_aload_n (M := T12_circuit) (pc := 13) 0 dX12_circuit_13 (k := ?_)
    refine ev_getI (M := T12_circuit) (pc := 14) (x := q1.2.1 12 0 0) fl_X12_255 dX12_circuit_14 (K := ?_)
    refine ev_iconst (M := T12_circuit) (pc := 17) dX12_circuit_17 (k := ?_)
    refine ev_isub (M := T12_circuit) (pc := 18) dX12_circuit_18 (k := ?_)
    refine ev_i2l (M := T12_circuit) (pc := 19) dX12_circuit_19 (k := ?_)
    obtain ⟨q2, hq, H2⟩ := bd_e H1
    clear H1
    refine ev_callS (M := T12_circuit) (pc := 20) (mc := 0) (ms := 0) (st := []) (C12_in hq) md_X12_in ss_X12_in ml_X12_268 dX12_circuit_20 _ (by decide) (K := ?_)
    refine ev_ifeq (M := T12_circuit) (pc := 23) 40 dX12_circuit_23 (kt := fun hc => ?_) (kf := fun hc => ?_)
    · replace H2 := if_pe hc H2
      refine ev_lv [] [] (k := ?_)
      exact E12_circuit_40 q2.2 _ H2
    · replace H2 := if_ne hc H2
      refine ev_aload_n (M := T12_circuit) (pc := 26) 0 dX12_circuit_26 (k := ?_)
      refine ev_getR (M := T12_circuit) (pc := 27) (t := 154) (x := some (154, 0)) fl_X12_158 dX12_circuit_27 (hx := ry_12_54 _ _) (K := ?_)
      refine ev_bipush (M := T12_circuit) (pc := 30) dX12_circuit_30 (k := ?_)
      refine ev_iload_n (M := T12_circuit) (pc := 32) 1 dX12_circuit_32 (k := ?_)
      refine ev_imul (M := T12_circuit) (pc := 33) dX12_circuit_33 (k := ?_)
      refine ev_iload_n (M := T12_circuit) (pc := 34) 2 dX12_circuit_34 (k := ?_)
      refine ev_iadd (M := T12_circuit) (pc := 35) dX12_circuit_35 (k := ?_)
      obtain ⟨⟨hi0, hi1⟩, H3⟩ := g_e H2
      clear H2
      refine ev_iaload (M := T12_circuit) (pc := 36) (k := 154) hi0 hi1 dX12_circuit_36 (hc := ac_154) (hlen := ln_154 _ _) (K := ?_)
      refine ev_goto (M := T12_circuit) (pc := 37) 42 dX12_circuit_37 (k := ?_)
      cases H3
      exact ev_ireturn (M := T12_circuit) (pc := 42) dX12_circuit_42
-- X12_clears
abbrev T12_clears : JT := (RX12, cX12_clears, 2, none, false)
set_option maxRecDepth 100000 in
set_option maxHeartbeats 4000000 in
theorem C12_clears {l1 : Int} {h : JM} {res : JM} (H : F12_clears l1 h = some res) : Cn j_W1 1 0 0 yX12_clears cX12_clears 2 none [.inr (.inr (some (12, 0))), .inl (l1)] h none res := by
  refine Cn.by (own := RX12) (b := false) [(0, .inr (.inr (some (12, 0)))), (1, .inl (l1))] rfl (fun z => by cases z) (by decide +kernel) (K := ?_)
  unfold F12_clears at H
  refine ev_aload_n (M := T12_clears) (pc := 0) 0 dX12_clears_0 (k := ?_)
  refine ev_getR (M := T12_clears) (pc := 1) (t := 114) (x := some (114, 0)) fl_X12_41 dX12_clears_1 (hx := ry_12_14 _ _) (K := ?_)
  refine ev_iload_n (M := T12_clears) (pc := 4) 1 dX12_clears_4 (k := ?_)
  refine ev_iconst (M := T12_clears) (pc := 5) dX12_clears_5 (k := ?_)
  obtain ⟨⟨hi0, hi1⟩, H1⟩ := g_e H
  clear H
  obtain ⟨h1, eh1, H2⟩ := lt_e H1
  clear H1
  refine ev_iastore (M := T12_clears) (pc := 6) (k := 114) j_ok1 hi0 hi1 eh1 dX12_clears_6 (hc := ac_114) (hlen := ln_114 _ _) (K := ?_)
  refine ev_aload_n (M := T12_clears) (pc := 7) 0 dX12_clears_7 (k := ?_)
  refine ev_getR (M := T12_clears) (pc := 8) (t := 116) (x := some (116, 0)) fl_X12_47 dX12_clears_8 (hx := ry_12_16 _ _) (K := ?_)
  refine ev_iload_n (M := T12_clears) (pc := 11) 1 dX12_clears_11 (k := ?_)
  refine ev_iconst (M := T12_clears) (pc := 12) dX12_clears_12 (k := ?_)
  obtain ⟨⟨hi0, hi1⟩, H3⟩ := g_e H2
  clear H2
  obtain ⟨h2, eh2, H4⟩ := lt_e H3
  clear H3
  refine ev_iastore (M := T12_clears) (pc := 13) (k := 116) j_ok1 hi0 hi1 eh2 dX12_clears_13 (hc := ac_116) (hlen := ln_116 _ _) (K := ?_)
  refine ev_aload_n (M := T12_clears) (pc := 14) 0 dX12_clears_14 (k := ?_)
  refine ev_getR (M := T12_clears) (pc := 15) (t := 115) (x := some (115, 0)) fl_X12_44 dX12_clears_15 (hx := ry_12_15 _ _) (K := ?_)
  refine ev_iload_n (M := T12_clears) (pc := 18) 1 dX12_clears_18 (k := ?_)
  refine ev_iconst (M := T12_clears) (pc := 19) dX12_clears_19 (k := ?_)
  obtain ⟨⟨hi0, hi1⟩, H5⟩ := g_e H4
  clear H4
  obtain ⟨h3, eh3, H6⟩ := lt_e H5
  clear H5
  refine ev_iastore (M := T12_clears) (pc := 20) (k := 115) j_ok1 hi0 hi1 eh3 dX12_clears_20 (hc := ac_115) (hlen := ln_115 _ _) (K := ?_)
  refine ev_aload_n (M := T12_clears) (pc := 21) 0 dX12_clears_21 (k := ?_)
  refine ev_getR (M := T12_clears) (pc := 22) (t := 118) (x := some (118, 0)) fl_X12_53 dX12_clears_22 (hx := ry_12_18 _ _) (K := ?_)
  refine ev_iload_n (M := T12_clears) (pc := 25) 1 dX12_clears_25 (k := ?_)
  refine ev_iconst (M := T12_clears) (pc := 26) dX12_clears_26 (k := ?_)
  obtain ⟨⟨hi0, hi1⟩, H7⟩ := g_e H6
  clear H6
  obtain ⟨h4, eh4, H8⟩ := lt_e H7
  clear H7
  refine ev_iastore (M := T12_clears) (pc := 27) (k := 118) j_ok1 hi0 hi1 eh4 dX12_clears_27 (hc := ac_118) (hlen := ln_118 _ _) (K := ?_)
  cases H8
  exact ev_return (M := T12_clears) (pc := 28) dX12_clears_28
-- X12_highest
abbrev T12_highest : JT := (RX12, cX12_highest, 2, some .int, false)
set_option maxRecDepth 100000 in
set_option maxHeartbeats 4000000 in
theorem E12_highest_2b (k2 : Int → Int → JM → Option (Int × JM)) (hk2 : ∀ (l0 : Int) (l1 : Int) (h : JM) (res : (Int × JM)), k2 l0 l1 h = some res → Ev j_W1 1 0 0 T12_highest 2 [(0, .inl (l0)), (1, .inl (l1))] [] h (some (.inl res.1)) res.2) (l0 : Int) (l1 : Int) (h : JM) (res : (Int × JM)) (H : F12_highest_2b k2 l0 l1 h = some res) : Ev j_W1 1 0 0 T12_highest 2 [(0, .inl (l0)), (1, .inl (l1))] [] h (some (.inl res.1)) res.2 := by
  unfold F12_highest_2b at H
  refine ev_iload_n (M := T12_highest) (pc := 2) 0 dX12_highest_2 (k := ?_)
  refine ev_iload_n (M := T12_highest) (pc := 3) 1 dX12_highest_3 (k := ?_)
  refine ev_iconst (M := T12_highest) (pc := 4) dX12_highest_4 (k := ?_)
  refine ev_iadd (M := T12_highest) (pc := 5) dX12_highest_5 (k := ?_)
  refine ev_ishr (M := T12_highest) (pc := 6) dX12_highest_6 (k := ?_)
  refine ev_ifeq (M := T12_highest) (pc := 7) 16 dX12_highest_7 (kt := fun hc => ?_) (kf := fun hc => ?_)
  · replace H := if_pe hc H
    refine ev_iload_n (M := T12_highest) (pc := 16) 1 dX12_highest_16 (k := ?_)
    cases H
    exact ev_ireturn (M := T12_highest) (pc := 17) dX12_highest_17
  · replace H := if_ne hc H
    refine ev_iinc (M := T12_highest) (pc := 10) 1 [(1, .inl (w32 (l1 + 1))), (0, .inl (l0))] dX12_highest_10 (k := ?_)
    refine ev_goto (M := T12_highest) (pc := 13) 2 dX12_highest_13 (k := ?_)
    refine ev_lv [1, 0] [(0, .inl (l0)), (1, .inl (w32 (l1 + 1)))] (k := ?_)
    exact hk2 l0 (w32 (l1 + 1)) h _ H
theorem E12_highest_2 (n : Nat) : ∀ (l0 : Int) (l1 : Int) (h : JM) (res : (Int × JM)), F12_highest_2 n l0 l1 h = some res → Ev j_W1 1 0 0 T12_highest 2 [(0, .inl (l0)), (1, .inl (l1))] [] h (some (.inl res.1)) res.2 := by
  induction n with
  | zero =>
    intro l0 l1 h res H
    cases H
  | succ n ih =>
    intro l0 l1 h res H
    exact E12_highest_2b (F12_highest_2 n) ih l0 l1 h res H
set_option maxRecDepth 100000 in
set_option maxHeartbeats 4000000 in
theorem C12_highest {l0 : Int} {h : JM} {res : (Int × JM)} (H : F12_highest l0 h = some res) : Cn j_W1 1 0 0 yX12_highest cX12_highest 2 (some .int) [.inl (l0)] h (some (.inl res.1)) res.2 := by
  refine Cn.by (own := RX12) (b := false) [(0, .inl (l0))] rfl (fun z => by cases z) (by decide +kernel) (K := ?_)
  unfold F12_highest at H
  refine ev_iconst (M := T12_highest) (pc := 0) dX12_highest_0 (k := ?_)
  refine ev_istore_n (M := T12_highest) (pc := 1) [(1, .inl (0)), (0, .inl (l0))] dX12_highest_1 (k := ?_)
  refine ev_lv [1, 0] [(0, .inl (l0)), (1, .inl (0))] (k := ?_)
  exact E12_highest_2 j_fu l0 0 h _ H
