-- X11_tellEnd
abbrev T11_tellEnd : JT := (RX11, cX11_tellEnd, 5, none, false)
set_option maxRecDepth 100000 in
set_option maxHeartbeats 4000000 in
theorem E11_tellEnd_44 (l1 : Option Int) (l3 : Option Int) (l4 : Int) (h : JM) (res : JM) (H : F11_tellEnd_44 l1 l3 l4 h = some res) : Ev j_W1 2 0 0 T11_tellEnd 44 [(1, .inr (.inr (Option.map (Prod.mk 0) (l1)))), (3, .inr (.inr (Option.map (Prod.mk 8) (l3)))), (4, .inl (l4))] [] h none res := by
  unfold F11_tellEnd_44 at H
  refine ev_aload_n (M := T11_tellEnd) (pc := 44) 1 dX11_tellEnd_44 (k := ?_)
  refine ev_nullK (M := T11_tellEnd) (pc := 45) l3 79 dX11_tellEnd_45 (kt := fun hc => ?_) (kf := fun hc => ?_)
  · replace H := if_pe hc H
    cases H
    exact ev_return (M := T11_tellEnd) (pc := 79) dX11_tellEnd_79
  · replace H := if_ne hc H
    refine ev_aload_n (M := T11_tellEnd) (pc := 48) 1 dX11_tellEnd_48 (k := ?_)
    refine ev_iconst (M := T11_tellEnd) (pc := 49) dX11_tellEnd_49 (k := ?_)
    obtain ⟨a1, ea1, H1⟩ := bd_e H
    clear H
    rw [ea1]
    obtain ⟨h2, eh2, H2⟩ := lt_e H1
    clear H1
    refine ev_putI (M := T11_tellEnd) (pc := 50) j_ok1 fl_X11_250 eh2 dX11_tellEnd_50 (K := ?_)
    refine ev_aload_n (M := T11_tellEnd) (pc := 53) 1 dX11_tellEnd_53 (k := ?_)
    refine ev_null (M := T11_tellEnd) (pc := 54) dX11_tellEnd_54 (k := ?_)
    obtain ⟨h3, eh3, H3⟩ := lt_e H2
    clear H2
    refine ev_putR (M := T11_tellEnd) (pc := 55) (t := 0) j_ok1 none fl_X11_352 eh3 (hdg := dX11_tellEnd_55) (hly := rl_8_3 _) (K := ?_)
    refine ev_aload_n (M := T11_tellEnd) (pc := 58) 0 dX11_tellEnd_58 (k := ?_)
    obtain ⟨a4, ea4, H4⟩ := bd_e H3
    clear H3
    rw [ea4]
    refine ev_getR (M := T11_tellEnd) (pc := 59) (t := 1) (x := Option.map (Prod.mk 1) (h3.2.2 0 a4 0)) fl_X11_444 dX11_tellEnd_59 (hx := ry_0_0 _ _) (K := ?_)
    obtain ⟨a5, ea5, H5⟩ := bd_e H4
    clear H4
    rw [ea5]
    refine ev_getR (M := T11_tellEnd) (pc := 62) (t := 5) (x := some (5, a5)) fl_X11_261 dX11_tellEnd_62 (hx := ry_1_7 _ _) (K := ?_)
    refine ev_iconst (M := T11_tellEnd) (pc := 65) dX11_tellEnd_65 (k := ?_)
    refine ev_aload_n (M := T11_tellEnd) (pc := 66) 1 dX11_tellEnd_66 (k := ?_)
    refine ev_getI (M := T11_tellEnd) (pc := 67) (x := h3.1 8 a1 0) fl_X11_320 dX11_tellEnd_67 (K := ?_)
    refine ev_iload (M := T11_tellEnd) (pc := 70) 2 dX11_tellEnd_70 (k := ?_)
    refine ev_i2l (M := T11_tellEnd) (pc := 72) dX11_tellEnd_72 (k := ?_)
    obtain ⟨q6, hq, H6⟩ := bd_e H5
    clear H5
    refine ev_callS (M := T11_tellEnd) (pc := 73) (mc := 0) (ms := 0) (st := [.inr (.inr (some (5, a5)))]) (C9_pack hq) md_X9_pack ss_X9_pack ml_X11_404 dX11_tellEnd_73 _ (by decide) (K := ?_)
    obtain ⟨h7, hq, H7⟩ := bd_e H6
    clear H6
    refine ev_callV (M := T11_tellEnd) (pc := 76) (mc := 0) (ms := 0) (st := []) (C5_post hq) md_X5_post im_X5_post se_X5_post ml_X11_408 dX11_tellEnd_76 _ (by decide) (K := ?_)
    cases H7
    exact ev_return (M := T11_tellEnd) (pc := 79) dX11_tellEnd_79
set_option maxRecDepth 100000 in
set_option maxHeartbeats 4000000 in
theorem E11_tellEnd_41 (l1 : Option Int) (l3 : Option Int) (l4 : Int) (s0 : Option Int) (s1 : Int) (h : JM) (res : JM) (H : F11_tellEnd_41 l1 l3 l4 s0 s1 h = some res) : Ev j_W1 2 0 0 T11_tellEnd 41 [(1, .inr (.inr (Option.map (Prod.mk 0) (l1)))), (3, .inr (.inr (Option.map (Prod.mk 8) (l3)))), (4, .inl (l4))] [.inl (s1), .inr (.inr (Option.map (Prod.mk 4) (s0)))] h none res := by
  unfold F11_tellEnd_41 at H
  obtain ⟨a8, ea8, H1⟩ := bd_e H
  clear H
  rw [ea8]
  obtain ⟨h9, eh9, H2⟩ := lt_e H1
  clear H1
  refine ev_putI (M := T11_tellEnd) (pc := 41) j_ok1 fl_X11_435 eh9 dX11_tellEnd_41 (K := ?_)
  exact E11_tellEnd_44 l1 l3 l4 h9 _ H2
set_option maxRecDepth 100000 in
set_option maxHeartbeats 4000000 in
theorem C11_tellEnd {l1 : Option Int} {l2 : Option Int} {l3 : Option Int} {l4 : Int} {h : JM} {res : JM} (H : F11_tellEnd l1 l2 l3 l4 h = some res) : Cn j_W1 2 0 0 yX11_tellEnd cX11_tellEnd 5 none [.inr (.inr (some (11, 0))), .inr (.inr (Option.map (Prod.mk 0) (l1))), .inr (.inr (Option.map (Prod.mk 4) (l2))), .inr (.inr (Option.map (Prod.mk 8) (l3))), .inl (l4)] h none res := by
  refine Cn.by (own := RX11) (b := false) [(0, .inr (.inr (some (11, 0)))), (1, .inr (.inr (Option.map (Prod.mk 0) (l1)))), (2, .inr (.inr (Option.map (Prod.mk 4) (l2)))), (3, .inr (.inr (Option.map (Prod.mk 8) (l3)))), (4, .inl (l4))] rfl (fun z => by cases z) (by decide +kernel) (K := ?_)
  unfold F11_tellEnd at H
  refine ev_aload_n (M := T11_tellEnd) (pc := 0) 2 dX11_tellEnd_0 (k := ?_)
  refine ev_nullK (M := T11_tellEnd) (pc := 1) l2 44 dX11_tellEnd_1 (kt := fun hc => ?_) (kf := fun hc => ?_)
  · replace H := if_pe hc H
    refine ev_lv [1, 3, 4] [(1, .inr (.inr (Option.map (Prod.mk 0) (l1)))), (3, .inr (.inr (Option.map (Prod.mk 8) (l3)))), (4, .inl (l4))] (k := ?_)
    exact E11_tellEnd_44 l1 l3 l4 h _ H
  · replace H := if_ne hc H
    refine ev_aload_n (M := T11_tellEnd) (pc := 4) 0 dX11_tellEnd_4 (k := ?_)
    refine ev_aload_n (M := T11_tellEnd) (pc := 5) 1 dX11_tellEnd_5 (k := ?_)
    refine ev_aload_n (M := T11_tellEnd) (pc := 6) 2 dX11_tellEnd_6 (k := ?_)
    obtain ⟨h10, hq, H1⟩ := bd_e H
    clear H
    refine ev_callV (M := T11_tellEnd) (pc := 7) (mc := 0) (ms := 0) (st := []) (C11_ringNoMore hq) md_X11_ringNoMore im_X11_ringNoMore se_X11_ringNoMore ml_X11_530 dX11_tellEnd_7 _ (by decide) (K := ?_)
    refine ev_aload_n (M := T11_tellEnd) (pc := 10) 2 dX11_tellEnd_10 (k := ?_)
    obtain ⟨a11, ea11, H2⟩ := bd_e H1
    clear H1
    rw [ea11]
    refine ev_getR (M := T11_tellEnd) (pc := 11) (t := 0) (x := Option.map (Prod.mk 0) (h10.2.2 4 a11 11)) fl_X11_206 dX11_tellEnd_11 (hx := ry_4_11 _ _) (K := ?_)
    refine ev_aload_n (M := T11_tellEnd) (pc := 14) 1 dX11_tellEnd_14 (k := ?_)
    refine ev_acmpneK (M := T11_tellEnd) (pc := 15) (h10.2.2 4 a11 11) l1 44 dX11_tellEnd_15 (kt := fun hc => ?_) (kf := fun hc => ?_)
    · replace H2 := if_ne hc H2
      refine ev_lv [1, 3, 4] [(1, .inr (.inr (Option.map (Prod.mk 0) (l1)))), (3, .inr (.inr (Option.map (Prod.mk 8) (l3)))), (4, .inl (l4))] (k := ?_)
      exact E11_tellEnd_44 l1 l3 l4 h10 _ H2
    · replace H2 := if_pe hc H2
      refine ev_aload_n (M := T11_tellEnd) (pc := 18) 2 dX11_tellEnd_18 (k := ?_)
      refine ev_null (M := T11_tellEnd) (pc := 19) dX11_tellEnd_19 (k := ?_)
      obtain ⟨h12, eh12, H3⟩ := lt_e H2
      clear H2
      refine ev_putR (M := T11_tellEnd) (pc := 20) (t := 0) j_ok1 none fl_X11_206 eh12 (hdg := dX11_tellEnd_20) (hly := rl_4_11 _) (K := ?_)
      refine ev_aload_n (M := T11_tellEnd) (pc := 23) 2 dX11_tellEnd_23 (k := ?_)
      refine ev_iload (M := T11_tellEnd) (pc := 24) 4 dX11_tellEnd_24 (k := ?_)
      obtain ⟨h13, eh13, H4⟩ := lt_e H3
      clear H3
      refine ev_putI (M := T11_tellEnd) (pc := 26) j_ok1 fl_X11_216 eh13 dX11_tellEnd_26 (K := ?_)
      refine ev_aload_n (M := T11_tellEnd) (pc := 29) 2 dX11_tellEnd_29 (k := ?_)
      refine ev_iload (M := T11_tellEnd) (pc := 30) 4 dX11_tellEnd_30 (k := ?_)
      refine ev_iconst (M := T11_tellEnd) (pc := 32) dX11_tellEnd_32 (k := ?_)
      refine ev_icmpne (M := T11_tellEnd) (pc := 33) 40 dX11_tellEnd_33 (kt := fun hc => ?_) (kf := fun hc => ?_)
      · replace H4 := if_ne hc H4
        refine ev_iconst (M := T11_tellEnd) (pc := 40) dX11_tellEnd_40 (k := ?_)
        refine ev_lv [1, 3, 4] [(1, .inr (.inr (Option.map (Prod.mk 0) (l1)))), (3, .inr (.inr (Option.map (Prod.mk 8) (l3)))), (4, .inl (l4))] (k := ?_)
        exact E11_tellEnd_41 l1 l3 l4 (some a11) 3 h13 _ H4
      · replace H4 := if_pe hc H4
        refine ev_iconst (M := T11_tellEnd) (pc := 36) dX11_tellEnd_36 (k := ?_)
        refine ev_goto (M := T11_tellEnd) (pc := 37) 41 dX11_tellEnd_37 (k := ?_)
        refine ev_lv [1, 3, 4] [(1, .inr (.inr (Option.map (Prod.mk 0) (l1)))), (3, .inr (.inr (Option.map (Prod.mk 8) (l3)))), (4, .inl (l4))] (k := ?_)
        exact E11_tellEnd_41 l1 l3 l4 (some a11) 4 h13 _ H4
-- X11_end
abbrev T11_end : JT := (RX11, cX11_end, 4, none, false)
set_option maxRecDepth 100000 in
set_option maxHeartbeats 4000000 in
theorem E11_end_117 (l1 : Option Int) (h : JM) (res : JM) (H : F11_end_117 l1 h = some res) : Ev j_W1 3 0 0 T11_end 117 [(0, .inr (.inr (some (11, 0)))), (1, .inr (.inr (Option.map (Prod.mk 0) (l1))))] [] h none res := by
  unfold F11_end_117 at H
  refine ev_aload_n (M := T11_end) (pc := 117) 1 dX11_end_117 (k := ?_)
  refine ev_iconst (M := T11_end) (pc := 118) dX11_end_118 (k := ?_)
  obtain ⟨a1, ea1, H1⟩ := bd_e H
  clear H
  rw [ea1]
  obtain ⟨h2, eh2, H2⟩ := lt_e H1
  clear H1
  refine ev_putI (M := T11_end) (pc := 119) j_ok1 fl_X11_210 eh2 dX11_end_119 (K := ?_)
  refine ev_aload_n (M := T11_end) (pc := 122) 0 dX11_end_122 (k := ?_)
  refine ev_dup (M := T11_end) (pc := 123) dX11_end_123 (k := ?_)
  refine ev_getI (M := T11_end) (pc := 124) (x := h2.1 11 0 13) fl_X11_309 dX11_end_124 (K := ?_)
  refine ev_iconst (M := T11_end) (pc := 127) dX11_end_127 (k := ?_)
  refine ev_isub (M := T11_end) (pc := 128) dX11_end_128 (k := ?_)
  obtain ⟨h3, eh3, H3⟩ := lt_e H2
  clear H2
  refine ev_putI (M := T11_end) (pc := 129) j_ok1 fl_X11_309 eh3 dX11_end_129 (K := ?_)
  cases H3
  exact ev_return (M := T11_end) (pc := 132) dX11_end_132
set_option maxRecDepth 100000 in
set_option maxHeartbeats 4000000 in
theorem E11_end_90 (l1 : Option Int) (h : JM) (res : JM) (H : F11_end_90 l1 h = some res) : Ev j_W1 3 0 0 T11_end 90 [(0, .inr (.inr (some (11, 0)))), (1, .inr (.inr (Option.map (Prod.mk 0) (l1))))] [] h none res := by
  unfold F11_end_90 at H
  refine ev_aload_n (M := T11_end) (pc := 90) 1 dX11_end_90 (k := ?_)
  obtain ⟨a4, ea4, H1⟩ := bd_e H
  clear H
  rw [ea4]
  refine ev_getI (M := T11_end) (pc := 91) (x := h.1 0 a4 9) fl_X11_210 dX11_end_91 (K := ?_)
  refine ev_iconst (M := T11_end) (pc := 94) dX11_end_94 (k := ?_)
  refine ev_icmpne (M := T11_end) (pc := 95) 117 dX11_end_95 (kt := fun hc => ?_) (kf := fun hc => ?_)
  · replace H1 := if_ne hc H1
    exact E11_end_117 (some a4) h _ H1
  · replace H1 := if_pe hc H1
    refine ev_aload_n (M := T11_end) (pc := 98) 1 dX11_end_98 (k := ?_)
    refine ev_getR (M := T11_end) (pc := 99) (t := 4) (x := Option.map (Prod.mk 4) (h.2.2 0 a4 1)) fl_X11_223 dX11_end_99 (hx := ry_0_1 _ _) (K := ?_)
    refine ev_nullK (M := T11_end) (pc := 102) (h.2.2 0 a4 1) 117 dX11_end_102 (kt := fun hc => ?_) (kf := fun hc => ?_)
    · replace H1 := if_pe hc H1
      exact E11_end_117 (some a4) h _ H1
    · replace H1 := if_ne hc H1
      refine ev_aload_n (M := T11_end) (pc := 105) 0 dX11_end_105 (k := ?_)
      refine ev_getR (M := T11_end) (pc := 106) (t := 3) (x := some (3, 0)) fl_X11_30 dX11_end_106 (hx := ry_11_5 _ _) (K := ?_)
      refine ev_aload_n (M := T11_end) (pc := 109) 1 dX11_end_109 (k := ?_)
      refine ev_aload_n (M := T11_end) (pc := 110) 0 dX11_end_110 (k := ?_)
      refine ev_getI (M := T11_end) (pc := 111) (x := h.1 11 0 10) fl_X11_177 dX11_end_111 (K := ?_)
      obtain ⟨h5, hq, H2⟩ := bd_e H1
      clear H1
      refine ev_callV (M := T11_end) (pc := 114) (mc := 0) (ms := 0) (st := []) (C3_write hq) md_X3_write im_X3_write se_X3_write ml_X11_528 dX11_end_114 _ (by decide) (K := ?_)
      exact E11_end_117 (some a4) h5 _ H2
set_option maxRecDepth 100000 in
set_option maxHeartbeats 4000000 in
theorem E11_end_66 (l1 : Option Int) (h : JM) (res : JM) (H : F11_end_66 l1 h = some res) : Ev j_W1 3 0 0 T11_end 66 [(0, .inr (.inr (some (11, 0)))), (1, .inr (.inr (Option.map (Prod.mk 0) (l1))))] [] h none res := by
  unfold F11_end_66 at H
  refine ev_aload_n (M := T11_end) (pc := 66) 1 dX11_end_66 (k := ?_)
  obtain ⟨a6, ea6, H1⟩ := bd_e H
  clear H
  rw [ea6]
  refine ev_getI (M := T11_end) (pc := 67) (x := h.1 0 a6 6) fl_X11_234 dX11_end_67 (K := ?_)
  refine ev_iconst (M := T11_end) (pc := 70) dX11_end_70 (k := ?_)
  refine ev_icmpeq (M := T11_end) (pc := 71) 90 dX11_end_71 (kt := fun hc => ?_) (kf := fun hc => ?_)
  · replace H1 := if_pe hc H1
    exact E11_end_90 (some a6) h _ H1
  · replace H1 := if_ne hc H1
    refine ev_aload_n (M := T11_end) (pc := 74) 1 dX11_end_74 (k := ?_)
    refine ev_getR (M := T11_end) (pc := 75) (t := 1) (x := Option.map (Prod.mk 1) (h.2.2 0 a6 0)) fl_X11_444 dX11_end_75 (hx := ry_0_0 _ _) (K := ?_)
    obtain ⟨a7, ea7, H2⟩ := bd_e H1
    clear H1
    rw [ea7]
    refine ev_getR (M := T11_end) (pc := 78) (t := 23) (x := some (23, a7)) fl_X11_257 dX11_end_78 (hx := ry_1_5 _ _) (K := ?_)
    refine ev_aload_n (M := T11_end) (pc := 81) 1 dX11_end_81 (k := ?_)
    refine ev_getI (M := T11_end) (pc := 82) (x := h.1 0 a6 6) fl_X11_234 dX11_end_82 (K := ?_)
    refine ev_dup2 (M := T11_end) (pc := 85) dX11_end_85 (k := ?_)
    obtain ⟨⟨hi0, hi1⟩, H3⟩ := g_e H2
    clear H2
    refine ev_iaload (M := T11_end) (pc := 86) (k := 23) hi0 hi1 dX11_end_86 (hc := ac_23) (hlen := ln_23 _ _) (K := ?_)
    refine ev_iconst (M := T11_end) (pc := 87) dX11_end_87 (k := ?_)
    refine ev_isub (M := T11_end) (pc := 88) dX11_end_88 (k := ?_)
    obtain ⟨⟨hi0, hi1⟩, H4⟩ := g_e H3
    clear H3
    obtain ⟨h8, eh8, H5⟩ := lt_e H4
    clear H4
    refine ev_iastore (M := T11_end) (pc := 89) (k := 23) j_ok1 hi0 hi1 eh8 dX11_end_89 (hc := ac_23) (hlen := ln_23 _ _) (K := ?_)
    exact E11_end_90 (some a6) h8 _ H5
set_option maxRecDepth 100000 in
set_option maxHeartbeats 4000000 in
theorem E11_end_38 (l1 : Option Int) (h : JM) (res : JM) (H : F11_end_38 l1 h = some res) : Ev j_W1 3 0 0 T11_end 38 [(0, .inr (.inr (some (11, 0)))), (1, .inr (.inr (Option.map (Prod.mk 0) (l1))))] [] h none res := by
  unfold F11_end_38 at H
  refine ev_aload_n (M := T11_end) (pc := 38) 1 dX11_end_38 (k := ?_)
  obtain ⟨a9, ea9, H1⟩ := bd_e H
  clear H
  rw [ea9]
  refine ev_getI (M := T11_end) (pc := 39) (x := h.1 0 a9 9) fl_X11_210 dX11_end_39 (K := ?_)
  refine ev_iconst (M := T11_end) (pc := 42) dX11_end_42 (k := ?_)
  refine ev_icmpne (M := T11_end) (pc := 43) 66 dX11_end_43 (kt := fun hc => ?_) (kf := fun hc => ?_)
  · replace H1 := if_ne hc H1
    exact E11_end_66 (some a9) h _ H1
  · replace H1 := if_pe hc H1
    refine ev_aload_n (M := T11_end) (pc := 46) 1 dX11_end_46 (k := ?_)
    refine ev_getR (M := T11_end) (pc := 47) (t := 2) (x := Option.map (Prod.mk 2) (h.2.2 0 a9 5)) fl_X11_495 dX11_end_47 (hx := ry_0_5 _ _) (K := ?_)
    refine ev_nullK (M := T11_end) (pc := 50) (h.2.2 0 a9 5) 66 dX11_end_50 (kt := fun hc => ?_) (kf := fun hc => ?_)
    · replace H1 := if_pe hc H1
      exact E11_end_66 (some a9) h _ H1
    · replace H1 := if_ne hc H1
      refine ev_aload_n (M := T11_end) (pc := 53) 1 dX11_end_53 (k := ?_)
      refine ev_getR (M := T11_end) (pc := 54) (t := 2) (x := Option.map (Prod.mk 2) (h.2.2 0 a9 5)) fl_X11_495 dX11_end_54 (hx := ry_0_5 _ _) (K := ?_)
      refine ev_dup (M := T11_end) (pc := 57) dX11_end_57 (k := ?_)
      obtain ⟨a10, ea10, H2⟩ := bd_e H1
      clear H1
      rw [ea10]
      refine ev_getI (M := T11_end) (pc := 58) (x := h.1 2 a10 3) fl_X11_254 dX11_end_58 (K := ?_)
      refine ev_iconst (M := T11_end) (pc := 61) dX11_end_61 (k := ?_)
      refine ev_isub (M := T11_end) (pc := 62) dX11_end_62 (k := ?_)
      obtain ⟨h11, eh11, H3⟩ := lt_e H2
      clear H2
      refine ev_putI (M := T11_end) (pc := 63) j_ok1 fl_X11_254 eh11 dX11_end_63 (K := ?_)
      exact E11_end_66 (some a9) h11 _ H3
set_option maxRecDepth 100000 in
set_option maxHeartbeats 4000000 in
theorem E11_end_19 (l1 : Option Int) (l2 : Int) (l3 : Int) (h : JM) (res : JM) (H : F11_end_19 l1 l2 l3 h = some res) : Ev j_W1 3 0 0 T11_end 19 [(0, .inr (.inr (some (11, 0)))), (1, .inr (.inr (Option.map (Prod.mk 0) (l1)))), (2, .inl (l2)), (3, .inl (l3))] [] h none res := by
  unfold F11_end_19 at H
  refine ev_iload_n (M := T11_end) (pc := 19) 3 dX11_end_19 (k := ?_)
  refine ev_iconst (M := T11_end) (pc := 20) dX11_end_20 (k := ?_)
  refine ev_icmpeq (M := T11_end) (pc := 21) 38 dX11_end_21 (kt := fun hc => ?_) (kf := fun hc => ?_)
  · replace H := if_pe hc H
    refine ev_lv [0, 1] [(0, .inr (.inr (some (11, 0)))), (1, .inr (.inr (Option.map (Prod.mk 0) (l1))))] (k := ?_)
    exact E11_end_38 l1 h _ H
  · replace H := if_ne hc H
    refine ev_aload_n (M := T11_end) (pc := 24) 0 dX11_end_24 (k := ?_)
    refine ev_aload_n (M := T11_end) (pc := 25) 1 dX11_end_25 (k := ?_)
    refine ev_aload_n (M := T11_end) (pc := 26) 1 dX11_end_26 (k := ?_)
    obtain ⟨a12, ea12, H1⟩ := bd_e H
    clear H
    rw [ea12]
    refine ev_getR (M := T11_end) (pc := 27) (t := 4) (x := Option.map (Prod.mk 4) (h.2.2 0 a12 3)) fl_X11_237 dX11_end_27 (hx := ry_0_3 _ _) (K := ?_)
    refine ev_aload_n (M := T11_end) (pc := 30) 1 dX11_end_30 (k := ?_)
    refine ev_getR (M := T11_end) (pc := 31) (t := 8) (x := Option.map (Prod.mk 8) (h.2.2 0 a12 4)) fl_X11_240 dX11_end_31 (hx := ry_0_4 _ _) (K := ?_)
    refine ev_iload_n (M := T11_end) (pc := 34) 2 dX11_end_34 (k := ?_)
    obtain ⟨h13, hq, H2⟩ := bd_e H1
    clear H1
    refine ev_callV (M := T11_end) (pc := 35) (mc := 0) (ms := 0) (st := []) (C11_tellEnd hq) md_X11_tellEnd im_X11_tellEnd se_X11_tellEnd ml_X11_524 dX11_end_35 _ (by decide) (K := ?_)
    refine ev_lv [0, 1] [(0, .inr (.inr (some (11, 0)))), (1, .inr (.inr (some (0, a12))))] (k := ?_)
    exact E11_end_38 (some a12) h13 _ H2
set_option maxRecDepth 100000 in
set_option maxHeartbeats 4000000 in
theorem C11_end {l1 : Option Int} {l2 : Int} {l3 : Int} {h : JM} {res : JM} (H : F11_end l1 l2 l3 h = some res) : Cn j_W1 3 0 0 yX11_end cX11_end 4 none [.inr (.inr (some (11, 0))), .inr (.inr (Option.map (Prod.mk 0) (l1))), .inl (l2), .inl (l3)] h none res := by
  refine Cn.by (own := RX11) (b := false) [(0, .inr (.inr (some (11, 0)))), (1, .inr (.inr (Option.map (Prod.mk 0) (l1)))), (2, .inl (l2)), (3, .inl (l3))] rfl (fun z => by cases z) (by decide +kernel) (K := ?_)
  unfold F11_end at H
  refine ev_iload_n (M := T11_end) (pc := 0) 3 dX11_end_0 (k := ?_)
  refine ev_iconst (M := T11_end) (pc := 1) dX11_end_1 (k := ?_)
  refine ev_icmpeq (M := T11_end) (pc := 2) 19 dX11_end_2 (kt := fun hc => ?_) (kf := fun hc => ?_)
  · replace H := if_pe hc H
    exact E11_end_19 l1 l2 l3 h _ H
  · replace H := if_ne hc H
    refine ev_aload_n (M := T11_end) (pc := 5) 0 dX11_end_5 (k := ?_)
    refine ev_aload_n (M := T11_end) (pc := 6) 1 dX11_end_6 (k := ?_)
    refine ev_aload_n (M := T11_end) (pc := 7) 1 dX11_end_7 (k := ?_)
    obtain ⟨a14, ea14, H1⟩ := bd_e H
    clear H
    rw [ea14]
    refine ev_getR (M := T11_end) (pc := 8) (t := 4) (x := Option.map (Prod.mk 4) (h.2.2 0 a14 1)) fl_X11_223 dX11_end_8 (hx := ry_0_1 _ _) (K := ?_)
    refine ev_aload_n (M := T11_end) (pc := 11) 1 dX11_end_11 (k := ?_)
    refine ev_getR (M := T11_end) (pc := 12) (t := 8) (x := Option.map (Prod.mk 8) (h.2.2 0 a14 2)) fl_X11_227 dX11_end_12 (hx := ry_0_2 _ _) (K := ?_)
    refine ev_iload_n (M := T11_end) (pc := 15) 2 dX11_end_15 (k := ?_)
    obtain ⟨h15, hq, H2⟩ := bd_e H1
    clear H1
    refine ev_callV (M := T11_end) (pc := 16) (mc := 0) (ms := 0) (st := []) (C11_tellEnd hq) md_X11_tellEnd im_X11_tellEnd se_X11_tellEnd ml_X11_524 dX11_end_16 _ (by decide) (K := ?_)
    exact E11_end_19 (some a14) l2 l3 h15 _ H2
-- X11_findRowAnew
abbrev T11_findRowAnew : JT := (RX11, cX11_findRowAnew, 3, some .int, false)
set_option maxRecDepth 100000 in
set_option maxHeartbeats 4000000 in
theorem C11_findRowAnew {l1 : Option Int} {h : JM} {res : (Int × JM)} (H : F11_findRowAnew l1 h = some res) : Cn j_W1 3 0 0 yX11_findRowAnew cX11_findRowAnew 3 (some .int) [.inr (.inr (some (11, 0))), .inr (.inr (Option.map (Prod.mk 0) (l1)))] h (some (.inl res.1)) res.2 := by
  refine Cn.by (own := RX11) (b := false) [(0, .inr (.inr (some (11, 0)))), (1, .inr (.inr (Option.map (Prod.mk 0) (l1))))] rfl (fun z => by cases z) (by decide +kernel) (K := ?_)
  unfold F11_findRowAnew at H
  refine ev_aload_n (M := T11_findRowAnew) (pc := 0) 1 dX11_findRowAnew_0 (k := ?_)
  refine ev_dup (M := T11_findRowAnew) (pc := 1) dX11_findRowAnew_1 (k := ?_)
  obtain ⟨a1, ea1, H1⟩ := bd_e H
  clear H
  rw [ea1]
  refine ev_getI (M := T11_findRowAnew) (pc := 2) (x := h.1 0 a1 12) fl_X11_366 dX11_findRowAnew_2 (K := ?_)
  refine ev_iconst (M := T11_findRowAnew) (pc := 5) dX11_findRowAnew_5 (k := ?_)
  refine ev_iadd (M := T11_findRowAnew) (pc := 6) dX11_findRowAnew_6 (k := ?_)
  obtain ⟨h2, eh2, H2⟩ := lt_e H1
  clear H1
  refine ev_putI (M := T11_findRowAnew) (pc := 7) j_ok1 fl_X11_366 eh2 dX11_findRowAnew_7 (K := ?_)
  refine ev_aload_n (M := T11_findRowAnew) (pc := 10) 1 dX11_findRowAnew_10 (k := ?_)
  refine ev_getI (M := T11_findRowAnew) (pc := 11) (x := h2.1 0 a1 12) fl_X11_366 dX11_findRowAnew_11 (K := ?_)
  refine ev_iconst (M := T11_findRowAnew) (pc := 14) dX11_findRowAnew_14 (k := ?_)
  refine ev_icmple (M := T11_findRowAnew) (pc := 15) 20 dX11_findRowAnew_15 (kt := fun hc => ?_) (kf := fun hc => ?_)
  · replace H2 := if_pe hc H2
    refine ev_aload_n (M := T11_findRowAnew) (pc := 20) 1 dX11_findRowAnew_20 (k := ?_)
    refine ev_getR (M := T11_findRowAnew) (pc := 21) (t := 1) (x := Option.map (Prod.mk 1) (h2.2.2 0 a1 0)) fl_X11_444 dX11_findRowAnew_21 (hx := ry_0_0 _ _) (K := ?_)
    refine ev_aload_n (M := T11_findRowAnew) (pc := 24) 1 dX11_findRowAnew_24 (k := ?_)
    refine ev_getL (M := T11_findRowAnew) (pc := 25) (x := h2.2.1 0 a1 8) fl_X11_222 dX11_findRowAnew_25 (K := ?_)
    obtain ⟨a3, ea3, H3⟩ := bd_e H2
    clear H2
    rw [ea3]
    obtain ⟨q4, hq, H4⟩ := bd_e H3
    clear H3
    refine ev_callV (M := T11_findRowAnew) (pc := 28) (mc := 0) (ms := 0) (st := []) (C1_analyse hq) md_X1_analyse im_X1_analyse se_X1_analyse ml_X11_372 dX11_findRowAnew_28 _ (by decide) (K := ?_)
    refine ev_istore_n (M := T11_findRowAnew) (pc := 31) [(2, .inl (q4.1)), (0, .inr (.inr (some (11, 0)))), (1, .inr (.inr (some (0, a1))))] dX11_findRowAnew_31 (k := ?_)
    refine ev_iload_n (M := T11_findRowAnew) (pc := 32) 0 dX11_findRowAnew_32 (k := ?_)
    refine ev_ifge (M := T11_findRowAnew) (pc := 33) 38 dX11_findRowAnew_33 (kt := fun hc => ?_) (kf := fun hc => ?_)
    · replace H4 := if_pe hc H4
      refine ev_aload_n (M := T11_findRowAnew) (pc := 38) 2 dX11_findRowAnew_38 (k := ?_)
      refine ev_aload_n (M := T11_findRowAnew) (pc := 39) 2 dX11_findRowAnew_39 (k := ?_)
      refine ev_getR (M := T11_findRowAnew) (pc := 40) (t := 1) (x := Option.map (Prod.mk 1) (q4.2.2.2 0 a1 0)) fl_X11_444 dX11_findRowAnew_40 (hx := ry_0_0 _ _) (K := ?_)
      obtain ⟨a5, ea5, H5⟩ := bd_e H4
      clear H4
      rw [ea5]
      refine ev_getR (M := T11_findRowAnew) (pc := 43) (t := 22) (x := some (22, a5)) fl_X11_106 dX11_findRowAnew_43 (hx := ry_1_3 _ _) (K := ?_)
      refine ev_iload_n (M := T11_findRowAnew) (pc := 46) 0 dX11_findRowAnew_46 (k := ?_)
      obtain ⟨⟨hi0, hi1⟩, H6⟩ := g_e H5
      clear H5
      refine ev_aaload (M := T11_findRowAnew) (pc := 47) (k := 22) 6 (x := Option.map (Prod.mk 6) (q4.2.2.2 22 a5 q4.1)) hi0 hi1 dX11_findRowAnew_47 (hc := ac_22) (hlen := ln_22 _ _) (hx := rz_22 _ _ _) (K := ?_)
      obtain ⟨h6, eh6, H7⟩ := lt_e H6
      clear H6
      refine ev_putR (M := T11_findRowAnew) (pc := 48) (t := 6) j_ok1 (q4.2.2.2 22 a5 q4.1) fl_X11_379 eh6 (hdg := dX11_findRowAnew_48) (hly := rl_0_7 _) (K := ?_)
      refine ev_iconst (M := T11_findRowAnew) (pc := 51) dX11_findRowAnew_51 (k := ?_)
      cases H7
      exact ev_ireturn (M := T11_findRowAnew) (pc := 52) dX11_findRowAnew_52
    · replace H4 := if_ne hc H4
      refine ev_iconst (M := T11_findRowAnew) (pc := 36) dX11_findRowAnew_36 (k := ?_)
      cases H4
      exact ev_ireturn (M := T11_findRowAnew) (pc := 37) dX11_findRowAnew_37
  · replace H2 := if_ne hc H2
    refine ev_iconst (M := T11_findRowAnew) (pc := 18) dX11_findRowAnew_18 (k := ?_)
    cases H2
    exact ev_ireturn (M := T11_findRowAnew) (pc := 19) dX11_findRowAnew_19
-- X11_withoutFirst
abbrev T11_withoutFirst : JT := (RX11, cX11_withoutFirst, 4, some .long, false)
set_option maxRecDepth 100000 in
set_option maxHeartbeats 4000000 in
theorem C11_withoutFirst {l0 : Int} {l2 : Int} {h : JM} {res : (Int × JM)} (H : F11_withoutFirst l0 l2 h = some res) : Cn j_W1 2 0 0 yX11_withoutFirst cX11_withoutFirst 4 (some .long) [.inr (.inl (l0)), .inl (l2)] h (some (.inr (.inl res.1))) res.2 := by
  refine Cn.by (own := RX11) (b := false) [(0, .inr (.inl (l0))), (2, .inl (l2))] rfl (fun z => by cases z) (by decide +kernel) (K := ?_)
  unfold F11_withoutFirst at H
  refine ev_lload_n (M := T11_withoutFirst) (pc := 0) 0 dX11_withoutFirst_0 (k := ?_)
  obtain ⟨q1, hq, H1⟩ := bd_e H
  clear H
  refine ev_callS (M := T11_withoutFirst) (pc := 1) (mc := 0) (ms := 0) (st := []) (C11_countOf hq) md_X11_countOf ss_X11_countOf ml_X11_83 dX11_withoutFirst_1 _ (by decide) (K := ?_)
  refine ev_istore_n (M := T11_withoutFirst) (pc := 4) [(3, .inl (q1.1)), (0, .inr (.inl (l0))), (2, .inl (l2))] dX11_withoutFirst_4 (k := ?_)
  refine ev_iload_n (M := T11_withoutFirst) (pc := 5) 2 dX11_withoutFirst_5 (k := ?_)
  refine ev_iload_n (M := T11_withoutFirst) (pc := 6) 0 dX11_withoutFirst_6 (k := ?_)
  refine ev_icmplt (M := T11_withoutFirst) (pc := 7) 12 dX11_withoutFirst_7 (kt := fun hc => ?_) (kf := fun hc => ?_)
  · replace H1 := if_pe hc H1
    refine ev_lload_n (M := T11_withoutFirst) (pc := 12) 1 dX11_withoutFirst_12 (k := ?_)
    refine ev_ldc2 (M := T11_withoutFirst) (pc := 13) (n := 281474976710655) cl_X11_321 dX11_withoutFirst_13 (hv := cw_X11_321) (k := ?_)
    refine ev_land (M := T11_withoutFirst) (pc := 16) dX11_withoutFirst_16 (k := ?_)
    refine ev_iconst (M := T11_withoutFirst) (pc := 17) dX11_withoutFirst_17 (k := ?_)
    refine ev_iload_n (M := T11_withoutFirst) (pc := 18) 2 dX11_withoutFirst_18 (k := ?_)
    refine ev_imul (M := T11_withoutFirst) (pc := 19) dX11_withoutFirst_19 (k := ?_)
    refine ev_lshr (M := T11_withoutFirst) (pc := 20) dX11_withoutFirst_20 (k := ?_)
    refine ev_iload_n (M := T11_withoutFirst) (pc := 21) 0 dX11_withoutFirst_21 (k := ?_)
    refine ev_iload_n (M := T11_withoutFirst) (pc := 22) 2 dX11_withoutFirst_22 (k := ?_)
    refine ev_isub (M := T11_withoutFirst) (pc := 23) dX11_withoutFirst_23 (k := ?_)
    refine ev_i2l (M := T11_withoutFirst) (pc := 24) dX11_withoutFirst_24 (k := ?_)
    refine ev_bipush (M := T11_withoutFirst) (pc := 25) dX11_withoutFirst_25 (k := ?_)
    refine ev_lshl (M := T11_withoutFirst) (pc := 27) dX11_withoutFirst_27 (k := ?_)
    refine ev_lor (M := T11_withoutFirst) (pc := 28) dX11_withoutFirst_28 (k := ?_)
    cases H1
    exact ev_lreturn (M := T11_withoutFirst) (pc := 29) dX11_withoutFirst_29
  · replace H1 := if_ne hc H1
    refine ev_lconst (M := T11_withoutFirst) (pc := 10) (v := 0) dX11_withoutFirst_10 (k := ?_)
    cases H1
    exact ev_lreturn (M := T11_withoutFirst) (pc := 11) dX11_withoutFirst_11
-- X11_placeFar
abbrev T11_placeFar : JT := (RX11, cX11_placeFar, 7, some .int, false)
set_option maxRecDepth 100000 in
set_option maxHeartbeats 4000000 in
theorem E11_placeFar_56 (l1 : Option Int) (l2 : Option Int) (s0 : Option Int) (s1 : Int) (h : JM) (res : (Int × JM)) (H : F11_placeFar_56 l1 l2 s0 s1 h = some res) : Ev j_W1 3 0 0 T11_placeFar 56 [(0, .inr (.inr (some (11, 0)))), (1, .inr (.inr (Option.map (Prod.mk 0) (l1)))), (2, .inr (.inr (Option.map (Prod.mk 6) (l2))))] [.inl (s1), .inr (.inr (Option.map (Prod.mk 1) (s0)))] h (some (.inl res.1)) res.2 := by
  unfold F11_placeFar_56 at H
  obtain ⟨a1, ea1, H1⟩ := bd_e H
  clear H
  rw [ea1]
  obtain ⟨q2, hq, H2⟩ := bd_e H1
  clear H1
  refine ev_callV (M := T11_placeFar) (pc := 56) (mc := 0) (ms := 0) (st := []) (C1_findIdle hq) md_X1_findIdle im_X1_findIdle se_X1_findIdle ml_X11_484 dX11_placeFar_56 _ (by decide) (K := ?_)
  refine ev_astore (M := T11_placeFar) (pc := 59) [(4, .inr (.inr (Option.map (Prod.mk 8) (q2.1)))), (0, .inr (.inr (some (11, 0)))), (1, .inr (.inr (Option.map (Prod.mk 0) (l1)))), (2, .inr (.inr (Option.map (Prod.mk 6) (l2))))] dX11_placeFar_59 (k := ?_)
  refine ev_aload (M := T11_placeFar) (pc := 61) 0 dX11_placeFar_61 (k := ?_)
  refine ev_nonnullK (M := T11_placeFar) (pc := 63) q2.1 68 dX11_placeFar_63 (kt := fun hc => ?_) (kf := fun hc => ?_)
  · replace H2 := if_ne hc H2
    refine ev_aload (M := T11_placeFar) (pc := 68) 0 dX11_placeFar_68 (k := ?_)
    refine ev_iconst (M := T11_placeFar) (pc := 70) dX11_placeFar_70 (k := ?_)
    obtain ⟨a3, ea3, H3⟩ := bd_e H2
    clear H2
    rw [ea3]
    obtain ⟨h4, eh4, H4⟩ := lt_e H3
    clear H3
    refine ev_putI (M := T11_placeFar) (pc := 71) j_ok1 fl_X11_250 eh4 dX11_placeFar_71 (K := ?_)
    refine ev_aload (M := T11_placeFar) (pc := 74) 0 dX11_placeFar_74 (k := ?_)
    refine ev_aload_n (M := T11_placeFar) (pc := 76) 2 dX11_placeFar_76 (k := ?_)
    obtain ⟨h5, eh5, H5⟩ := lt_e H4
    clear H4
    refine ev_putR (M := T11_placeFar) (pc := 77) (t := 0) j_ok1 l1 fl_X11_352 eh5 (hdg := dX11_placeFar_77) (hly := rl_8_3 _) (K := ?_)
    refine ev_aload_n (M := T11_placeFar) (pc := 80) 2 dX11_placeFar_80 (k := ?_)
    refine ev_aload (M := T11_placeFar) (pc := 81) 0 dX11_placeFar_81 (k := ?_)
    obtain ⟨a6, ea6, H6⟩ := bd_e H5
    clear H5
    rw [ea6]
    obtain ⟨h7, eh7, H7⟩ := lt_e H6
    clear H6
    refine ev_putR (M := T11_placeFar) (pc := 83) (t := 8) j_ok1 (some a3) fl_X11_240 eh7 (hdg := dX11_placeFar_83) (hly := rl_0_4 _) (K := ?_)
    refine ev_aload_n (M := T11_placeFar) (pc := 86) 1 dX11_placeFar_86 (k := ?_)
    refine ev_aload_n (M := T11_placeFar) (pc := 87) 2 dX11_placeFar_87 (k := ?_)
    refine ev_iconst (M := T11_placeFar) (pc := 88) dX11_placeFar_88 (k := ?_)
    obtain ⟨h8, hq, H8⟩ := bd_e H7
    clear H7
    refine ev_callV (M := T11_placeFar) (pc := 89) (mc := 0) (ms := 0) (st := []) (C11_enter hq) md_X11_enter im_X11_enter se_X11_enter ml_X11_383 dX11_placeFar_89 _ (by decide) (K := ?_)
    refine ev_aload_n (M := T11_placeFar) (pc := 92) 2 dX11_placeFar_92 (k := ?_)
    refine ev_getI (M := T11_placeFar) (pc := 93) (x := h8.1 0 a6 12) fl_X11_366 dX11_placeFar_93 (K := ?_)
    refine ev_aload_n (M := T11_placeFar) (pc := 96) 2 dX11_placeFar_96 (k := ?_)
    refine ev_getL (M := T11_placeFar) (pc := 97) (x := h8.2.1 0 a6 8) fl_X11_222 dX11_placeFar_97 (K := ?_)
    refine ev_aload_n (M := T11_placeFar) (pc := 100) 3 dX11_placeFar_100 (k := ?_)
    obtain ⟨a9, ea9, H9⟩ := bd_e H8
    clear H8
    rw [ea9]
    refine ev_getI (M := T11_placeFar) (pc := 101) (x := h8.1 6 a9 3) fl_X11_465 dX11_placeFar_101 (K := ?_)
    obtain ⟨q10, hq, H10⟩ := bd_e H9
    clear H9
    refine ev_callS (M := T11_placeFar) (pc := 104) (mc := 0) (ms := 0) (st := [.inl (h8.1 0 a6 12)]) (C11_withoutFirst hq) md_X11_withoutFirst ss_X11_withoutFirst ml_X11_488 dX11_placeFar_104 _ (by decide) (K := ?_)
    obtain ⟨q11, hq, H11⟩ := bd_e H10
    clear H10
    refine ev_callS (M := T11_placeFar) (pc := 107) (mc := 0) (ms := 0) (st := []) (C9_packIam hq) md_X9_packIam ss_X9_packIam ml_X11_491 dX11_placeFar_107 _ (by decide) (K := ?_)
    refine ev_lstore (M := T11_placeFar) (pc := 110) [(5, .inr (.inl (q11.1))), (4, .inr (.inr (some (8, a3)))), (0, .inr (.inr (some (11, 0)))), (1, .inr (.inr (some (0, a6)))), (2, .inr (.inr (some (6, a9))))] dX11_placeFar_110 (k := ?_)
    refine ev_aload_n (M := T11_placeFar) (pc := 112) 3 dX11_placeFar_112 (k := ?_)
    refine ev_getR (M := T11_placeFar) (pc := 113) (t := 1) (x := Option.map (Prod.mk 1) (q11.2.2.2 0 a6 0)) fl_X11_444 dX11_placeFar_113 (hx := ry_0_0 _ _) (K := ?_)
    obtain ⟨a12, ea12, H12⟩ := bd_e H11
    clear H11
    rw [ea12]
    refine ev_getR (M := T11_placeFar) (pc := 116) (t := 5) (x := some (5, a12)) fl_X11_261 dX11_placeFar_116 (hx := ry_1_7 _ _) (K := ?_)
    refine ev_iconst (M := T11_placeFar) (pc := 119) dX11_placeFar_119 (k := ?_)
    refine ev_aload (M := T11_placeFar) (pc := 120) 1 dX11_placeFar_120 (k := ?_)
    refine ev_getI (M := T11_placeFar) (pc := 122) (x := q11.2.1 8 a3 0) fl_X11_320 dX11_placeFar_122 (K := ?_)
    refine ev_lload (M := T11_placeFar) (pc := 125) 0 dX11_placeFar_125 (k := ?_)
    obtain ⟨q13, hq, H13⟩ := bd_e H12
    clear H12
    refine ev_callS (M := T11_placeFar) (pc := 127) (mc := 0) (ms := 0) (st := [.inr (.inr (some (5, a12)))]) (C9_pack hq) md_X9_pack ss_X9_pack ml_X11_404 dX11_placeFar_127 _ (by decide) (K := ?_)
    obtain ⟨h14, hq, H14⟩ := bd_e H13
    clear H13
    refine ev_callV (M := T11_placeFar) (pc := 130) (mc := 0) (ms := 0) (st := []) (C5_post hq) md_X5_post im_X5_post se_X5_post ml_X11_408 dX11_placeFar_130 _ (by decide) (K := ?_)
    refine ev_iconst (M := T11_placeFar) (pc := 133) dX11_placeFar_133 (k := ?_)
    cases H14
    exact ev_ireturn (M := T11_placeFar) (pc := 134) dX11_placeFar_134
  · replace H2 := if_pe hc H2
    refine ev_iconst (M := T11_placeFar) (pc := 66) dX11_placeFar_66 (k := ?_)
    cases H2
    exact ev_ireturn (M := T11_placeFar) (pc := 67) dX11_placeFar_67
set_option maxRecDepth 100000 in
set_option maxHeartbeats 4000000 in
theorem E11_placeFar_40 (l1 : Option Int) (l2 : Option Int) (l3 : Int) (h : JM) (res : (Int × JM)) (H : F11_placeFar_40 l1 l2 l3 h = some res) : Ev j_W1 3 0 0 T11_placeFar 40 [(0, .inr (.inr (some (11, 0)))), (1, .inr (.inr (Option.map (Prod.mk 0) (l1)))), (2, .inr (.inr (Option.map (Prod.mk 6) (l2)))), (3, .inl (l3))] [] h (some (.inl res.1)) res.2 := by
  unfold F11_placeFar_40 at H
  refine ev_aload_n (M := T11_placeFar) (pc := 40) 1 dX11_placeFar_40 (k := ?_)
  obtain ⟨a15, ea15, H1⟩ := bd_e H
  clear H
  rw [ea15]
  refine ev_getR (M := T11_placeFar) (pc := 41) (t := 1) (x := Option.map (Prod.mk 1) (h.2.2 0 a15 0)) fl_X11_444 dX11_placeFar_41 (hx := ry_0_0 _ _) (K := ?_)
  refine ev_iload_n (M := T11_placeFar) (pc := 44) 3 dX11_placeFar_44 (k := ?_)
  refine ev_ifeq (M := T11_placeFar) (pc := 45) 52 dX11_placeFar_45 (kt := fun hc => ?_) (kf := fun hc => ?_)
  · replace H1 := if_pe hc H1
    refine ev_aload_n (M := T11_placeFar) (pc := 52) 0 dX11_placeFar_52 (k := ?_)
    refine ev_getI (M := T11_placeFar) (pc := 53) (x := h.1 11 0 1) fl_X11_59 dX11_placeFar_53 (K := ?_)
    refine ev_lv [0, 1, 2] [(0, .inr (.inr (some (11, 0)))), (1, .inr (.inr (some (0, a15)))), (2, .inr (.inr (Option.map (Prod.mk 6) (l2))))] (k := ?_)
    exact E11_placeFar_56 (some a15) l2 (h.2.2 0 a15 0) (h.1 11 0 1) h _ H1
  · replace H1 := if_ne hc H1
    refine ev_iconst (M := T11_placeFar) (pc := 48) dX11_placeFar_48 (k := ?_)
    refine ev_goto (M := T11_placeFar) (pc := 49) 56 dX11_placeFar_49 (k := ?_)
    refine ev_lv [0, 1, 2] [(0, .inr (.inr (some (11, 0)))), (1, .inr (.inr (some (0, a15)))), (2, .inr (.inr (Option.map (Prod.mk 6) (l2))))] (k := ?_)
    exact E11_placeFar_56 (some a15) l2 (h.2.2 0 a15 0) 0 h _ H1
set_option maxRecDepth 100000 in
set_option maxHeartbeats 4000000 in
theorem E11_placeFar_13 (l1 : Option Int) (l2 : Option Int) (s0 : Int) (h : JM) (res : (Int × JM)) (H : F11_placeFar_13 l1 l2 s0 h = some res) : Ev j_W1 3 0 0 T11_placeFar 13 [(0, .inr (.inr (some (11, 0)))), (1, .inr (.inr (Option.map (Prod.mk 0) (l1)))), (2, .inr (.inr (Option.map (Prod.mk 6) (l2))))] [.inl (s0)] h (some (.inl res.1)) res.2 := by
  unfold F11_placeFar_13 at H
  refine ev_istore_n (M := T11_placeFar) (pc := 13) [(3, .inl (s0)), (0, .inr (.inr (some (11, 0)))), (1, .inr (.inr (Option.map (Prod.mk 0) (l1)))), (2, .inr (.inr (Option.map (Prod.mk 6) (l2))))] dX11_placeFar_13 (k := ?_)
  refine ev_iload_n (M := T11_placeFar) (pc := 14) 0 dX11_placeFar_14 (k := ?_)
  refine ev_ifne (M := T11_placeFar) (pc := 15) 40 dX11_placeFar_15 (kt := fun hc => ?_) (kf := fun hc => ?_)
  · replace H := if_ne hc H
    refine ev_lv [1, 2, 3, 0] [(0, .inr (.inr (some (11, 0)))), (1, .inr (.inr (Option.map (Prod.mk 0) (l1)))), (2, .inr (.inr (Option.map (Prod.mk 6) (l2)))), (3, .inl (s0))] (k := ?_)
    exact E11_placeFar_40 l1 l2 s0 h _ H
  · replace H := if_pe hc H
    refine ev_aload_n (M := T11_placeFar) (pc := 18) 2 dX11_placeFar_18 (k := ?_)
    obtain ⟨a16, ea16, H1⟩ := bd_e H
    clear H
    rw [ea16]
    refine ev_getR (M := T11_placeFar) (pc := 19) (t := 4) (x := Option.map (Prod.mk 4) (h.2.2 0 a16 1)) fl_X11_223 dX11_placeFar_19 (hx := ry_0_1 _ _) (K := ?_)
    refine ev_nullK (M := T11_placeFar) (pc := 22) (h.2.2 0 a16 1) 40 dX11_placeFar_22 (kt := fun hc => ?_) (kf := fun hc => ?_)
    · replace H1 := if_pe hc H1
      refine ev_lv [1, 2, 3, 0] [(0, .inr (.inr (some (11, 0)))), (1, .inr (.inr (some (0, a16)))), (2, .inr (.inr (Option.map (Prod.mk 6) (l2)))), (3, .inl (s0))] (k := ?_)
      exact E11_placeFar_40 (some a16) l2 s0 h _ H1
    · replace H1 := if_ne hc H1
      refine ev_aload_n (M := T11_placeFar) (pc := 25) 2 dX11_placeFar_25 (k := ?_)
      refine ev_getR (M := T11_placeFar) (pc := 26) (t := 4) (x := Option.map (Prod.mk 4) (h.2.2 0 a16 1)) fl_X11_223 dX11_placeFar_26 (hx := ry_0_1 _ _) (K := ?_)
      obtain ⟨a17, ea17, H2⟩ := bd_e H1
      clear H1
      rw [ea17]
      refine ev_getR (M := T11_placeFar) (pc := 29) (t := 28) (x := some (28, a17)) fl_X11_137 dX11_placeFar_29 (hx := ry_4_1 _ _) (K := ?_)
      refine ev_iconst (M := T11_placeFar) (pc := 32) dX11_placeFar_32 (k := ?_)
      obtain ⟨⟨hi0, hi1⟩, H3⟩ := g_e H2
      clear H2
      refine ev_zaload (M := T11_placeFar) (pc := 33) (k := 28) hi0 hi1 dX11_placeFar_33 (hc := ac_28) (hlen := ln_28 _ _) (K := ?_)
      refine ev_ifeq (M := T11_placeFar) (pc := 34) 40 dX11_placeFar_34 (kt := fun hc => ?_) (kf := fun hc => ?_)
      · replace H3 := if_pe hc H3
        refine ev_lv [1, 2, 3, 0] [(0, .inr (.inr (some (11, 0)))), (1, .inr (.inr (some (0, a16)))), (2, .inr (.inr (Option.map (Prod.mk 6) (l2)))), (3, .inl (s0))] (k := ?_)
        exact E11_placeFar_40 (some a16) l2 s0 h _ H3
      · replace H3 := if_ne hc H3
        refine ev_bipush (M := T11_placeFar) (pc := 37) dX11_placeFar_37 (k := ?_)
        cases H3
        exact ev_ireturn (M := T11_placeFar) (pc := 39) dX11_placeFar_39
set_option maxRecDepth 100000 in
set_option maxHeartbeats 4000000 in
theorem C11_placeFar {l1 : Option Int} {l2 : Option Int} {h : JM} {res : (Int × JM)} (H : F11_placeFar l1 l2 h = some res) : Cn j_W1 3 0 0 yX11_placeFar cX11_placeFar 7 (some .int) [.inr (.inr (some (11, 0))), .inr (.inr (Option.map (Prod.mk 0) (l1))), .inr (.inr (Option.map (Prod.mk 6) (l2)))] h (some (.inl res.1)) res.2 := by
  refine Cn.by (own := RX11) (b := false) [(0, .inr (.inr (some (11, 0)))), (1, .inr (.inr (Option.map (Prod.mk 0) (l1)))), (2, .inr (.inr (Option.map (Prod.mk 6) (l2))))] rfl (fun z => by cases z) (by decide +kernel) (K := ?_)
  unfold F11_placeFar at H
  refine ev_aload_n (M := T11_placeFar) (pc := 0) 2 dX11_placeFar_0 (k := ?_)
  obtain ⟨a18, ea18, H1⟩ := bd_e H
  clear H
  rw [ea18]
  refine ev_getI (M := T11_placeFar) (pc := 1) (x := h.1 6 a18 2) fl_X11_462 dX11_placeFar_1 (K := ?_)
  refine ev_iconst (M := T11_placeFar) (pc := 4) dX11_placeFar_4 (k := ?_)
  refine ev_icmpne (M := T11_placeFar) (pc := 5) 12 dX11_placeFar_5 (kt := fun hc => ?_) (kf := fun hc => ?_)
  · replace H1 := if_ne hc H1
    refine ev_iconst (M := T11_placeFar) (pc := 12) dX11_placeFar_12 (k := ?_)
    exact E11_placeFar_13 l1 (some a18) 0 h _ H1
  · replace H1 := if_pe hc H1
    refine ev_iconst (M := T11_placeFar) (pc := 8) dX11_placeFar_8 (k := ?_)
    refine ev_goto (M := T11_placeFar) (pc := 9) 13 dX11_placeFar_9 (k := ?_)
    exact E11_placeFar_13 l1 (some a18) 1 h _ H1
-- X11_ring
abbrev T11_ring : JT := (RX11, cX11_ring, 3, none, false)
set_option maxRecDepth 100000 in
set_option maxHeartbeats 4000000 in
theorem C11_ring {l1 : Option Int} {l2 : Option Int} {h : JM} {res : JM} (H : F11_ring l1 l2 h = some res) : Cn j_W1 2 0 0 yX11_ring cX11_ring 3 none [.inr (.inr (some (11, 0))), .inr (.inr (Option.map (Prod.mk 0) (l1))), .inr (.inr (Option.map (Prod.mk 4) (l2)))] h none res := by
  refine Cn.by (own := RX11) (b := false) [(0, .inr (.inr (some (11, 0)))), (1, .inr (.inr (Option.map (Prod.mk 0) (l1)))), (2, .inr (.inr (Option.map (Prod.mk 4) (l2))))] rfl (fun z => by cases z) (by decide +kernel) (K := ?_)
  unfold F11_ring at H
  refine ev_aload_n (M := T11_ring) (pc := 0) 2 dX11_ring_0 (k := ?_)
  refine ev_aload_n (M := T11_ring) (pc := 1) 1 dX11_ring_1 (k := ?_)
  obtain ⟨a1, ea1, H1⟩ := bd_e H
  clear H
  rw [ea1]
  obtain ⟨h2, eh2, H2⟩ := lt_e H1
  clear H1
  refine ev_putR (M := T11_ring) (pc := 2) (t := 0) j_ok1 l1 fl_X11_432 eh2 (hdg := dX11_ring_2) (hly := rl_4_13 _) (K := ?_)
  refine ev_aload_n (M := T11_ring) (pc := 5) 1 dX11_ring_5 (k := ?_)
  refine ev_aload_n (M := T11_ring) (pc := 6) 2 dX11_ring_6 (k := ?_)
  obtain ⟨a3, ea3, H3⟩ := bd_e H2
  clear H2
  rw [ea3]
  obtain ⟨h4, eh4, H4⟩ := lt_e H3
  clear H3
  refine ev_putR (M := T11_ring) (pc := 7) (t := 4) j_ok1 (some a1) fl_X11_237 eh4 (hdg := dX11_ring_7) (hly := rl_0_3 _) (K := ?_)
  refine ev_aload_n (M := T11_ring) (pc := 10) 0 dX11_ring_10 (k := ?_)
  refine ev_aload_n (M := T11_ring) (pc := 11) 1 dX11_ring_11 (k := ?_)
  refine ev_iconst (M := T11_ring) (pc := 12) dX11_ring_12 (k := ?_)
  obtain ⟨h5, hq, H5⟩ := bd_e H4
  clear H4
  refine ev_callV (M := T11_ring) (pc := 13) (mc := 0) (ms := 0) (st := []) (C11_enter hq) md_X11_enter im_X11_enter se_X11_enter ml_X11_383 dX11_ring_13 _ (by decide) (K := ?_)
  cases H5
  exact ev_return (M := T11_ring) (pc := 16) dX11_ring_16
-- X11_placeToGroup
abbrev T11_placeToGroup : JT := (RX11, cX11_placeToGroup, 4, some .int, false)
set_option maxRecDepth 100000 in
set_option maxHeartbeats 4000000 in
theorem E11_placeToGroup_20 (l1 : Option Int) (l2 : Option Int) (s0 : Option Int) (h : JM) (res : (Int × JM)) (H : F11_placeToGroup_20 l1 l2 s0 h = some res) : Ev j_W1 3 0 0 T11_placeToGroup 20 [(0, .inr (.inr (some (11, 0)))), (1, .inr (.inr (Option.map (Prod.mk 0) (l1)))), (2, .inr (.inr (Option.map (Prod.mk 2) (l2))))] [.inr (.inr (Option.map (Prod.mk 4) (s0)))] h (some (.inl res.1)) res.2 := by
  unfold F11_placeToGroup_20 at H
  refine ev_astore_n (M := T11_placeToGroup) (pc := 20) [(3, .inr (.inr (Option.map (Prod.mk 4) (s0)))), (0, .inr (.inr (some (11, 0)))), (1, .inr (.inr (Option.map (Prod.mk 0) (l1)))), (2, .inr (.inr (Option.map (Prod.mk 2) (l2))))] dX11_placeToGroup_20 (k := ?_)
  refine ev_aload_n (M := T11_placeToGroup) (pc := 21) 0 dX11_placeToGroup_21 (k := ?_)
  refine ev_nullK (M := T11_placeToGroup) (pc := 22) s0 33 dX11_placeToGroup_22 (kt := fun hc => ?_) (kf := fun hc => ?_)
  · replace H := if_pe hc H
    refine ev_aload_n (M := T11_placeToGroup) (pc := 33) 3 dX11_placeToGroup_33 (k := ?_)
    obtain ⟨a1, ea1, H1⟩ := bd_e H
    clear H
    rw [ea1]
    refine ev_getI (M := T11_placeToGroup) (pc := 34) (x := h.1 2 a1 3) fl_X11_254 dX11_placeToGroup_34 (K := ?_)
    refine ev_aload_n (M := T11_placeToGroup) (pc := 37) 3 dX11_placeToGroup_37 (k := ?_)
    refine ev_getI (M := T11_placeToGroup) (pc := 38) (x := h.1 2 a1 2) fl_X11_134 dX11_placeToGroup_38 (K := ?_)
    refine ev_icmplt (M := T11_placeToGroup) (pc := 41) 46 dX11_placeToGroup_41 (kt := fun hc => ?_) (kf := fun hc => ?_)
    · replace H1 := if_pe hc H1
      refine ev_aload_n (M := T11_placeToGroup) (pc := 46) 1 dX11_placeToGroup_46 (k := ?_)
      refine ev_aload_n (M := T11_placeToGroup) (pc := 47) 2 dX11_placeToGroup_47 (k := ?_)
      refine ev_iconst (M := T11_placeToGroup) (pc := 48) dX11_placeToGroup_48 (k := ?_)
      obtain ⟨h2, hq, H2⟩ := bd_e H1
      clear H1
      refine ev_callV (M := T11_placeToGroup) (pc := 49) (mc := 0) (ms := 0) (st := []) (C11_enter hq) md_X11_enter im_X11_enter se_X11_enter ml_X11_383 dX11_placeToGroup_49 _ (by decide) (K := ?_)
      refine ev_aload_n (M := T11_placeToGroup) (pc := 52) 3 dX11_placeToGroup_52 (k := ?_)
      refine ev_aload_n (M := T11_placeToGroup) (pc := 53) 2 dX11_placeToGroup_53 (k := ?_)
      refine ev_iconst (M := T11_placeToGroup) (pc := 54) dX11_placeToGroup_54 (k := ?_)
      obtain ⟨h3, hq, H3⟩ := bd_e H2
      clear H2
      refine ev_callV (M := T11_placeToGroup) (pc := 55) (mc := 0) (ms := 0) (st := []) (C2_letWait hq) md_X2_letWait im_X2_letWait se_X2_letWait ml_X11_513 dX11_placeToGroup_55 _ (by decide) (K := ?_)
      refine ev_iconst (M := T11_placeToGroup) (pc := 58) dX11_placeToGroup_58 (k := ?_)
      cases H3
      exact ev_ireturn (M := T11_placeToGroup) (pc := 59) dX11_placeToGroup_59
    · replace H1 := if_ne hc H1
      refine ev_iconst (M := T11_placeToGroup) (pc := 44) dX11_placeToGroup_44 (k := ?_)
      cases H1
      exact ev_ireturn (M := T11_placeToGroup) (pc := 45) dX11_placeToGroup_45
  · replace H := if_ne hc H
    refine ev_aload_n (M := T11_placeToGroup) (pc := 25) 1 dX11_placeToGroup_25 (k := ?_)
    refine ev_aload_n (M := T11_placeToGroup) (pc := 26) 2 dX11_placeToGroup_26 (k := ?_)
    refine ev_aload_n (M := T11_placeToGroup) (pc := 27) 0 dX11_placeToGroup_27 (k := ?_)
    obtain ⟨h4, hq, H1⟩ := bd_e H
    clear H
    refine ev_callV (M := T11_placeToGroup) (pc := 28) (mc := 0) (ms := 0) (st := []) (C11_ring hq) md_X11_ring im_X11_ring se_X11_ring ml_X11_502 dX11_placeToGroup_28 _ (by decide) (K := ?_)
    refine ev_iconst (M := T11_placeToGroup) (pc := 31) dX11_placeToGroup_31 (k := ?_)
    cases H1
    exact ev_ireturn (M := T11_placeToGroup) (pc := 32) dX11_placeToGroup_32
set_option maxRecDepth 100000 in
set_option maxHeartbeats 4000000 in
theorem C11_placeToGroup {l1 : Option Int} {l2 : Option Int} {h : JM} {res : (Int × JM)} (H : F11_placeToGroup l1 l2 h = some res) : Cn j_W1 3 0 0 yX11_placeToGroup cX11_placeToGroup 4 (some .int) [.inr (.inr (some (11, 0))), .inr (.inr (Option.map (Prod.mk 0) (l1))), .inr (.inr (Option.map (Prod.mk 2) (l2)))] h (some (.inl res.1)) res.2 := by
  refine Cn.by (own := RX11) (b := false) [(0, .inr (.inr (some (11, 0)))), (1, .inr (.inr (Option.map (Prod.mk 0) (l1)))), (2, .inr (.inr (Option.map (Prod.mk 2) (l2))))] rfl (fun z => by cases z) (by decide +kernel) (K := ?_)
  unfold F11_placeToGroup at H
  refine ev_aload_n (M := T11_placeToGroup) (pc := 0) 1 dX11_placeToGroup_0 (k := ?_)
  refine ev_aload_n (M := T11_placeToGroup) (pc := 1) 2 dX11_placeToGroup_1 (k := ?_)
  obtain ⟨a5, ea5, H1⟩ := bd_e H
  clear H
  rw [ea5]
  obtain ⟨h6, eh6, H2⟩ := lt_e H1
  clear H1
  refine ev_putR (M := T11_placeToGroup) (pc := 2) (t := 2) j_ok1 l2 fl_X11_495 eh6 (hdg := dX11_placeToGroup_2) (hly := rl_0_5 _) (K := ?_)
  refine ev_aload_n (M := T11_placeToGroup) (pc := 5) 2 dX11_placeToGroup_5 (k := ?_)
  obtain ⟨a7, ea7, H3⟩ := bd_e H2
  clear H2
  rw [ea7]
  refine ev_getI (M := T11_placeToGroup) (pc := 6) (x := h6.1 2 a7 3) fl_X11_254 dX11_placeToGroup_6 (K := ?_)
  refine ev_ifne (M := T11_placeToGroup) (pc := 9) 19 dX11_placeToGroup_9 (kt := fun hc => ?_) (kf := fun hc => ?_)
  · replace H3 := if_ne hc H3
    refine ev_null (M := T11_placeToGroup) (pc := 19) dX11_placeToGroup_19 (k := ?_)
    exact E11_placeToGroup_20 (some a5) (some a7) none h6 _ H3
  · replace H3 := if_pe hc H3
    refine ev_aload_n (M := T11_placeToGroup) (pc := 12) 2 dX11_placeToGroup_12 (k := ?_)
    obtain ⟨q8, hq, H4⟩ := bd_e H3
    clear H3
    refine ev_callV (M := T11_placeToGroup) (pc := 13) (mc := 0) (ms := 0) (st := []) (C2_nextMember hq) md_X2_nextMember im_X2_nextMember se_X2_nextMember ml_X11_509 dX11_placeToGroup_13 _ (by decide) (K := ?_)
    refine ev_goto (M := T11_placeToGroup) (pc := 16) 20 dX11_placeToGroup_16 (k := ?_)
    exact E11_placeToGroup_20 (some a5) (some a7) q8.1 q8.2 _ H4
