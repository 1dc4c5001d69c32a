-- X11_placeToLine
abbrev T11_placeToLine : JT := (RX11, cX11_placeToLine, 3, some .int, false)
set_option maxRecDepth 100000 in
set_option maxHeartbeats 4000000 in
theorem C11_placeToLine {l1 : Option Int} {l2 : Option Int} {h : JM} {res : (Int × JM)} (H : F11_placeToLine l1 l2 h = some res) : Cn j_W1 3 0 0 yX11_placeToLine cX11_placeToLine 3 (some .int) [.inr (.inr (some (11, 0))), .inr (.inr (Option.map (Prod.mk 0) (l1))), .inr (.inr (Option.map (Prod.mk 4) (l2)))] h (some (.inl res.1)) res.2 := by
  refine Cn.by (own := RX11) (b := false) [(0, .inr (.inr (some (11, 0)))), (1, .inr (.inr (Option.map (Prod.mk 0) (l1)))), (2, .inr (.inr (Option.map (Prod.mk 4) (l2))))] rfl (fun z => by cases z) (by decide +kernel) (K := ?_)
  unfold F11_placeToLine at H
  refine ev_aload_n (M := T11_placeToLine) (pc := 0) 2 dX11_placeToLine_0 (k := ?_)
  obtain ⟨a1, ea1, H1⟩ := bd_e H
  clear H
  rw [ea1]
  refine ev_getR (M := T11_placeToLine) (pc := 1) (t := 28) (x := some (28, a1)) fl_X11_137 dX11_placeToLine_1 (hx := ry_4_1 _ _) (K := ?_)
  refine ev_iconst (M := T11_placeToLine) (pc := 4) dX11_placeToLine_4 (k := ?_)
  obtain ⟨⟨hi0, hi1⟩, H2⟩ := g_e H1
  clear H1
  refine ev_zaload (M := T11_placeToLine) (pc := 5) (k := 28) hi0 hi1 dX11_placeToLine_5 (hc := ac_28) (hlen := ln_28 _ _) (K := ?_)
  refine ev_ifeq (M := T11_placeToLine) (pc := 6) 12 dX11_placeToLine_6 (kt := fun hc => ?_) (kf := fun hc => ?_)
  · replace H2 := if_pe hc H2
    refine ev_aload_n (M := T11_placeToLine) (pc := 12) 2 dX11_placeToLine_12 (k := ?_)
    refine ev_getR (M := T11_placeToLine) (pc := 13) (t := 29) (x := some (29, a1)) fl_X11_141 dX11_placeToLine_13 (hx := ry_4_2 _ _) (K := ?_)
    refine ev_iconst (M := T11_placeToLine) (pc := 16) dX11_placeToLine_16 (k := ?_)
    obtain ⟨⟨hi0, hi1⟩, H3⟩ := g_e H2
    clear H2
    refine ev_laload (M := T11_placeToLine) (pc := 17) (k := 29) hi0 hi1 dX11_placeToLine_17 (hc := ac_29) (hlen := ln_29 _ _) (K := ?_)
    refine ev_lconst (M := T11_placeToLine) (pc := 18) (v := 0) dX11_placeToLine_18 (k := ?_)
    refine ev_lcmp (M := T11_placeToLine) (pc := 19) dX11_placeToLine_19 (k := ?_)
    refine ev_ifeq (M := T11_placeToLine) (pc := 20) 36 dX11_placeToLine_20 (kt := fun hc => ?_) (kf := fun hc => ?_)
    · replace H3 := if_pe hc H3
      refine ev_aload_n (M := T11_placeToLine) (pc := 36) 1 dX11_placeToLine_36 (k := ?_)
      refine ev_null (M := T11_placeToLine) (pc := 37) dX11_placeToLine_37 (k := ?_)
      obtain ⟨a2, ea2, H4⟩ := bd_e H3
      clear H3
      rw [ea2]
      obtain ⟨h3, eh3, H5⟩ := lt_e H4
      clear H4
      refine ev_putR (M := T11_placeToLine) (pc := 38) (t := 2) j_ok1 none fl_X11_495 eh3 (hdg := dX11_placeToLine_38) (hly := rl_0_5 _) (K := ?_)
      refine ev_aload_n (M := T11_placeToLine) (pc := 41) 2 dX11_placeToLine_41 (k := ?_)
      obtain ⟨q4, hq, H6⟩ := bd_e H5
      clear H5
      refine ev_callV (M := T11_placeToLine) (pc := 42) (mc := 0) (ms := 0) (st := []) (C4_isFree hq) md_X4_isFree im_X4_isFree se_X4_isFree ml_X11_499 dX11_placeToLine_42 _ (by decide) (K := ?_)
      refine ev_ifeq (M := T11_placeToLine) (pc := 45) 56 dX11_placeToLine_45 (kt := fun hc => ?_) (kf := fun hc => ?_)
      · replace H6 := if_pe hc H6
        refine ev_aload_n (M := T11_placeToLine) (pc := 56) 2 dX11_placeToLine_56 (k := ?_)
        obtain ⟨q5, hq, H7⟩ := bd_e H6
        clear H6
        refine ev_callV (M := T11_placeToLine) (pc := 57) (mc := 0) (ms := 0) (st := []) (C4_canTakeOther hq) md_X4_canTakeOther im_X4_canTakeOther se_X4_canTakeOther ml_X11_506 dX11_placeToLine_57 _ (by decide) (K := ?_)
        refine ev_ifeq (M := T11_placeToLine) (pc := 60) 81 dX11_placeToLine_60 (kt := fun hc => ?_) (kf := fun hc => ?_)
        · replace H7 := if_pe hc H7
          refine ev_aload_n (M := T11_placeToLine) (pc := 81) 2 dX11_placeToLine_81 (k := ?_)
          refine ev_getR (M := T11_placeToLine) (pc := 82) (t := 29) (x := some (29, a1)) fl_X11_141 dX11_placeToLine_82 (hx := ry_4_2 _ _) (K := ?_)
          refine ev_iconst (M := T11_placeToLine) (pc := 85) dX11_placeToLine_85 (k := ?_)
          obtain ⟨⟨hi0, hi1⟩, H8⟩ := g_e H7
          clear H7
          refine ev_laload (M := T11_placeToLine) (pc := 86) (k := 29) hi0 hi1 dX11_placeToLine_86 (hc := ac_29) (hlen := ln_29 _ _) (K := ?_)
          refine ev_lconst (M := T11_placeToLine) (pc := 87) (v := 0) dX11_placeToLine_87 (k := ?_)
          refine ev_lcmp (M := T11_placeToLine) (pc := 88) dX11_placeToLine_88 (k := ?_)
          refine ev_ifeq (M := T11_placeToLine) (pc := 89) 105 dX11_placeToLine_89 (kt := fun hc => ?_) (kf := fun hc => ?_)
          · replace H8 := if_pe hc H8
            refine ev_iconst (M := T11_placeToLine) (pc := 105) dX11_placeToLine_105 (k := ?_)
            cases H8
            exact ev_ireturn (M := T11_placeToLine) (pc := 106) dX11_placeToLine_106
          · replace H8 := if_ne hc H8
            refine ev_aload_n (M := T11_placeToLine) (pc := 92) 1 dX11_placeToLine_92 (k := ?_)
            refine ev_aload_n (M := T11_placeToLine) (pc := 93) 2 dX11_placeToLine_93 (k := ?_)
            refine ev_getR (M := T11_placeToLine) (pc := 94) (t := 29) (x := some (29, a1)) fl_X11_141 dX11_placeToLine_94 (hx := ry_4_2 _ _) (K := ?_)
            refine ev_iconst (M := T11_placeToLine) (pc := 97) dX11_placeToLine_97 (k := ?_)
            obtain ⟨⟨hi0, hi1⟩, H9⟩ := g_e H8
            clear H8
            refine ev_laload (M := T11_placeToLine) (pc := 98) (k := 29) hi0 hi1 dX11_placeToLine_98 (hc := ac_29) (hlen := ln_29 _ _) (K := ?_)
            obtain ⟨h6, eh6, H10⟩ := lt_e H9
            clear H9
            refine ev_putL (M := T11_placeToLine) (pc := 99) j_ok1 fl_X11_222 eh6 dX11_placeToLine_99 (K := ?_)
            refine ev_bipush (M := T11_placeToLine) (pc := 102) dX11_placeToLine_102 (k := ?_)
            cases H10
            exact ev_ireturn (M := T11_placeToLine) (pc := 104) dX11_placeToLine_104
        · replace H7 := if_ne hc H7
          refine ev_aload_n (M := T11_placeToLine) (pc := 63) 2 dX11_placeToLine_63 (k := ?_)
          refine ev_aload_n (M := T11_placeToLine) (pc := 64) 1 dX11_placeToLine_64 (k := ?_)
          obtain ⟨h7, eh7, H8⟩ := lt_e H7
          clear H7
          refine ev_putR (M := T11_placeToLine) (pc := 65) (t := 0) j_ok1 (some a2) fl_X11_213 eh7 (hdg := dX11_placeToLine_65) (hly := rl_4_12 _) (K := ?_)
          refine ev_aload_n (M := T11_placeToLine) (pc := 68) 1 dX11_placeToLine_68 (k := ?_)
          refine ev_aload_n (M := T11_placeToLine) (pc := 69) 2 dX11_placeToLine_69 (k := ?_)
          obtain ⟨h8, eh8, H9⟩ := lt_e H8
          clear H8
          refine ev_putR (M := T11_placeToLine) (pc := 70) (t := 4) j_ok1 (some a1) fl_X11_237 eh8 (hdg := dX11_placeToLine_70) (hly := rl_0_3 _) (K := ?_)
          refine ev_aload_n (M := T11_placeToLine) (pc := 73) 0 dX11_placeToLine_73 (k := ?_)
          refine ev_aload_n (M := T11_placeToLine) (pc := 74) 1 dX11_placeToLine_74 (k := ?_)
          refine ev_iconst (M := T11_placeToLine) (pc := 75) dX11_placeToLine_75 (k := ?_)
          obtain ⟨h9, hq, H10⟩ := bd_e H9
          clear H9
          refine ev_callV (M := T11_placeToLine) (pc := 76) (mc := 0) (ms := 0) (st := []) (C11_enter hq) md_X11_enter im_X11_enter se_X11_enter ml_X11_383 dX11_placeToLine_76 _ (by decide) (K := ?_)
          refine ev_iconst (M := T11_placeToLine) (pc := 79) dX11_placeToLine_79 (k := ?_)
          cases H10
          exact ev_ireturn (M := T11_placeToLine) (pc := 80) dX11_placeToLine_80
      · replace H6 := if_ne hc H6
        refine ev_aload_n (M := T11_placeToLine) (pc := 48) 0 dX11_placeToLine_48 (k := ?_)
        refine ev_aload_n (M := T11_placeToLine) (pc := 49) 1 dX11_placeToLine_49 (k := ?_)
        refine ev_aload_n (M := T11_placeToLine) (pc := 50) 2 dX11_placeToLine_50 (k := ?_)
        obtain ⟨h10, hq, H7⟩ := bd_e H6
        clear H6
        refine ev_callV (M := T11_placeToLine) (pc := 51) (mc := 0) (ms := 0) (st := []) (C11_ring hq) md_X11_ring im_X11_ring se_X11_ring ml_X11_502 dX11_placeToLine_51 _ (by decide) (K := ?_)
        refine ev_iconst (M := T11_placeToLine) (pc := 54) dX11_placeToLine_54 (k := ?_)
        cases H7
        exact ev_ireturn (M := T11_placeToLine) (pc := 55) dX11_placeToLine_55
    · replace H3 := if_ne hc H3
      refine ev_aload_n (M := T11_placeToLine) (pc := 23) 1 dX11_placeToLine_23 (k := ?_)
      refine ev_aload_n (M := T11_placeToLine) (pc := 24) 2 dX11_placeToLine_24 (k := ?_)
      refine ev_getR (M := T11_placeToLine) (pc := 25) (t := 29) (x := some (29, a1)) fl_X11_141 dX11_placeToLine_25 (hx := ry_4_2 _ _) (K := ?_)
      refine ev_iconst (M := T11_placeToLine) (pc := 28) dX11_placeToLine_28 (k := ?_)
      obtain ⟨⟨hi0, hi1⟩, H4⟩ := g_e H3
      clear H3
      refine ev_laload (M := T11_placeToLine) (pc := 29) (k := 29) hi0 hi1 dX11_placeToLine_29 (hc := ac_29) (hlen := ln_29 _ _) (K := ?_)
      obtain ⟨a11, ea11, H5⟩ := bd_e H4
      clear H4
      rw [ea11]
      obtain ⟨h12, eh12, H6⟩ := lt_e H5
      clear H5
      refine ev_putL (M := T11_placeToLine) (pc := 30) j_ok1 fl_X11_222 eh12 dX11_placeToLine_30 (K := ?_)
      refine ev_bipush (M := T11_placeToLine) (pc := 33) dX11_placeToLine_33 (k := ?_)
      cases H6
      exact ev_ireturn (M := T11_placeToLine) (pc := 35) dX11_placeToLine_35
  · replace H2 := if_ne hc H2
    refine ev_bipush (M := T11_placeToLine) (pc := 9) dX11_placeToLine_9 (k := ?_)
    cases H2
    exact ev_ireturn (M := T11_placeToLine) (pc := 11) dX11_placeToLine_11
-- X11_placeToRoom
abbrev T11_placeToRoom : JT := (RX11, cX11_placeToRoom, 3, some .int, false)
set_option maxRecDepth 100000 in
set_option maxHeartbeats 4000000 in
theorem C11_placeToRoom {l1 : Option Int} {l2 : Int} {h : JM} {res : (Int × JM)} (H : F11_placeToRoom l1 l2 h = some res) : Cn j_W1 1 0 0 yX11_placeToRoom cX11_placeToRoom 3 (some .int) [.inr (.inr (some (11, 0))), .inr (.inr (Option.map (Prod.mk 0) (l1))), .inl (l2)] h (some (.inl res.1)) res.2 := by
  refine Cn.by (own := RX11) (b := false) [(0, .inr (.inr (some (11, 0)))), (1, .inr (.inr (Option.map (Prod.mk 0) (l1)))), (2, .inl (l2))] rfl (fun z => by cases z) (by decide +kernel) (K := ?_)
  unfold F11_placeToRoom at H
  refine ev_aload_n (M := T11_placeToRoom) (pc := 0) 1 dX11_placeToRoom_0 (k := ?_)
  obtain ⟨a1, ea1, H1⟩ := bd_e H
  clear H
  rw [ea1]
  refine ev_getR (M := T11_placeToRoom) (pc := 1) (t := 1) (x := Option.map (Prod.mk 1) (h.2.2 0 a1 0)) fl_X11_444 dX11_placeToRoom_1 (hx := ry_0_0 _ _) (K := ?_)
  obtain ⟨a2, ea2, H2⟩ := bd_e H1
  clear H1
  rw [ea2]
  refine ev_getR (M := T11_placeToRoom) (pc := 4) (t := 23) (x := some (23, a2)) fl_X11_257 dX11_placeToRoom_4 (hx := ry_1_5 _ _) (K := ?_)
  refine ev_iload_n (M := T11_placeToRoom) (pc := 7) 2 dX11_placeToRoom_7 (k := ?_)
  obtain ⟨⟨hi0, hi1⟩, H3⟩ := g_e H2
  clear H2
  refine ev_iaload (M := T11_placeToRoom) (pc := 8) (k := 23) hi0 hi1 dX11_placeToRoom_8 (hc := ac_23) (hlen := ln_23 _ _) (K := ?_)
  refine ev_bipush (M := T11_placeToRoom) (pc := 9) dX11_placeToRoom_9 (k := ?_)
  refine ev_icmplt (M := T11_placeToRoom) (pc := 11) 16 dX11_placeToRoom_11 (kt := fun hc => ?_) (kf := fun hc => ?_)
  · replace H3 := if_pe hc H3
    refine ev_aload_n (M := T11_placeToRoom) (pc := 16) 1 dX11_placeToRoom_16 (k := ?_)
    refine ev_iload_n (M := T11_placeToRoom) (pc := 17) 2 dX11_placeToRoom_17 (k := ?_)
    obtain ⟨h3, eh3, H4⟩ := lt_e H3
    clear H3
    refine ev_putI (M := T11_placeToRoom) (pc := 18) j_ok1 fl_X11_234 eh3 dX11_placeToRoom_18 (K := ?_)
    refine ev_aload_n (M := T11_placeToRoom) (pc := 21) 1 dX11_placeToRoom_21 (k := ?_)
    refine ev_getR (M := T11_placeToRoom) (pc := 22) (t := 1) (x := Option.map (Prod.mk 1) (h3.2.2 0 a1 0)) fl_X11_444 dX11_placeToRoom_22 (hx := ry_0_0 _ _) (K := ?_)
    obtain ⟨a4, ea4, H5⟩ := bd_e H4
    clear H4
    rw [ea4]
    refine ev_getR (M := T11_placeToRoom) (pc := 25) (t := 23) (x := some (23, a4)) fl_X11_257 dX11_placeToRoom_25 (hx := ry_1_5 _ _) (K := ?_)
    refine ev_iload_n (M := T11_placeToRoom) (pc := 28) 2 dX11_placeToRoom_28 (k := ?_)
    refine ev_dup2 (M := T11_placeToRoom) (pc := 29) dX11_placeToRoom_29 (k := ?_)
    obtain ⟨⟨hi0, hi1⟩, H6⟩ := g_e H5
    clear H5
    refine ev_iaload (M := T11_placeToRoom) (pc := 30) (k := 23) hi0 hi1 dX11_placeToRoom_30 (hc := ac_23) (hlen := ln_23 _ _) (K := ?_)
    refine ev_iconst (M := T11_placeToRoom) (pc := 31) dX11_placeToRoom_31 (k := ?_)
    refine ev_iadd (M := T11_placeToRoom) (pc := 32) dX11_placeToRoom_32 (k := ?_)
    obtain ⟨⟨hi0, hi1⟩, H7⟩ := g_e H6
    clear H6
    obtain ⟨h5, eh5, H8⟩ := lt_e H7
    clear H7
    refine ev_iastore (M := T11_placeToRoom) (pc := 33) (k := 23) j_ok1 hi0 hi1 eh5 dX11_placeToRoom_33 (hc := ac_23) (hlen := ln_23 _ _) (K := ?_)
    refine ev_bipush (M := T11_placeToRoom) (pc := 34) dX11_placeToRoom_34 (k := ?_)
    cases H8
    exact ev_ireturn (M := T11_placeToRoom) (pc := 36) dX11_placeToRoom_36
  · replace H3 := if_ne hc H3
    refine ev_iconst (M := T11_placeToRoom) (pc := 14) dX11_placeToRoom_14 (k := ?_)
    cases H3
    exact ev_ireturn (M := T11_placeToRoom) (pc := 15) dX11_placeToRoom_15
-- X11_place
abbrev T11_place : JT := (RX11, cX11_place, 6, none, false)
set_option maxRecDepth 100000 in
set_option maxHeartbeats 4000000 in
theorem E11_place_173 (l1 : Option Int) (l3 : Int) (h : JM) (res : JM) (H : F11_place_173 l1 l3 h = some res) : Ev j_W1 4 0 0 T11_place 173 [(0, .inr (.inr (some (11, 0)))), (1, .inr (.inr (Option.map (Prod.mk 0) (l1)))), (3, .inl (l3))] [] h none res := by
  unfold F11_place_173 at H
  refine ev_iload_n (M := T11_place) (pc := 173) 2 dX11_place_173 (k := ?_)
  refine ev_ifle (M := T11_place) (pc := 174) 184 dX11_place_174 (kt := fun hc => ?_) (kf := fun hc => ?_)
  · replace H := if_pe hc H
    cases H
    exact ev_return (M := T11_place) (pc := 184) dX11_place_184
  · replace H := if_ne hc H
    refine ev_aload_n (M := T11_place) (pc := 177) 0 dX11_place_177 (k := ?_)
    refine ev_aload_n (M := T11_place) (pc := 178) 1 dX11_place_178 (k := ?_)
    refine ev_iload_n (M := T11_place) (pc := 179) 2 dX11_place_179 (k := ?_)
    refine ev_iconst (M := T11_place) (pc := 180) dX11_place_180 (k := ?_)
    obtain ⟨h1, hq, H1⟩ := bd_e H
    clear H
    refine ev_callV (M := T11_place) (pc := 181) (mc := 0) (ms := 0) (st := []) (C11_end hq) md_X11_end im_X11_end se_X11_end ml_X11_375 dX11_place_181 _ (by decide) (K := ?_)
    cases H1
    exact ev_return (M := T11_place) (pc := 184) dX11_place_184
set_option maxRecDepth 100000 in
set_option maxHeartbeats 4000000 in
theorem E11_place_141 (l1 : Option Int) (l3 : Int) (h : JM) (res : JM) (H : F11_place_141 l1 l3 h = some res) : Ev j_W1 4 0 0 T11_place 141 [(0, .inr (.inr (some (11, 0)))), (1, .inr (.inr (Option.map (Prod.mk 0) (l1)))), (3, .inl (l3))] [] h none res := by
  unfold F11_place_141 at H
  refine ev_iload_n (M := T11_place) (pc := 141) 2 dX11_place_141 (k := ?_)
  refine ev_bipush (M := T11_place) (pc := 142) dX11_place_142 (k := ?_)
  refine ev_icmpne (M := T11_place) (pc := 144) 156 dX11_place_144 (kt := fun hc => ?_) (kf := fun hc => ?_)
  · replace H := if_ne hc H
    refine ev_iload_n (M := T11_place) (pc := 156) 2 dX11_place_156 (k := ?_)
    refine ev_ifne (M := T11_place) (pc := 157) 173 dX11_place_157 (kt := fun hc => ?_) (kf := fun hc => ?_)
    · replace H := if_ne hc H
      exact E11_place_173 l1 l3 h _ H
    · replace H := if_pe hc H
      refine ev_aload_n (M := T11_place) (pc := 160) 1 dX11_place_160 (k := ?_)
      obtain ⟨a2, ea2, H1⟩ := bd_e H
      clear H
      rw [ea2]
      refine ev_getI (M := T11_place) (pc := 161) (x := h.1 0 a2 9) fl_X11_210 dX11_place_161 (K := ?_)
      refine ev_iconst (M := T11_place) (pc := 164) dX11_place_164 (k := ?_)
      refine ev_icmpeq (M := T11_place) (pc := 165) 173 dX11_place_165 (kt := fun hc => ?_) (kf := fun hc => ?_)
      · replace H1 := if_pe hc H1
        exact E11_place_173 (some a2) l3 h _ H1
      · replace H1 := if_ne hc H1
        refine ev_aload_n (M := T11_place) (pc := 168) 0 dX11_place_168 (k := ?_)
        refine ev_aload_n (M := T11_place) (pc := 169) 1 dX11_place_169 (k := ?_)
        obtain ⟨h3, hq, H2⟩ := bd_e H1
        clear H1
        refine ev_callV (M := T11_place) (pc := 170) (mc := 0) (ms := 0) (st := []) (C11_announce hq) md_X11_announce im_X11_announce se_X11_announce ml_X11_386 dX11_place_170 _ (by decide) (K := ?_)
        exact E11_place_173 (some a2) l3 h3 _ H2
  · replace H := if_pe hc H
    refine ev_aload_n (M := T11_place) (pc := 147) 0 dX11_place_147 (k := ?_)
    refine ev_aload_n (M := T11_place) (pc := 148) 1 dX11_place_148 (k := ?_)
    obtain ⟨q4, hq, H1⟩ := bd_e H
    clear H
    refine ev_callV (M := T11_place) (pc := 149) (mc := 0) (ms := 0) (st := []) (C11_answer hq) md_X11_answer im_X11_answer se_X11_answer ml_X11_390 dX11_place_149 _ (by decide) (K := ?_)
    refine ev_istore_n (M := T11_place) (pc := 152) [(3, .inl (q4.1)), (0, .inr (.inr (some (11, 0)))), (1, .inr (.inr (Option.map (Prod.mk 0) (l1))))] dX11_place_152 (k := ?_)
    refine ev_goto (M := T11_place) (pc := 153) 173 dX11_place_153 (k := ?_)
    refine ev_lv [1, 2, 0] [(0, .inr (.inr (some (11, 0)))), (1, .inr (.inr (Option.map (Prod.mk 0) (l1)))), (3, .inl (q4.1))] (k := ?_)
    exact E11_place_173 l1 q4.1 q4.2 _ H1
set_option maxRecDepth 100000 in
set_option maxHeartbeats 4000000 in
theorem E11_place_135 (k5 : Option Int → Int → Int → JM → Option JM) (hk5 : ∀ (l1 : Option Int) (l3 : Int) (l4 : Int) (h : JM) (res : JM), k5 l1 l3 l4 h = some res → Ev j_W1 4 0 0 T11_place 5 [(0, .inr (.inr (some (11, 0)))), (1, .inr (.inr (Option.map (Prod.mk 0) (l1)))), (3, .inl (l3)), (4, .inl (l4))] [] h none res) (l1 : Option Int) (l3 : Int) (l4 : Int) (h : JM) (res : JM) (H : F11_place_135 k5 l1 l3 l4 h = some res) : Ev j_W1 4 0 0 T11_place 135 [(0, .inr (.inr (some (11, 0)))), (1, .inr (.inr (Option.map (Prod.mk 0) (l1)))), (3, .inl (l3)), (4, .inl (l4))] [] h none res := by
  unfold F11_place_135 at H
  refine ev_iinc (M := T11_place) (pc := 135) 3 [(4, .inl (w32 (l4 + 1))), (0, .inr (.inr (some (11, 0)))), (1, .inr (.inr (Option.map (Prod.mk 0) (l1)))), (3, .inl (l3))] dX11_place_135 (k := ?_)
  refine ev_goto (M := T11_place) (pc := 138) 5 dX11_place_138 (k := ?_)
  refine ev_lv [1, 2, 3, 0] [(0, .inr (.inr (some (11, 0)))), (1, .inr (.inr (Option.map (Prod.mk 0) (l1)))), (3, .inl (l3)), (4, .inl (w32 (l4 + 1)))] (k := ?_)
  exact hk5 l1 l3 (w32 (l4 + 1)) h _ H
set_option maxRecDepth 100000 in
set_option maxHeartbeats 4000000 in
theorem E11_place_5b (k5 : Option Int → Int → Int → JM → Option JM) (hk5 : ∀ (l1 : Option Int) (l3 : Int) (l4 : Int) (h : JM) (res : JM), k5 l1 l3 l4 h = some res → Ev j_W1 4 0 0 T11_place 5 [(0, .inr (.inr (some (11, 0)))), (1, .inr (.inr (Option.map (Prod.mk 0) (l1)))), (3, .inl (l3)), (4, .inl (l4))] [] h none res) (l1 : Option Int) (l3 : Int) (l4 : Int) (h : JM) (res : JM) (H : F11_place_5b k5 l1 l3 l4 h = some res) : Ev j_W1 4 0 0 T11_place 5 [(0, .inr (.inr (some (11, 0)))), (1, .inr (.inr (Option.map (Prod.mk 0) (l1)))), (3, .inl (l3)), (4, .inl (l4))] [] h none res := by
  unfold F11_place_5b at H
  refine ev_iload (M := T11_place) (pc := 5) 3 dX11_place_5 (k := ?_)
  refine ev_bipush (M := T11_place) (pc := 7) dX11_place_7 (k := ?_)
  refine ev_icmpge (M := T11_place) (pc := 9) 141 dX11_place_9 (kt := fun hc => ?_) (kf := fun hc => ?_)
  · replace H := if_pe hc H
    refine ev_lv [0, 1, 2] [(0, .inr (.inr (some (11, 0)))), (1, .inr (.inr (Option.map (Prod.mk 0) (l1)))), (3, .inl (l3))] (k := ?_)
    exact E11_place_141 l1 l3 h _ H
  · replace H := if_ne hc H
    refine ev_aload_n (M := T11_place) (pc := 12) 1 dX11_place_12 (k := ?_)
    obtain ⟨a5, ea5, H1⟩ := bd_e H
    clear H
    rw [ea5]
    refine ev_getR (M := T11_place) (pc := 13) (t := 6) (x := Option.map (Prod.mk 6) (h.2.2 0 a5 7)) fl_X11_379 dX11_place_13 (hx := ry_0_7 _ _) (K := ?_)
    refine ev_astore (M := T11_place) (pc := 16) [(5, .inr (.inr (Option.map (Prod.mk 6) (h.2.2 0 a5 7)))), (0, .inr (.inr (some (11, 0)))), (1, .inr (.inr (some (0, a5)))), (3, .inl (l3)), (4, .inl (l4))] dX11_place_16 (k := ?_)
    refine ev_iload_n (M := T11_place) (pc := 18) 3 dX11_place_18 (k := ?_)
    refine ev_bipush (M := T11_place) (pc := 19) dX11_place_19 (k := ?_)
    refine ev_icmpne (M := T11_place) (pc := 21) 33 dX11_place_21 (kt := fun hc => ?_) (kf := fun hc => ?_)
    · replace H1 := if_ne hc H1
      refine ev_iload_n (M := T11_place) (pc := 33) 3 dX11_place_33 (k := ?_)
      refine ev_iconst (M := T11_place) (pc := 34) dX11_place_34 (k := ?_)
      refine ev_icmpne (M := T11_place) (pc := 35) 141 dX11_place_35 (kt := fun hc => ?_) (kf := fun hc => ?_)
      · replace H1 := if_ne hc H1
        refine ev_lv [1, 2, 3] [(0, .inr (.inr (some (11, 0)))), (1, .inr (.inr (some (0, a5)))), (3, .inl (l3))] (k := ?_)
        exact E11_place_141 (some a5) l3 h _ H1
      · replace H1 := if_pe hc H1
        refine ev_aload (M := T11_place) (pc := 38) 0 dX11_place_38 (k := ?_)
        refine ev_nonnullK (M := T11_place) (pc := 40) (h.2.2 0 a5 7) 46 dX11_place_40 (kt := fun hc => ?_) (kf := fun hc => ?_)
        · replace H1 := if_ne hc H1
          refine ev_aload (M := T11_place) (pc := 46) 0 dX11_place_46 (k := ?_)
          obtain ⟨a6, ea6, H2⟩ := bd_e H1
          clear H1
          rw [ea6]
          refine ev_getI (M := T11_place) (pc := 48) (x := h.1 6 a6 2) fl_X11_462 dX11_place_48 (K := ?_)
          refine ev_ifne (M := T11_place) (pc := 51) 73 dX11_place_51 (kt := fun hc => ?_) (kf := fun hc => ?_)
          · replace H2 := if_ne hc H2
            refine ev_aload (M := T11_place) (pc := 73) 0 dX11_place_73 (k := ?_)
            refine ev_getI (M := T11_place) (pc := 75) (x := h.1 6 a6 2) fl_X11_462 dX11_place_75 (K := ?_)
            refine ev_iconst (M := T11_place) (pc := 78) dX11_place_78 (k := ?_)
            refine ev_icmpne (M := T11_place) (pc := 79) 104 dX11_place_79 (kt := fun hc => ?_) (kf := fun hc => ?_)
            · replace H2 := if_ne hc H2
              refine ev_aload (M := T11_place) (pc := 104) 0 dX11_place_104 (k := ?_)
              refine ev_getI (M := T11_place) (pc := 106) (x := h.1 6 a6 2) fl_X11_462 dX11_place_106 (K := ?_)
              refine ev_iconst (M := T11_place) (pc := 109) dX11_place_109 (k := ?_)
              refine ev_icmpne (M := T11_place) (pc := 110) 127 dX11_place_110 (kt := fun hc => ?_) (kf := fun hc => ?_)
              · replace H2 := if_ne hc H2
                refine ev_aload_n (M := T11_place) (pc := 127) 1 dX11_place_127 (k := ?_)
                refine ev_aload_n (M := T11_place) (pc := 128) 2 dX11_place_128 (k := ?_)
                refine ev_aload (M := T11_place) (pc := 129) 0 dX11_place_129 (k := ?_)
                obtain ⟨q7, hq, H3⟩ := bd_e H2
                clear H2
                refine ev_callV (M := T11_place) (pc := 131) (mc := 0) (ms := 0) (st := []) (C11_placeFar hq) md_X11_placeFar im_X11_placeFar se_X11_placeFar ml_X11_480 dX11_place_131 _ (by decide) (K := ?_)
                refine ev_istore_n (M := T11_place) (pc := 134) [(3, .inl (q7.1)), (5, .inr (.inr (some (6, a6)))), (0, .inr (.inr (some (11, 0)))), (1, .inr (.inr (some (0, a5)))), (4, .inl (l4))] dX11_place_134 (k := ?_)
                refine ev_lv [2, 3, 0, 4] [(0, .inr (.inr (some (11, 0)))), (1, .inr (.inr (some (0, a5)))), (3, .inl (q7.1)), (4, .inl (l4))] (k := ?_)
                exact E11_place_135 k5 hk5 (some a5) q7.1 l4 q7.2 _ H3
              · replace H2 := if_pe hc H2
                refine ev_aload_n (M := T11_place) (pc := 113) 1 dX11_place_113 (k := ?_)
                refine ev_aload_n (M := T11_place) (pc := 114) 2 dX11_place_114 (k := ?_)
                refine ev_aload (M := T11_place) (pc := 115) 0 dX11_place_115 (k := ?_)
                refine ev_getI (M := T11_place) (pc := 117) (x := h.1 6 a6 3) fl_X11_465 dX11_place_117 (K := ?_)
                obtain ⟨q8, hq, H3⟩ := bd_e H2
                clear H2
                refine ev_callV (M := T11_place) (pc := 120) (mc := 0) (ms := 0) (st := []) (C11_placeToRoom hq) md_X11_placeToRoom im_X11_placeToRoom se_X11_placeToRoom ml_X11_476 dX11_place_120 _ (by decide) (K := ?_)
                refine ev_istore_n (M := T11_place) (pc := 123) [(3, .inl (q8.1)), (5, .inr (.inr (some (6, a6)))), (0, .inr (.inr (some (11, 0)))), (1, .inr (.inr (some (0, a5)))), (4, .inl (l4))] dX11_place_123 (k := ?_)
                refine ev_goto (M := T11_place) (pc := 124) 135 dX11_place_124 (k := ?_)
                refine ev_lv [2, 3, 0, 4] [(0, .inr (.inr (some (11, 0)))), (1, .inr (.inr (some (0, a5)))), (3, .inl (q8.1)), (4, .inl (l4))] (k := ?_)
                exact E11_place_135 k5 hk5 (some a5) q8.1 l4 q8.2 _ H3
            · replace H2 := if_pe hc H2
              refine ev_aload_n (M := T11_place) (pc := 82) 1 dX11_place_82 (k := ?_)
              refine ev_aload_n (M := T11_place) (pc := 83) 2 dX11_place_83 (k := ?_)
              refine ev_aload_n (M := T11_place) (pc := 84) 2 dX11_place_84 (k := ?_)
              refine ev_getR (M := T11_place) (pc := 85) (t := 1) (x := Option.map (Prod.mk 1) (h.2.2 0 a5 0)) fl_X11_444 dX11_place_85 (hx := ry_0_0 _ _) (K := ?_)
              obtain ⟨a9, ea9, H3⟩ := bd_e H2
              clear H2
              rw [ea9]
              refine ev_getR (M := T11_place) (pc := 88) (t := 21) (x := some (21, a9)) fl_X11_118 dX11_place_88 (hx := ry_1_2 _ _) (K := ?_)
              refine ev_aload (M := T11_place) (pc := 91) 0 dX11_place_91 (k := ?_)
              refine ev_getI (M := T11_place) (pc := 93) (x := h.1 6 a6 3) fl_X11_465 dX11_place_93 (K := ?_)
              obtain ⟨⟨hi0, hi1⟩, H4⟩ := g_e H3
              clear H3
              refine ev_aaload (M := T11_place) (pc := 96) (k := 21) 2 (x := some (2, (3 * a9 + (h.1 6 a6 3)))) hi0 hi1 dX11_place_96 (hc := ac_21) (hlen := ln_21 _ _) (hx := rz_21 _ _ _) (K := ?_)
              obtain ⟨q10, hq, H5⟩ := bd_e H4
              clear H4
              refine ev_callV (M := T11_place) (pc := 97) (mc := 0) (ms := 0) (st := []) (C11_placeToGroup hq) md_X11_placeToGroup im_X11_placeToGroup se_X11_placeToGroup ml_X11_472 dX11_place_97 _ (by decide) (K := ?_)
              refine ev_istore_n (M := T11_place) (pc := 100) [(3, .inl (q10.1)), (5, .inr (.inr (some (6, a6)))), (0, .inr (.inr (some (11, 0)))), (1, .inr (.inr (some (0, a5)))), (4, .inl (l4))] dX11_place_100 (k := ?_)
              refine ev_goto (M := T11_place) (pc := 101) 135 dX11_place_101 (k := ?_)
              refine ev_lv [2, 3, 0, 4] [(0, .inr (.inr (some (11, 0)))), (1, .inr (.inr (some (0, a5)))), (3, .inl (q10.1)), (4, .inl (l4))] (k := ?_)
              exact E11_place_135 k5 hk5 (some a5) q10.1 l4 q10.2 _ H5
          · replace H2 := if_pe hc H2
            refine ev_aload_n (M := T11_place) (pc := 54) 1 dX11_place_54 (k := ?_)
            refine ev_aload_n (M := T11_place) (pc := 55) 2 dX11_place_55 (k := ?_)
            refine ev_aload_n (M := T11_place) (pc := 56) 1 dX11_place_56 (k := ?_)
            refine ev_getR (M := T11_place) (pc := 57) (t := 39) (x := some (39, 0)) fl_X11_17 dX11_place_57 (hx := ry_11_3 _ _) (K := ?_)
            refine ev_aload (M := T11_place) (pc := 60) 0 dX11_place_60 (k := ?_)
            refine ev_getI (M := T11_place) (pc := 62) (x := h.1 6 a6 3) fl_X11_465 dX11_place_62 (K := ?_)
            obtain ⟨⟨hi0, hi1⟩, H3⟩ := g_e H2
            clear H2
            refine ev_aaload (M := T11_place) (pc := 65) (k := 39) 4 (x := some (4, (h.1 6 a6 3))) hi0 hi1 dX11_place_65 (hc := ac_39) (hlen := ln_39 _ _) (hx := rz_39 _ _ _) (K := ?_)
            obtain ⟨q11, hq, H4⟩ := bd_e H3
            clear H3
            refine ev_callV (M := T11_place) (pc := 66) (mc := 0) (ms := 0) (st := []) (C11_placeToLine hq) md_X11_placeToLine im_X11_placeToLine se_X11_placeToLine ml_X11_468 dX11_place_66 _ (by decide) (K := ?_)
            refine ev_istore_n (M := T11_place) (pc := 69) [(3, .inl (q11.1)), (5, .inr (.inr (some (6, a6)))), (0, .inr (.inr (some (11, 0)))), (1, .inr (.inr (some (0, a5)))), (4, .inl (l4))] dX11_place_69 (k := ?_)
            refine ev_goto (M := T11_place) (pc := 70) 135 dX11_place_70 (k := ?_)
            refine ev_lv [2, 3, 0, 4] [(0, .inr (.inr (some (11, 0)))), (1, .inr (.inr (some (0, a5)))), (3, .inl (q11.1)), (4, .inl (l4))] (k := ?_)
            exact E11_place_135 k5 hk5 (some a5) q11.1 l4 q11.2 _ H4
        · replace H1 := if_pe hc H1
          refine ev_goto (M := T11_place) (pc := 43) 141 dX11_place_43 (k := ?_)
          refine ev_lv [1, 2, 3] [(0, .inr (.inr (some (11, 0)))), (1, .inr (.inr (some (0, a5)))), (3, .inl (l3))] (k := ?_)
          exact E11_place_141 (some a5) l3 h _ H1
    · replace H1 := if_pe hc H1
      refine ev_aload_n (M := T11_place) (pc := 24) 1 dX11_place_24 (k := ?_)
      refine ev_aload_n (M := T11_place) (pc := 25) 2 dX11_place_25 (k := ?_)
      obtain ⟨q12, hq, H2⟩ := bd_e H1
      clear H1
      refine ev_callV (M := T11_place) (pc := 26) (mc := 0) (ms := 0) (st := []) (C11_findRowAnew hq) md_X11_findRowAnew im_X11_findRowAnew se_X11_findRowAnew ml_X11_459 dX11_place_26 _ (by decide) (K := ?_)
      refine ev_istore_n (M := T11_place) (pc := 29) [(3, .inl (q12.1)), (5, .inr (.inr (Option.map (Prod.mk 6) (h.2.2 0 a5 7)))), (0, .inr (.inr (some (11, 0)))), (1, .inr (.inr (some (0, a5)))), (4, .inl (l4))] dX11_place_29 (k := ?_)
      refine ev_goto (M := T11_place) (pc := 30) 135 dX11_place_30 (k := ?_)
      refine ev_lv [2, 3, 0, 4] [(0, .inr (.inr (some (11, 0)))), (1, .inr (.inr (some (0, a5)))), (3, .inl (q12.1)), (4, .inl (l4))] (k := ?_)
      exact E11_place_135 k5 hk5 (some a5) q12.1 l4 q12.2 _ H2
theorem E11_place_5 (n : Nat) : ∀ (l1 : Option Int) (l3 : Int) (l4 : Int) (h : JM) (res : JM), F11_place_5 n l1 l3 l4 h = some res → Ev j_W1 4 0 0 T11_place 5 [(0, .inr (.inr (some (11, 0)))), (1, .inr (.inr (Option.map (Prod.mk 0) (l1)))), (3, .inl (l3)), (4, .inl (l4))] [] h none res := by
  induction n with
  | zero =>
    intro l1 l3 l4 h res H
    cases H
  | succ n ih =>
    intro l1 l3 l4 h res H
    exact E11_place_5b (F11_place_5 n) ih l1 l3 l4 h res H
set_option maxRecDepth 100000 in
set_option maxHeartbeats 4000000 in
theorem C11_place {l1 : Option Int} {l2 : Int} {h : JM} {res : JM} (H : F11_place l1 l2 h = some res) : Cn j_W1 4 0 0 yX11_place cX11_place 6 none [.inr (.inr (some (11, 0))), .inr (.inr (Option.map (Prod.mk 0) (l1))), .inl (l2)] h none res := by
  refine Cn.by (own := RX11) (b := false) [(0, .inr (.inr (some (11, 0)))), (1, .inr (.inr (Option.map (Prod.mk 0) (l1)))), (2, .inl (l2))] rfl (fun z => by cases z) (by decide +kernel) (K := ?_)
  unfold F11_place at H
  refine ev_iload_n (M := T11_place) (pc := 0) 2 dX11_place_0 (k := ?_)
  refine ev_istore_n (M := T11_place) (pc := 1) [(3, .inl (l2)), (0, .inr (.inr (some (11, 0)))), (1, .inr (.inr (Option.map (Prod.mk 0) (l1)))), (2, .inl (l2))] dX11_place_1 (k := ?_)
  refine ev_iconst (M := T11_place) (pc := 2) dX11_place_2 (k := ?_)
  refine ev_istore (M := T11_place) (pc := 3) [(4, .inl (0)), (3, .inl (l2)), (0, .inr (.inr (some (11, 0)))), (1, .inr (.inr (Option.map (Prod.mk 0) (l1)))), (2, .inl (l2))] dX11_place_3 (k := ?_)
  refine ev_lv [2, 3, 1, 0] [(0, .inr (.inr (some (11, 0)))), (1, .inr (.inr (Option.map (Prod.mk 0) (l1)))), (3, .inl (l2)), (4, .inl (0))] (k := ?_)
  exact E11_place_5 j_fu l1 l2 0 h _ H
-- X11_checkRinging
abbrev T11_checkRinging : JT := (RX11, cX11_checkRinging, 4, none, false)
set_option maxRecDepth 100000 in
set_option maxHeartbeats 4000000 in
theorem C11_checkRinging {l1 : Option Int} {l2 : Option Int} {l3 : Int} {h : JM} {res : JM} (H : F11_checkRinging l1 l2 l3 h = some res) : Cn j_W1 5 0 0 yX11_checkRinging cX11_checkRinging 4 none [.inr (.inr (some (11, 0))), .inr (.inr (Option.map (Prod.mk 0) (l1))), .inr (.inr (Option.map (Prod.mk 4) (l2))), .inl (l3)] h none res := by
  refine Cn.by (own := RX11) (b := false) [(0, .inr (.inr (some (11, 0)))), (1, .inr (.inr (Option.map (Prod.mk 0) (l1)))), (2, .inr (.inr (Option.map (Prod.mk 4) (l2)))), (3, .inl (l3))] rfl (fun z => by cases z) (by decide +kernel) (K := ?_)
  unfold F11_checkRinging at H
  refine ev_aload_n (M := T11_checkRinging) (pc := 0) 1 dX11_checkRinging_0 (k := ?_)
  obtain ⟨a1, ea1, H1⟩ := bd_e H
  clear H
  rw [ea1]
  refine ev_getR (M := T11_checkRinging) (pc := 1) (t := 2) (x := Option.map (Prod.mk 2) (h.2.2 0 a1 5)) fl_X11_495 dX11_checkRinging_1 (hx := ry_0_5 _ _) (K := ?_)
  refine ev_nullK (M := T11_checkRinging) (pc := 4) (h.2.2 0 a1 5) 48 dX11_checkRinging_4 (kt := fun hc => ?_) (kf := fun hc => ?_)
  · replace H1 := if_pe hc H1
    refine ev_iload_n (M := T11_checkRinging) (pc := 48) 3 dX11_checkRinging_48 (k := ?_)
    refine ev_sipush (M := T11_checkRinging) (pc := 49) dX11_checkRinging_49 (k := ?_)
    refine ev_icmpne (M := T11_checkRinging) (pc := 52) 65 dX11_checkRinging_52 (kt := fun hc => ?_) (kf := fun hc => ?_)
    · replace H1 := if_ne hc H1
      refine ev_iload_n (M := T11_checkRinging) (pc := 65) 3 dX11_checkRinging_65 (k := ?_)
      refine ev_sipush (M := T11_checkRinging) (pc := 66) dX11_checkRinging_66 (k := ?_)
      refine ev_icmpne (M := T11_checkRinging) (pc := 69) 111 dX11_checkRinging_69 (kt := fun hc => ?_) (kf := fun hc => ?_)
      · replace H1 := if_ne hc H1
        cases H1
        exact ev_return (M := T11_checkRinging) (pc := 111) dX11_checkRinging_111
      · replace H1 := if_pe hc H1
        refine ev_aload_n (M := T11_checkRinging) (pc := 72) 2 dX11_checkRinging_72 (k := ?_)
        obtain ⟨a2, ea2, H2⟩ := bd_e H1
        clear H1
        rw [ea2]
        refine ev_getR (M := T11_checkRinging) (pc := 73) (t := 29) (x := some (29, a2)) fl_X11_141 dX11_checkRinging_73 (hx := ry_4_2 _ _) (K := ?_)
        refine ev_iconst (M := T11_checkRinging) (pc := 76) dX11_checkRinging_76 (k := ?_)
        obtain ⟨⟨hi0, hi1⟩, H3⟩ := g_e H2
        clear H2
        refine ev_laload (M := T11_checkRinging) (pc := 77) (k := 29) hi0 hi1 dX11_checkRinging_77 (hc := ac_29) (hlen := ln_29 _ _) (K := ?_)
        refine ev_lconst (M := T11_checkRinging) (pc := 78) (v := 0) dX11_checkRinging_78 (k := ?_)
        refine ev_lcmp (M := T11_checkRinging) (pc := 79) dX11_checkRinging_79 (k := ?_)
        refine ev_ifeq (M := T11_checkRinging) (pc := 80) 111 dX11_checkRinging_80 (kt := fun hc => ?_) (kf := fun hc => ?_)
        · replace H3 := if_pe hc H3
          cases H3
          exact ev_return (M := T11_checkRinging) (pc := 111) dX11_checkRinging_111
        · replace H3 := if_ne hc H3
          refine ev_aload_n (M := T11_checkRinging) (pc := 83) 0 dX11_checkRinging_83 (k := ?_)
          refine ev_aload_n (M := T11_checkRinging) (pc := 84) 1 dX11_checkRinging_84 (k := ?_)
          refine ev_aload_n (M := T11_checkRinging) (pc := 85) 2 dX11_checkRinging_85 (k := ?_)
          obtain ⟨h3, hq, H4⟩ := bd_e H3
          clear H3
          refine ev_callV (M := T11_checkRinging) (pc := 86) (mc := 0) (ms := 0) (st := []) (C11_ringNoMore hq) md_X11_ringNoMore im_X11_ringNoMore se_X11_ringNoMore ml_X11_530 dX11_checkRinging_86 _ (by decide) (K := ?_)
          refine ev_aload_n (M := T11_checkRinging) (pc := 89) 1 dX11_checkRinging_89 (k := ?_)
          refine ev_null (M := T11_checkRinging) (pc := 90) dX11_checkRinging_90 (k := ?_)
          obtain ⟨h4, eh4, H5⟩ := lt_e H4
          clear H4
          refine ev_putR (M := T11_checkRinging) (pc := 91) (t := 4) j_ok1 none fl_X11_237 eh4 (hdg := dX11_checkRinging_91) (hly := rl_0_3 _) (K := ?_)
          refine ev_aload_n (M := T11_checkRinging) (pc := 94) 1 dX11_checkRinging_94 (k := ?_)
          refine ev_aload_n (M := T11_checkRinging) (pc := 95) 2 dX11_checkRinging_95 (k := ?_)
          refine ev_getR (M := T11_checkRinging) (pc := 96) (t := 29) (x := some (29, a2)) fl_X11_141 dX11_checkRinging_96 (hx := ry_4_2 _ _) (K := ?_)
          refine ev_iconst (M := T11_checkRinging) (pc := 99) dX11_checkRinging_99 (k := ?_)
          obtain ⟨⟨hi0, hi1⟩, H6⟩ := g_e H5
          clear H5
          refine ev_laload (M := T11_checkRinging) (pc := 100) (k := 29) hi0 hi1 dX11_checkRinging_100 (hc := ac_29) (hlen := ln_29 _ _) (K := ?_)
          obtain ⟨h5, eh5, H7⟩ := lt_e H6
          clear H6
          refine ev_putL (M := T11_checkRinging) (pc := 101) j_ok1 fl_X11_222 eh5 dX11_checkRinging_101 (K := ?_)
          refine ev_aload_n (M := T11_checkRinging) (pc := 104) 0 dX11_checkRinging_104 (k := ?_)
          refine ev_aload_n (M := T11_checkRinging) (pc := 105) 1 dX11_checkRinging_105 (k := ?_)
          refine ev_bipush (M := T11_checkRinging) (pc := 106) dX11_checkRinging_106 (k := ?_)
          obtain ⟨h6, hq, H8⟩ := bd_e H7
          clear H7
          refine ev_callV (M := T11_checkRinging) (pc := 108) (mc := 0) (ms := 0) (st := []) (C11_place hq) md_X11_place im_X11_place se_X11_place ml_X11_355 dX11_checkRinging_108 _ (by decide) (K := ?_)
          cases H8
          exact ev_return (M := T11_checkRinging) (pc := 111) dX11_checkRinging_111
    · replace H1 := if_pe hc H1
      refine ev_aload_n (M := T11_checkRinging) (pc := 55) 0 dX11_checkRinging_55 (k := ?_)
      refine ev_aload_n (M := T11_checkRinging) (pc := 56) 1 dX11_checkRinging_56 (k := ?_)
      refine ev_iconst (M := T11_checkRinging) (pc := 57) dX11_checkRinging_57 (k := ?_)
      refine ev_iconst (M := T11_checkRinging) (pc := 58) dX11_checkRinging_58 (k := ?_)
      obtain ⟨h7, hq, H2⟩ := bd_e H1
      clear H1
      refine ev_callV (M := T11_checkRinging) (pc := 59) (mc := 0) (ms := 0) (st := []) (C11_end hq) md_X11_end im_X11_end se_X11_end ml_X11_375 dX11_checkRinging_59 _ (by decide) (K := ?_)
      refine ev_goto (M := T11_checkRinging) (pc := 62) 111 dX11_checkRinging_62 (k := ?_)
      cases H2
      exact ev_return (M := T11_checkRinging) (pc := 111) dX11_checkRinging_111
  · replace H1 := if_ne hc H1
    refine ev_iload_n (M := T11_checkRinging) (pc := 7) 3 dX11_checkRinging_7 (k := ?_)
    refine ev_sipush (M := T11_checkRinging) (pc := 8) dX11_checkRinging_8 (k := ?_)
    refine ev_icmpne (M := T11_checkRinging) (pc := 11) 111 dX11_checkRinging_11 (kt := fun hc => ?_) (kf := fun hc => ?_)
    · replace H1 := if_ne hc H1
      cases H1
      exact ev_return (M := T11_checkRinging) (pc := 111) dX11_checkRinging_111
    · replace H1 := if_pe hc H1
      refine ev_aload_n (M := T11_checkRinging) (pc := 14) 0 dX11_checkRinging_14 (k := ?_)
      refine ev_aload_n (M := T11_checkRinging) (pc := 15) 1 dX11_checkRinging_15 (k := ?_)
      refine ev_aload_n (M := T11_checkRinging) (pc := 16) 2 dX11_checkRinging_16 (k := ?_)
      obtain ⟨h8, hq, H2⟩ := bd_e H1
      clear H1
      refine ev_callV (M := T11_checkRinging) (pc := 17) (mc := 0) (ms := 0) (st := []) (C11_ringNoMore hq) md_X11_ringNoMore im_X11_ringNoMore se_X11_ringNoMore ml_X11_530 dX11_checkRinging_17 _ (by decide) (K := ?_)
      refine ev_aload_n (M := T11_checkRinging) (pc := 20) 2 dX11_checkRinging_20 (k := ?_)
      refine ev_iconst (M := T11_checkRinging) (pc := 21) dX11_checkRinging_21 (k := ?_)
      obtain ⟨a9, ea9, H3⟩ := bd_e H2
      clear H2
      rw [ea9]
      obtain ⟨h10, eh10, H4⟩ := lt_e H3
      clear H3
      refine ev_putZ (M := T11_checkRinging) (pc := 22) j_ok1 (Or.inr rfl) fl_X11_219 eh10 dX11_checkRinging_22 (K := ?_)
      refine ev_aload_n (M := T11_checkRinging) (pc := 25) 1 dX11_checkRinging_25 (k := ?_)
      refine ev_null (M := T11_checkRinging) (pc := 26) dX11_checkRinging_26 (k := ?_)
      obtain ⟨h11, eh11, H5⟩ := lt_e H4
      clear H4
      refine ev_putR (M := T11_checkRinging) (pc := 27) (t := 4) j_ok1 none fl_X11_237 eh11 (hdg := dX11_checkRinging_27) (hly := rl_0_3 _) (K := ?_)
      refine ev_aload_n (M := T11_checkRinging) (pc := 30) 0 dX11_checkRinging_30 (k := ?_)
      refine ev_aload_n (M := T11_checkRinging) (pc := 31) 1 dX11_checkRinging_31 (k := ?_)
      refine ev_iconst (M := T11_checkRinging) (pc := 32) dX11_checkRinging_32 (k := ?_)
      obtain ⟨h12, hq, H6⟩ := bd_e H5
      clear H5
      refine ev_callV (M := T11_checkRinging) (pc := 33) (mc := 0) (ms := 0) (st := []) (C11_enter hq) md_X11_enter im_X11_enter se_X11_enter ml_X11_383 dX11_checkRinging_33 _ (by decide) (K := ?_)
      refine ev_aload_n (M := T11_checkRinging) (pc := 36) 1 dX11_checkRinging_36 (k := ?_)
      refine ev_getR (M := T11_checkRinging) (pc := 37) (t := 2) (x := Option.map (Prod.mk 2) (h12.2.2 0 a1 5)) fl_X11_495 dX11_checkRinging_37 (hx := ry_0_5 _ _) (K := ?_)
      refine ev_aload_n (M := T11_checkRinging) (pc := 40) 1 dX11_checkRinging_40 (k := ?_)
      refine ev_iconst (M := T11_checkRinging) (pc := 41) dX11_checkRinging_41 (k := ?_)
      obtain ⟨a13, ea13, H7⟩ := bd_e H6
      clear H6
      rw [ea13]
      obtain ⟨h14, hq, H8⟩ := bd_e H7
      clear H7
      refine ev_callV (M := T11_checkRinging) (pc := 42) (mc := 0) (ms := 0) (st := []) (C2_letWait hq) md_X2_letWait im_X2_letWait se_X2_letWait ml_X11_513 dX11_checkRinging_42 _ (by decide) (K := ?_)
      refine ev_goto (M := T11_checkRinging) (pc := 45) 111 dX11_checkRinging_45 (k := ?_)
      cases H8
      exact ev_return (M := T11_checkRinging) (pc := 111) dX11_checkRinging_111
-- X11_endIf
abbrev T11_endIf : JT := (RX11, cX11_endIf, 3, none, false)
set_option maxRecDepth 100000 in
set_option maxHeartbeats 4000000 in
theorem C11_endIf {l1 : Option Int} {l2 : Int} {h : JM} {res : JM} (H : F11_endIf l1 l2 h = some res) : Cn j_W1 4 0 0 yX11_endIf cX11_endIf 3 none [.inr (.inr (some (11, 0))), .inr (.inr (Option.map (Prod.mk 0) (l1))), .inl (l2)] h none res := by
  refine Cn.by (own := RX11) (b := false) [(0, .inr (.inr (some (11, 0)))), (1, .inr (.inr (Option.map (Prod.mk 0) (l1)))), (2, .inl (l2))] rfl (fun z => by cases z) (by decide +kernel) (K := ?_)
  unfold F11_endIf at H
  refine ev_iload_n (M := T11_endIf) (pc := 0) 2 dX11_endIf_0 (k := ?_)
  refine ev_ifle (M := T11_endIf) (pc := 1) 11 dX11_endIf_1 (kt := fun hc => ?_) (kf := fun hc => ?_)
  · replace H := if_pe hc H
    cases H
    exact ev_return (M := T11_endIf) (pc := 11) dX11_endIf_11
  · replace H := if_ne hc H
    refine ev_aload_n (M := T11_endIf) (pc := 4) 0 dX11_endIf_4 (k := ?_)
    refine ev_aload_n (M := T11_endIf) (pc := 5) 1 dX11_endIf_5 (k := ?_)
    refine ev_iload_n (M := T11_endIf) (pc := 6) 2 dX11_endIf_6 (k := ?_)
    refine ev_iconst (M := T11_endIf) (pc := 7) dX11_endIf_7 (k := ?_)
    obtain ⟨h1, hq, H1⟩ := bd_e H
    clear H
    refine ev_callV (M := T11_endIf) (pc := 8) (mc := 0) (ms := 0) (st := []) (C11_end hq) md_X11_end im_X11_end se_X11_end ml_X11_375 dX11_endIf_8 _ (by decide) (K := ?_)
    cases H1
    exact ev_return (M := T11_endIf) (pc := 11) dX11_endIf_11
-- X11_checkTimes
abbrev T11_checkTimes : JT := (RX11, cX11_checkTimes, 3, none, false)
set_option maxRecDepth 100000 in
set_option maxHeartbeats 4000000 in
theorem E11_checkTimes_72 (k2 : Int → JM → Option JM) (hk2 : ∀ (l1 : Int) (h : JM) (res : JM), k2 l1 h = some res → Ev j_W1 6 0 0 T11_checkTimes 2 [(0, .inr (.inr (some (11, 0)))), (1, .inl (l1))] [] h none res) (l1 : Int) (h : JM) (res : JM) (H : F11_checkTimes_72 k2 l1 h = some res) : Ev j_W1 6 0 0 T11_checkTimes 72 [(0, .inr (.inr (some (11, 0)))), (1, .inl (l1))] [] h none res := by
  unfold F11_checkTimes_72 at H
  refine ev_iinc (M := T11_checkTimes) (pc := 72) 1 [(1, .inl (w32 (l1 + 1))), (0, .inr (.inr (some (11, 0))))] dX11_checkTimes_72 (k := ?_)
  refine ev_goto (M := T11_checkTimes) (pc := 75) 2 dX11_checkTimes_75 (k := ?_)
  refine ev_lv [1, 0] [(0, .inr (.inr (some (11, 0)))), (1, .inl (w32 (l1 + 1)))] (k := ?_)
  exact hk2 (w32 (l1 + 1)) h _ H
set_option maxRecDepth 100000 in
set_option maxHeartbeats 4000000 in
theorem E11_checkTimes_53 (k2 : Int → JM → Option JM) (hk2 : ∀ (l1 : Int) (h : JM) (res : JM), k2 l1 h = some res → Ev j_W1 6 0 0 T11_checkTimes 2 [(0, .inr (.inr (some (11, 0)))), (1, .inl (l1))] [] h none res) (l1 : Int) (l2 : Option Int) (h : JM) (res : JM) (H : F11_checkTimes_53 k2 l1 l2 h = some res) : Ev j_W1 6 0 0 T11_checkTimes 53 [(0, .inr (.inr (some (11, 0)))), (1, .inl (l1)), (2, .inr (.inr (Option.map (Prod.mk 0) (l2))))] [] h none res := by
  unfold F11_checkTimes_53 at H
  refine ev_aload_n (M := T11_checkTimes) (pc := 53) 0 dX11_checkTimes_53 (k := ?_)
  refine ev_aload_n (M := T11_checkTimes) (pc := 54) 2 dX11_checkTimes_54 (k := ?_)
  refine ev_aload_n (M := T11_checkTimes) (pc := 55) 0 dX11_checkTimes_55 (k := ?_)
  refine ev_aload_n (M := T11_checkTimes) (pc := 56) 2 dX11_checkTimes_56 (k := ?_)
  refine ev_aload_n (M := T11_checkTimes) (pc := 57) 0 dX11_checkTimes_57 (k := ?_)
  refine ev_getI (M := T11_checkTimes) (pc := 58) (x := h.1 11 0 10) fl_X11_177 dX11_checkTimes_58 (K := ?_)
  refine ev_aload_n (M := T11_checkTimes) (pc := 61) 2 dX11_checkTimes_61 (k := ?_)
  obtain ⟨a1, ea1, H1⟩ := bd_e H
  clear H
  rw [ea1]
  refine ev_getI (M := T11_checkTimes) (pc := 62) (x := h.1 0 a1 10) fl_X11_441 dX11_checkTimes_62 (K := ?_)
  refine ev_isub (M := T11_checkTimes) (pc := 65) dX11_checkTimes_65 (k := ?_)
  obtain ⟨q2, hq, H2⟩ := bd_e H1
  clear H1
  refine ev_callV (M := T11_checkTimes) (pc := 66) (mc := 0) (ms := 0) (st := [.inr (.inr (some (0, a1))), .inr (.inr (some (11, 0)))]) (C11_causeByTime hq) md_X11_causeByTime im_X11_causeByTime se_X11_causeByTime ml_X11_537 dX11_checkTimes_66 _ (by decide) (K := ?_)
  obtain ⟨h3, hq, H3⟩ := bd_e H2
  clear H2
  refine ev_callV (M := T11_checkTimes) (pc := 69) (mc := 0) (ms := 0) (st := []) (C11_endIf hq) md_X11_endIf im_X11_endIf se_X11_endIf ml_X11_394 dX11_checkTimes_69 _ (by decide) (K := ?_)
  refine ev_lv [0, 1] [(0, .inr (.inr (some (11, 0)))), (1, .inl (l1))] (k := ?_)
  exact E11_checkTimes_72 k2 hk2 l1 h3 _ H3
set_option maxRecDepth 100000 in
set_option maxHeartbeats 4000000 in
theorem E11_checkTimes_2b (k2 : Int → JM → Option JM) (hk2 : ∀ (l1 : Int) (h : JM) (res : JM), k2 l1 h = some res → Ev j_W1 6 0 0 T11_checkTimes 2 [(0, .inr (.inr (some (11, 0)))), (1, .inl (l1))] [] h none res) (l1 : Int) (h : JM) (res : JM) (H : F11_checkTimes_2b k2 l1 h = some res) : Ev j_W1 6 0 0 T11_checkTimes 2 [(0, .inr (.inr (some (11, 0)))), (1, .inl (l1))] [] h none res := by
  unfold F11_checkTimes_2b at H
  refine ev_iload_n (M := T11_checkTimes) (pc := 2) 1 dX11_checkTimes_2 (k := ?_)
  refine ev_aload_n (M := T11_checkTimes) (pc := 3) 0 dX11_checkTimes_3 (k := ?_)
  refine ev_getI (M := T11_checkTimes) (pc := 4) (x := h.1 11 0 11) fl_X11_452 dX11_checkTimes_4 (K := ?_)
  refine ev_icmpge (M := T11_checkTimes) (pc := 7) 78 dX11_checkTimes_7 (kt := fun hc => ?_) (kf := fun hc => ?_)
  · replace H := if_pe hc H
    cases H
    exact ev_return (M := T11_checkTimes) (pc := 78) dX11_checkTimes_78
  · replace H := if_ne hc H
    refine ev_aload_n (M := T11_checkTimes) (pc := 10) 0 dX11_checkTimes_10 (k := ?_)
    refine ev_getR (M := T11_checkTimes) (pc := 11) (t := 40) (x := some (40, 0)) fl_X11_23 dX11_checkTimes_11 (hx := ry_11_4 _ _) (K := ?_)
    refine ev_iload_n (M := T11_checkTimes) (pc := 14) 1 dX11_checkTimes_14 (k := ?_)
    obtain ⟨⟨hi0, hi1⟩, H1⟩ := g_e H
    clear H
    refine ev_aaload (M := T11_checkTimes) (pc := 15) (k := 40) 0 (x := Option.map (Prod.mk 0) (h.2.2 40 0 l1)) hi0 hi1 dX11_checkTimes_15 (hc := ac_40) (hlen := ln_40 _ _) (hx := rz_40 _ _ _) (K := ?_)
    refine ev_astore_n (M := T11_checkTimes) (pc := 16) [(2, .inr (.inr (Option.map (Prod.mk 0) (h.2.2 40 0 l1)))), (0, .inr (.inr (some (11, 0)))), (1, .inl (l1))] dX11_checkTimes_16 (k := ?_)
    refine ev_aload_n (M := T11_checkTimes) (pc := 17) 0 dX11_checkTimes_17 (k := ?_)
    obtain ⟨a4, ea4, H2⟩ := bd_e H1
    clear H1
    rw [ea4]
    refine ev_getI (M := T11_checkTimes) (pc := 18) (x := h.1 0 a4 9) fl_X11_210 dX11_checkTimes_18 (K := ?_)
    refine ev_iconst (M := T11_checkTimes) (pc := 21) dX11_checkTimes_21 (k := ?_)
    refine ev_icmpne (M := T11_checkTimes) (pc := 22) 53 dX11_checkTimes_22 (kt := fun hc => ?_) (kf := fun hc => ?_)
    · replace H2 := if_ne hc H2
      refine ev_lv [1, 2, 0] [(0, .inr (.inr (some (11, 0)))), (1, .inl (l1)), (2, .inr (.inr (some (0, a4))))] (k := ?_)
      exact E11_checkTimes_53 k2 hk2 l1 (some a4) h _ H2
    · replace H2 := if_pe hc H2
      refine ev_aload_n (M := T11_checkTimes) (pc := 25) 0 dX11_checkTimes_25 (k := ?_)
      refine ev_getR (M := T11_checkTimes) (pc := 26) (t := 4) (x := Option.map (Prod.mk 4) (h.2.2 0 a4 3)) fl_X11_237 dX11_checkTimes_26 (hx := ry_0_3 _ _) (K := ?_)
      refine ev_nullK (M := T11_checkTimes) (pc := 29) (h.2.2 0 a4 3) 53 dX11_checkTimes_29 (kt := fun hc => ?_) (kf := fun hc => ?_)
      · replace H2 := if_pe hc H2
        refine ev_lv [1, 2, 0] [(0, .inr (.inr (some (11, 0)))), (1, .inl (l1)), (2, .inr (.inr (some (0, a4))))] (k := ?_)
        exact E11_checkTimes_53 k2 hk2 l1 (some a4) h _ H2
      · replace H2 := if_ne hc H2
        refine ev_aload_n (M := T11_checkTimes) (pc := 32) 1 dX11_checkTimes_32 (k := ?_)
        refine ev_aload_n (M := T11_checkTimes) (pc := 33) 0 dX11_checkTimes_33 (k := ?_)
        refine ev_aload_n (M := T11_checkTimes) (pc := 34) 0 dX11_checkTimes_34 (k := ?_)
        refine ev_getR (M := T11_checkTimes) (pc := 35) (t := 4) (x := Option.map (Prod.mk 4) (h.2.2 0 a4 3)) fl_X11_237 dX11_checkTimes_35 (hx := ry_0_3 _ _) (K := ?_)
        refine ev_aload_n (M := T11_checkTimes) (pc := 38) 1 dX11_checkTimes_38 (k := ?_)
        refine ev_getI (M := T11_checkTimes) (pc := 39) (x := h.1 11 0 10) fl_X11_177 dX11_checkTimes_39 (K := ?_)
        refine ev_aload_n (M := T11_checkTimes) (pc := 42) 0 dX11_checkTimes_42 (k := ?_)
        refine ev_getI (M := T11_checkTimes) (pc := 43) (x := h.1 0 a4 10) fl_X11_441 dX11_checkTimes_43 (K := ?_)
        refine ev_isub (M := T11_checkTimes) (pc := 46) dX11_checkTimes_46 (k := ?_)
        obtain ⟨h5, hq, H3⟩ := bd_e H2
        clear H2
        refine ev_callV (M := T11_checkTimes) (pc := 47) (mc := 0) (ms := 0) (st := []) (C11_checkRinging hq) md_X11_checkRinging im_X11_checkRinging se_X11_checkRinging ml_X11_533 dX11_checkTimes_47 _ (by decide) (K := ?_)
        refine ev_goto (M := T11_checkTimes) (pc := 50) 72 dX11_checkTimes_50 (k := ?_)
        refine ev_lv [1, 2] [(0, .inr (.inr (some (11, 0)))), (1, .inl (l1))] (k := ?_)
        exact E11_checkTimes_72 k2 hk2 l1 h5 _ H3
theorem E11_checkTimes_2 (n : Nat) : ∀ (l1 : Int) (h : JM) (res : JM), F11_checkTimes_2 n l1 h = some res → Ev j_W1 6 0 0 T11_checkTimes 2 [(0, .inr (.inr (some (11, 0)))), (1, .inl (l1))] [] h none res := by
  induction n with
  | zero =>
    intro l1 h res H
    cases H
  | succ n ih =>
    intro l1 h res H
    exact E11_checkTimes_2b (F11_checkTimes_2 n) ih l1 h res H
set_option maxRecDepth 100000 in
set_option maxHeartbeats 4000000 in
theorem C11_checkTimes {h : JM} {res : JM} (H : F11_checkTimes h = some res) : Cn j_W1 6 0 0 yX11_checkTimes cX11_checkTimes 3 none [.inr (.inr (some (11, 0)))] h none res := by
  refine Cn.by (own := RX11) (b := false) [(0, .inr (.inr (some (11, 0))))] rfl (fun z => by cases z) (by decide +kernel) (K := ?_)
  unfold F11_checkTimes at H
  refine ev_iconst (M := T11_checkTimes) (pc := 0) dX11_checkTimes_0 (k := ?_)
  refine ev_istore_n (M := T11_checkTimes) (pc := 1) [(1, .inl (0)), (0, .inr (.inr (some (11, 0))))] dX11_checkTimes_1 (k := ?_)
  refine ev_lv [1, 0] [(0, .inr (.inr (some (11, 0)))), (1, .inl (0))] (k := ?_)
  exact E11_checkTimes_2 j_fu 0 h _ H
-- X11_isTrunk
abbrev T11_isTrunk : JT := (RX11, cX11_isTrunk, 3, some .boolean, false)
set_option maxRecDepth 100000 in
set_option maxHeartbeats 4000000 in
theorem E11_isTrunk_23 (h : JM) (res : (Int × JM)) (H : F11_isTrunk_23 h = some res) : Ev j_W1 2 0 0 T11_isTrunk 23 [] [] h (some (.inl res.1)) res.2 := by
  unfold F11_isTrunk_23 at H
  refine ev_iconst (M := T11_isTrunk) (pc := 23) dX11_isTrunk_23 (k := ?_)
  cases H
  exact ev_zreturn (M := T11_isTrunk) (pc := 24) (Or.inl rfl) dX11_isTrunk_24
set_option maxRecDepth 100000 in
set_option maxHeartbeats 4000000 in
theorem C11_isTrunk {l1 : Int} {l2 : Int} {h : JM} {res : (Int × JM)} (H : F11_isTrunk l1 l2 h = some res) : Cn j_W1 2 0 0 yX11_isTrunk cX11_isTrunk 3 (some .boolean) [.inr (.inr (some (11, 0))), .inl (l1), .inl (l2)] h (some (.inl res.1)) res.2 := by
  refine Cn.by (own := RX11) (b := false) [(0, .inr (.inr (some (11, 0)))), (1, .inl (l1)), (2, .inl (l2))] rfl (fun z => by cases z) (by decide +kernel) (K := ?_)
  unfold F11_isTrunk at H
  refine ev_iload_n (M := T11_isTrunk) (pc := 0) 1 dX11_isTrunk_0 (k := ?_)
  obtain ⟨q1, hq, H1⟩ := bd_e H
  clear H
  refine ev_callS (M := T11_isTrunk) (pc := 1) (mc := 0) (ms := 0) (st := []) (C11_isExchange hq) md_X11_isExchange ss_X11_isExchange ml_X11_91 dX11_isTrunk_1 _ (by decide) (K := ?_)
  refine ev_ifeq (M := T11_isTrunk) (pc := 4) 23 dX11_isTrunk_4 (kt := fun hc => ?_) (kf := fun hc => ?_)
  · replace H1 := if_pe hc H1
    refine ev_lv [] [] (k := ?_)
    exact E11_isTrunk_23 q1.2 _ H1
  · replace H1 := if_ne hc H1
    refine ev_iload_n (M := T11_isTrunk) (pc := 7) 2 dX11_isTrunk_7 (k := ?_)
    refine ev_iflt (M := T11_isTrunk) (pc := 8) 23 dX11_isTrunk_8 (kt := fun hc => ?_) (kf := fun hc => ?_)
    · replace H1 := if_pe hc H1
      refine ev_lv [] [] (k := ?_)
      exact E11_isTrunk_23 q1.2 _ H1
    · replace H1 := if_ne hc H1
      refine ev_iload_n (M := T11_isTrunk) (pc := 11) 2 dX11_isTrunk_11 (k := ?_)
      refine ev_aload_n (M := T11_isTrunk) (pc := 12) 0 dX11_isTrunk_12 (k := ?_)
      refine ev_getI (M := T11_isTrunk) (pc := 13) (x := q1.2.1 11 0 0) fl_X11_55 dX11_isTrunk_13 (K := ?_)
      refine ev_icmpge (M := T11_isTrunk) (pc := 16) 23 dX11_isTrunk_16 (kt := fun hc => ?_) (kf := fun hc => ?_)
      · replace H1 := if_pe hc H1
        refine ev_lv [] [] (k := ?_)
        exact E11_isTrunk_23 q1.2 _ H1
      · replace H1 := if_ne hc H1
        refine ev_iconst (M := T11_isTrunk) (pc := 19) dX11_isTrunk_19 (k := ?_)
        refine ev_goto (M := T11_isTrunk) (pc := 20) 24 dX11_isTrunk_20 (k := ?_)
        cases H1
        exact ev_zreturn (M := T11_isTrunk) (pc := 24) (Or.inr rfl) dX11_isTrunk_24
-- X11_circuit
abbrev T11_circuit : JT := (RX11, cX11_circuit, 3, some .int, false)
set_option maxRecDepth 100000 in
set_option maxHeartbeats 4000000 in
theorem C11_circuit {l1 : Int} {l2 : Int} {h : JM} {res : (Int × JM)} (H : F11_circuit l1 l2 h = some res) : Cn j_W1 3 0 0 yX11_circuit cX11_circuit 3 (some .int) [.inr (.inr (some (11, 0))), .inl (l1), .inl (l2)] h (some (.inl res.1)) res.2 := by
  refine Cn.by (own := RX11) (b := false) [(0, .inr (.inr (some (11, 0)))), (1, .inl (l1)), (2, .inl (l2))] rfl (fun z => by cases z) (by decide +kernel) (K := ?_)
  unfold F11_circuit at H
  refine ev_aload_n (M := T11_circuit) (pc := 0) 0 dX11_circuit_0 (k := ?_)
  refine ev_iload_n (M := T11_circuit) (pc := 1) 1 dX11_circuit_1 (k := ?_)
  refine ev_iload_n (M := T11_circuit) (pc := 2) 2 dX11_circuit_2 (k := ?_)
  obtain ⟨q1, hq, H1⟩ := bd_e H
  clear H
  refine ev_callV (M := T11_circuit) (pc := 3) (mc := 0) (ms := 0) (st := []) (C11_isTrunk hq) md_X11_isTrunk im_X11_isTrunk se_X11_isTrunk ml_X11_246 dX11_circuit_3 _ (by decide) (K := ?_)
  refine ev_ifeq (M := T11_circuit) (pc := 6) 26 dX11_circuit_6 (kt := fun hc => ?_) (kf := fun hc => ?_)
  · replace H1 := if_pe hc H1
    refine ev_bipush (M := T11_circuit) (pc := 26) dX11_circuit_26 (k := ?_)
    cases H1
    exact ev_ireturn (M := T11_circuit) (pc := 28) dX11_circuit_28
  · replace H1 := if_ne hc H1
    refine ev_aload_n (M := T11_circuit) (pc := 9) 0 dX11_circuit_9 (k := ?_)
    refine ev_getR (M := T11_circuit) (pc := 10) (t := 38) (x := some (38, 0)) fl_X11_11 dX11_circuit_10 (hx := ry_11_2 _ _) (K := ?_)
    refine ev_iload_n (M := T11_circuit) (pc := 13) 1 dX11_circuit_13 (k := ?_)
    obtain ⟨⟨hi0, hi1⟩, H2⟩ := g_e H1
    clear H1
    refine ev_aaload (M := T11_circuit) (pc := 14) (k := 38) 1 (x := some (1, l1)) hi0 hi1 dX11_circuit_14 (hc := ac_38) (hlen := ln_38 _ _) (hx := rz_38 _ _ _) (K := ?_)
    refine ev_getR (M := T11_circuit) (pc := 15) (t := 20) (x := some (20, l1)) fl_X11_65 dX11_circuit_15 (hx := ry_1_1 _ _) (K := ?_)
    refine ev_iload_n (M := T11_circuit) (pc := 18) 2 dX11_circuit_18 (k := ?_)
    obtain ⟨⟨hi0, hi1⟩, H3⟩ := g_e H2
    clear H2
    refine ev_aaload (M := T11_circuit) (pc := 19) (k := 20) 8 (x := some (8, (16 * l1 + l2))) hi0 hi1 dX11_circuit_19 (hc := ac_20) (hlen := ln_20 _ _) (hx := rz_20 _ _ _) (K := ?_)
    refine ev_getI (M := T11_circuit) (pc := 20) (x := q1.2.1 8 (16 * l1 + l2) 2) fl_X11_250 dX11_circuit_20 (K := ?_)
    refine ev_goto (M := T11_circuit) (pc := 23) 28 dX11_circuit_23 (k := ?_)
    cases H3
    exact ev_ireturn (M := T11_circuit) (pc := 28) dX11_circuit_28
