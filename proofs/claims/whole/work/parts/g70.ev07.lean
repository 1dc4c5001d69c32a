-- X11_bit
abbrev T11_bit : JT := (RX11, cX11_bit, 4, some .int, false)
set_option maxRecDepth 100000 in
set_option maxHeartbeats 4000000 in
theorem E11_bit_37 (h : JM) (res : (Int × JM)) (H : F11_bit_37 h = some res) : Ev j_W1 4 0 0 T11_bit 37 [] [] h (some (.inl res.1)) res.2 := by
  unfold F11_bit_37 at H
  refine ev_iconst (M := T11_bit) (pc := 37) dX11_bit_37 (k := ?_)
  cases H
  exact ev_ireturn (M := T11_bit) (pc := 38) dX11_bit_38
set_option maxRecDepth 100000 in
set_option maxHeartbeats 4000000 in
theorem C11_bit {l1 : Int} {l2 : Int} {l3 : Int} {h : JM} {res : (Int × JM)} (H : F11_bit l1 l2 l3 h = some res) : Cn j_W1 4 0 0 yX11_bit cX11_bit 4 (some .int) [.inr (.inr (some (11, 0))), .inl (l1), .inl (l2), .inl (l3)] h (some (.inl res.1)) res.2 := by
  refine Cn.by (own := RX11) (b := false) [(0, .inr (.inr (some (11, 0)))), (1, .inl (l1)), (2, .inl (l2)), (3, .inl (l3))] rfl (fun z => by cases z) (by decide +kernel) (K := ?_)
  unfold F11_bit at H
  refine ev_iload_n (M := T11_bit) (pc := 0) 1 dX11_bit_0 (k := ?_)
  obtain ⟨q1, hq, H1⟩ := bd_e H
  clear H
  refine ev_callS (M := T11_bit) (pc := 1) (mc := 0) (ms := 0) (st := []) (C11_isExchange hq) md_X11_isExchange ss_X11_isExchange ml_X11_91 dX11_bit_1 _ (by decide) (K := ?_)
  refine ev_ifne (M := T11_bit) (pc := 4) 10 dX11_bit_4 (kt := fun hc => ?_) (kf := fun hc => ?_)
  · replace H1 := if_ne hc H1
    refine ev_iload_n (M := T11_bit) (pc := 10) 2 dX11_bit_10 (k := ?_)
    refine ev_iflt (M := T11_bit) (pc := 11) 37 dX11_bit_11 (kt := fun hc => ?_) (kf := fun hc => ?_)
    · replace H1 := if_pe hc H1
      refine ev_lv [] [] (k := ?_)
      exact E11_bit_37 q1.2 _ H1
    · replace H1 := if_ne hc H1
      refine ev_iload_n (M := T11_bit) (pc := 14) 2 dX11_bit_14 (k := ?_)
      refine ev_aload_n (M := T11_bit) (pc := 15) 0 dX11_bit_15 (k := ?_)
      refine ev_getI (M := T11_bit) (pc := 16) (x := q1.2.1 11 0 10) fl_X11_177 dX11_bit_16 (K := ?_)
      refine ev_icmpge (M := T11_bit) (pc := 19) 37 dX11_bit_19 (kt := fun hc => ?_) (kf := fun hc => ?_)
      · replace H1 := if_pe hc H1
        refine ev_lv [] [] (k := ?_)
        exact E11_bit_37 q1.2 _ H1
      · replace H1 := if_ne hc H1
        refine ev_iload_n (M := T11_bit) (pc := 22) 2 dX11_bit_22 (k := ?_)
        refine ev_aload_n (M := T11_bit) (pc := 23) 0 dX11_bit_23 (k := ?_)
        refine ev_getI (M := T11_bit) (pc := 24) (x := q1.2.1 11 0 10) fl_X11_177 dX11_bit_24 (K := ?_)
        refine ev_bipush (M := T11_bit) (pc := 27) dX11_bit_27 (k := ?_)
        refine ev_isub (M := T11_bit) (pc := 29) dX11_bit_29 (k := ?_)
        refine ev_icmplt (M := T11_bit) (pc := 30) 37 dX11_bit_30 (kt := fun hc => ?_) (kf := fun hc => ?_)
        · replace H1 := if_pe hc H1
          refine ev_lv [] [] (k := ?_)
          exact E11_bit_37 q1.2 _ H1
        · replace H1 := if_ne hc H1
          refine ev_iload_n (M := T11_bit) (pc := 33) 3 dX11_bit_33 (k := ?_)
          refine ev_ifge (M := T11_bit) (pc := 34) 39 dX11_bit_34 (kt := fun hc => ?_) (kf := fun hc => ?_)
          · replace H1 := if_pe hc H1
            refine ev_aload_n (M := T11_bit) (pc := 39) 0 dX11_bit_39 (k := ?_)
            refine ev_getR (M := T11_bit) (pc := 40) (t := 10) (x := some (10, 0)) fl_X11_47 dX11_bit_40 (hx := ry_11_8 _ _) (K := ?_)
            refine ev_aload_n (M := T11_bit) (pc := 43) 0 dX11_bit_43 (k := ?_)
            refine ev_getR (M := T11_bit) (pc := 44) (t := 38) (x := some (38, 0)) fl_X11_11 dX11_bit_44 (hx := ry_11_2 _ _) (K := ?_)
            refine ev_iload_n (M := T11_bit) (pc := 47) 1 dX11_bit_47 (k := ?_)
            obtain ⟨⟨hi0, hi1⟩, H2⟩ := g_e H1
            clear H1
            refine ev_aaload (M := T11_bit) (pc := 48) (k := 38) 1 (x := some (1, l1)) hi0 hi1 dX11_bit_48 (hc := ac_38) (hlen := ln_38 _ _) (hx := rz_38 _ _ _) (K := ?_)
            refine ev_getR (M := T11_bit) (pc := 49) (t := 5) (x := some (5, l1)) fl_X11_261 dX11_bit_49 (hx := ry_1_7 _ _) (K := ?_)
            refine ev_getR (M := T11_bit) (pc := 52) (t := 32) (x := some (32, l1)) fl_X11_288 dX11_bit_52 (hx := ry_5_9 _ _) (K := ?_)
            refine ev_iload_n (M := T11_bit) (pc := 55) 2 dX11_bit_55 (k := ?_)
            refine ev_bipush (M := T11_bit) (pc := 56) dX11_bit_56 (k := ?_)
            refine ev_irem (M := T11_bit) (pc := 58) dX11_bit_58 (by decide) (k := ?_)
            obtain ⟨⟨hi0, hi1⟩, H3⟩ := g_e H2
            clear H2
            refine ev_aaload (M := T11_bit) (pc := 59) (k := 32) 9 (x := some (9, (64 * l1 + (j_rem l2 64)))) hi0 hi1 dX11_bit_59 (hc := ac_32) (hlen := ln_32 _ _) (hx := rz_32 _ _ _) (K := ?_)
            obtain ⟨h2, hq, H4⟩ := bd_e H3
            clear H3
            refine ev_callV (M := T11_bit) (pc := 60) (mc := 0) (ms := 0) (st := []) (C10_write hq) md_X10_write im_X10_write se_X10_write ml_X11_292 dX11_bit_60 _ (by decide) (K := ?_)
            refine ev_iload_n (M := T11_bit) (pc := 63) 3 dX11_bit_63 (k := ?_)
            refine ev_aload_n (M := T11_bit) (pc := 64) 0 dX11_bit_64 (k := ?_)
            refine ev_getR (M := T11_bit) (pc := 65) (t := 10) (x := some (10, 0)) fl_X11_47 dX11_bit_65 (hx := ry_11_8 _ _) (K := ?_)
            refine ev_getI (M := T11_bit) (pc := 68) (x := h2.1 10 0 1) fl_X11_296 dX11_bit_68 (K := ?_)
            refine ev_icmpge (M := T11_bit) (pc := 71) 86 dX11_bit_71 (kt := fun hc => ?_) (kf := fun hc => ?_)
            · replace H4 := if_pe hc H4
              refine ev_iconst (M := T11_bit) (pc := 86) dX11_bit_86 (k := ?_)
              cases H4
              exact ev_ireturn (M := T11_bit) (pc := 87) dX11_bit_87
            · replace H4 := if_ne hc H4
              refine ev_aload_n (M := T11_bit) (pc := 74) 0 dX11_bit_74 (k := ?_)
              refine ev_getR (M := T11_bit) (pc := 75) (t := 10) (x := some (10, 0)) fl_X11_47 dX11_bit_75 (hx := ry_11_8 _ _) (K := ?_)
              refine ev_getR (M := T11_bit) (pc := 78) (t := 36) (x := some (36, 0)) fl_X11_299 dX11_bit_78 (hx := ry_10_0 _ _) (K := ?_)
              refine ev_iload_n (M := T11_bit) (pc := 81) 3 dX11_bit_81 (k := ?_)
              obtain ⟨⟨hi0, hi1⟩, H5⟩ := g_e H4
              clear H4
              refine ev_baload (M := T11_bit) (pc := 82) (k := 36) hi0 hi1 dX11_bit_82 (hc := ac_36) (hlen := ln_36 _ _) (K := ?_)
              refine ev_goto (M := T11_bit) (pc := 83) 87 dX11_bit_83 (k := ?_)
              cases H5
              exact ev_ireturn (M := T11_bit) (pc := 87) dX11_bit_87
          · replace H1 := if_ne hc H1
            refine ev_lv [] [] (k := ?_)
            exact E11_bit_37 q1.2 _ H1
  · replace H1 := if_pe hc H1
    refine ev_bipush (M := T11_bit) (pc := 7) dX11_bit_7 (k := ?_)
    cases H1
    exact ev_ireturn (M := T11_bit) (pc := 9) dX11_bit_9
-- X11_given
abbrev T11_given : JT := (RX11, cX11_given, 3, some .int, false)
set_option maxRecDepth 100000 in
set_option maxHeartbeats 4000000 in
theorem E11_given_55 (h : JM) (res : (Int × JM)) (H : F11_given_55 h = some res) : Ev j_W1 3 0 0 T11_given 55 [] [] h (some (.inl res.1)) res.2 := by
  unfold F11_given_55 at H
  refine ev_iconst (M := T11_given) (pc := 55) dX11_given_55 (k := ?_)
  cases H
  exact ev_ireturn (M := T11_given) (pc := 56) dX11_given_56
set_option maxRecDepth 100000 in
set_option maxHeartbeats 4000000 in
theorem C11_given {l0 : Option Int} {l1 : Option Int} {l2 : Option Int} {h : JM} {res : (Int × JM)} (H : F11_given l0 l1 l2 h = some res) : Cn j_W1 3 0 0 yX11_given cX11_given 3 (some .int) [.inr (.inr (Option.map (Prod.mk 0) (l0))), .inr (.inr (Option.map (Prod.mk 4) (l1))), .inr (.inr (Option.map (Prod.mk 8) (l2)))] h (some (.inl res.1)) res.2 := by
  refine Cn.by (own := RX11) (b := false) [(0, .inr (.inr (Option.map (Prod.mk 0) (l0)))), (1, .inr (.inr (Option.map (Prod.mk 4) (l1)))), (2, .inr (.inr (Option.map (Prod.mk 8) (l2))))] rfl (fun z => by cases z) (by decide +kernel) (K := ?_)
  unfold F11_given at H
  refine ev_aload_n (M := T11_given) (pc := 0) 1 dX11_given_0 (k := ?_)
  refine ev_nullK (M := T11_given) (pc := 1) l1 31 dX11_given_1 (kt := fun hc => ?_) (kf := fun hc => ?_)
  · replace H := if_pe hc H
    refine ev_aload_n (M := T11_given) (pc := 31) 2 dX11_given_31 (k := ?_)
    refine ev_nullK (M := T11_given) (pc := 32) l2 55 dX11_given_32 (kt := fun hc => ?_) (kf := fun hc => ?_)
    · replace H := if_pe hc H
      refine ev_lv [] [] (k := ?_)
      exact E11_given_55 h _ H
    · replace H := if_ne hc H
      refine ev_aload_n (M := T11_given) (pc := 35) 2 dX11_given_35 (k := ?_)
      obtain ⟨a1, ea1, H1⟩ := bd_e H
      clear H
      rw [ea1]
      refine ev_getR (M := T11_given) (pc := 36) (t := 8) (x := some (8, (if a1 < 16 then a1 + 16 else a1 - 16))) fl_X11_69 dX11_given_36 (hx := ry_8_1 _ _) (K := ?_)
      refine ev_nullK (M := T11_given) (pc := 39) (some (if a1 < 16 then a1 + 16 else a1 - 16)) 55 dX11_given_39 (kt := fun hc => ?_) (kf := fun hc => ?_)
      · replace H1 := if_pe hc H1
        refine ev_lv [] [] (k := ?_)
        exact E11_given_55 h _ H1
      · replace H1 := if_ne hc H1
        refine ev_aload_n (M := T11_given) (pc := 42) 2 dX11_given_42 (k := ?_)
        refine ev_getR (M := T11_given) (pc := 43) (t := 8) (x := some (8, (if a1 < 16 then a1 + 16 else a1 - 16))) fl_X11_69 dX11_given_43 (hx := ry_8_1 _ _) (K := ?_)
        refine ev_getI (M := T11_given) (pc := 46) (x := h.1 8 (if a1 < 16 then a1 + 16 else a1 - 16) 5) fl_X11_570 dX11_given_46 (K := ?_)
        obtain ⟨q2, hq, H2⟩ := bd_e H1
        clear H1
        refine ev_callS (M := T11_given) (pc := 49) (mc := 0) (ms := 0) (st := []) (C11_fromLaw0 hq) md_X11_fromLaw0 ss_X11_fromLaw0 ml_X11_573 dX11_given_49 _ (by decide) (K := ?_)
        refine ev_goto (M := T11_given) (pc := 52) 56 dX11_given_52 (k := ?_)
        cases H2
        exact ev_ireturn (M := T11_given) (pc := 56) dX11_given_56
  · replace H := if_ne hc H
    refine ev_aload_n (M := T11_given) (pc := 4) 1 dX11_given_4 (k := ?_)
    obtain ⟨a3, ea3, H1⟩ := bd_e H
    clear H
    rw [ea3]
    refine ev_getR (M := T11_given) (pc := 5) (t := 0) (x := Option.map (Prod.mk 0) (h.2.2 4 a3 11)) fl_X11_206 dX11_given_5 (hx := ry_4_11 _ _) (K := ?_)
    refine ev_aload_n (M := T11_given) (pc := 8) 0 dX11_given_8 (k := ?_)
    refine ev_acmpneK (M := T11_given) (pc := 9) (h.2.2 4 a3 11) l0 29 dX11_given_9 (kt := fun hc => ?_) (kf := fun hc => ?_)
    · replace H1 := if_ne hc H1
      refine ev_iconst (M := T11_given) (pc := 29) dX11_given_29 (k := ?_)
      cases H1
      exact ev_ireturn (M := T11_given) (pc := 30) dX11_given_30
    · replace H1 := if_pe hc H1
      refine ev_aload_n (M := T11_given) (pc := 12) 1 dX11_given_12 (k := ?_)
      refine ev_getI (M := T11_given) (pc := 13) (x := h.1 4 a3 0) fl_X11_317 dX11_given_13 (K := ?_)
      refine ev_bipush (M := T11_given) (pc := 16) dX11_given_16 (k := ?_)
      refine ev_idiv (M := T11_given) (pc := 18) dX11_given_18 (by decide) (k := ?_)
      refine ev_aload_n (M := T11_given) (pc := 19) 1 dX11_given_19 (k := ?_)
      refine ev_getI (M := T11_given) (pc := 20) (x := h.1 4 a3 18) fl_X11_167 dX11_given_20 (K := ?_)
      obtain ⟨q4, hq, H2⟩ := bd_e H1
      clear H1
      refine ev_callS (M := T11_given) (pc := 23) (mc := 0) (ms := 0) (st := []) (C11_asHeard hq) md_X11_asHeard ss_X11_asHeard ml_X11_567 dX11_given_23 _ (by decide) (K := ?_)
      refine ev_goto (M := T11_given) (pc := 26) 30 dX11_given_26 (k := ?_)
      cases H2
      exact ev_ireturn (M := T11_given) (pc := 30) dX11_given_30
-- X11_hand
abbrev T11_hand : JT := (RX11, cX11_hand, 4, none, false)
set_option maxRecDepth 100000 in
set_option maxHeartbeats 4000000 in
theorem E11_hand_27 (l2 : Option Int) (l3 : Int) (h : JM) (res : JM) (H : F11_hand_27 l2 l3 h = some res) : Ev j_W1 3 0 0 T11_hand 27 [(2, .inr (.inr (Option.map (Prod.mk 8) (l2)))), (3, .inl (l3))] [] h none res := by
  unfold F11_hand_27 at H
  refine ev_aload_n (M := T11_hand) (pc := 27) 0 dX11_hand_27 (k := ?_)
  refine ev_nullK (M := T11_hand) (pc := 28) l2 39 dX11_hand_28 (kt := fun hc => ?_) (kf := fun hc => ?_)
  · replace H := if_pe hc H
    cases H
    exact ev_return (M := T11_hand) (pc := 39) dX11_hand_39
  · replace H := if_ne hc H
    refine ev_aload_n (M := T11_hand) (pc := 31) 0 dX11_hand_31 (k := ?_)
    refine ev_iload_n (M := T11_hand) (pc := 32) 1 dX11_hand_32 (k := ?_)
    obtain ⟨q1, hq, H1⟩ := bd_e H
    clear H
    refine ev_callS (M := T11_hand) (pc := 33) (mc := 0) (ms := 0) (st := [.inr (.inr (Option.map (Prod.mk 8) (l2)))]) (C11_byLaw0 hq) md_X11_byLaw0 ss_X11_byLaw0 ml_X11_577 dX11_hand_33 _ (by decide) (K := ?_)
    obtain ⟨a2, ea2, H2⟩ := bd_e H1
    clear H1
    rw [ea2]
    obtain ⟨h3, eh3, H3⟩ := lt_e H2
    clear H2
    refine ev_putI (M := T11_hand) (pc := 36) j_ok1 fl_X11_251 eh3 dX11_hand_36 (K := ?_)
    cases H3
    exact ev_return (M := T11_hand) (pc := 39) dX11_hand_39
set_option maxRecDepth 100000 in
set_option maxHeartbeats 4000000 in
theorem C11_hand {l0 : Option Int} {l1 : Option Int} {l2 : Option Int} {l3 : Int} {h : JM} {res : JM} (H : F11_hand l0 l1 l2 l3 h = some res) : Cn j_W1 3 0 0 yX11_hand cX11_hand 4 none [.inr (.inr (Option.map (Prod.mk 0) (l0))), .inr (.inr (Option.map (Prod.mk 4) (l1))), .inr (.inr (Option.map (Prod.mk 8) (l2))), .inl (l3)] h none res := by
  refine Cn.by (own := RX11) (b := false) [(0, .inr (.inr (Option.map (Prod.mk 0) (l0)))), (1, .inr (.inr (Option.map (Prod.mk 4) (l1)))), (2, .inr (.inr (Option.map (Prod.mk 8) (l2)))), (3, .inl (l3))] rfl (fun z => by cases z) (by decide +kernel) (K := ?_)
  unfold F11_hand at H
  refine ev_aload_n (M := T11_hand) (pc := 0) 1 dX11_hand_0 (k := ?_)
  refine ev_nullK (M := T11_hand) (pc := 1) l1 27 dX11_hand_1 (kt := fun hc => ?_) (kf := fun hc => ?_)
  · replace H := if_pe hc H
    refine ev_lv [2, 3] [(2, .inr (.inr (Option.map (Prod.mk 8) (l2)))), (3, .inl (l3))] (k := ?_)
    exact E11_hand_27 l2 l3 h _ H
  · replace H := if_ne hc H
    refine ev_aload_n (M := T11_hand) (pc := 4) 1 dX11_hand_4 (k := ?_)
    obtain ⟨a4, ea4, H1⟩ := bd_e H
    clear H
    rw [ea4]
    refine ev_getR (M := T11_hand) (pc := 5) (t := 0) (x := Option.map (Prod.mk 0) (h.2.2 4 a4 11)) fl_X11_206 dX11_hand_5 (hx := ry_4_11 _ _) (K := ?_)
    refine ev_aload_n (M := T11_hand) (pc := 8) 0 dX11_hand_8 (k := ?_)
    refine ev_acmpneK (M := T11_hand) (pc := 9) (h.2.2 4 a4 11) l0 27 dX11_hand_9 (kt := fun hc => ?_) (kf := fun hc => ?_)
    · replace H1 := if_ne hc H1
      refine ev_lv [2, 3] [(2, .inr (.inr (Option.map (Prod.mk 8) (l2)))), (3, .inl (l3))] (k := ?_)
      exact E11_hand_27 l2 l3 h _ H1
    · replace H1 := if_pe hc H1
      refine ev_aload_n (M := T11_hand) (pc := 12) 1 dX11_hand_12 (k := ?_)
      refine ev_aload_n (M := T11_hand) (pc := 13) 1 dX11_hand_13 (k := ?_)
      refine ev_getI (M := T11_hand) (pc := 14) (x := h.1 4 a4 0) fl_X11_317 dX11_hand_14 (K := ?_)
      refine ev_bipush (M := T11_hand) (pc := 17) dX11_hand_17 (k := ?_)
      refine ev_idiv (M := T11_hand) (pc := 19) dX11_hand_19 (by decide) (k := ?_)
      refine ev_iload_n (M := T11_hand) (pc := 20) 3 dX11_hand_20 (k := ?_)
      obtain ⟨q5, hq, H2⟩ := bd_e H1
      clear H1
      refine ev_callS (M := T11_hand) (pc := 21) (mc := 0) (ms := 0) (st := [.inr (.inr (some (4, a4)))]) (C11_asHeard hq) md_X11_asHeard ss_X11_asHeard ml_X11_567 dX11_hand_21 _ (by decide) (K := ?_)
      obtain ⟨h6, eh6, H3⟩ := lt_e H2
      clear H2
      refine ev_putI (M := T11_hand) (pc := 24) j_ok1 fl_X11_243 eh6 dX11_hand_24 (K := ?_)
      refine ev_lv [2, 3] [(2, .inr (.inr (Option.map (Prod.mk 8) (l2)))), (3, .inl (l3))] (k := ?_)
      exact E11_hand_27 l2 l3 h6 _ H3
-- X11_carryBetweenSides
abbrev T11_carryBetweenSides : JT := (RX11, cX11_carryBetweenSides, 4, none, false)
set_option maxRecDepth 100000 in
set_option maxHeartbeats 4000000 in
theorem E11_carryBetweenSides_63 (l0 : Option Int) (s0 : Int) (h : JM) (res : JM) (H : F11_carryBetweenSides_63 l0 s0 h = some res) : Ev j_W1 4 0 0 T11_carryBetweenSides 63 [(0, .inr (.inr (Option.map (Prod.mk 0) (l0))))] [.inl (s0)] h none res := by
  unfold F11_carryBetweenSides_63 at H
  refine ev_istore_n (M := T11_carryBetweenSides) (pc := 63) [(3, .inl (s0)), (0, .inr (.inr (Option.map (Prod.mk 0) (l0))))] dX11_carryBetweenSides_63 (k := ?_)
  refine ev_aload_n (M := T11_carryBetweenSides) (pc := 64) 1 dX11_carryBetweenSides_64 (k := ?_)
  refine ev_aload_n (M := T11_carryBetweenSides) (pc := 65) 1 dX11_carryBetweenSides_65 (k := ?_)
  obtain ⟨a1, ea1, H1⟩ := bd_e H
  clear H
  rw [ea1]
  refine ev_getR (M := T11_carryBetweenSides) (pc := 66) (t := 4) (x := Option.map (Prod.mk 4) (h.2.2 0 a1 1)) fl_X11_223 dX11_carryBetweenSides_66 (hx := ry_0_1 _ _) (K := ?_)
  refine ev_aload_n (M := T11_carryBetweenSides) (pc := 69) 1 dX11_carryBetweenSides_69 (k := ?_)
  refine ev_getR (M := T11_carryBetweenSides) (pc := 70) (t := 8) (x := Option.map (Prod.mk 8) (h.2.2 0 a1 2)) fl_X11_227 dX11_carryBetweenSides_70 (hx := ry_0_2 _ _) (K := ?_)
  refine ev_iload_n (M := T11_carryBetweenSides) (pc := 73) 0 dX11_carryBetweenSides_73 (k := ?_)
  obtain ⟨h2, hq, H2⟩ := bd_e H1
  clear H1
  refine ev_callS (M := T11_carryBetweenSides) (pc := 74) (mc := 0) (ms := 0) (st := []) (C11_hand hq) md_X11_hand ss_X11_hand ml_X11_564 dX11_carryBetweenSides_74 _ (by decide) (K := ?_)
  cases H2
  exact ev_return (M := T11_carryBetweenSides) (pc := 77) dX11_carryBetweenSides_77
set_option maxRecDepth 100000 in
set_option maxHeartbeats 4000000 in
theorem C11_carryBetweenSides {l0 : Option Int} {h : JM} {res : JM} (H : F11_carryBetweenSides l0 h = some res) : Cn j_W1 4 0 0 yX11_carryBetweenSides cX11_carryBetweenSides 4 none [.inr (.inr (Option.map (Prod.mk 0) (l0)))] h none res := by
  refine Cn.by (own := RX11) (b := false) [(0, .inr (.inr (Option.map (Prod.mk 0) (l0))))] rfl (fun z => by cases z) (by decide +kernel) (K := ?_)
  unfold F11_carryBetweenSides at H
  refine ev_aload_n (M := T11_carryBetweenSides) (pc := 0) 0 dX11_carryBetweenSides_0 (k := ?_)
  refine ev_aload_n (M := T11_carryBetweenSides) (pc := 1) 0 dX11_carryBetweenSides_1 (k := ?_)
  obtain ⟨a3, ea3, H1⟩ := bd_e H
  clear H
  rw [ea3]
  refine ev_getR (M := T11_carryBetweenSides) (pc := 2) (t := 4) (x := Option.map (Prod.mk 4) (h.2.2 0 a3 1)) fl_X11_223 dX11_carryBetweenSides_2 (hx := ry_0_1 _ _) (K := ?_)
  refine ev_aload_n (M := T11_carryBetweenSides) (pc := 5) 0 dX11_carryBetweenSides_5 (k := ?_)
  refine ev_getR (M := T11_carryBetweenSides) (pc := 6) (t := 8) (x := Option.map (Prod.mk 8) (h.2.2 0 a3 2)) fl_X11_227 dX11_carryBetweenSides_6 (hx := ry_0_2 _ _) (K := ?_)
  obtain ⟨q4, hq, H2⟩ := bd_e H1
  clear H1
  refine ev_callS (M := T11_carryBetweenSides) (pc := 9) (mc := 0) (ms := 0) (st := []) (C11_given hq) md_X11_given ss_X11_given ml_X11_557 dX11_carryBetweenSides_9 _ (by decide) (K := ?_)
  refine ev_istore_n (M := T11_carryBetweenSides) (pc := 12) [(1, .inl (q4.1)), (0, .inr (.inr (some (0, a3))))] dX11_carryBetweenSides_12 (k := ?_)
  refine ev_aload_n (M := T11_carryBetweenSides) (pc := 13) 1 dX11_carryBetweenSides_13 (k := ?_)
  refine ev_getI (M := T11_carryBetweenSides) (pc := 14) (x := q4.2.1 0 a3 6) fl_X11_234 dX11_carryBetweenSides_14 (K := ?_)
  refine ev_iconst (M := T11_carryBetweenSides) (pc := 17) dX11_carryBetweenSides_17 (k := ?_)
  refine ev_icmpeq (M := T11_carryBetweenSides) (pc := 18) 78 dX11_carryBetweenSides_18 (kt := fun hc => ?_) (kf := fun hc => ?_)
  · replace H2 := if_pe hc H2
    refine ev_aload_n (M := T11_carryBetweenSides) (pc := 78) 1 dX11_carryBetweenSides_78 (k := ?_)
    refine ev_aload_n (M := T11_carryBetweenSides) (pc := 79) 1 dX11_carryBetweenSides_79 (k := ?_)
    refine ev_getR (M := T11_carryBetweenSides) (pc := 80) (t := 4) (x := Option.map (Prod.mk 4) (q4.2.2.2 0 a3 1)) fl_X11_223 dX11_carryBetweenSides_80 (hx := ry_0_1 _ _) (K := ?_)
    refine ev_aload_n (M := T11_carryBetweenSides) (pc := 83) 1 dX11_carryBetweenSides_83 (k := ?_)
    refine ev_getR (M := T11_carryBetweenSides) (pc := 84) (t := 8) (x := Option.map (Prod.mk 8) (q4.2.2.2 0 a3 2)) fl_X11_227 dX11_carryBetweenSides_84 (hx := ry_0_2 _ _) (K := ?_)
    refine ev_aload_n (M := T11_carryBetweenSides) (pc := 87) 1 dX11_carryBetweenSides_87 (k := ?_)
    refine ev_aload_n (M := T11_carryBetweenSides) (pc := 88) 1 dX11_carryBetweenSides_88 (k := ?_)
    refine ev_getR (M := T11_carryBetweenSides) (pc := 89) (t := 4) (x := Option.map (Prod.mk 4) (q4.2.2.2 0 a3 3)) fl_X11_237 dX11_carryBetweenSides_89 (hx := ry_0_3 _ _) (K := ?_)
    refine ev_aload_n (M := T11_carryBetweenSides) (pc := 92) 1 dX11_carryBetweenSides_92 (k := ?_)
    refine ev_getR (M := T11_carryBetweenSides) (pc := 93) (t := 8) (x := Option.map (Prod.mk 8) (q4.2.2.2 0 a3 4)) fl_X11_240 dX11_carryBetweenSides_93 (hx := ry_0_4 _ _) (K := ?_)
    obtain ⟨q5, hq, H3⟩ := bd_e H2
    clear H2
    refine ev_callS (M := T11_carryBetweenSides) (pc := 96) (mc := 0) (ms := 0) (st := [.inr (.inr (Option.map (Prod.mk 8) (q4.2.2.2 0 a3 2))), .inr (.inr (Option.map (Prod.mk 4) (q4.2.2.2 0 a3 1))), .inr (.inr (some (0, a3)))]) (C11_given hq) md_X11_given ss_X11_given ml_X11_557 dX11_carryBetweenSides_96 _ (by decide) (K := ?_)
    obtain ⟨h6, hq, H4⟩ := bd_e H3
    clear H3
    refine ev_callS (M := T11_carryBetweenSides) (pc := 99) (mc := 0) (ms := 0) (st := []) (C11_hand hq) md_X11_hand ss_X11_hand ml_X11_564 dX11_carryBetweenSides_99 _ (by decide) (K := ?_)
    refine ev_aload_n (M := T11_carryBetweenSides) (pc := 102) 1 dX11_carryBetweenSides_102 (k := ?_)
    refine ev_aload_n (M := T11_carryBetweenSides) (pc := 103) 1 dX11_carryBetweenSides_103 (k := ?_)
    refine ev_getR (M := T11_carryBetweenSides) (pc := 104) (t := 4) (x := Option.map (Prod.mk 4) (h6.2.2 0 a3 3)) fl_X11_237 dX11_carryBetweenSides_104 (hx := ry_0_3 _ _) (K := ?_)
    refine ev_aload_n (M := T11_carryBetweenSides) (pc := 107) 1 dX11_carryBetweenSides_107 (k := ?_)
    refine ev_getR (M := T11_carryBetweenSides) (pc := 108) (t := 8) (x := Option.map (Prod.mk 8) (h6.2.2 0 a3 4)) fl_X11_240 dX11_carryBetweenSides_108 (hx := ry_0_4 _ _) (K := ?_)
    refine ev_iload_n (M := T11_carryBetweenSides) (pc := 111) 0 dX11_carryBetweenSides_111 (k := ?_)
    obtain ⟨h7, hq, H5⟩ := bd_e H4
    clear H4
    refine ev_callS (M := T11_carryBetweenSides) (pc := 112) (mc := 0) (ms := 0) (st := []) (C11_hand hq) md_X11_hand ss_X11_hand ml_X11_564 dX11_carryBetweenSides_112 _ (by decide) (K := ?_)
    cases H5
    exact ev_return (M := T11_carryBetweenSides) (pc := 115) dX11_carryBetweenSides_115
  · replace H2 := if_ne hc H2
    refine ev_aload_n (M := T11_carryBetweenSides) (pc := 21) 1 dX11_carryBetweenSides_21 (k := ?_)
    refine ev_getR (M := T11_carryBetweenSides) (pc := 22) (t := 1) (x := Option.map (Prod.mk 1) (q4.2.2.2 0 a3 0)) fl_X11_444 dX11_carryBetweenSides_22 (hx := ry_0_0 _ _) (K := ?_)
    obtain ⟨a8, ea8, H3⟩ := bd_e H2
    clear H2
    rw [ea8]
    refine ev_getR (M := T11_carryBetweenSides) (pc := 25) (t := 24) (x := some (24, a8)) fl_X11_554 dX11_carryBetweenSides_25 (hx := ry_1_6 _ _) (K := ?_)
    refine ev_aload_n (M := T11_carryBetweenSides) (pc := 28) 1 dX11_carryBetweenSides_28 (k := ?_)
    refine ev_getI (M := T11_carryBetweenSides) (pc := 29) (x := q4.2.1 0 a3 6) fl_X11_234 dX11_carryBetweenSides_29 (K := ?_)
    obtain ⟨⟨hi0, hi1⟩, H4⟩ := g_e H3
    clear H3
    refine ev_iaload (M := T11_carryBetweenSides) (pc := 32) (k := 24) hi0 hi1 dX11_carryBetweenSides_32 (hc := ac_24) (hlen := ln_24 _ _) (K := ?_)
    refine ev_iload_n (M := T11_carryBetweenSides) (pc := 33) 0 dX11_carryBetweenSides_33 (k := ?_)
    refine ev_isub (M := T11_carryBetweenSides) (pc := 34) dX11_carryBetweenSides_34 (k := ?_)
    obtain ⟨x9, ex9, H5⟩ := lt_e H4
    clear H4
    refine ev_topI ex9 ?_
    refine ev_istore_n (M := T11_carryBetweenSides) (pc := 35) [(2, .inl (x9)), (1, .inl (q4.1)), (0, .inr (.inr (some (0, a3))))] dX11_carryBetweenSides_35 (k := ?_)
    refine ev_iload_n (M := T11_carryBetweenSides) (pc := 36) 0 dX11_carryBetweenSides_36 (k := ?_)
    refine ev_sipush (M := T11_carryBetweenSides) (pc := 37) dX11_carryBetweenSides_37 (k := ?_)
    refine ev_icmple (M := T11_carryBetweenSides) (pc := 40) 49 dX11_carryBetweenSides_40 (kt := fun hc => ?_) (kf := fun hc => ?_)
    · replace H5 := if_pe hc H5
      refine ev_iload_n (M := T11_carryBetweenSides) (pc := 49) 0 dX11_carryBetweenSides_49 (k := ?_)
      refine ev_sipush (M := T11_carryBetweenSides) (pc := 50) dX11_carryBetweenSides_50 (k := ?_)
      refine ev_icmpge (M := T11_carryBetweenSides) (pc := 53) 62 dX11_carryBetweenSides_53 (kt := fun hc => ?_) (kf := fun hc => ?_)
      · replace H5 := if_pe hc H5
        refine ev_iload_n (M := T11_carryBetweenSides) (pc := 62) 0 dX11_carryBetweenSides_62 (k := ?_)
        refine ev_lv [2] [(0, .inr (.inr (some (0, a3))))] (k := ?_)
        exact E11_carryBetweenSides_63 (some a3) x9 q4.2 _ H5
      · replace H5 := if_ne hc H5
        refine ev_sipush (M := T11_carryBetweenSides) (pc := 56) dX11_carryBetweenSides_56 (k := ?_)
        refine ev_goto (M := T11_carryBetweenSides) (pc := 59) 63 dX11_carryBetweenSides_59 (k := ?_)
        refine ev_lv [2] [(0, .inr (.inr (some (0, a3))))] (k := ?_)
        exact E11_carryBetweenSides_63 (some a3) (-8000) q4.2 _ H5
    · replace H5 := if_ne hc H5
      refine ev_sipush (M := T11_carryBetweenSides) (pc := 43) dX11_carryBetweenSides_43 (k := ?_)
      refine ev_goto (M := T11_carryBetweenSides) (pc := 46) 63 dX11_carryBetweenSides_46 (k := ?_)
      refine ev_lv [2] [(0, .inr (.inr (some (0, a3))))] (k := ?_)
      exact E11_carryBetweenSides_63 (some a3) 8000 q4.2 _ H5
-- X11_carrySpeech
abbrev T11_carrySpeech : JT := (RX11, cX11_carrySpeech, 3, none, false)
set_option maxRecDepth 100000 in
set_option maxHeartbeats 4000000 in
theorem E11_carrySpeech_144 (k114 : Int → JM → Option JM) (hk114 : ∀ (l1 : Int) (h : JM) (res : JM), k114 l1 h = some res → Ev j_W1 5 0 0 T11_carrySpeech 114 [(0, .inr (.inr (some (11, 0)))), (1, .inl (l1))] [] h none res) (l1 : Int) (h : JM) (res : JM) (H : F11_carrySpeech_144 k114 l1 h = some res) : Ev j_W1 5 0 0 T11_carrySpeech 144 [(0, .inr (.inr (some (11, 0)))), (1, .inl (l1))] [] h none res := by
  unfold F11_carrySpeech_144 at H
  refine ev_iinc (M := T11_carrySpeech) (pc := 144) 1 [(1, .inl (w32 (l1 + 1))), (0, .inr (.inr (some (11, 0))))] dX11_carrySpeech_144 (k := ?_)
  refine ev_goto (M := T11_carrySpeech) (pc := 147) 114 dX11_carrySpeech_147 (k := ?_)
  refine ev_lv [1, 0] [(0, .inr (.inr (some (11, 0)))), (1, .inl (w32 (l1 + 1)))] (k := ?_)
  exact hk114 (w32 (l1 + 1)) h _ H
set_option maxRecDepth 100000 in
set_option maxHeartbeats 4000000 in
theorem E11_carrySpeech_114b (k114 : Int → JM → Option JM) (hk114 : ∀ (l1 : Int) (h : JM) (res : JM), k114 l1 h = some res → Ev j_W1 5 0 0 T11_carrySpeech 114 [(0, .inr (.inr (some (11, 0)))), (1, .inl (l1))] [] h none res) (l1 : Int) (h : JM) (res : JM) (H : F11_carrySpeech_114b k114 l1 h = some res) : Ev j_W1 5 0 0 T11_carrySpeech 114 [(0, .inr (.inr (some (11, 0)))), (1, .inl (l1))] [] h none res := by
  unfold F11_carrySpeech_114b at H
  refine ev_iload_n (M := T11_carrySpeech) (pc := 114) 1 dX11_carrySpeech_114 (k := ?_)
  refine ev_aload_n (M := T11_carrySpeech) (pc := 115) 0 dX11_carrySpeech_115 (k := ?_)
  refine ev_getI (M := T11_carrySpeech) (pc := 116) (x := h.1 11 0 11) fl_X11_452 dX11_carrySpeech_116 (K := ?_)
  refine ev_icmpge (M := T11_carrySpeech) (pc := 119) 150 dX11_carrySpeech_119 (kt := fun hc => ?_) (kf := fun hc => ?_)
  · replace H := if_pe hc H
    cases H
    exact ev_return (M := T11_carrySpeech) (pc := 150) dX11_carrySpeech_150
  · replace H := if_ne hc H
    refine ev_aload_n (M := T11_carrySpeech) (pc := 122) 0 dX11_carrySpeech_122 (k := ?_)
    refine ev_getR (M := T11_carrySpeech) (pc := 123) (t := 40) (x := some (40, 0)) fl_X11_23 dX11_carrySpeech_123 (hx := ry_11_4 _ _) (K := ?_)
    refine ev_iload_n (M := T11_carrySpeech) (pc := 126) 1 dX11_carrySpeech_126 (k := ?_)
    obtain ⟨⟨hi0, hi1⟩, H1⟩ := g_e H
    clear H
    refine ev_aaload (M := T11_carrySpeech) (pc := 127) (k := 40) 0 (x := Option.map (Prod.mk 0) (h.2.2 40 0 l1)) hi0 hi1 dX11_carrySpeech_127 (hc := ac_40) (hlen := ln_40 _ _) (hx := rz_40 _ _ _) (K := ?_)
    obtain ⟨a1, ea1, H2⟩ := bd_e H1
    clear H1
    rw [ea1]
    refine ev_getI (M := T11_carrySpeech) (pc := 128) (x := h.1 0 a1 9) fl_X11_210 dX11_carrySpeech_128 (K := ?_)
    refine ev_iconst (M := T11_carrySpeech) (pc := 131) dX11_carrySpeech_131 (k := ?_)
    refine ev_icmpne (M := T11_carrySpeech) (pc := 132) 144 dX11_carrySpeech_132 (kt := fun hc => ?_) (kf := fun hc => ?_)
    · replace H2 := if_ne hc H2
      exact E11_carrySpeech_144 k114 hk114 l1 h _ H2
    · replace H2 := if_pe hc H2
      refine ev_aload_n (M := T11_carrySpeech) (pc := 135) 0 dX11_carrySpeech_135 (k := ?_)
      refine ev_getR (M := T11_carrySpeech) (pc := 136) (t := 40) (x := some (40, 0)) fl_X11_23 dX11_carrySpeech_136 (hx := ry_11_4 _ _) (K := ?_)
      refine ev_iload_n (M := T11_carrySpeech) (pc := 139) 1 dX11_carrySpeech_139 (k := ?_)
      obtain ⟨⟨hi0, hi1⟩, H3⟩ := g_e H2
      clear H2
      refine ev_aaload (M := T11_carrySpeech) (pc := 140) (k := 40) 0 (x := Option.map (Prod.mk 0) (h.2.2 40 0 l1)) hi0 hi1 dX11_carrySpeech_140 (hc := ac_40) (hlen := ln_40 _ _) (hx := rz_40 _ _ _) (K := ?_)
      obtain ⟨h2, hq, H4⟩ := bd_e H3
      clear H3
      refine ev_callS (M := T11_carrySpeech) (pc := 141) (mc := 0) (ms := 0) (st := []) (C11_carryBetweenSides hq) md_X11_carryBetweenSides ss_X11_carryBetweenSides ml_X11_561 dX11_carrySpeech_141 _ (by decide) (K := ?_)
      exact E11_carrySpeech_144 k114 hk114 l1 h2 _ H4
theorem E11_carrySpeech_114 (n : Nat) : ∀ (l1 : Int) (h : JM) (res : JM), F11_carrySpeech_114 n l1 h = some res → Ev j_W1 5 0 0 T11_carrySpeech 114 [(0, .inr (.inr (some (11, 0)))), (1, .inl (l1))] [] h none res := by
  induction n with
  | zero =>
    intro l1 h res H
    cases H
  | succ n ih =>
    intro l1 h res H
    exact E11_carrySpeech_114b (F11_carrySpeech_114 n) ih l1 h res H
set_option maxRecDepth 100000 in
set_option maxHeartbeats 4000000 in
theorem E11_carrySpeech_106 (k48 : Int → JM → Option JM) (hk48 : ∀ (l1 : Int) (h : JM) (res : JM), k48 l1 h = some res → Ev j_W1 5 0 0 T11_carrySpeech 48 [(0, .inr (.inr (some (11, 0)))), (1, .inl (l1))] [] h none res) (l1 : Int) (h : JM) (res : JM) (H : F11_carrySpeech_106 k48 l1 h = some res) : Ev j_W1 5 0 0 T11_carrySpeech 106 [(0, .inr (.inr (some (11, 0)))), (1, .inl (l1))] [] h none res := by
  unfold F11_carrySpeech_106 at H
  refine ev_iinc (M := T11_carrySpeech) (pc := 106) 1 [(1, .inl (w32 (l1 + 1))), (0, .inr (.inr (some (11, 0))))] dX11_carrySpeech_106 (k := ?_)
  refine ev_goto (M := T11_carrySpeech) (pc := 109) 48 dX11_carrySpeech_109 (k := ?_)
  refine ev_lv [1, 0] [(0, .inr (.inr (some (11, 0)))), (1, .inl (w32 (l1 + 1)))] (k := ?_)
  exact hk48 (w32 (l1 + 1)) h _ H
set_option maxRecDepth 100000 in
set_option maxHeartbeats 4000000 in
theorem E11_carrySpeech_48b (k48 : Int → JM → Option JM) (hk48 : ∀ (l1 : Int) (h : JM) (res : JM), k48 l1 h = some res → Ev j_W1 5 0 0 T11_carrySpeech 48 [(0, .inr (.inr (some (11, 0)))), (1, .inl (l1))] [] h none res) (l1 : Int) (h : JM) (res : JM) (H : F11_carrySpeech_48b k48 l1 h = some res) : Ev j_W1 5 0 0 T11_carrySpeech 48 [(0, .inr (.inr (some (11, 0)))), (1, .inl (l1))] [] h none res := by
  unfold F11_carrySpeech_48b at H
  refine ev_iload_n (M := T11_carrySpeech) (pc := 48) 1 dX11_carrySpeech_48 (k := ?_)
  refine ev_aload_n (M := T11_carrySpeech) (pc := 49) 0 dX11_carrySpeech_49 (k := ?_)
  refine ev_getI (M := T11_carrySpeech) (pc := 50) (x := h.1 11 0 11) fl_X11_452 dX11_carrySpeech_50 (K := ?_)
  refine ev_icmpge (M := T11_carrySpeech) (pc := 53) 112 dX11_carrySpeech_53 (kt := fun hc => ?_) (kf := fun hc => ?_)
  · replace H := if_pe hc H
    refine ev_iconst (M := T11_carrySpeech) (pc := 112) dX11_carrySpeech_112 (k := ?_)
    refine ev_istore_n (M := T11_carrySpeech) (pc := 113) [(1, .inl (0)), (0, .inr (.inr (some (11, 0))))] dX11_carrySpeech_113 (k := ?_)
    refine ev_lv [1, 0] [(0, .inr (.inr (some (11, 0)))), (1, .inl (0))] (k := ?_)
    exact E11_carrySpeech_114 j_fu 0 h _ H
  · replace H := if_ne hc H
    refine ev_aload_n (M := T11_carrySpeech) (pc := 56) 0 dX11_carrySpeech_56 (k := ?_)
    refine ev_getR (M := T11_carrySpeech) (pc := 57) (t := 40) (x := some (40, 0)) fl_X11_23 dX11_carrySpeech_57 (hx := ry_11_4 _ _) (K := ?_)
    refine ev_iload_n (M := T11_carrySpeech) (pc := 60) 1 dX11_carrySpeech_60 (k := ?_)
    obtain ⟨⟨hi0, hi1⟩, H1⟩ := g_e H
    clear H
    refine ev_aaload (M := T11_carrySpeech) (pc := 61) (k := 40) 0 (x := Option.map (Prod.mk 0) (h.2.2 40 0 l1)) hi0 hi1 dX11_carrySpeech_61 (hc := ac_40) (hlen := ln_40 _ _) (hx := rz_40 _ _ _) (K := ?_)
    refine ev_astore_n (M := T11_carrySpeech) (pc := 62) [(2, .inr (.inr (Option.map (Prod.mk 0) (h.2.2 40 0 l1)))), (0, .inr (.inr (some (11, 0)))), (1, .inl (l1))] dX11_carrySpeech_62 (k := ?_)
    refine ev_aload_n (M := T11_carrySpeech) (pc := 63) 0 dX11_carrySpeech_63 (k := ?_)
    obtain ⟨a3, ea3, H2⟩ := bd_e H1
    clear H1
    rw [ea3]
    refine ev_getI (M := T11_carrySpeech) (pc := 64) (x := h.1 0 a3 9) fl_X11_210 dX11_carrySpeech_64 (K := ?_)
    refine ev_iconst (M := T11_carrySpeech) (pc := 67) dX11_carrySpeech_67 (k := ?_)
    refine ev_icmpne (M := T11_carrySpeech) (pc := 68) 106 dX11_carrySpeech_68 (kt := fun hc => ?_) (kf := fun hc => ?_)
    · replace H2 := if_ne hc H2
      refine ev_lv [1, 2] [(0, .inr (.inr (some (11, 0)))), (1, .inl (l1))] (k := ?_)
      exact E11_carrySpeech_106 k48 hk48 l1 h _ H2
    · replace H2 := if_pe hc H2
      refine ev_aload_n (M := T11_carrySpeech) (pc := 71) 0 dX11_carrySpeech_71 (k := ?_)
      refine ev_getI (M := T11_carrySpeech) (pc := 72) (x := h.1 0 a3 6) fl_X11_234 dX11_carrySpeech_72 (K := ?_)
      refine ev_iconst (M := T11_carrySpeech) (pc := 75) dX11_carrySpeech_75 (k := ?_)
      refine ev_icmpeq (M := T11_carrySpeech) (pc := 76) 106 dX11_carrySpeech_76 (kt := fun hc => ?_) (kf := fun hc => ?_)
      · replace H2 := if_pe hc H2
        refine ev_lv [1, 2] [(0, .inr (.inr (some (11, 0)))), (1, .inl (l1))] (k := ?_)
        exact E11_carrySpeech_106 k48 hk48 l1 h _ H2
      · replace H2 := if_ne hc H2
        refine ev_aload_n (M := T11_carrySpeech) (pc := 79) 0 dX11_carrySpeech_79 (k := ?_)
        refine ev_getR (M := T11_carrySpeech) (pc := 80) (t := 1) (x := Option.map (Prod.mk 1) (h.2.2 0 a3 0)) fl_X11_444 dX11_carrySpeech_80 (hx := ry_0_0 _ _) (K := ?_)
        obtain ⟨a4, ea4, H3⟩ := bd_e H2
        clear H2
        rw [ea4]
        refine ev_getR (M := T11_carrySpeech) (pc := 83) (t := 24) (x := some (24, a4)) fl_X11_554 dX11_carrySpeech_83 (hx := ry_1_6 _ _) (K := ?_)
        refine ev_aload_n (M := T11_carrySpeech) (pc := 86) 0 dX11_carrySpeech_86 (k := ?_)
        refine ev_getI (M := T11_carrySpeech) (pc := 87) (x := h.1 0 a3 6) fl_X11_234 dX11_carrySpeech_87 (K := ?_)
        refine ev_dup2 (M := T11_carrySpeech) (pc := 90) dX11_carrySpeech_90 (k := ?_)
        obtain ⟨⟨hi0, hi1⟩, H4⟩ := g_e H3
        clear H3
        refine ev_iaload (M := T11_carrySpeech) (pc := 91) (k := 24) hi0 hi1 dX11_carrySpeech_91 (hc := ac_24) (hlen := ln_24 _ _) (K := ?_)
        refine ev_aload_n (M := T11_carrySpeech) (pc := 92) 0 dX11_carrySpeech_92 (k := ?_)
        refine ev_aload_n (M := T11_carrySpeech) (pc := 93) 0 dX11_carrySpeech_93 (k := ?_)
        refine ev_getR (M := T11_carrySpeech) (pc := 94) (t := 4) (x := Option.map (Prod.mk 4) (h.2.2 0 a3 1)) fl_X11_223 dX11_carrySpeech_94 (hx := ry_0_1 _ _) (K := ?_)
        refine ev_aload_n (M := T11_carrySpeech) (pc := 97) 0 dX11_carrySpeech_97 (k := ?_)
        refine ev_getR (M := T11_carrySpeech) (pc := 98) (t := 8) (x := Option.map (Prod.mk 8) (h.2.2 0 a3 2)) fl_X11_227 dX11_carrySpeech_98 (hx := ry_0_2 _ _) (K := ?_)
        obtain ⟨q5, hq, H5⟩ := bd_e H4
        clear H4
        refine ev_callS (M := T11_carrySpeech) (pc := 101) (mc := 0) (ms := 0) (st := [.inl (h.1 24 a4 (h.1 0 a3 6)), .inl (h.1 0 a3 6), .inr (.inr (some (24, a4)))]) (C11_given hq) md_X11_given ss_X11_given ml_X11_557 dX11_carrySpeech_101 _ (by decide) (K := ?_)
        refine ev_iadd (M := T11_carrySpeech) (pc := 104) dX11_carrySpeech_104 (k := ?_)
        obtain ⟨⟨hi0, hi1⟩, H6⟩ := g_e H5
        clear H5
        obtain ⟨h6, eh6, H7⟩ := lt_e H6
        clear H6
        refine ev_iastore (M := T11_carrySpeech) (pc := 105) (k := 24) j_ok1 hi0 hi1 eh6 dX11_carrySpeech_105 (hc := ac_24) (hlen := ln_24 _ _) (K := ?_)
        refine ev_lv [1, 2] [(0, .inr (.inr (some (11, 0)))), (1, .inl (l1))] (k := ?_)
        exact E11_carrySpeech_106 k48 hk48 l1 h6 _ H7
theorem E11_carrySpeech_48 (n : Nat) : ∀ (l1 : Int) (h : JM) (res : JM), F11_carrySpeech_48 n l1 h = some res → Ev j_W1 5 0 0 T11_carrySpeech 48 [(0, .inr (.inr (some (11, 0)))), (1, .inl (l1))] [] h none res := by
  induction n with
  | zero =>
    intro l1 h res H
    cases H
  | succ n ih =>
    intro l1 h res H
    exact E11_carrySpeech_48b (F11_carrySpeech_48 n) ih l1 h res H
set_option maxRecDepth 100000 in
set_option maxHeartbeats 4000000 in
theorem E11_carrySpeech_26b (k26 : Int → JM → Option JM) (hk26 : ∀ (l1 : Int) (h : JM) (res : JM), k26 l1 h = some res → Ev j_W1 5 0 0 T11_carrySpeech 26 [(0, .inr (.inr (some (11, 0)))), (1, .inl (l1))] [] h none res) (l1 : Int) (h : JM) (res : JM) (H : F11_carrySpeech_26b k26 l1 h = some res) : Ev j_W1 5 0 0 T11_carrySpeech 26 [(0, .inr (.inr (some (11, 0)))), (1, .inl (l1))] [] h none res := by
  unfold F11_carrySpeech_26b at H
  refine ev_iload_n (M := T11_carrySpeech) (pc := 26) 1 dX11_carrySpeech_26 (k := ?_)
  refine ev_iconst (M := T11_carrySpeech) (pc := 27) dX11_carrySpeech_27 (k := ?_)
  refine ev_icmpge (M := T11_carrySpeech) (pc := 28) 46 dX11_carrySpeech_28 (kt := fun hc => ?_) (kf := fun hc => ?_)
  · replace H := if_pe hc H
    refine ev_iconst (M := T11_carrySpeech) (pc := 46) dX11_carrySpeech_46 (k := ?_)
    refine ev_istore_n (M := T11_carrySpeech) (pc := 47) [(1, .inl (0)), (0, .inr (.inr (some (11, 0))))] dX11_carrySpeech_47 (k := ?_)
    refine ev_lv [1, 0] [(0, .inr (.inr (some (11, 0)))), (1, .inl (0))] (k := ?_)
    exact E11_carrySpeech_48 j_fu 0 h _ H
  · replace H := if_ne hc H
    refine ev_aload_n (M := T11_carrySpeech) (pc := 31) 0 dX11_carrySpeech_31 (k := ?_)
    refine ev_getR (M := T11_carrySpeech) (pc := 32) (t := 38) (x := some (38, 0)) fl_X11_11 dX11_carrySpeech_32 (hx := ry_11_2 _ _) (K := ?_)
    refine ev_iload_n (M := T11_carrySpeech) (pc := 35) 1 dX11_carrySpeech_35 (k := ?_)
    obtain ⟨⟨hi0, hi1⟩, H1⟩ := g_e H
    clear H
    refine ev_aaload (M := T11_carrySpeech) (pc := 36) (k := 38) 1 (x := some (1, l1)) hi0 hi1 dX11_carrySpeech_36 (hc := ac_38) (hlen := ln_38 _ _) (hx := rz_38 _ _ _) (K := ?_)
    obtain ⟨h7, hq, H2⟩ := bd_e H1
    clear H1
    refine ev_callV (M := T11_carrySpeech) (pc := 37) (mc := 0) (ms := 0) (st := []) (C1_hush hq) md_X1_hush im_X1_hush se_X1_hush ml_X11_551 dX11_carrySpeech_37 _ (by decide) (K := ?_)
    refine ev_iinc (M := T11_carrySpeech) (pc := 40) 1 [(1, .inl (w32 (l1 + 1))), (0, .inr (.inr (some (11, 0))))] dX11_carrySpeech_40 (k := ?_)
    refine ev_goto (M := T11_carrySpeech) (pc := 43) 26 dX11_carrySpeech_43 (k := ?_)
    refine ev_lv [1, 0] [(0, .inr (.inr (some (11, 0)))), (1, .inl (w32 (l1 + 1)))] (k := ?_)
    exact hk26 (w32 (l1 + 1)) h7 _ H2
theorem E11_carrySpeech_26 (n : Nat) : ∀ (l1 : Int) (h : JM) (res : JM), F11_carrySpeech_26 n l1 h = some res → Ev j_W1 5 0 0 T11_carrySpeech 26 [(0, .inr (.inr (some (11, 0)))), (1, .inl (l1))] [] h none res := by
  induction n with
  | zero =>
    intro l1 h res H
    cases H
  | succ n ih =>
    intro l1 h res H
    exact E11_carrySpeech_26b (F11_carrySpeech_26 n) ih l1 h res H
set_option maxRecDepth 100000 in
set_option maxHeartbeats 4000000 in
theorem E11_carrySpeech_2b (k2 : Int → JM → Option JM) (hk2 : ∀ (l1 : Int) (h : JM) (res : JM), k2 l1 h = some res → Ev j_W1 5 0 0 T11_carrySpeech 2 [(0, .inr (.inr (some (11, 0)))), (1, .inl (l1))] [] h none res) (l1 : Int) (h : JM) (res : JM) (H : F11_carrySpeech_2b k2 l1 h = some res) : Ev j_W1 5 0 0 T11_carrySpeech 2 [(0, .inr (.inr (some (11, 0)))), (1, .inl (l1))] [] h none res := by
  unfold F11_carrySpeech_2b at H
  refine ev_iload_n (M := T11_carrySpeech) (pc := 2) 1 dX11_carrySpeech_2 (k := ?_)
  refine ev_bipush (M := T11_carrySpeech) (pc := 3) dX11_carrySpeech_3 (k := ?_)
  refine ev_icmpge (M := T11_carrySpeech) (pc := 5) 24 dX11_carrySpeech_5 (kt := fun hc => ?_) (kf := fun hc => ?_)
  · replace H := if_pe hc H
    refine ev_iconst (M := T11_carrySpeech) (pc := 24) dX11_carrySpeech_24 (k := ?_)
    refine ev_istore_n (M := T11_carrySpeech) (pc := 25) [(1, .inl (0)), (0, .inr (.inr (some (11, 0))))] dX11_carrySpeech_25 (k := ?_)
    refine ev_lv [1, 0] [(0, .inr (.inr (some (11, 0)))), (1, .inl (0))] (k := ?_)
    exact E11_carrySpeech_26 j_fu 0 h _ H
  · replace H := if_ne hc H
    refine ev_aload_n (M := T11_carrySpeech) (pc := 8) 0 dX11_carrySpeech_8 (k := ?_)
    refine ev_getR (M := T11_carrySpeech) (pc := 9) (t := 39) (x := some (39, 0)) fl_X11_17 dX11_carrySpeech_9 (hx := ry_11_3 _ _) (K := ?_)
    refine ev_iload_n (M := T11_carrySpeech) (pc := 12) 1 dX11_carrySpeech_12 (k := ?_)
    obtain ⟨⟨hi0, hi1⟩, H1⟩ := g_e H
    clear H
    refine ev_aaload (M := T11_carrySpeech) (pc := 13) (k := 39) 4 (x := some (4, l1)) hi0 hi1 dX11_carrySpeech_13 (hc := ac_39) (hlen := ln_39 _ _) (hx := rz_39 _ _ _) (K := ?_)
    refine ev_iconst (M := T11_carrySpeech) (pc := 14) dX11_carrySpeech_14 (k := ?_)
    obtain ⟨h8, eh8, H2⟩ := lt_e H1
    clear H1
    refine ev_putI (M := T11_carrySpeech) (pc := 15) j_ok1 fl_X11_243 eh8 dX11_carrySpeech_15 (K := ?_)
    refine ev_iinc (M := T11_carrySpeech) (pc := 18) 1 [(1, .inl (w32 (l1 + 1))), (0, .inr (.inr (some (11, 0))))] dX11_carrySpeech_18 (k := ?_)
    refine ev_goto (M := T11_carrySpeech) (pc := 21) 2 dX11_carrySpeech_21 (k := ?_)
    refine ev_lv [1, 0] [(0, .inr (.inr (some (11, 0)))), (1, .inl (w32 (l1 + 1)))] (k := ?_)
    exact hk2 (w32 (l1 + 1)) h8 _ H2
theorem E11_carrySpeech_2 (n : Nat) : ∀ (l1 : Int) (h : JM) (res : JM), F11_carrySpeech_2 n l1 h = some res → Ev j_W1 5 0 0 T11_carrySpeech 2 [(0, .inr (.inr (some (11, 0)))), (1, .inl (l1))] [] h none res := by
  induction n with
  | zero =>
    intro l1 h res H
    cases H
  | succ n ih =>
    intro l1 h res H
    exact E11_carrySpeech_2b (F11_carrySpeech_2 n) ih l1 h res H
set_option maxRecDepth 100000 in
set_option maxHeartbeats 4000000 in
theorem C11_carrySpeech {h : JM} {res : JM} (H : F11_carrySpeech h = some res) : Cn j_W1 5 0 0 yX11_carrySpeech cX11_carrySpeech 3 none [.inr (.inr (some (11, 0)))] h none res := by
  refine Cn.by (own := RX11) (b := false) [(0, .inr (.inr (some (11, 0))))] rfl (fun z => by cases z) (by decide +kernel) (K := ?_)
  unfold F11_carrySpeech at H
  refine ev_iconst (M := T11_carrySpeech) (pc := 0) dX11_carrySpeech_0 (k := ?_)
  refine ev_istore_n (M := T11_carrySpeech) (pc := 1) [(1, .inl (0)), (0, .inr (.inr (some (11, 0))))] dX11_carrySpeech_1 (k := ?_)
  refine ev_lv [1, 0] [(0, .inr (.inr (some (11, 0)))), (1, .inl (0))] (k := ?_)
  exact E11_carrySpeech_2 j_fu 0 h _ H
-- X11_causeByTime
abbrev T11_causeByTime : JT := (RX11, cX11_causeByTime, 3, some .int, false)
set_option maxRecDepth 100000 in
set_option maxHeartbeats 4000000 in
theorem E11_causeByTime_108 (h : JM) (res : (Int × JM)) (H : F11_causeByTime_108 h = some res) : Ev j_W1 2 0 0 T11_causeByTime 108 [] [] h (some (.inl res.1)) res.2 := by
  unfold F11_causeByTime_108 at H
  refine ev_iconst (M := T11_causeByTime) (pc := 108) dX11_causeByTime_108 (k := ?_)
  refine ev_goto (M := T11_causeByTime) (pc := 109) 113 dX11_causeByTime_109 (k := ?_)
  cases H
  exact ev_ireturn (M := T11_causeByTime) (pc := 113) dX11_causeByTime_113
set_option maxRecDepth 100000 in
set_option maxHeartbeats 4000000 in
theorem C11_causeByTime {l1 : Option Int} {l2 : Int} {h : JM} {res : (Int × JM)} (H : F11_causeByTime l1 l2 h = some res) : Cn j_W1 2 0 0 yX11_causeByTime cX11_causeByTime 3 (some .int) [.inr (.inr (some (11, 0))), .inr (.inr (Option.map (Prod.mk 0) (l1))), .inl (l2)] h (some (.inl res.1)) res.2 := by
  refine Cn.by (own := RX11) (b := false) [(0, .inr (.inr (some (11, 0)))), (1, .inr (.inr (Option.map (Prod.mk 0) (l1)))), (2, .inl (l2))] rfl (fun z => by cases z) (by decide +kernel) (K := ?_)
  unfold F11_causeByTime at H
  refine ev_aload_n (M := T11_causeByTime) (pc := 0) 1 dX11_causeByTime_0 (k := ?_)
  obtain ⟨a1, ea1, H1⟩ := bd_e H
  clear H
  rw [ea1]
  refine ev_getI (M := T11_causeByTime) (pc := 1) (x := h.1 0 a1 9) fl_X11_210 dX11_causeByTime_1 (K := ?_)
  by_cases hs0 : h.1 0 a1 9 = 0
  · replace H1 := if_pe hs0 H1
    refine ev_tableIn (M := T11_causeByTime) (pc := 4) (off := 36) 40 dX11_causeByTime_4 (by omega) (by omega) (by rw [hs0]; rfl) (k := ?_)
    refine ev_iload_n (M := T11_causeByTime) (pc := 40) 2 dX11_causeByTime_40 (k := ?_)
    refine ev_sipush (M := T11_causeByTime) (pc := 41) dX11_causeByTime_41 (k := ?_)
    refine ev_icmpne (M := T11_causeByTime) (pc := 44) 51 dX11_causeByTime_44 (kt := fun hc => ?_) (kf := fun hc => ?_)
    · replace H1 := if_ne hc H1
      refine ev_iconst (M := T11_causeByTime) (pc := 51) dX11_causeByTime_51 (k := ?_)
      cases H1
      exact ev_ireturn (M := T11_causeByTime) (pc := 52) dX11_causeByTime_52
    · replace H1 := if_pe hc H1
      refine ev_iconst (M := T11_causeByTime) (pc := 47) dX11_causeByTime_47 (k := ?_)
      refine ev_goto (M := T11_causeByTime) (pc := 48) 52 dX11_causeByTime_48 (k := ?_)
      cases H1
      exact ev_ireturn (M := T11_causeByTime) (pc := 52) dX11_causeByTime_52
  · replace H1 := if_ne hs0 H1
    by_cases hs1 : h.1 0 a1 9 = 1
    · replace H1 := if_pe hs1 H1
      refine ev_tableIn (M := T11_causeByTime) (pc := 4) (off := 49) 53 dX11_causeByTime_4 (by omega) (by omega) (by rw [hs1]; rfl) (k := ?_)
      refine ev_iload_n (M := T11_causeByTime) (pc := 53) 2 dX11_causeByTime_53 (k := ?_)
      refine ev_sipush (M := T11_causeByTime) (pc := 54) dX11_causeByTime_54 (k := ?_)
      refine ev_icmpne (M := T11_causeByTime) (pc := 57) 65 dX11_causeByTime_57 (kt := fun hc => ?_) (kf := fun hc => ?_)
      · replace H1 := if_ne hc H1
        refine ev_iconst (M := T11_causeByTime) (pc := 65) dX11_causeByTime_65 (k := ?_)
        cases H1
        exact ev_ireturn (M := T11_causeByTime) (pc := 66) dX11_causeByTime_66
      · replace H1 := if_pe hc H1
        refine ev_bipush (M := T11_causeByTime) (pc := 60) dX11_causeByTime_60 (k := ?_)
        refine ev_goto (M := T11_causeByTime) (pc := 62) 66 dX11_causeByTime_62 (k := ?_)
        cases H1
        exact ev_ireturn (M := T11_causeByTime) (pc := 66) dX11_causeByTime_66
    · replace H1 := if_ne hs1 H1
      by_cases hs2 : h.1 0 a1 9 = 3
      · replace H1 := if_pe hs2 H1
        refine ev_tableIn (M := T11_causeByTime) (pc := 4) (off := 76) 80 dX11_causeByTime_4 (by omega) (by omega) (by rw [hs2]; rfl) (k := ?_)
        refine ev_aload_n (M := T11_causeByTime) (pc := 80) 0 dX11_causeByTime_80 (k := ?_)
        refine ev_getR (M := T11_causeByTime) (pc := 81) (t := 3) (x := some (3, 0)) fl_X11_30 dX11_causeByTime_81 (hx := ry_11_5 _ _) (K := ?_)
        refine ev_aload_n (M := T11_causeByTime) (pc := 84) 1 dX11_causeByTime_84 (k := ?_)
        refine ev_iload_n (M := T11_causeByTime) (pc := 85) 2 dX11_causeByTime_85 (k := ?_)
        obtain ⟨q2, hq, H2⟩ := bd_e H1
        clear H1
        refine ev_callV (M := T11_causeByTime) (pc := 86) (mc := 0) (ms := 0) (st := []) (C3_isStep hq) md_X3_isStep im_X3_isStep se_X3_isStep ml_X11_540 dX11_causeByTime_86 _ (by decide) (K := ?_)
        refine ev_ifeq (M := T11_causeByTime) (pc := 89) 108 dX11_causeByTime_89 (kt := fun hc => ?_) (kf := fun hc => ?_)
        · replace H2 := if_pe hc H2
          refine ev_lv [] [] (k := ?_)
          exact E11_causeByTime_108 q2.2 _ H2
        · replace H2 := if_ne hc H2
          refine ev_aload_n (M := T11_causeByTime) (pc := 92) 0 dX11_causeByTime_92 (k := ?_)
          refine ev_getR (M := T11_causeByTime) (pc := 93) (t := 3) (x := some (3, 0)) fl_X11_30 dX11_causeByTime_93 (hx := ry_11_5 _ _) (K := ?_)
          refine ev_aload_n (M := T11_causeByTime) (pc := 96) 1 dX11_causeByTime_96 (k := ?_)
          refine ev_iconst (M := T11_causeByTime) (pc := 97) dX11_causeByTime_97 (k := ?_)
          refine ev_aload_n (M := T11_causeByTime) (pc := 98) 0 dX11_causeByTime_98 (k := ?_)
          refine ev_getI (M := T11_causeByTime) (pc := 99) (x := q2.2.1 11 0 10) fl_X11_177 dX11_causeByTime_99 (K := ?_)
          obtain ⟨q3, hq, H3⟩ := bd_e H2
          clear H2
          refine ev_callV (M := T11_causeByTime) (pc := 102) (mc := 0) (ms := 0) (st := []) (C3_charge hq) md_X3_charge im_X3_charge se_X3_charge ml_X11_520 dX11_causeByTime_102 _ (by decide) (K := ?_)
          refine ev_ifeq (M := T11_causeByTime) (pc := 105) 112 dX11_causeByTime_105 (kt := fun hc => ?_) (kf := fun hc => ?_)
          · replace H3 := if_pe hc H3
            refine ev_iconst (M := T11_causeByTime) (pc := 112) dX11_causeByTime_112 (k := ?_)
            cases H3
            exact ev_ireturn (M := T11_causeByTime) (pc := 113) dX11_causeByTime_113
          · replace H3 := if_ne hc H3
            refine ev_lv [] [] (k := ?_)
            exact E11_causeByTime_108 q3.2 _ H3
      · replace H1 := if_ne hs2 H1
        by_cases hs3 : h.1 0 a1 9 = 4
        · replace H1 := if_pe hs3 H1
          refine ev_tableIn (M := T11_causeByTime) (pc := 4) (off := 63) 67 dX11_causeByTime_4 (by omega) (by omega) (by rw [hs3]; rfl) (k := ?_)
          refine ev_iload_n (M := T11_causeByTime) (pc := 67) 2 dX11_causeByTime_67 (k := ?_)
          refine ev_sipush (M := T11_causeByTime) (pc := 68) dX11_causeByTime_68 (k := ?_)
          refine ev_icmpne (M := T11_causeByTime) (pc := 71) 78 dX11_causeByTime_71 (kt := fun hc => ?_) (kf := fun hc => ?_)
          · replace H1 := if_ne hc H1
            refine ev_iconst (M := T11_causeByTime) (pc := 78) dX11_causeByTime_78 (k := ?_)
            cases H1
            exact ev_ireturn (M := T11_causeByTime) (pc := 79) dX11_causeByTime_79
          · replace H1 := if_pe hc H1
            refine ev_iconst (M := T11_causeByTime) (pc := 74) dX11_causeByTime_74 (k := ?_)
            refine ev_goto (M := T11_causeByTime) (pc := 75) 79 dX11_causeByTime_75 (k := ?_)
            cases H1
            exact ev_ireturn (M := T11_causeByTime) (pc := 79) dX11_causeByTime_79
        · replace H1 := if_ne hs3 H1
          rcases (show (h.1 0 a1 9 < 0 ∨ 4 < h.1 0 a1 9) ∨ (h.1 0 a1 9 = 2) by omega) with hz | hz
          · refine ev_tableOut (M := T11_causeByTime) (pc := 4) 114 dX11_causeByTime_4 hz (k := ?_)
            refine ev_iconst (M := T11_causeByTime) (pc := 114) dX11_causeByTime_114 (k := ?_)
            cases H1
            exact ev_ireturn (M := T11_causeByTime) (pc := 115) dX11_causeByTime_115
          · refine ev_tableIn (M := T11_causeByTime) (pc := 4) (off := 110) 114 dX11_causeByTime_4 (by omega) (by omega) (by rw [hz]; rfl) (k := ?_)
            refine ev_iconst (M := T11_causeByTime) (pc := 114) dX11_causeByTime_114 (k := ?_)
            cases H1
            exact ev_ireturn (M := T11_causeByTime) (pc := 115) dX11_causeByTime_115
-- X11_ringNoMore
abbrev T11_ringNoMore : JT := (RX11, cX11_ringNoMore, 3, none, false)
set_option maxRecDepth 100000 in
set_option maxHeartbeats 4000000 in
theorem E11_ringNoMore_21 (l1 : Option Int) (l2 : Option Int) (h : JM) (res : JM) (H : F11_ringNoMore_21 l1 l2 h = some res) : Ev j_W1 1 0 0 T11_ringNoMore 21 [(1, .inr (.inr (Option.map (Prod.mk 0) (l1)))), (2, .inr (.inr (Option.map (Prod.mk 4) (l2))))] [] h none res := by
  unfold F11_ringNoMore_21 at H
  refine ev_aload_n (M := T11_ringNoMore) (pc := 21) 1 dX11_ringNoMore_21 (k := ?_)
  obtain ⟨a1, ea1, H1⟩ := bd_e H
  clear H
  rw [ea1]
  refine ev_getR (M := T11_ringNoMore) (pc := 22) (t := 0) (x := Option.map (Prod.mk 0) (h.2.2 4 a1 12)) fl_X11_213 dX11_ringNoMore_22 (hx := ry_4_12 _ _) (K := ?_)
  refine ev_aload_n (M := T11_ringNoMore) (pc := 25) 0 dX11_ringNoMore_25 (k := ?_)
  refine ev_acmpneK (M := T11_ringNoMore) (pc := 26) (h.2.2 4 a1 12) l1 34 dX11_ringNoMore_26 (kt := fun hc => ?_) (kf := fun hc => ?_)
  · replace H1 := if_ne hc H1
    cases H1
    exact ev_return (M := T11_ringNoMore) (pc := 34) dX11_ringNoMore_34
  · replace H1 := if_pe hc H1
    refine ev_aload_n (M := T11_ringNoMore) (pc := 29) 1 dX11_ringNoMore_29 (k := ?_)
    refine ev_null (M := T11_ringNoMore) (pc := 30) dX11_ringNoMore_30 (k := ?_)
    obtain ⟨h2, eh2, H2⟩ := lt_e H1
    clear H1
    refine ev_putR (M := T11_ringNoMore) (pc := 31) (t := 0) j_ok1 none fl_X11_213 eh2 (hdg := dX11_ringNoMore_31) (hly := rl_4_12 _) (K := ?_)
    cases H2
    exact ev_return (M := T11_ringNoMore) (pc := 34) dX11_ringNoMore_34
set_option maxRecDepth 100000 in
set_option maxHeartbeats 4000000 in
theorem C11_ringNoMore {l1 : Option Int} {l2 : Option Int} {h : JM} {res : JM} (H : F11_ringNoMore l1 l2 h = some res) : Cn j_W1 1 0 0 yX11_ringNoMore cX11_ringNoMore 3 none [.inr (.inr (some (11, 0))), .inr (.inr (Option.map (Prod.mk 0) (l1))), .inr (.inr (Option.map (Prod.mk 4) (l2)))] h none res := by
  refine Cn.by (own := RX11) (b := false) [(0, .inr (.inr (some (11, 0)))), (1, .inr (.inr (Option.map (Prod.mk 0) (l1)))), (2, .inr (.inr (Option.map (Prod.mk 4) (l2))))] rfl (fun z => by cases z) (by decide +kernel) (K := ?_)
  unfold F11_ringNoMore at H
  refine ev_aload_n (M := T11_ringNoMore) (pc := 0) 2 dX11_ringNoMore_0 (k := ?_)
  obtain ⟨a3, ea3, H1⟩ := bd_e H
  clear H
  rw [ea3]
  refine ev_getR (M := T11_ringNoMore) (pc := 1) (t := 0) (x := Option.map (Prod.mk 0) (h.2.2 4 a3 13)) fl_X11_432 dX11_ringNoMore_1 (hx := ry_4_13 _ _) (K := ?_)
  refine ev_aload_n (M := T11_ringNoMore) (pc := 4) 1 dX11_ringNoMore_4 (k := ?_)
  refine ev_acmpneK (M := T11_ringNoMore) (pc := 5) (h.2.2 4 a3 13) l1 21 dX11_ringNoMore_5 (kt := fun hc => ?_) (kf := fun hc => ?_)
  · replace H1 := if_ne hc H1
    refine ev_lv [1, 2] [(1, .inr (.inr (Option.map (Prod.mk 0) (l1)))), (2, .inr (.inr (some (4, a3))))] (k := ?_)
    exact E11_ringNoMore_21 l1 (some a3) h _ H1
  · replace H1 := if_pe hc H1
    refine ev_aload_n (M := T11_ringNoMore) (pc := 8) 2 dX11_ringNoMore_8 (k := ?_)
    refine ev_null (M := T11_ringNoMore) (pc := 9) dX11_ringNoMore_9 (k := ?_)
    obtain ⟨h4, eh4, H2⟩ := lt_e H1
    clear H1
    refine ev_putR (M := T11_ringNoMore) (pc := 10) (t := 0) j_ok1 none fl_X11_432 eh4 (hdg := dX11_ringNoMore_10) (hly := rl_4_13 _) (K := ?_)
    refine ev_aload_n (M := T11_ringNoMore) (pc := 13) 2 dX11_ringNoMore_13 (k := ?_)
    refine ev_aload_n (M := T11_ringNoMore) (pc := 14) 0 dX11_ringNoMore_14 (k := ?_)
    refine ev_getI (M := T11_ringNoMore) (pc := 15) (x := h4.1 11 0 10) fl_X11_177 dX11_ringNoMore_15 (K := ?_)
    obtain ⟨h5, eh5, H3⟩ := lt_e H2
    clear H2
    refine ev_putI (M := T11_ringNoMore) (pc := 18) j_ok1 fl_X11_438 eh5 dX11_ringNoMore_18 (K := ?_)
    refine ev_lv [1, 2] [(1, .inr (.inr (Option.map (Prod.mk 0) (l1)))), (2, .inr (.inr (some (4, a3))))] (k := ?_)
    exact E11_ringNoMore_21 l1 (some a3) h5 _ H3
