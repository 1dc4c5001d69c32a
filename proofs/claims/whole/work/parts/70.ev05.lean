-- X11_fromLaw1
abbrev T11_fromLaw1 : JT := (RX11, cX11_fromLaw1, 4, some .int, false)
set_option maxRecDepth 100000 in
set_option maxHeartbeats 4000000 in
theorem C11_fromLaw1 {l0 : Int} {h : JM} {res : (Int × JM)} (H : F11_fromLaw1 l0 h = some res) : Cn j_W1 1 0 0 yX11_fromLaw1 cX11_fromLaw1 4 (some .int) [.inl (l0)] h (some (.inl res.1)) res.2 := by
  refine Cn.by (own := RX11) (b := false) [(0, .inl (l0))] rfl (fun z => by cases z) (by decide +kernel) (K := ?_)
  unfold F11_fromLaw1 at H
  refine ev_sipush dX11_fromLaw1_0 (k := ?_)
  refine ev_iload_n 0 dX11_fromLaw1_3 (k := ?_)
  refine ev_isub dX11_fromLaw1_4 (k := ?_)
  obtain ⟨x1, ex1, H1⟩ := lt_e H
  clear H
  refine ev_topI ex1 ?_
  refine ev_istore_n [(1, .inl (x1)), (0, .inl (l0))] dX11_fromLaw1_5 (k := ?_)
  refine ev_iload_n 0 dX11_fromLaw1_6 (k := ?_)
  refine ev_bipush dX11_fromLaw1_7 (k := ?_)
  refine ev_idiv dX11_fromLaw1_9 (by decide) (k := ?_)
  refine ev_bipush dX11_fromLaw1_10 (k := ?_)
  refine ev_iand dX11_fromLaw1_12 (k := ?_)
  obtain ⟨x2, ex2, H2⟩ := lt_e H1
  clear H1
  refine ev_topI ex2 ?_
  refine ev_istore_n [(2, .inl (x2)), (1, .inl (x1)), (0, .inl (l0))] dX11_fromLaw1_13 (k := ?_)
  refine ev_iconst dX11_fromLaw1_14 (k := ?_)
  refine ev_iload_n 1 dX11_fromLaw1_15 (k := ?_)
  refine ev_bipush dX11_fromLaw1_16 (k := ?_)
  refine ev_iand dX11_fromLaw1_18 (k := ?_)
  refine ev_imul dX11_fromLaw1_19 (k := ?_)
  refine ev_bipush dX11_fromLaw1_20 (k := ?_)
  refine ev_iadd dX11_fromLaw1_22 (k := ?_)
  refine ev_iload_n 0 dX11_fromLaw1_23 (k := ?_)
  refine ev_ishl dX11_fromLaw1_24 (k := ?_)
  refine ev_bipush dX11_fromLaw1_25 (k := ?_)
  refine ev_isub dX11_fromLaw1_27 (k := ?_)
  obtain ⟨x3, ex3, H3⟩ := lt_e H2
  clear H2
  refine ev_topI ex3 ?_
  refine ev_istore_n [(3, .inl (x3)), (2, .inl (x2)), (1, .inl (x1)), (0, .inl (l0))] dX11_fromLaw1_28 (k := ?_)
  refine ev_iload_n 2 dX11_fromLaw1_29 (k := ?_)
  refine ev_bipush dX11_fromLaw1_30 (k := ?_)
  refine ev_icmple 40 dX11_fromLaw1_32 (kt := fun hc => ?_) (kf := fun hc => ?_)
  · replace H3 := if_pe hc H3
    refine ev_iload_n 0 dX11_fromLaw1_40 (k := ?_)
    cases H3
    exact ev_ireturn dX11_fromLaw1_41
  · replace H3 := if_ne hc H3
    refine ev_iload_n 0 dX11_fromLaw1_35 (k := ?_)
    refine ev_ineg dX11_fromLaw1_36 (k := ?_)
    refine ev_goto 41 dX11_fromLaw1_37 (k := ?_)
    cases H3
    exact ev_ireturn dX11_fromLaw1_41
-- X11_asHeard
abbrev T11_asHeard : JT := (RX11, cX11_asHeard, 2, some .int, false)
set_option maxRecDepth 100000 in
set_option maxHeartbeats 4000000 in
theorem C11_asHeard {l0 : Int} {l1 : Int} {h : JM} {res : (Int × JM)} (H : F11_asHeard l0 l1 h = some res) : Cn j_W1 2 0 0 yX11_asHeard cX11_asHeard 2 (some .int) [.inl (l0), .inl (l1)] h (some (.inl res.1)) res.2 := by
  refine Cn.by (own := RX11) (b := false) [(0, .inl (l0)), (1, .inl (l1))] rfl (fun z => by cases z) (by decide +kernel) (K := ?_)
  unfold F11_asHeard at H
  refine ev_iload_n 0 dX11_asHeard_0 (k := ?_)
  refine ev_ifne 14 dX11_asHeard_1 (kt := fun hc => ?_) (kf := fun hc => ?_)
  · replace H := if_ne hc H
    refine ev_iload_n 1 dX11_asHeard_14 (k := ?_)
    obtain ⟨q1, hq, H1⟩ := bd_e H
    clear H
    refine ev_callS (mc := 0) (ms := 0) (st := []) (C11_byLaw1 hq) md_X11_byLaw1 ss_X11_byLaw1 ml_X11_580 dX11_asHeard_15 _ (by decide) (K := ?_)
    obtain ⟨q2, hq, H2⟩ := bd_e H1
    clear H1
    refine ev_callS (mc := 0) (ms := 0) (st := []) (C11_fromLaw1 hq) md_X11_fromLaw1 ss_X11_fromLaw1 ml_X11_583 dX11_asHeard_18 _ (by decide) (K := ?_)
    cases H2
    exact ev_ireturn dX11_asHeard_21
  · replace H := if_pe hc H
    refine ev_iload_n 1 dX11_asHeard_4 (k := ?_)
    obtain ⟨q3, hq, H1⟩ := bd_e H
    clear H
    refine ev_callS (mc := 0) (ms := 0) (st := []) (C11_byLaw0 hq) md_X11_byLaw0 ss_X11_byLaw0 ml_X11_577 dX11_asHeard_5 _ (by decide) (K := ?_)
    obtain ⟨q4, hq, H2⟩ := bd_e H1
    clear H1
    refine ev_callS (mc := 0) (ms := 0) (st := []) (C11_fromLaw0 hq) md_X11_fromLaw0 ss_X11_fromLaw0 ml_X11_573 dX11_asHeard_8 _ (by decide) (K := ?_)
    refine ev_goto 21 dX11_asHeard_11 (k := ?_)
    cases H2
    exact ev_ireturn dX11_asHeard_21
-- X11_isExchange
abbrev T11_isExchange : JT := (RX11, cX11_isExchange, 1, some .boolean, false)
set_option maxRecDepth 100000 in
set_option maxHeartbeats 4000000 in
theorem E11_isExchange_13 (h : JM) (res : (Int × JM)) (H : F11_isExchange_13 h = some res) : Ev j_W1 1 0 0 T11_isExchange 13 [] [] h (some (.inl res.1)) res.2 := by
  unfold F11_isExchange_13 at H
  refine ev_iconst dX11_isExchange_13 (k := ?_)
  cases H
  exact ev_zreturn (Or.inl rfl) dX11_isExchange_14
set_option maxRecDepth 100000 in
set_option maxHeartbeats 4000000 in
theorem C11_isExchange {l0 : Int} {h : JM} {res : (Int × JM)} (H : F11_isExchange l0 h = some res) : Cn j_W1 1 0 0 yX11_isExchange cX11_isExchange 1 (some .boolean) [.inl (l0)] h (some (.inl res.1)) res.2 := by
  refine Cn.by (own := RX11) (b := false) [(0, .inl (l0))] rfl (fun z => by cases z) (by decide +kernel) (K := ?_)
  unfold F11_isExchange at H
  refine ev_iload_n 0 dX11_isExchange_0 (k := ?_)
  refine ev_iflt 13 dX11_isExchange_1 (kt := fun hc => ?_) (kf := fun hc => ?_)
  · replace H := if_pe hc H
    refine ev_lv [] [] (k := ?_)
    exact E11_isExchange_13 h _ H
  · replace H := if_ne hc H
    refine ev_iload_n 0 dX11_isExchange_4 (k := ?_)
    refine ev_iconst dX11_isExchange_5 (k := ?_)
    refine ev_icmpge 13 dX11_isExchange_6 (kt := fun hc => ?_) (kf := fun hc => ?_)
    · replace H := if_pe hc H
      refine ev_lv [] [] (k := ?_)
      exact E11_isExchange_13 h _ H
    · replace H := if_ne hc H
      refine ev_iconst dX11_isExchange_9 (k := ?_)
      refine ev_goto 14 dX11_isExchange_10 (k := ?_)
      cases H
      exact ev_zreturn (Or.inr rfl) dX11_isExchange_14
-- X11_bit
abbrev T11_bit : JT := (RX11, cX11_bit, 4, some .int, false)
set_option maxRecDepth 100000 in
set_option maxHeartbeats 4000000 in
theorem E11_bit_37 (h : JM) (res : (Int × JM)) (H : F11_bit_37 h = some res) : Ev j_W1 4 0 0 T11_bit 37 [] [] h (some (.inl res.1)) res.2 := by
  unfold F11_bit_37 at H
  refine ev_iconst dX11_bit_37 (k := ?_)
  cases H
  exact ev_ireturn dX11_bit_38
set_option maxRecDepth 100000 in
set_option maxHeartbeats 4000000 in
theorem C11_bit {l1 : Int} {l2 : Int} {l3 : Int} {h : JM} {res : (Int × JM)} (H : F11_bit l1 l2 l3 h = some res) : Cn j_W1 4 0 0 yX11_bit cX11_bit 4 (some .int) [.inr (.inr (some (11, 0))), .inl (l1), .inl (l2), .inl (l3)] h (some (.inl res.1)) res.2 := by
  refine Cn.by (own := RX11) (b := false) [(0, .inr (.inr (some (11, 0)))), (1, .inl (l1)), (2, .inl (l2)), (3, .inl (l3))] rfl (fun z => by cases z) (by decide +kernel) (K := ?_)
  unfold F11_bit at H
  refine ev_iload_n 1 dX11_bit_0 (k := ?_)
  obtain ⟨q1, hq, H1⟩ := bd_e H
  clear H
  refine ev_callS (mc := 0) (ms := 0) (st := []) (C11_isExchange hq) md_X11_isExchange ss_X11_isExchange ml_X11_91 dX11_bit_1 _ (by decide) (K := ?_)
  refine ev_ifne 10 dX11_bit_4 (kt := fun hc => ?_) (kf := fun hc => ?_)
  · replace H1 := if_ne hc H1
    refine ev_iload_n 2 dX11_bit_10 (k := ?_)
    refine ev_iflt 37 dX11_bit_11 (kt := fun hc => ?_) (kf := fun hc => ?_)
    · replace H1 := if_pe hc H1
      refine ev_lv [] [] (k := ?_)
      exact E11_bit_37 q1.2 _ H1
    · replace H1 := if_ne hc H1
      refine ev_iload_n 2 dX11_bit_14 (k := ?_)
      refine ev_aload_n 0 dX11_bit_15 (k := ?_)
      refine ev_getI (x := q1.2.1 11 0 10) fl_X11_177 dX11_bit_16 (K := ?_)
      refine ev_icmpge 37 dX11_bit_19 (kt := fun hc => ?_) (kf := fun hc => ?_)
      · replace H1 := if_pe hc H1
        refine ev_lv [] [] (k := ?_)
        exact E11_bit_37 q1.2 _ H1
      · replace H1 := if_ne hc H1
        refine ev_iload_n 2 dX11_bit_22 (k := ?_)
        refine ev_aload_n 0 dX11_bit_23 (k := ?_)
        refine ev_getI (x := q1.2.1 11 0 10) fl_X11_177 dX11_bit_24 (K := ?_)
        refine ev_bipush dX11_bit_27 (k := ?_)
        refine ev_isub dX11_bit_29 (k := ?_)
        refine ev_icmplt 37 dX11_bit_30 (kt := fun hc => ?_) (kf := fun hc => ?_)
        · replace H1 := if_pe hc H1
          refine ev_lv [] [] (k := ?_)
          exact E11_bit_37 q1.2 _ H1
        · replace H1 := if_ne hc H1
          refine ev_iload_n 3 dX11_bit_33 (k := ?_)
          refine ev_ifge 39 dX11_bit_34 (kt := fun hc => ?_) (kf := fun hc => ?_)
          · replace H1 := if_pe hc H1
            refine ev_aload_n 0 dX11_bit_39 (k := ?_)
            refine ev_getR (t := 10) (x := some (10, 0)) fl_X11_47 dX11_bit_40 (hx := ry_11_8 _ _) (K := ?_)
            refine ev_aload_n 0 dX11_bit_43 (k := ?_)
            refine ev_getR (t := 38) (x := some (38, 0)) fl_X11_11 dX11_bit_44 (hx := ry_11_2 _ _) (K := ?_)
            refine ev_iload_n 1 dX11_bit_47 (k := ?_)
            obtain ⟨⟨hi0, hi1⟩, H2⟩ := g_e H1
            clear H1
            refine ev_aaload (k := 38) 1 (x := some (1, l1)) hi0 hi1 dX11_bit_48 (hc := ac_38) (hlen := ln_38 _ _) (hx := rz_38 _ _ _) (K := ?_)
            refine ev_getR (t := 5) (x := some (5, l1)) fl_X11_261 dX11_bit_49 (hx := ry_1_7 _ _) (K := ?_)
            refine ev_getR (t := 32) (x := some (32, l1)) fl_X11_288 dX11_bit_52 (hx := ry_5_9 _ _) (K := ?_)
            refine ev_iload_n 2 dX11_bit_55 (k := ?_)
            refine ev_bipush dX11_bit_56 (k := ?_)
            refine ev_irem dX11_bit_58 (by decide) (k := ?_)
            obtain ⟨⟨hi0, hi1⟩, H3⟩ := g_e H2
            clear H2
            refine ev_aaload (k := 32) 9 (x := some (9, (64 * l1 + (j_rem l2 64)))) hi0 hi1 dX11_bit_59 (hc := ac_32) (hlen := ln_32 _ _) (hx := rz_32 _ _ _) (K := ?_)
            obtain ⟨h2, hq, H4⟩ := bd_e H3
            clear H3
            refine ev_callV (mc := 0) (ms := 0) (st := []) (C10_write hq) md_X10_write im_X10_write se_X10_write ml_X11_292 dX11_bit_60 _ (by decide) (K := ?_)
            refine ev_iload_n 3 dX11_bit_63 (k := ?_)
            refine ev_aload_n 0 dX11_bit_64 (k := ?_)
            refine ev_getR (t := 10) (x := some (10, 0)) fl_X11_47 dX11_bit_65 (hx := ry_11_8 _ _) (K := ?_)
            refine ev_getI (x := h2.1 10 0 1) fl_X11_296 dX11_bit_68 (K := ?_)
            refine ev_icmpge 86 dX11_bit_71 (kt := fun hc => ?_) (kf := fun hc => ?_)
            · replace H4 := if_pe hc H4
              refine ev_iconst dX11_bit_86 (k := ?_)
              cases H4
              exact ev_ireturn dX11_bit_87
            · replace H4 := if_ne hc H4
              refine ev_aload_n 0 dX11_bit_74 (k := ?_)
              refine ev_getR (t := 10) (x := some (10, 0)) fl_X11_47 dX11_bit_75 (hx := ry_11_8 _ _) (K := ?_)
              refine ev_getR (t := 36) (x := some (36, 0)) fl_X11_299 dX11_bit_78 (hx := ry_10_0 _ _) (K := ?_)
              refine ev_iload_n 3 dX11_bit_81 (k := ?_)
              obtain ⟨⟨hi0, hi1⟩, H5⟩ := g_e H4
              clear H4
              refine ev_baload (k := 36) hi0 hi1 dX11_bit_82 (hc := ac_36) (hlen := ln_36 _ _) (K := ?_)
              refine ev_goto 87 dX11_bit_83 (k := ?_)
              cases H5
              exact ev_ireturn dX11_bit_87
          · replace H1 := if_ne hc H1
            refine ev_lv [] [] (k := ?_)
            exact E11_bit_37 q1.2 _ H1
  · replace H1 := if_pe hc H1
    refine ev_bipush dX11_bit_7 (k := ?_)
    cases H1
    exact ev_ireturn dX11_bit_9
-- X11_given
abbrev T11_given : JT := (RX11, cX11_given, 3, some .int, false)
set_option maxRecDepth 100000 in
set_option maxHeartbeats 4000000 in
theorem E11_given_55 (h : JM) (res : (Int × JM)) (H : F11_given_55 h = some res) : Ev j_W1 3 0 0 T11_given 55 [] [] h (some (.inl res.1)) res.2 := by
  unfold F11_given_55 at H
  refine ev_iconst dX11_given_55 (k := ?_)
  cases H
  exact ev_ireturn dX11_given_56
set_option maxRecDepth 100000 in
set_option maxHeartbeats 4000000 in
theorem C11_given {l0 : Option Int} {l1 : Option Int} {l2 : Option Int} {h : JM} {res : (Int × JM)} (H : F11_given l0 l1 l2 h = some res) : Cn j_W1 3 0 0 yX11_given cX11_given 3 (some .int) [.inr (.inr (Option.map (Prod.mk 0) (l0))), .inr (.inr (Option.map (Prod.mk 4) (l1))), .inr (.inr (Option.map (Prod.mk 8) (l2)))] h (some (.inl res.1)) res.2 := by
  refine Cn.by (own := RX11) (b := false) [(0, .inr (.inr (Option.map (Prod.mk 0) (l0)))), (1, .inr (.inr (Option.map (Prod.mk 4) (l1)))), (2, .inr (.inr (Option.map (Prod.mk 8) (l2))))] rfl (fun z => by cases z) (by decide +kernel) (K := ?_)
  unfold F11_given at H
  refine ev_aload_n 1 dX11_given_0 (k := ?_)
  refine ev_nullK l1 31 dX11_given_1 (kt := fun hc => ?_) (kf := fun hc => ?_)
  · replace H := if_pe hc H
    refine ev_aload_n 2 dX11_given_31 (k := ?_)
    refine ev_nullK l2 55 dX11_given_32 (kt := fun hc => ?_) (kf := fun hc => ?_)
    · replace H := if_pe hc H
      refine ev_lv [] [] (k := ?_)
      exact E11_given_55 h _ H
    · replace H := if_ne hc H
      refine ev_aload_n 2 dX11_given_35 (k := ?_)
      obtain ⟨a1, ea1, H1⟩ := bd_e H
      clear H
      rw [ea1]
      refine ev_getR (t := 8) (x := some (8, (if a1 < 16 then a1 + 16 else a1 - 16))) fl_X11_69 dX11_given_36 (hx := ry_8_1 _ _) (K := ?_)
      refine ev_nullK (some (if a1 < 16 then a1 + 16 else a1 - 16)) 55 dX11_given_39 (kt := fun hc => ?_) (kf := fun hc => ?_)
      · replace H1 := if_pe hc H1
        refine ev_lv [] [] (k := ?_)
        exact E11_given_55 h _ H1
      · replace H1 := if_ne hc H1
        refine ev_aload_n 2 dX11_given_42 (k := ?_)
        refine ev_getR (t := 8) (x := some (8, (if a1 < 16 then a1 + 16 else a1 - 16))) fl_X11_69 dX11_given_43 (hx := ry_8_1 _ _) (K := ?_)
        refine ev_getI (x := h.1 8 (if a1 < 16 then a1 + 16 else a1 - 16) 5) fl_X11_570 dX11_given_46 (K := ?_)
        obtain ⟨q2, hq, H2⟩ := bd_e H1
        clear H1
        refine ev_callS (mc := 0) (ms := 0) (st := []) (C11_fromLaw0 hq) md_X11_fromLaw0 ss_X11_fromLaw0 ml_X11_573 dX11_given_49 _ (by decide) (K := ?_)
        refine ev_goto 56 dX11_given_52 (k := ?_)
        cases H2
        exact ev_ireturn dX11_given_56
  · replace H := if_ne hc H
    refine ev_aload_n 1 dX11_given_4 (k := ?_)
    obtain ⟨a3, ea3, H1⟩ := bd_e H
    clear H
    rw [ea3]
    refine ev_getR (t := 0) (x := Option.map (Prod.mk 0) (h.2.2 4 a3 11)) fl_X11_206 dX11_given_5 (hx := ry_4_11 _ _) (K := ?_)
    refine ev_aload_n 0 dX11_given_8 (k := ?_)
    refine ev_acmpneK (h.2.2 4 a3 11) l0 29 dX11_given_9 (kt := fun hc => ?_) (kf := fun hc => ?_)
    · replace H1 := if_ne hc H1
      refine ev_iconst dX11_given_29 (k := ?_)
      cases H1
      exact ev_ireturn dX11_given_30
    · replace H1 := if_pe hc H1
      refine ev_aload_n 1 dX11_given_12 (k := ?_)
      refine ev_getI (x := h.1 4 a3 0) fl_X11_317 dX11_given_13 (K := ?_)
      refine ev_bipush dX11_given_16 (k := ?_)
      refine ev_idiv dX11_given_18 (by decide) (k := ?_)
      refine ev_aload_n 1 dX11_given_19 (k := ?_)
      refine ev_getI (x := h.1 4 a3 18) fl_X11_167 dX11_given_20 (K := ?_)
      obtain ⟨q4, hq, H2⟩ := bd_e H1
      clear H1
      refine ev_callS (mc := 0) (ms := 0) (st := []) (C11_asHeard hq) md_X11_asHeard ss_X11_asHeard ml_X11_567 dX11_given_23 _ (by decide) (K := ?_)
      refine ev_goto 30 dX11_given_26 (k := ?_)
      cases H2
      exact ev_ireturn dX11_given_30
-- X11_hand
abbrev T11_hand : JT := (RX11, cX11_hand, 4, none, false)
set_option maxRecDepth 100000 in
set_option maxHeartbeats 4000000 in
theorem E11_hand_27 (l2 : Option Int) (l3 : Int) (h : JM) (res : JM) (H : F11_hand_27 l2 l3 h = some res) : Ev j_W1 3 0 0 T11_hand 27 [(2, .inr (.inr (Option.map (Prod.mk 8) (l2)))), (3, .inl (l3))] [] h none res := by
  unfold F11_hand_27 at H
  refine ev_aload_n 0 dX11_hand_27 (k := ?_)
  refine ev_nullK l2 39 dX11_hand_28 (kt := fun hc => ?_) (kf := fun hc => ?_)
  · replace H := if_pe hc H
    cases H
    exact ev_return dX11_hand_39
  · replace H := if_ne hc H
    refine ev_aload_n 0 dX11_hand_31 (k := ?_)
    refine ev_iload_n 1 dX11_hand_32 (k := ?_)
    obtain ⟨q1, hq, H1⟩ := bd_e H
    clear H
    refine ev_callS (mc := 0) (ms := 0) (st := [.inr (.inr (Option.map (Prod.mk 8) (l2)))]) (C11_byLaw0 hq) md_X11_byLaw0 ss_X11_byLaw0 ml_X11_577 dX11_hand_33 _ (by decide) (K := ?_)
    obtain ⟨a2, ea2, H2⟩ := bd_e H1
    clear H1
    rw [ea2]
    obtain ⟨h3, eh3, H3⟩ := lt_e H2
    clear H2
    refine ev_putI j_ok1 fl_X11_251 eh3 dX11_hand_36 (K := ?_)
    cases H3
    exact ev_return dX11_hand_39
set_option maxRecDepth 100000 in
set_option maxHeartbeats 4000000 in
theorem C11_hand {l0 : Option Int} {l1 : Option Int} {l2 : Option Int} {l3 : Int} {h : JM} {res : JM} (H : F11_hand l0 l1 l2 l3 h = some res) : Cn j_W1 3 0 0 yX11_hand cX11_hand 4 none [.inr (.inr (Option.map (Prod.mk 0) (l0))), .inr (.inr (Option.map (Prod.mk 4) (l1))), .inr (.inr (Option.map (Prod.mk 8) (l2))), .inl (l3)] h none res := by
  refine Cn.by (own := RX11) (b := false) [(0, .inr (.inr (Option.map (Prod.mk 0) (l0)))), (1, .inr (.inr (Option.map (Prod.mk 4) (l1)))), (2, .inr (.inr (Option.map (Prod.mk 8) (l2)))), (3, .inl (l3))] rfl (fun z => by cases z) (by decide +kernel) (K := ?_)
  unfold F11_hand at H
  refine ev_aload_n 1 dX11_hand_0 (k := ?_)
  refine ev_nullK l1 27 dX11_hand_1 (kt := fun hc => ?_) (kf := fun hc => ?_)
  · replace H := if_pe hc H
    refine ev_lv [2, 3] [(2, .inr (.inr (Option.map (Prod.mk 8) (l2)))), (3, .inl (l3))] (k := ?_)
    exact E11_hand_27 l2 l3 h _ H
  · replace H := if_ne hc H
    refine ev_aload_n 1 dX11_hand_4 (k := ?_)
    obtain ⟨a4, ea4, H1⟩ := bd_e H
    clear H
    rw [ea4]
    refine ev_getR (t := 0) (x := Option.map (Prod.mk 0) (h.2.2 4 a4 11)) fl_X11_206 dX11_hand_5 (hx := ry_4_11 _ _) (K := ?_)
    refine ev_aload_n 0 dX11_hand_8 (k := ?_)
    refine ev_acmpneK (h.2.2 4 a4 11) l0 27 dX11_hand_9 (kt := fun hc => ?_) (kf := fun hc => ?_)
    · replace H1 := if_ne hc H1
      refine ev_lv [2, 3] [(2, .inr (.inr (Option.map (Prod.mk 8) (l2)))), (3, .inl (l3))] (k := ?_)
      exact E11_hand_27 l2 l3 h _ H1
    · replace H1 := if_pe hc H1
      refine ev_aload_n 1 dX11_hand_12 (k := ?_)
      refine ev_aload_n 1 dX11_hand_13 (k := ?_)
      refine ev_getI (x := h.1 4 a4 0) fl_X11_317 dX11_hand_14 (K := ?_)
      refine ev_bipush dX11_hand_17 (k := ?_)
      refine ev_idiv dX11_hand_19 (by decide) (k := ?_)
      refine ev_iload_n 3 dX11_hand_20 (k := ?_)
      obtain ⟨q5, hq, H2⟩ := bd_e H1
      clear H1
      refine ev_callS (mc := 0) (ms := 0) (st := [.inr (.inr (some (4, a4)))]) (C11_asHeard hq) md_X11_asHeard ss_X11_asHeard ml_X11_567 dX11_hand_21 _ (by decide) (K := ?_)
      obtain ⟨h6, eh6, H3⟩ := lt_e H2
      clear H2
      refine ev_putI j_ok1 fl_X11_243 eh6 dX11_hand_24 (K := ?_)
      refine ev_lv [2, 3] [(2, .inr (.inr (Option.map (Prod.mk 8) (l2)))), (3, .inl (l3))] (k := ?_)
      exact E11_hand_27 l2 l3 h6 _ H3
-- X11_carryBetweenSides
abbrev T11_carryBetweenSides : JT := (RX11, cX11_carryBetweenSides, 4, none, false)
set_option maxRecDepth 100000 in
set_option maxHeartbeats 4000000 in
theorem E11_carryBetweenSides_63 (l0 : Option Int) (s0 : Int) (h : JM) (res : JM) (H : F11_carryBetweenSides_63 l0 s0 h = some res) : Ev j_W1 4 0 0 T11_carryBetweenSides 63 [(0, .inr (.inr (Option.map (Prod.mk 0) (l0))))] [.inl (s0)] h none res := by
  unfold F11_carryBetweenSides_63 at H
  refine ev_istore_n [(3, .inl (s0)), (0, .inr (.inr (Option.map (Prod.mk 0) (l0))))] dX11_carryBetweenSides_63 (k := ?_)
  refine ev_aload_n 1 dX11_carryBetweenSides_64 (k := ?_)
  refine ev_aload_n 1 dX11_carryBetweenSides_65 (k := ?_)
  obtain ⟨a1, ea1, H1⟩ := bd_e H
  clear H
  rw [ea1]
  refine ev_getR (t := 4) (x := Option.map (Prod.mk 4) (h.2.2 0 a1 1)) fl_X11_223 dX11_carryBetweenSides_66 (hx := ry_0_1 _ _) (K := ?_)
  refine ev_aload_n 1 dX11_carryBetweenSides_69 (k := ?_)
  refine ev_getR (t := 8) (x := Option.map (Prod.mk 8) (h.2.2 0 a1 2)) fl_X11_227 dX11_carryBetweenSides_70 (hx := ry_0_2 _ _) (K := ?_)
  refine ev_iload_n 0 dX11_carryBetweenSides_73 (k := ?_)
  obtain ⟨h2, hq, H2⟩ := bd_e H1
  clear H1
  refine ev_callS (mc := 0) (ms := 0) (st := []) (C11_hand hq) md_X11_hand ss_X11_hand ml_X11_564 dX11_carryBetweenSides_74 _ (by decide) (K := ?_)
  cases H2
  exact ev_return dX11_carryBetweenSides_77
set_option maxRecDepth 100000 in
set_option maxHeartbeats 4000000 in
theorem C11_carryBetweenSides {l0 : Option Int} {h : JM} {res : JM} (H : F11_carryBetweenSides l0 h = some res) : Cn j_W1 4 0 0 yX11_carryBetweenSides cX11_carryBetweenSides 4 none [.inr (.inr (Option.map (Prod.mk 0) (l0)))] h none res := by
  refine Cn.by (own := RX11) (b := false) [(0, .inr (.inr (Option.map (Prod.mk 0) (l0))))] rfl (fun z => by cases z) (by decide +kernel) (K := ?_)
  unfold F11_carryBetweenSides at H
  refine ev_aload_n 0 dX11_carryBetweenSides_0 (k := ?_)
  refine ev_aload_n 0 dX11_carryBetweenSides_1 (k := ?_)
  obtain ⟨a3, ea3, H1⟩ := bd_e H
  clear H
  rw [ea3]
  refine ev_getR (t := 4) (x := Option.map (Prod.mk 4) (h.2.2 0 a3 1)) fl_X11_223 dX11_carryBetweenSides_2 (hx := ry_0_1 _ _) (K := ?_)
  refine ev_aload_n 0 dX11_carryBetweenSides_5 (k := ?_)
  refine ev_getR (t := 8) (x := Option.map (Prod.mk 8) (h.2.2 0 a3 2)) fl_X11_227 dX11_carryBetweenSides_6 (hx := ry_0_2 _ _) (K := ?_)
  obtain ⟨q4, hq, H2⟩ := bd_e H1
  clear H1
  refine ev_callS (mc := 0) (ms := 0) (st := []) (C11_given hq) md_X11_given ss_X11_given ml_X11_557 dX11_carryBetweenSides_9 _ (by decide) (K := ?_)
  refine ev_istore_n [(1, .inl (q4.1)), (0, .inr (.inr (some (0, a3))))] dX11_carryBetweenSides_12 (k := ?_)
  refine ev_aload_n 1 dX11_carryBetweenSides_13 (k := ?_)
  refine ev_getI (x := q4.2.1 0 a3 6) fl_X11_234 dX11_carryBetweenSides_14 (K := ?_)
  refine ev_iconst dX11_carryBetweenSides_17 (k := ?_)
  refine ev_icmpeq 78 dX11_carryBetweenSides_18 (kt := fun hc => ?_) (kf := fun hc => ?_)
  · replace H2 := if_pe hc H2
    refine ev_aload_n 1 dX11_carryBetweenSides_78 (k := ?_)
    refine ev_aload_n 1 dX11_carryBetweenSides_79 (k := ?_)
    refine ev_getR (t := 4) (x := Option.map (Prod.mk 4) (q4.2.2.2 0 a3 1)) fl_X11_223 dX11_carryBetweenSides_80 (hx := ry_0_1 _ _) (K := ?_)
    refine ev_aload_n 1 dX11_carryBetweenSides_83 (k := ?_)
    refine ev_getR (t := 8) (x := Option.map (Prod.mk 8) (q4.2.2.2 0 a3 2)) fl_X11_227 dX11_carryBetweenSides_84 (hx := ry_0_2 _ _) (K := ?_)
    refine ev_aload_n 1 dX11_carryBetweenSides_87 (k := ?_)
    refine ev_aload_n 1 dX11_carryBetweenSides_88 (k := ?_)
    refine ev_getR (t := 4) (x := Option.map (Prod.mk 4) (q4.2.2.2 0 a3 3)) fl_X11_237 dX11_carryBetweenSides_89 (hx := ry_0_3 _ _) (K := ?_)
    refine ev_aload_n 1 dX11_carryBetweenSides_92 (k := ?_)
    refine ev_getR (t := 8) (x := Option.map (Prod.mk 8) (q4.2.2.2 0 a3 4)) fl_X11_240 dX11_carryBetweenSides_93 (hx := ry_0_4 _ _) (K := ?_)
    obtain ⟨q5, hq, H3⟩ := bd_e H2
    clear H2
    refine ev_callS (mc := 0) (ms := 0) (st := [.inr (.inr (Option.map (Prod.mk 8) (q4.2.2.2 0 a3 2))), .inr (.inr (Option.map (Prod.mk 4) (q4.2.2.2 0 a3 1))), .inr (.inr (some (0, a3)))]) (C11_given hq) md_X11_given ss_X11_given ml_X11_557 dX11_carryBetweenSides_96 _ (by decide) (K := ?_)
    obtain ⟨h6, hq, H4⟩ := bd_e H3
    clear H3
    refine ev_callS (mc := 0) (ms := 0) (st := []) (C11_hand hq) md_X11_hand ss_X11_hand ml_X11_564 dX11_carryBetweenSides_99 _ (by decide) (K := ?_)
    refine ev_aload_n 1 dX11_carryBetweenSides_102 (k := ?_)
    refine ev_aload_n 1 dX11_carryBetweenSides_103 (k := ?_)
    refine ev_getR (t := 4) (x := Option.map (Prod.mk 4) (h6.2.2 0 a3 3)) fl_X11_237 dX11_carryBetweenSides_104 (hx := ry_0_3 _ _) (K := ?_)
    refine ev_aload_n 1 dX11_carryBetweenSides_107 (k := ?_)
    refine ev_getR (t := 8) (x := Option.map (Prod.mk 8) (h6.2.2 0 a3 4)) fl_X11_240 dX11_carryBetweenSides_108 (hx := ry_0_4 _ _) (K := ?_)
    refine ev_iload_n 0 dX11_carryBetweenSides_111 (k := ?_)
    obtain ⟨h7, hq, H5⟩ := bd_e H4
    clear H4
    refine ev_callS (mc := 0) (ms := 0) (st := []) (C11_hand hq) md_X11_hand ss_X11_hand ml_X11_564 dX11_carryBetweenSides_112 _ (by decide) (K := ?_)
    cases H5
    exact ev_return dX11_carryBetweenSides_115
  · replace H2 := if_ne hc H2
    refine ev_aload_n 1 dX11_carryBetweenSides_21 (k := ?_)
    refine ev_getR (t := 1) (x := Option.map (Prod.mk 1) (q4.2.2.2 0 a3 0)) fl_X11_444 dX11_carryBetweenSides_22 (hx := ry_0_0 _ _) (K := ?_)
    obtain ⟨a8, ea8, H3⟩ := bd_e H2
    clear H2
    rw [ea8]
    refine ev_getR (t := 24) (x := some (24, a8)) fl_X11_554 dX11_carryBetweenSides_25 (hx := ry_1_6 _ _) (K := ?_)
    refine ev_aload_n 1 dX11_carryBetweenSides_28 (k := ?_)
    refine ev_getI (x := q4.2.1 0 a3 6) fl_X11_234 dX11_carryBetweenSides_29 (K := ?_)
    obtain ⟨⟨hi0, hi1⟩, H4⟩ := g_e H3
    clear H3
    refine ev_iaload (k := 24) hi0 hi1 dX11_carryBetweenSides_32 (hc := ac_24) (hlen := ln_24 _ _) (K := ?_)
    refine ev_iload_n 0 dX11_carryBetweenSides_33 (k := ?_)
    refine ev_isub dX11_carryBetweenSides_34 (k := ?_)
    obtain ⟨x9, ex9, H5⟩ := lt_e H4
    clear H4
    refine ev_topI ex9 ?_
    refine ev_istore_n [(2, .inl (x9)), (1, .inl (q4.1)), (0, .inr (.inr (some (0, a3))))] dX11_carryBetweenSides_35 (k := ?_)
    refine ev_iload_n 0 dX11_carryBetweenSides_36 (k := ?_)
    refine ev_sipush dX11_carryBetweenSides_37 (k := ?_)
    refine ev_icmple 49 dX11_carryBetweenSides_40 (kt := fun hc => ?_) (kf := fun hc => ?_)
    · replace H5 := if_pe hc H5
      refine ev_iload_n 0 dX11_carryBetweenSides_49 (k := ?_)
      refine ev_sipush dX11_carryBetweenSides_50 (k := ?_)
      refine ev_icmpge 62 dX11_carryBetweenSides_53 (kt := fun hc => ?_) (kf := fun hc => ?_)
      · replace H5 := if_pe hc H5
        refine ev_iload_n 0 dX11_carryBetweenSides_62 (k := ?_)
        refine ev_lv [2] [(0, .inr (.inr (some (0, a3))))] (k := ?_)
        exact E11_carryBetweenSides_63 (some a3) x9 q4.2 _ H5
      · replace H5 := if_ne hc H5
        refine ev_sipush dX11_carryBetweenSides_56 (k := ?_)
        refine ev_goto 63 dX11_carryBetweenSides_59 (k := ?_)
        refine ev_lv [2] [(0, .inr (.inr (some (0, a3))))] (k := ?_)
        exact E11_carryBetweenSides_63 (some a3) (-8000) q4.2 _ H5
    · replace H5 := if_ne hc H5
      refine ev_sipush dX11_carryBetweenSides_43 (k := ?_)
      refine ev_goto 63 dX11_carryBetweenSides_46 (k := ?_)
      refine ev_lv [2] [(0, .inr (.inr (some (0, a3))))] (k := ?_)
      exact E11_carryBetweenSides_63 (some a3) 8000 q4.2 _ H5
-- X11_carrySpeech
abbrev T11_carrySpeech : JT := (RX11, cX11_carrySpeech, 3, none, false)
set_option maxRecDepth 100000 in
set_option maxHeartbeats 4000000 in
theorem E11_carrySpeech_144 (k114 : Int → JM → Option JM) (hk114 : ∀ (l1 : Int) (h : JM) (res : JM), k114 l1 h = some res → Ev j_W1 5 0 0 T11_carrySpeech 114 [(0, .inr (.inr (some (11, 0)))), (1, .inl (l1))] [] h none res) (l1 : Int) (h : JM) (res : JM) (H : F11_carrySpeech_144 k114 l1 h = some res) : Ev j_W1 5 0 0 T11_carrySpeech 144 [(0, .inr (.inr (some (11, 0)))), (1, .inl (l1))] [] h none res := by
  unfold F11_carrySpeech_144 at H
  refine ev_iinc 1 [(1, .inl (w32 (l1 + 1))), (0, .inr (.inr (some (11, 0))))] dX11_carrySpeech_144 (k := ?_)
  refine ev_goto 114 dX11_carrySpeech_147 (k := ?_)
  refine ev_lv [1, 0] [(0, .inr (.inr (some (11, 0)))), (1, .inl (w32 (l1 + 1)))] (k := ?_)
  exact hk114 (w32 (l1 + 1)) h _ H
set_option maxRecDepth 100000 in
set_option maxHeartbeats 4000000 in
theorem E11_carrySpeech_114b (k114 : Int → JM → Option JM) (hk114 : ∀ (l1 : Int) (h : JM) (res : JM), k114 l1 h = some res → Ev j_W1 5 0 0 T11_carrySpeech 114 [(0, .inr (.inr (some (11, 0)))), (1, .inl (l1))] [] h none res) (l1 : Int) (h : JM) (res : JM) (H : F11_carrySpeech_114b k114 l1 h = some res) : Ev j_W1 5 0 0 T11_carrySpeech 114 [(0, .inr (.inr (some (11, 0)))), (1, .inl (l1))] [] h none res := by
  unfold F11_carrySpeech_114b at H
  refine ev_iload_n 1 dX11_carrySpeech_114 (k := ?_)
  refine ev_aload_n 0 dX11_carrySpeech_115 (k := ?_)
  refine ev_getI (x := h.1 11 0 11) fl_X11_452 dX11_carrySpeech_116 (K := ?_)
  refine ev_icmpge 150 dX11_carrySpeech_119 (kt := fun hc => ?_) (kf := fun hc => ?_)
  · replace H := if_pe hc H
    cases H
    exact ev_return dX11_carrySpeech_150
  · replace H := if_ne hc H
    refine ev_aload_n 0 dX11_carrySpeech_122 (k := ?_)
    refine ev_getR (t := 40) (x := some (40, 0)) fl_X11_23 dX11_carrySpeech_123 (hx := ry_11_4 _ _) (K := ?_)
    refine ev_iload_n 1 dX11_carrySpeech_126 (k := ?_)
    obtain ⟨⟨hi0, hi1⟩, H1⟩ := g_e H
    clear H
    refine ev_aaload (k := 40) 0 (x := Option.map (Prod.mk 0) (h.2.2 40 0 l1)) hi0 hi1 dX11_carrySpeech_127 (hc := ac_40) (hlen := ln_40 _ _) (hx := rz_40 _ _ _) (K := ?_)
    obtain ⟨a1, ea1, H2⟩ := bd_e H1
    clear H1
    rw [ea1]
    refine ev_getI (x := h.1 0 a1 9) fl_X11_210 dX11_carrySpeech_128 (K := ?_)
    refine ev_iconst dX11_carrySpeech_131 (k := ?_)
    refine ev_icmpne 144 dX11_carrySpeech_132 (kt := fun hc => ?_) (kf := fun hc => ?_)
    · replace H2 := if_ne hc H2
      exact E11_carrySpeech_144 k114 hk114 l1 h _ H2
    · replace H2 := if_pe hc H2
      refine ev_aload_n 0 dX11_carrySpeech_135 (k := ?_)
      refine ev_getR (t := 40) (x := some (40, 0)) fl_X11_23 dX11_carrySpeech_136 (hx := ry_11_4 _ _) (K := ?_)
      refine ev_iload_n 1 dX11_carrySpeech_139 (k := ?_)
      obtain ⟨⟨hi0, hi1⟩, H3⟩ := g_e H2
      clear H2
      refine ev_aaload (k := 40) 0 (x := Option.map (Prod.mk 0) (h.2.2 40 0 l1)) hi0 hi1 dX11_carrySpeech_140 (hc := ac_40) (hlen := ln_40 _ _) (hx := rz_40 _ _ _) (K := ?_)
      obtain ⟨h2, hq, H4⟩ := bd_e H3
      clear H3
      refine ev_callS (mc := 0) (ms := 0) (st := []) (C11_carryBetweenSides hq) md_X11_carryBetweenSides ss_X11_carryBetweenSides ml_X11_561 dX11_carrySpeech_141 _ (by decide) (K := ?_)
      exact E11_carrySpeech_144 k114 hk114 l1 h2 _ H4
theorem E11_carrySpeech_114 (n : Nat) : ∀ (l1 : Int) (h : JM) (res : JM), F11_carrySpeech_114 n l1 h = some res → Ev j_W1 5 0 0 T11_carrySpeech 114 [(0, .inr (.inr (some (11, 0)))), (1, .inl (l1))] [] h none res := by
  induction n with
  | zero =>
    intro l1 h res H
    cases H
  | succ n ih =>
    intro l1 h res H
    exact E11_carrySpeech_114b (F11_carrySpeech_114 n) ih l1 h res H
set_option maxRecDepth 100000 in
set_option maxHeartbeats 4000000 in
theorem E11_carrySpeech_106 (k48 : Int → JM → Option JM) (hk48 : ∀ (l1 : Int) (h : JM) (res : JM), k48 l1 h = some res → Ev j_W1 5 0 0 T11_carrySpeech 48 [(0, .inr (.inr (some (11, 0)))), (1, .inl (l1))] [] h none res) (l1 : Int) (h : JM) (res : JM) (H : F11_carrySpeech_106 k48 l1 h = some res) : Ev j_W1 5 0 0 T11_carrySpeech 106 [(0, .inr (.inr (some (11, 0)))), (1, .inl (l1))] [] h none res := by
  unfold F11_carrySpeech_106 at H
  refine ev_iinc 1 [(1, .inl (w32 (l1 + 1))), (0, .inr (.inr (some (11, 0))))] dX11_carrySpeech_106 (k := ?_)
  refine ev_goto 48 dX11_carrySpeech_109 (k := ?_)
  refine ev_lv [1, 0] [(0, .inr (.inr (some (11, 0)))), (1, .inl (w32 (l1 + 1)))] (k := ?_)
  exact hk48 (w32 (l1 + 1)) h _ H
set_option maxRecDepth 100000 in
set_option maxHeartbeats 4000000 in
theorem E11_carrySpeech_48b (k48 : Int → JM → Option JM) (hk48 : ∀ (l1 : Int) (h : JM) (res : JM), k48 l1 h = some res → Ev j_W1 5 0 0 T11_carrySpeech 48 [(0, .inr (.inr (some (11, 0)))), (1, .inl (l1))] [] h none res) (l1 : Int) (h : JM) (res : JM) (H : F11_carrySpeech_48b k48 l1 h = some res) : Ev j_W1 5 0 0 T11_carrySpeech 48 [(0, .inr (.inr (some (11, 0)))), (1, .inl (l1))] [] h none res := by
  unfold F11_carrySpeech_48b at H
  refine ev_iload_n 1 dX11_carrySpeech_48 (k := ?_)
  refine ev_aload_n 0 dX11_carrySpeech_49 (k := ?_)
  refine ev_getI (x := h.1 11 0 11) fl_X11_452 dX11_carrySpeech_50 (K := ?_)
  refine ev_icmpge 112 dX11_carrySpeech_53 (kt := fun hc => ?_) (kf := fun hc => ?_)
  · replace H := if_pe hc H
    refine ev_iconst dX11_carrySpeech_112 (k := ?_)
    refine ev_istore_n [(1, .inl (0)), (0, .inr (.inr (some (11, 0))))] dX11_carrySpeech_113 (k := ?_)
    refine ev_lv [1, 0] [(0, .inr (.inr (some (11, 0)))), (1, .inl (0))] (k := ?_)
    exact E11_carrySpeech_114 j_fu 0 h _ H
  · replace H := if_ne hc H
    refine ev_aload_n 0 dX11_carrySpeech_56 (k := ?_)
    refine ev_getR (t := 40) (x := some (40, 0)) fl_X11_23 dX11_carrySpeech_57 (hx := ry_11_4 _ _) (K := ?_)
    refine ev_iload_n 1 dX11_carrySpeech_60 (k := ?_)
    obtain ⟨⟨hi0, hi1⟩, H1⟩ := g_e H
    clear H
    refine ev_aaload (k := 40) 0 (x := Option.map (Prod.mk 0) (h.2.2 40 0 l1)) hi0 hi1 dX11_carrySpeech_61 (hc := ac_40) (hlen := ln_40 _ _) (hx := rz_40 _ _ _) (K := ?_)
    refine ev_astore_n [(2, .inr (.inr (Option.map (Prod.mk 0) (h.2.2 40 0 l1)))), (0, .inr (.inr (some (11, 0)))), (1, .inl (l1))] dX11_carrySpeech_62 (k := ?_)
    refine ev_aload_n 0 dX11_carrySpeech_63 (k := ?_)
    obtain ⟨a3, ea3, H2⟩ := bd_e H1
    clear H1
    rw [ea3]
    refine ev_getI (x := h.1 0 a3 9) fl_X11_210 dX11_carrySpeech_64 (K := ?_)
    refine ev_iconst dX11_carrySpeech_67 (k := ?_)
    refine ev_icmpne 106 dX11_carrySpeech_68 (kt := fun hc => ?_) (kf := fun hc => ?_)
    · replace H2 := if_ne hc H2
      refine ev_lv [1, 2] [(0, .inr (.inr (some (11, 0)))), (1, .inl (l1))] (k := ?_)
      exact E11_carrySpeech_106 k48 hk48 l1 h _ H2
    · replace H2 := if_pe hc H2
      refine ev_aload_n 0 dX11_carrySpeech_71 (k := ?_)
      refine ev_getI (x := h.1 0 a3 6) fl_X11_234 dX11_carrySpeech_72 (K := ?_)
      refine ev_iconst dX11_carrySpeech_75 (k := ?_)
      refine ev_icmpeq 106 dX11_carrySpeech_76 (kt := fun hc => ?_) (kf := fun hc => ?_)
      · replace H2 := if_pe hc H2
        refine ev_lv [1, 2] [(0, .inr (.inr (some (11, 0)))), (1, .inl (l1))] (k := ?_)
        exact E11_carrySpeech_106 k48 hk48 l1 h _ H2
      · replace H2 := if_ne hc H2
        refine ev_aload_n 0 dX11_carrySpeech_79 (k := ?_)
        refine ev_getR (t := 1) (x := Option.map (Prod.mk 1) (h.2.2 0 a3 0)) fl_X11_444 dX11_carrySpeech_80 (hx := ry_0_0 _ _) (K := ?_)
        obtain ⟨a4, ea4, H3⟩ := bd_e H2
        clear H2
        rw [ea4]
        refine ev_getR (t := 24) (x := some (24, a4)) fl_X11_554 dX11_carrySpeech_83 (hx := ry_1_6 _ _) (K := ?_)
        refine ev_aload_n 0 dX11_carrySpeech_86 (k := ?_)
        refine ev_getI (x := h.1 0 a3 6) fl_X11_234 dX11_carrySpeech_87 (K := ?_)
        refine ev_dup2 dX11_carrySpeech_90 (k := ?_)
        obtain ⟨⟨hi0, hi1⟩, H4⟩ := g_e H3
        clear H3
        refine ev_iaload (k := 24) hi0 hi1 dX11_carrySpeech_91 (hc := ac_24) (hlen := ln_24 _ _) (K := ?_)
        refine ev_aload_n 0 dX11_carrySpeech_92 (k := ?_)
        refine ev_aload_n 0 dX11_carrySpeech_93 (k := ?_)
        refine ev_getR (t := 4) (x := Option.map (Prod.mk 4) (h.2.2 0 a3 1)) fl_X11_223 dX11_carrySpeech_94 (hx := ry_0_1 _ _) (K := ?_)
        refine ev_aload_n 0 dX11_carrySpeech_97 (k := ?_)
        refine ev_getR (t := 8) (x := Option.map (Prod.mk 8) (h.2.2 0 a3 2)) fl_X11_227 dX11_carrySpeech_98 (hx := ry_0_2 _ _) (K := ?_)
        obtain ⟨q5, hq, H5⟩ := bd_e H4
        clear H4
        refine ev_callS (mc := 0) (ms := 0) (st := [.inl (h.1 24 a4 (h.1 0 a3 6)), .inl (h.1 0 a3 6), .inr (.inr (some (24, a4)))]) (C11_given hq) md_X11_given ss_X11_given ml_X11_557 dX11_carrySpeech_101 _ (by decide) (K := ?_)
        refine ev_iadd dX11_carrySpeech_104 (k := ?_)
        obtain ⟨⟨hi0, hi1⟩, H6⟩ := g_e H5
        clear H5
        obtain ⟨h6, eh6, H7⟩ := lt_e H6
        clear H6
        refine ev_iastore (k := 24) j_ok1 hi0 hi1 eh6 dX11_carrySpeech_105 (hc := ac_24) (hlen := ln_24 _ _) (K := ?_)
        refine ev_lv [1, 2] [(0, .inr (.inr (some (11, 0)))), (1, .inl (l1))] (k := ?_)
        exact E11_carrySpeech_106 k48 hk48 l1 h6 _ H7
theorem E11_carrySpeech_48 (n : Nat) : ∀ (l1 : Int) (h : JM) (res : JM), F11_carrySpeech_48 n l1 h = some res → Ev j_W1 5 0 0 T11_carrySpeech 48 [(0, .inr (.inr (some (11, 0)))), (1, .inl (l1))] [] h none res := by
  induction n with
  | zero =>
    intro l1 h res H
    cases H
  | succ n ih =>
    intro l1 h res H
    exact E11_carrySpeech_48b (F11_carrySpeech_48 n) ih l1 h res H
set_option maxRecDepth 100000 in
set_option maxHeartbeats 4000000 in
theorem E11_carrySpeech_26b (k26 : Int → JM → Option JM) (hk26 : ∀ (l1 : Int) (h : JM) (res : JM), k26 l1 h = some res → Ev j_W1 5 0 0 T11_carrySpeech 26 [(0, .inr (.inr (some (11, 0)))), (1, .inl (l1))] [] h none res) (l1 : Int) (h : JM) (res : JM) (H : F11_carrySpeech_26b k26 l1 h = some res) : Ev j_W1 5 0 0 T11_carrySpeech 26 [(0, .inr (.inr (some (11, 0)))), (1, .inl (l1))] [] h none res := by
  unfold F11_carrySpeech_26b at H
  refine ev_iload_n 1 dX11_carrySpeech_26 (k := ?_)
  refine ev_iconst dX11_carrySpeech_27 (k := ?_)
  refine ev_icmpge 46 dX11_carrySpeech_28 (kt := fun hc => ?_) (kf := fun hc => ?_)
  · replace H := if_pe hc H
    refine ev_iconst dX11_carrySpeech_46 (k := ?_)
    refine ev_istore_n [(1, .inl (0)), (0, .inr (.inr (some (11, 0))))] dX11_carrySpeech_47 (k := ?_)
    refine ev_lv [1, 0] [(0, .inr (.inr (some (11, 0)))), (1, .inl (0))] (k := ?_)
    exact E11_carrySpeech_48 j_fu 0 h _ H
  · replace H := if_ne hc H
    refine ev_aload_n 0 dX11_carrySpeech_31 (k := ?_)
    refine ev_getR (t := 38) (x := some (38, 0)) fl_X11_11 dX11_carrySpeech_32 (hx := ry_11_2 _ _) (K := ?_)
    refine ev_iload_n 1 dX11_carrySpeech_35 (k := ?_)
    obtain ⟨⟨hi0, hi1⟩, H1⟩ := g_e H
    clear H
    refine ev_aaload (k := 38) 1 (x := some (1, l1)) hi0 hi1 dX11_carrySpeech_36 (hc := ac_38) (hlen := ln_38 _ _) (hx := rz_38 _ _ _) (K := ?_)
    obtain ⟨h7, hq, H2⟩ := bd_e H1
    clear H1
    refine ev_callV (mc := 0) (ms := 0) (st := []) (C1_hush hq) md_X1_hush im_X1_hush se_X1_hush ml_X11_551 dX11_carrySpeech_37 _ (by decide) (K := ?_)
    refine ev_iinc 1 [(1, .inl (w32 (l1 + 1))), (0, .inr (.inr (some (11, 0))))] dX11_carrySpeech_40 (k := ?_)
    refine ev_goto 26 dX11_carrySpeech_43 (k := ?_)
    refine ev_lv [1, 0] [(0, .inr (.inr (some (11, 0)))), (1, .inl (w32 (l1 + 1)))] (k := ?_)
    exact hk26 (w32 (l1 + 1)) h7 _ H2
theorem E11_carrySpeech_26 (n : Nat) : ∀ (l1 : Int) (h : JM) (res : JM), F11_carrySpeech_26 n l1 h = some res → Ev j_W1 5 0 0 T11_carrySpeech 26 [(0, .inr (.inr (some (11, 0)))), (1, .inl (l1))] [] h none res := by
  induction n with
  | zero =>
    intro l1 h res H
    cases H
  | succ n ih =>
    intro l1 h res H
    exact E11_carrySpeech_26b (F11_carrySpeech_26 n) ih l1 h res H
set_option maxRecDepth 100000 in
set_option maxHeartbeats 4000000 in
theorem E11_carrySpeech_2b (k2 : Int → JM → Option JM) (hk2 : ∀ (l1 : Int) (h : JM) (res : JM), k2 l1 h = some res → Ev j_W1 5 0 0 T11_carrySpeech 2 [(0, .inr (.inr (some (11, 0)))), (1, .inl (l1))] [] h none res) (l1 : Int) (h : JM) (res : JM) (H : F11_carrySpeech_2b k2 l1 h = some res) : Ev j_W1 5 0 0 T11_carrySpeech 2 [(0, .inr (.inr (some (11, 0)))), (1, .inl (l1))] [] h none res := by
  unfold F11_carrySpeech_2b at H
  refine ev_iload_n 1 dX11_carrySpeech_2 (k := ?_)
  refine ev_bipush dX11_carrySpeech_3 (k := ?_)
  refine ev_icmpge 24 dX11_carrySpeech_5 (kt := fun hc => ?_) (kf := fun hc => ?_)
  · replace H := if_pe hc H
    refine ev_iconst dX11_carrySpeech_24 (k := ?_)
    refine ev_istore_n [(1, .inl (0)), (0, .inr (.inr (some (11, 0))))] dX11_carrySpeech_25 (k := ?_)
    refine ev_lv [1, 0] [(0, .inr (.inr (some (11, 0)))), (1, .inl (0))] (k := ?_)
    exact E11_carrySpeech_26 j_fu 0 h _ H
  · replace H := if_ne hc H
    refine ev_aload_n 0 dX11_carrySpeech_8 (k := ?_)
    refine ev_getR (t := 39) (x := some (39, 0)) fl_X11_17 dX11_carrySpeech_9 (hx := ry_11_3 _ _) (K := ?_)
    refine ev_iload_n 1 dX11_carrySpeech_12 (k := ?_)
    obtain ⟨⟨hi0, hi1⟩, H1⟩ := g_e H
    clear H
    refine ev_aaload (k := 39) 4 (x := some (4, l1)) hi0 hi1 dX11_carrySpeech_13 (hc := ac_39) (hlen := ln_39 _ _) (hx := rz_39 _ _ _) (K := ?_)
    refine ev_iconst dX11_carrySpeech_14 (k := ?_)
    obtain ⟨h8, eh8, H2⟩ := lt_e H1
    clear H1
    refine ev_putI j_ok1 fl_X11_243 eh8 dX11_carrySpeech_15 (K := ?_)
    refine ev_iinc 1 [(1, .inl (w32 (l1 + 1))), (0, .inr (.inr (some (11, 0))))] dX11_carrySpeech_18 (k := ?_)
    refine ev_goto 2 dX11_carrySpeech_21 (k := ?_)
    refine ev_lv [1, 0] [(0, .inr (.inr (some (11, 0)))), (1, .inl (w32 (l1 + 1)))] (k := ?_)
    exact hk2 (w32 (l1 + 1)) h8 _ H2
theorem E11_carrySpeech_2 (n : Nat) : ∀ (l1 : Int) (h : JM) (res : JM), F11_carrySpeech_2 n l1 h = some res → Ev j_W1 5 0 0 T11_carrySpeech 2 [(0, .inr (.inr (some (11, 0)))), (1, .inl (l1))] [] h none res := by
  induction n with
  | zero =>
    intro l1 h res H
    cases H
  | succ n ih =>
    intro l1 h res H
    exact E11_carrySpeech_2b (F11_carrySpeech_2 n) ih l1 h res H
set_option maxRecDepth 100000 in
set_option maxHeartbeats 4000000 in
theorem C11_carrySpeech {h : JM} {res : JM} (H : F11_carrySpeech h = some res) : Cn j_W1 5 0 0 yX11_carrySpeech cX11_carrySpeech 3 none [.inr (.inr (some (11, 0)))] h none res := by
  refine Cn.by (own := RX11) (b := false) [(0, .inr (.inr (some (11, 0))))] rfl (fun z => by cases z) (by decide +kernel) (K := ?_)
  unfold F11_carrySpeech at H
  refine ev_iconst dX11_carrySpeech_0 (k := ?_)
  refine ev_istore_n [(1, .inl (0)), (0, .inr (.inr (some (11, 0))))] dX11_carrySpeech_1 (k := ?_)
  refine ev_lv [1, 0] [(0, .inr (.inr (some (11, 0)))), (1, .inl (0))] (k := ?_)
  exact E11_carrySpeech_2 j_fu 0 h _ H
-- X11_causeByTime
abbrev T11_causeByTime : JT := (RX11, cX11_causeByTime, 3, some .int, false)
set_option maxRecDepth 100000 in
set_option maxHeartbeats 4000000 in
theorem E11_causeByTime_108 (h : JM) (res : (Int × JM)) (H : F11_causeByTime_108 h = some res) : Ev j_W1 2 0 0 T11_causeByTime 108 [] [] h (some (.inl res.1)) res.2 := by
  unfold F11_causeByTime_108 at H
  refine ev_iconst dX11_causeByTime_108 (k := ?_)
  refine ev_goto 113 dX11_causeByTime_109 (k := ?_)
  cases H
  exact ev_ireturn dX11_causeByTime_113
set_option maxRecDepth 100000 in
set_option maxHeartbeats 4000000 in
theorem C11_causeByTime {l1 : Option Int} {l2 : Int} {h : JM} {res : (Int × JM)} (H : F11_causeByTime l1 l2 h = some res) : Cn j_W1 2 0 0 yX11_causeByTime cX11_causeByTime 3 (some .int) [.inr (.inr (some (11, 0))), .inr (.inr (Option.map (Prod.mk 0) (l1))), .inl (l2)] h (some (.inl res.1)) res.2 := by
  refine Cn.by (own := RX11) (b := false) [(0, .inr (.inr (some (11, 0)))), (1, .inr (.inr (Option.map (Prod.mk 0) (l1)))), (2, .inl (l2))] rfl (fun z => by cases z) (by decide +kernel) (K := ?_)
  unfold F11_causeByTime at H
  refine ev_aload_n 1 dX11_causeByTime_0 (k := ?_)
  obtain ⟨a1, ea1, H1⟩ := bd_e H
  clear H
  rw [ea1]
  refine ev_getI (x := h.1 0 a1 9) fl_X11_210 dX11_causeByTime_1 (K := ?_)
  by_cases hs0 : h.1 0 a1 9 = 0
  · replace H1 := if_pe hs0 H1
    refine ev_tableIn (off := 36) 40 dX11_causeByTime_4 (by omega) (by omega) (by rw [hs0]; rfl) (k := ?_)
    refine ev_iload_n 2 dX11_causeByTime_40 (k := ?_)
    refine ev_sipush dX11_causeByTime_41 (k := ?_)
    refine ev_icmpne 51 dX11_causeByTime_44 (kt := fun hc => ?_) (kf := fun hc => ?_)
    · replace H1 := if_ne hc H1
      refine ev_iconst dX11_causeByTime_51 (k := ?_)
      cases H1
      exact ev_ireturn dX11_causeByTime_52
    · replace H1 := if_pe hc H1
      refine ev_iconst dX11_causeByTime_47 (k := ?_)
      refine ev_goto 52 dX11_causeByTime_48 (k := ?_)
      cases H1
      exact ev_ireturn dX11_causeByTime_52
  · replace H1 := if_ne hs0 H1
    by_cases hs1 : h.1 0 a1 9 = 1
    · replace H1 := if_pe hs1 H1
      refine ev_tableIn (off := 49) 53 dX11_causeByTime_4 (by omega) (by omega) (by rw [hs1]; rfl) (k := ?_)
      refine ev_iload_n 2 dX11_causeByTime_53 (k := ?_)
      refine ev_sipush dX11_causeByTime_54 (k := ?_)
      refine ev_icmpne 65 dX11_causeByTime_57 (kt := fun hc => ?_) (kf := fun hc => ?_)
      · replace H1 := if_ne hc H1
        refine ev_iconst dX11_causeByTime_65 (k := ?_)
        cases H1
        exact ev_ireturn dX11_causeByTime_66
      · replace H1 := if_pe hc H1
        refine ev_bipush dX11_causeByTime_60 (k := ?_)
        refine ev_goto 66 dX11_causeByTime_62 (k := ?_)
        cases H1
        exact ev_ireturn dX11_causeByTime_66
    · replace H1 := if_ne hs1 H1
      by_cases hs2 : h.1 0 a1 9 = 3
      · replace H1 := if_pe hs2 H1
        refine ev_tableIn (off := 76) 80 dX11_causeByTime_4 (by omega) (by omega) (by rw [hs2]; rfl) (k := ?_)
        refine ev_aload_n 0 dX11_causeByTime_80 (k := ?_)
        refine ev_getR (t := 3) (x := some (3, 0)) fl_X11_30 dX11_causeByTime_81 (hx := ry_11_5 _ _) (K := ?_)
        refine ev_aload_n 1 dX11_causeByTime_84 (k := ?_)
        refine ev_iload_n 2 dX11_causeByTime_85 (k := ?_)
        obtain ⟨q2, hq, H2⟩ := bd_e H1
        clear H1
        refine ev_callV (mc := 0) (ms := 0) (st := []) (C3_isStep hq) md_X3_isStep im_X3_isStep se_X3_isStep ml_X11_540 dX11_causeByTime_86 _ (by decide) (K := ?_)
        refine ev_ifeq 108 dX11_causeByTime_89 (kt := fun hc => ?_) (kf := fun hc => ?_)
        · replace H2 := if_pe hc H2
          refine ev_lv [] [] (k := ?_)
          exact E11_causeByTime_108 q2.2 _ H2
        · replace H2 := if_ne hc H2
          refine ev_aload_n 0 dX11_causeByTime_92 (k := ?_)
          refine ev_getR (t := 3) (x := some (3, 0)) fl_X11_30 dX11_causeByTime_93 (hx := ry_11_5 _ _) (K := ?_)
          refine ev_aload_n 1 dX11_causeByTime_96 (k := ?_)
          refine ev_iconst dX11_causeByTime_97 (k := ?_)
          refine ev_aload_n 0 dX11_causeByTime_98 (k := ?_)
          refine ev_getI (x := q2.2.1 11 0 10) fl_X11_177 dX11_causeByTime_99 (K := ?_)
          obtain ⟨q3, hq, H3⟩ := bd_e H2
          clear H2
          refine ev_callV (mc := 0) (ms := 0) (st := []) (C3_charge hq) md_X3_charge im_X3_charge se_X3_charge ml_X11_520 dX11_causeByTime_102 _ (by decide) (K := ?_)
          refine ev_ifeq 112 dX11_causeByTime_105 (kt := fun hc => ?_) (kf := fun hc => ?_)
          · replace H3 := if_pe hc H3
            refine ev_iconst dX11_causeByTime_112 (k := ?_)
            cases H3
            exact ev_ireturn dX11_causeByTime_113
          · replace H3 := if_ne hc H3
            refine ev_lv [] [] (k := ?_)
            exact E11_causeByTime_108 q3.2 _ H3
      · replace H1 := if_ne hs2 H1
        by_cases hs3 : h.1 0 a1 9 = 4
        · replace H1 := if_pe hs3 H1
          refine ev_tableIn (off := 63) 67 dX11_causeByTime_4 (by omega) (by omega) (by rw [hs3]; rfl) (k := ?_)
          refine ev_iload_n 2 dX11_causeByTime_67 (k := ?_)
          refine ev_sipush dX11_causeByTime_68 (k := ?_)
          refine ev_icmpne 78 dX11_causeByTime_71 (kt := fun hc => ?_) (kf := fun hc => ?_)
          · replace H1 := if_ne hc H1
            refine ev_iconst dX11_causeByTime_78 (k := ?_)
            cases H1
            exact ev_ireturn dX11_causeByTime_79
          · replace H1 := if_pe hc H1
            refine ev_iconst dX11_causeByTime_74 (k := ?_)
            refine ev_goto 79 dX11_causeByTime_75 (k := ?_)
            cases H1
            exact ev_ireturn dX11_causeByTime_79
        · replace H1 := if_ne hs3 H1
          rcases (show (h.1 0 a1 9 < 0 ∨ 4 < h.1 0 a1 9) ∨ (h.1 0 a1 9 = 2) by omega) with hz | hz
          · refine ev_tableOut 114 dX11_causeByTime_4 hz (k := ?_)
            refine ev_iconst dX11_causeByTime_114 (k := ?_)
            cases H1
            exact ev_ireturn dX11_causeByTime_115
          · refine ev_tableIn (off := 110) 114 dX11_causeByTime_4 (by omega) (by omega) (by rw [hz]; rfl) (k := ?_)
            refine ev_iconst dX11_causeByTime_114 (k := ?_)
            cases H1
            exact ev_ireturn dX11_causeByTime_115
-- X11_ringNoMore
abbrev T11_ringNoMore : JT := (RX11, cX11_ringNoMore, 3, none, false)
set_option maxRecDepth 100000 in
set_option maxHeartbeats 4000000 in
theorem E11_ringNoMore_21 (l1 : Option Int) (l2 : Option Int) (h : JM) (res : JM) (H : F11_ringNoMore_21 l1 l2 h = some res) : Ev j_W1 1 0 0 T11_ringNoMore 21 [(1, .inr (.inr (Option.map (Prod.mk 0) (l1)))), (2, .inr (.inr (Option.map (Prod.mk 4) (l2))))] [] h none res := by
  unfold F11_ringNoMore_21 at H
  refine ev_aload_n 1 dX11_ringNoMore_21 (k := ?_)
  obtain ⟨a1, ea1, H1⟩ := bd_e H
  clear H
  rw [ea1]
  refine ev_getR (t := 0) (x := Option.map (Prod.mk 0) (h.2.2 4 a1 12)) fl_X11_213 dX11_ringNoMore_22 (hx := ry_4_12 _ _) (K := ?_)
  refine ev_aload_n 0 dX11_ringNoMore_25 (k := ?_)
  refine ev_acmpneK (h.2.2 4 a1 12) l1 34 dX11_ringNoMore_26 (kt := fun hc => ?_) (kf := fun hc => ?_)
  · replace H1 := if_ne hc H1
    cases H1
    exact ev_return dX11_ringNoMore_34
  · replace H1 := if_pe hc H1
    refine ev_aload_n 1 dX11_ringNoMore_29 (k := ?_)
    refine ev_null dX11_ringNoMore_30 (k := ?_)
    obtain ⟨h2, eh2, H2⟩ := lt_e H1
    clear H1
    refine ev_putR (t := 0) j_ok1 none fl_X11_213 eh2 (hdg := dX11_ringNoMore_31) (hly := rl_4_12 _) (K := ?_)
    cases H2
    exact ev_return dX11_ringNoMore_34
set_option maxRecDepth 100000 in
set_option maxHeartbeats 4000000 in
theorem C11_ringNoMore {l1 : Option Int} {l2 : Option Int} {h : JM} {res : JM} (H : F11_ringNoMore l1 l2 h = some res) : Cn j_W1 1 0 0 yX11_ringNoMore cX11_ringNoMore 3 none [.inr (.inr (some (11, 0))), .inr (.inr (Option.map (Prod.mk 0) (l1))), .inr (.inr (Option.map (Prod.mk 4) (l2)))] h none res := by
  refine Cn.by (own := RX11) (b := false) [(0, .inr (.inr (some (11, 0)))), (1, .inr (.inr (Option.map (Prod.mk 0) (l1)))), (2, .inr (.inr (Option.map (Prod.mk 4) (l2))))] rfl (fun z => by cases z) (by decide +kernel) (K := ?_)
  unfold F11_ringNoMore at H
  refine ev_aload_n 2 dX11_ringNoMore_0 (k := ?_)
  obtain ⟨a3, ea3, H1⟩ := bd_e H
  clear H
  rw [ea3]
  refine ev_getR (t := 0) (x := Option.map (Prod.mk 0) (h.2.2 4 a3 13)) fl_X11_432 dX11_ringNoMore_1 (hx := ry_4_13 _ _) (K := ?_)
  refine ev_aload_n 1 dX11_ringNoMore_4 (k := ?_)
  refine ev_acmpneK (h.2.2 4 a3 13) l1 21 dX11_ringNoMore_5 (kt := fun hc => ?_) (kf := fun hc => ?_)
  · replace H1 := if_ne hc H1
    refine ev_lv [1, 2] [(1, .inr (.inr (Option.map (Prod.mk 0) (l1)))), (2, .inr (.inr (some (4, a3))))] (k := ?_)
    exact E11_ringNoMore_21 l1 (some a3) h _ H1
  · replace H1 := if_pe hc H1
    refine ev_aload_n 2 dX11_ringNoMore_8 (k := ?_)
    refine ev_null dX11_ringNoMore_9 (k := ?_)
    obtain ⟨h4, eh4, H2⟩ := lt_e H1
    clear H1
    refine ev_putR (t := 0) j_ok1 none fl_X11_432 eh4 (hdg := dX11_ringNoMore_10) (hly := rl_4_13 _) (K := ?_)
    refine ev_aload_n 2 dX11_ringNoMore_13 (k := ?_)
    refine ev_aload_n 0 dX11_ringNoMore_14 (k := ?_)
    refine ev_getI (x := h4.1 11 0 10) fl_X11_177 dX11_ringNoMore_15 (K := ?_)
    obtain ⟨h5, eh5, H3⟩ := lt_e H2
    clear H2
    refine ev_putI j_ok1 fl_X11_438 eh5 dX11_ringNoMore_18 (K := ?_)
    refine ev_lv [1, 2] [(1, .inr (.inr (Option.map (Prod.mk 0) (l1)))), (2, .inr (.inr (some (4, a3))))] (k := ?_)
    exact E11_ringNoMore_21 l1 (some a3) h5 _ H3
