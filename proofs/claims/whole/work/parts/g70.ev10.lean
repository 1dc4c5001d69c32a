-- X11_isLine
abbrev T11_isLine : JT := (RX11, cX11_isLine, 1, some .boolean, false)
set_option maxRecDepth 100000 in
set_option maxHeartbeats 4000000 in
theorem E11_isLine_14 (h : JM) (res : (Int × JM)) (H : F11_isLine_14 h = some res) : Ev j_W1 1 0 0 T11_isLine 14 [] [] h (some (.inl res.1)) res.2 := by
  unfold F11_isLine_14 at H
  refine ev_iconst (M := T11_isLine) (pc := 14) dX11_isLine_14 (k := ?_)
  cases H
  exact ev_zreturn (M := T11_isLine) (pc := 15) (Or.inl rfl) dX11_isLine_15
set_option maxRecDepth 100000 in
set_option maxHeartbeats 4000000 in
theorem C11_isLine {l0 : Int} {h : JM} {res : (Int × JM)} (H : F11_isLine l0 h = some res) : Cn j_W1 1 0 0 yX11_isLine cX11_isLine 1 (some .boolean) [.inl (l0)] h (some (.inl res.1)) res.2 := by
  refine Cn.by (own := RX11) (b := false) [(0, .inl (l0))] rfl (fun z => by cases z) (by decide +kernel) (K := ?_)
  unfold F11_isLine at H
  refine ev_iload_n (M := T11_isLine) (pc := 0) 0 dX11_isLine_0 (k := ?_)
  refine ev_iflt (M := T11_isLine) (pc := 1) 14 dX11_isLine_1 (kt := fun hc => ?_) (kf := fun hc => ?_)
  · replace H := if_pe hc H
    refine ev_lv [] [] (k := ?_)
    exact E11_isLine_14 h _ H
  · replace H := if_ne hc H
    refine ev_iload_n (M := T11_isLine) (pc := 4) 0 dX11_isLine_4 (k := ?_)
    refine ev_bipush (M := T11_isLine) (pc := 5) dX11_isLine_5 (k := ?_)
    refine ev_icmpge (M := T11_isLine) (pc := 7) 14 dX11_isLine_7 (kt := fun hc => ?_) (kf := fun hc => ?_)
    · replace H := if_pe hc H
      refine ev_lv [] [] (k := ?_)
      exact E11_isLine_14 h _ H
    · replace H := if_ne hc H
      refine ev_iconst (M := T11_isLine) (pc := 10) dX11_isLine_10 (k := ?_)
      refine ev_goto (M := T11_isLine) (pc := 11) 15 dX11_isLine_11 (k := ?_)
      cases H
      exact ev_zreturn (M := T11_isLine) (pc := 15) (Or.inr rfl) dX11_isLine_15
-- X11_isWithin
abbrev T11_isWithin : JT := (RX11, cX11_isWithin, 3, some .boolean, false)
set_option maxRecDepth 100000 in
set_option maxHeartbeats 4000000 in
theorem E11_isWithin_14 (h : JM) (res : (Int × JM)) (H : F11_isWithin_14 h = some res) : Ev j_W1 1 0 0 T11_isWithin 14 [] [] h (some (.inl res.1)) res.2 := by
  unfold F11_isWithin_14 at H
  refine ev_iconst (M := T11_isWithin) (pc := 14) dX11_isWithin_14 (k := ?_)
  cases H
  exact ev_zreturn (M := T11_isWithin) (pc := 15) (Or.inl rfl) dX11_isWithin_15
set_option maxRecDepth 100000 in
set_option maxHeartbeats 4000000 in
theorem C11_isWithin {l0 : Int} {l1 : Int} {l2 : Int} {h : JM} {res : (Int × JM)} (H : F11_isWithin l0 l1 l2 h = some res) : Cn j_W1 1 0 0 yX11_isWithin cX11_isWithin 3 (some .boolean) [.inl (l0), .inl (l1), .inl (l2)] h (some (.inl res.1)) res.2 := by
  refine Cn.by (own := RX11) (b := false) [(0, .inl (l0)), (1, .inl (l1)), (2, .inl (l2))] rfl (fun z => by cases z) (by decide +kernel) (K := ?_)
  unfold F11_isWithin at H
  refine ev_iload_n (M := T11_isWithin) (pc := 0) 0 dX11_isWithin_0 (k := ?_)
  refine ev_iload_n (M := T11_isWithin) (pc := 1) 1 dX11_isWithin_1 (k := ?_)
  refine ev_icmplt (M := T11_isWithin) (pc := 2) 14 dX11_isWithin_2 (kt := fun hc => ?_) (kf := fun hc => ?_)
  · replace H := if_pe hc H
    refine ev_lv [] [] (k := ?_)
    exact E11_isWithin_14 h _ H
  · replace H := if_ne hc H
    refine ev_iload_n (M := T11_isWithin) (pc := 5) 0 dX11_isWithin_5 (k := ?_)
    refine ev_iload_n (M := T11_isWithin) (pc := 6) 2 dX11_isWithin_6 (k := ?_)
    refine ev_icmpgt (M := T11_isWithin) (pc := 7) 14 dX11_isWithin_7 (kt := fun hc => ?_) (kf := fun hc => ?_)
    · replace H := if_pe hc H
      refine ev_lv [] [] (k := ?_)
      exact E11_isWithin_14 h _ H
    · replace H := if_ne hc H
      refine ev_iconst (M := T11_isWithin) (pc := 10) dX11_isWithin_10 (k := ?_)
      refine ev_goto (M := T11_isWithin) (pc := 11) 15 dX11_isWithin_11 (k := ?_)
      cases H
      exact ev_zreturn (M := T11_isWithin) (pc := 15) (Or.inr rfl) dX11_isWithin_15
-- X11_credit
abbrev T11_credit : JT := (RX11, cX11_credit, 4, some .int, false)
set_option maxRecDepth 100000 in
set_option maxHeartbeats 4000000 in
theorem E11_credit_17 (h : JM) (res : (Int × JM)) (H : F11_credit_17 h = some res) : Ev j_W1 2 0 0 T11_credit 17 [] [] h (some (.inl res.1)) res.2 := by
  unfold F11_credit_17 at H
  refine ev_bipush (M := T11_credit) (pc := 17) dX11_credit_17 (k := ?_)
  cases H
  exact ev_ireturn (M := T11_credit) (pc := 19) dX11_credit_19
set_option maxRecDepth 100000 in
set_option maxHeartbeats 4000000 in
theorem C11_credit {l1 : Int} {l2 : Int} {h : JM} {res : (Int × JM)} (H : F11_credit l1 l2 h = some res) : Cn j_W1 2 0 0 yX11_credit cX11_credit 4 (some .int) [.inr (.inr (some (11, 0))), .inl (l1), .inl (l2)] h (some (.inl res.1)) res.2 := by
  refine Cn.by (own := RX11) (b := false) [(0, .inr (.inr (some (11, 0)))), (1, .inl (l1)), (2, .inl (l2))] rfl (fun z => by cases z) (by decide +kernel) (K := ?_)
  unfold F11_credit at H
  refine ev_iload_n (M := T11_credit) (pc := 0) 1 dX11_credit_0 (k := ?_)
  obtain ⟨q1, hq, H1⟩ := bd_e H
  clear H
  refine ev_callS (M := T11_credit) (pc := 1) (mc := 0) (ms := 0) (st := []) (C11_isLine hq) md_X11_isLine ss_X11_isLine ml_X11_115 dX11_credit_1 _ (by decide) (K := ?_)
  refine ev_ifeq (M := T11_credit) (pc := 4) 17 dX11_credit_4 (kt := fun hc => ?_) (kf := fun hc => ?_)
  · replace H1 := if_pe hc H1
    refine ev_lv [] [] (k := ?_)
    exact E11_credit_17 q1.2 _ H1
  · replace H1 := if_ne hc H1
    refine ev_iload_n (M := T11_credit) (pc := 7) 2 dX11_credit_7 (k := ?_)
    refine ev_iconst (M := T11_credit) (pc := 8) dX11_credit_8 (k := ?_)
    refine ev_ldc (M := T11_credit) (pc := 9) (n := 1000000) ct_X11_149 dX11_credit_9 (hv := cv_X11_149) (k := ?_)
    obtain ⟨q2, hq, H2⟩ := bd_e H1
    clear H1
    refine ev_callS (M := T11_credit) (pc := 11) (mc := 0) (ms := 0) (st := []) (C11_isWithin hq) md_X11_isWithin ss_X11_isWithin ml_X11_79 dX11_credit_11 _ (by decide) (K := ?_)
    refine ev_ifne (M := T11_credit) (pc := 14) 20 dX11_credit_14 (kt := fun hc => ?_) (kf := fun hc => ?_)
    · replace H2 := if_ne hc H2
      refine ev_aload_n (M := T11_credit) (pc := 20) 0 dX11_credit_20 (k := ?_)
      refine ev_getR (M := T11_credit) (pc := 21) (t := 39) (x := some (39, 0)) fl_X11_17 dX11_credit_21 (hx := ry_11_3 _ _) (K := ?_)
      refine ev_iload_n (M := T11_credit) (pc := 24) 1 dX11_credit_24 (k := ?_)
      obtain ⟨⟨hi0, hi1⟩, H3⟩ := g_e H2
      clear H2
      refine ev_aaload (M := T11_credit) (pc := 25) (k := 39) 4 (x := some (4, l1)) hi0 hi1 dX11_credit_25 (hc := ac_39) (hlen := ln_39 _ _) (hx := rz_39 _ _ _) (K := ?_)
      refine ev_getI (M := T11_credit) (pc := 26) (x := q2.2.1 4 l1 17) fl_X11_150 dX11_credit_26 (K := ?_)
      obtain ⟨x3, ex3, H4⟩ := lt_e H3
      clear H3
      refine ev_topI ex3 ?_
      refine ev_istore_n (M := T11_credit) (pc := 29) [(3, .inl (x3)), (0, .inr (.inr (some (11, 0)))), (1, .inl (l1)), (2, .inl (l2))] dX11_credit_29 (k := ?_)
      refine ev_aload_n (M := T11_credit) (pc := 30) 1 dX11_credit_30 (k := ?_)
      refine ev_getR (M := T11_credit) (pc := 31) (t := 39) (x := some (39, 0)) fl_X11_17 dX11_credit_31 (hx := ry_11_3 _ _) (K := ?_)
      refine ev_iload_n (M := T11_credit) (pc := 34) 2 dX11_credit_34 (k := ?_)
      obtain ⟨⟨hi0, hi1⟩, H5⟩ := g_e H4
      clear H4
      refine ev_aaload (M := T11_credit) (pc := 35) (k := 39) 4 (x := some (4, l1)) hi0 hi1 dX11_credit_35 (hc := ac_39) (hlen := ln_39 _ _) (hx := rz_39 _ _ _) (K := ?_)
      refine ev_iload_n (M := T11_credit) (pc := 36) 3 dX11_credit_36 (k := ?_)
      obtain ⟨h4, eh4, H6⟩ := lt_e H5
      clear H5
      refine ev_putI (M := T11_credit) (pc := 37) j_ok1 fl_X11_150 eh4 dX11_credit_37 (K := ?_)
      refine ev_iload_n (M := T11_credit) (pc := 40) 0 dX11_credit_40 (k := ?_)
      cases H6
      exact ev_ireturn (M := T11_credit) (pc := 41) dX11_credit_41
    · replace H2 := if_pe hc H2
      refine ev_lv [] [] (k := ?_)
      exact E11_credit_17 q2.2 _ H2
-- X11_dial
abbrev T11_dial : JT := (RX11, cX11_dial, 4, some .int, false)
set_option maxRecDepth 100000 in
set_option maxHeartbeats 4000000 in
theorem E11_dial_29 (h : JM) (res : (Int × JM)) (H : F11_dial_29 h = some res) : Ev j_W1 2 0 0 T11_dial 29 [] [] h (some (.inl res.1)) res.2 := by
  unfold F11_dial_29 at H
  refine ev_bipush (M := T11_dial) (pc := 29) dX11_dial_29 (k := ?_)
  cases H
  exact ev_ireturn (M := T11_dial) (pc := 31) dX11_dial_31
set_option maxRecDepth 100000 in
set_option maxHeartbeats 4000000 in
theorem C11_dial {l1 : Int} {l2 : Int} {h : JM} {res : (Int × JM)} (H : F11_dial l1 l2 h = some res) : Cn j_W1 2 0 0 yX11_dial cX11_dial 4 (some .int) [.inr (.inr (some (11, 0))), .inl (l1), .inl (l2)] h (some (.inl res.1)) res.2 := by
  refine Cn.by (own := RX11) (b := false) [(0, .inr (.inr (some (11, 0)))), (1, .inl (l1)), (2, .inl (l2))] rfl (fun z => by cases z) (by decide +kernel) (K := ?_)
  unfold F11_dial at H
  refine ev_iload_n (M := T11_dial) (pc := 0) 1 dX11_dial_0 (k := ?_)
  obtain ⟨q1, hq, H1⟩ := bd_e H
  clear H
  refine ev_callS (M := T11_dial) (pc := 1) (mc := 0) (ms := 0) (st := []) (C11_isLine hq) md_X11_isLine ss_X11_isLine ml_X11_115 dX11_dial_1 _ (by decide) (K := ?_)
  refine ev_ifeq (M := T11_dial) (pc := 4) 29 dX11_dial_4 (kt := fun hc => ?_) (kf := fun hc => ?_)
  · replace H1 := if_pe hc H1
    refine ev_lv [] [] (k := ?_)
    exact E11_dial_29 q1.2 _ H1
  · replace H1 := if_ne hc H1
    refine ev_iload_n (M := T11_dial) (pc := 7) 2 dX11_dial_7 (k := ?_)
    refine ev_iconst (M := T11_dial) (pc := 8) dX11_dial_8 (k := ?_)
    refine ev_bipush (M := T11_dial) (pc := 9) dX11_dial_9 (k := ?_)
    obtain ⟨q2, hq, H2⟩ := bd_e H1
    clear H1
    refine ev_callS (M := T11_dial) (pc := 11) (mc := 0) (ms := 0) (st := []) (C11_isWithin hq) md_X11_isWithin ss_X11_isWithin ml_X11_79 dX11_dial_11 _ (by decide) (K := ?_)
    refine ev_ifeq (M := T11_dial) (pc := 14) 29 dX11_dial_14 (kt := fun hc => ?_) (kf := fun hc => ?_)
    · replace H2 := if_pe hc H2
      refine ev_lv [] [] (k := ?_)
      exact E11_dial_29 q2.2 _ H2
    · replace H2 := if_ne hc H2
      refine ev_aload_n (M := T11_dial) (pc := 17) 0 dX11_dial_17 (k := ?_)
      refine ev_getR (M := T11_dial) (pc := 18) (t := 39) (x := some (39, 0)) fl_X11_17 dX11_dial_18 (hx := ry_11_3 _ _) (K := ?_)
      refine ev_iload_n (M := T11_dial) (pc := 21) 1 dX11_dial_21 (k := ?_)
      obtain ⟨⟨hi0, hi1⟩, H3⟩ := g_e H2
      clear H2
      refine ev_aaload (M := T11_dial) (pc := 22) (k := 39) 4 (x := some (4, l1)) hi0 hi1 dX11_dial_22 (hc := ac_39) (hlen := ln_39 _ _) (hx := rz_39 _ _ _) (K := ?_)
      refine ev_getI (M := T11_dial) (pc := 23) (x := q2.2.1 4 l1 6) fl_X11_157 dX11_dial_23 (K := ?_)
      refine ev_ifne (M := T11_dial) (pc := 26) 32 dX11_dial_26 (kt := fun hc => ?_) (kf := fun hc => ?_)
      · replace H3 := if_ne hc H3
        refine ev_aload_n (M := T11_dial) (pc := 32) 0 dX11_dial_32 (k := ?_)
        refine ev_getR (M := T11_dial) (pc := 33) (t := 39) (x := some (39, 0)) fl_X11_17 dX11_dial_33 (hx := ry_11_3 _ _) (K := ?_)
        refine ev_iload_n (M := T11_dial) (pc := 36) 1 dX11_dial_36 (k := ?_)
        obtain ⟨⟨hi0, hi1⟩, H4⟩ := g_e H3
        clear H3
        refine ev_aaload (M := T11_dial) (pc := 37) (k := 39) 4 (x := some (4, l1)) hi0 hi1 dX11_dial_37 (hc := ac_39) (hlen := ln_39 _ _) (hx := rz_39 _ _ _) (K := ?_)
        refine ev_astore_n (M := T11_dial) (pc := 38) [(3, .inr (.inr (some (4, l1)))), (0, .inr (.inr (some (11, 0)))), (1, .inl (l1)), (2, .inl (l2))] dX11_dial_38 (k := ?_)
        refine ev_aload_n (M := T11_dial) (pc := 39) 0 dX11_dial_39 (k := ?_)
        refine ev_getI (M := T11_dial) (pc := 40) (x := q2.2.1 4 l1 4) fl_X11_160 dX11_dial_40 (K := ?_)
        refine ev_bipush (M := T11_dial) (pc := 43) dX11_dial_43 (k := ?_)
        refine ev_icmplt (M := T11_dial) (pc := 45) 51 dX11_dial_45 (kt := fun hc => ?_) (kf := fun hc => ?_)
        · replace H4 := if_pe hc H4
          refine ev_aload_n (M := T11_dial) (pc := 51) 0 dX11_dial_51 (k := ?_)
          refine ev_getR (M := T11_dial) (pc := 52) (t := 30) (x := some (30, l1)) fl_X11_163 dX11_dial_52 (hx := ry_4_3 _ _) (K := ?_)
          refine ev_aload_n (M := T11_dial) (pc := 55) 0 dX11_dial_55 (k := ?_)
          refine ev_getI (M := T11_dial) (pc := 56) (x := q2.2.1 4 l1 4) fl_X11_160 dX11_dial_56 (K := ?_)
          refine ev_iload_n (M := T11_dial) (pc := 59) 3 dX11_dial_59 (k := ?_)
          refine ev_i2b (M := T11_dial) (pc := 60) dX11_dial_60 (k := ?_)
          obtain ⟨⟨hi0, hi1⟩, H5⟩ := g_e H4
          clear H4
          obtain ⟨h3, eh3, H6⟩ := lt_e H5
          clear H5
          refine ev_bastore (M := T11_dial) (pc := 61) (k := 30) j_ok1 hi0 hi1 eh3 dX11_dial_61 (hc := ac_30) (hlen := ln_30 _ _) (K := ?_)
          refine ev_aload_n (M := T11_dial) (pc := 62) 0 dX11_dial_62 (k := ?_)
          refine ev_dup (M := T11_dial) (pc := 63) dX11_dial_63 (k := ?_)
          refine ev_getI (M := T11_dial) (pc := 64) (x := h3.1 4 l1 4) fl_X11_160 dX11_dial_64 (K := ?_)
          refine ev_iconst (M := T11_dial) (pc := 67) dX11_dial_67 (k := ?_)
          refine ev_iadd (M := T11_dial) (pc := 68) dX11_dial_68 (k := ?_)
          obtain ⟨h4, eh4, H7⟩ := lt_e H6
          clear H6
          refine ev_putI (M := T11_dial) (pc := 69) j_ok1 fl_X11_160 eh4 dX11_dial_69 (K := ?_)
          refine ev_aload_n (M := T11_dial) (pc := 72) 0 dX11_dial_72 (k := ?_)
          refine ev_getI (M := T11_dial) (pc := 73) (x := h4.1 4 l1 4) fl_X11_160 dX11_dial_73 (K := ?_)
          cases H7
          exact ev_ireturn (M := T11_dial) (pc := 76) dX11_dial_76
        · replace H4 := if_ne hc H4
          refine ev_bipush (M := T11_dial) (pc := 48) dX11_dial_48 (k := ?_)
          cases H4
          exact ev_ireturn (M := T11_dial) (pc := 50) dX11_dial_50
      · replace H3 := if_pe hc H3
        refine ev_lv [] [] (k := ?_)
        exact E11_dial_29 q2.2 _ H3
-- X11_feature
abbrev T11_feature : JT := (RX11, cX11_feature, 5, some .int, false)
set_option maxRecDepth 100000 in
set_option maxHeartbeats 4000000 in
theorem E11_feature_16 (h : JM) (res : (Int × JM)) (H : F11_feature_16 h = some res) : Ev j_W1 2 0 0 T11_feature 16 [] [] h (some (.inl res.1)) res.2 := by
  unfold F11_feature_16 at H
  refine ev_bipush (M := T11_feature) (pc := 16) dX11_feature_16 (k := ?_)
  cases H
  exact ev_ireturn (M := T11_feature) (pc := 18) dX11_feature_18
set_option maxRecDepth 100000 in
set_option maxHeartbeats 4000000 in
theorem C11_feature {l1 : Int} {l2 : Int} {l3 : Int} {h : JM} {res : (Int × JM)} (H : F11_feature l1 l2 l3 h = some res) : Cn j_W1 2 0 0 yX11_feature cX11_feature 5 (some .int) [.inr (.inr (some (11, 0))), .inl (l1), .inl (l2), .inl (l3)] h (some (.inl res.1)) res.2 := by
  refine Cn.by (own := RX11) (b := false) [(0, .inr (.inr (some (11, 0)))), (1, .inl (l1)), (2, .inl (l2)), (3, .inl (l3))] rfl (fun z => by cases z) (by decide +kernel) (K := ?_)
  unfold F11_feature at H
  refine ev_iload_n (M := T11_feature) (pc := 0) 1 dX11_feature_0 (k := ?_)
  obtain ⟨q1, hq, H1⟩ := bd_e H
  clear H
  refine ev_callS (M := T11_feature) (pc := 1) (mc := 0) (ms := 0) (st := []) (C11_isLine hq) md_X11_isLine ss_X11_isLine ml_X11_115 dX11_feature_1 _ (by decide) (K := ?_)
  refine ev_ifeq (M := T11_feature) (pc := 4) 16 dX11_feature_4 (kt := fun hc => ?_) (kf := fun hc => ?_)
  · replace H1 := if_pe hc H1
    refine ev_lv [] [] (k := ?_)
    exact E11_feature_16 q1.2 _ H1
  · replace H1 := if_ne hc H1
    refine ev_iload_n (M := T11_feature) (pc := 7) 2 dX11_feature_7 (k := ?_)
    refine ev_iconst (M := T11_feature) (pc := 8) dX11_feature_8 (k := ?_)
    refine ev_iconst (M := T11_feature) (pc := 9) dX11_feature_9 (k := ?_)
    obtain ⟨q2, hq, H2⟩ := bd_e H1
    clear H1
    refine ev_callS (M := T11_feature) (pc := 10) (mc := 0) (ms := 0) (st := []) (C11_isWithin hq) md_X11_isWithin ss_X11_isWithin ml_X11_79 dX11_feature_10 _ (by decide) (K := ?_)
    refine ev_ifne (M := T11_feature) (pc := 13) 19 dX11_feature_13 (kt := fun hc => ?_) (kf := fun hc => ?_)
    · replace H2 := if_ne hc H2
      refine ev_aload_n (M := T11_feature) (pc := 19) 0 dX11_feature_19 (k := ?_)
      refine ev_getR (M := T11_feature) (pc := 20) (t := 39) (x := some (39, 0)) fl_X11_17 dX11_feature_20 (hx := ry_11_3 _ _) (K := ?_)
      refine ev_iload_n (M := T11_feature) (pc := 23) 1 dX11_feature_23 (k := ?_)
      obtain ⟨⟨hi0, hi1⟩, H3⟩ := g_e H2
      clear H2
      refine ev_aaload (M := T11_feature) (pc := 24) (k := 39) 4 (x := some (4, l1)) hi0 hi1 dX11_feature_24 (hc := ac_39) (hlen := ln_39 _ _) (hx := rz_39 _ _ _) (K := ?_)
      refine ev_getR (M := T11_feature) (pc := 25) (t := 28) (x := some (28, l1)) fl_X11_137 dX11_feature_25 (hx := ry_4_1 _ _) (K := ?_)
      refine ev_iload_n (M := T11_feature) (pc := 28) 2 dX11_feature_28 (k := ?_)
      obtain ⟨⟨hi0, hi1⟩, H4⟩ := g_e H3
      clear H3
      refine ev_zaload (M := T11_feature) (pc := 29) (k := 28) hi0 hi1 dX11_feature_29 (hc := ac_28) (hlen := ln_28 _ _) (K := ?_)
      obtain ⟨x3, ex3, H5⟩ := lt_e H4
      clear H4
      refine ev_topI ex3 ?_
      refine ev_istore (M := T11_feature) (pc := 30) [(4, .inl (x3)), (0, .inr (.inr (some (11, 0)))), (1, .inl (l1)), (2, .inl (l2)), (3, .inl (l3))] dX11_feature_30 (k := ?_)
      refine ev_aload_n (M := T11_feature) (pc := 32) 1 dX11_feature_32 (k := ?_)
      refine ev_getR (M := T11_feature) (pc := 33) (t := 39) (x := some (39, 0)) fl_X11_17 dX11_feature_33 (hx := ry_11_3 _ _) (K := ?_)
      refine ev_iload_n (M := T11_feature) (pc := 36) 2 dX11_feature_36 (k := ?_)
      obtain ⟨⟨hi0, hi1⟩, H6⟩ := g_e H5
      clear H5
      refine ev_aaload (M := T11_feature) (pc := 37) (k := 39) 4 (x := some (4, l1)) hi0 hi1 dX11_feature_37 (hc := ac_39) (hlen := ln_39 _ _) (hx := rz_39 _ _ _) (K := ?_)
      refine ev_getR (M := T11_feature) (pc := 38) (t := 28) (x := some (28, l1)) fl_X11_137 dX11_feature_38 (hx := ry_4_1 _ _) (K := ?_)
      refine ev_iload_n (M := T11_feature) (pc := 41) 3 dX11_feature_41 (k := ?_)
      refine ev_iload_n (M := T11_feature) (pc := 42) 4 dX11_feature_42 (k := ?_)
      obtain ⟨⟨hi0, hi1⟩, H7⟩ := g_e H6
      clear H6
      obtain ⟨hz, H8⟩ := g_e H7
      clear H7
      obtain ⟨h4, eh4, H9⟩ := lt_e H8
      clear H8
      refine ev_zastore (M := T11_feature) (pc := 43) (k := 28) j_ok1 hi0 hi1 hz eh4 dX11_feature_43 (hc := ac_28) (hlen := ln_28 _ _) (K := ?_)
      refine ev_iload (M := T11_feature) (pc := 44) 0 dX11_feature_44 (k := ?_)
      refine ev_ifeq (M := T11_feature) (pc := 46) 53 dX11_feature_46 (kt := fun hc => ?_) (kf := fun hc => ?_)
      · replace H9 := if_pe hc H9
        refine ev_iconst (M := T11_feature) (pc := 53) dX11_feature_53 (k := ?_)
        cases H9
        exact ev_ireturn (M := T11_feature) (pc := 54) dX11_feature_54
      · replace H9 := if_ne hc H9
        refine ev_iconst (M := T11_feature) (pc := 49) dX11_feature_49 (k := ?_)
        refine ev_goto (M := T11_feature) (pc := 50) 54 dX11_feature_50 (k := ?_)
        cases H9
        exact ev_ireturn (M := T11_feature) (pc := 54) dX11_feature_54
    · replace H2 := if_pe hc H2
      refine ev_lv [] [] (k := ?_)
      exact E11_feature_16 q2.2 _ H2
-- X11_firstWaiting
abbrev T11_firstWaiting : JT := (RX11, cX11_firstWaiting, 5, some (.object "TelephoneTown$Call"), false)
set_option maxRecDepth 100000 in
set_option maxHeartbeats 4000000 in
theorem E11_firstWaiting_57 (k4 : Option Int → Option Int → Int → JM → Option (Option Int × JM)) (hk4 : ∀ (l1 : Option Int) (l2 : Option Int) (l3 : Int) (h : JM) (res : (Option Int × JM)), k4 l1 l2 l3 h = some res → Ev j_W1 1 0 0 T11_firstWaiting 4 [(0, .inr (.inr (some (11, 0)))), (1, .inr (.inr (Option.map (Prod.mk 2) (l1)))), (2, .inr (.inr (Option.map (Prod.mk 0) (l2)))), (3, .inl (l3))] [] h (some (.inr (.inr (Option.map (Prod.mk 0) res.1)))) res.2) (l1 : Option Int) (l2 : Option Int) (l3 : Int) (h : JM) (res : (Option Int × JM)) (H : F11_firstWaiting_57 k4 l1 l2 l3 h = some res) : Ev j_W1 1 0 0 T11_firstWaiting 57 [(0, .inr (.inr (some (11, 0)))), (1, .inr (.inr (Option.map (Prod.mk 2) (l1)))), (2, .inr (.inr (Option.map (Prod.mk 0) (l2)))), (3, .inl (l3))] [] h (some (.inr (.inr (Option.map (Prod.mk 0) res.1)))) res.2 := by
  unfold F11_firstWaiting_57 at H
  refine ev_iinc (M := T11_firstWaiting) (pc := 57) 3 [(3, .inl (w32 (l3 + 1))), (0, .inr (.inr (some (11, 0)))), (1, .inr (.inr (Option.map (Prod.mk 2) (l1)))), (2, .inr (.inr (Option.map (Prod.mk 0) (l2))))] dX11_firstWaiting_57 (k := ?_)
  refine ev_goto (M := T11_firstWaiting) (pc := 60) 4 dX11_firstWaiting_60 (k := ?_)
  refine ev_lv [1, 2, 3, 0] [(0, .inr (.inr (some (11, 0)))), (1, .inr (.inr (Option.map (Prod.mk 2) (l1)))), (2, .inr (.inr (Option.map (Prod.mk 0) (l2)))), (3, .inl (w32 (l3 + 1)))] (k := ?_)
  exact hk4 l1 l2 (w32 (l3 + 1)) h _ H
set_option maxRecDepth 100000 in
set_option maxHeartbeats 4000000 in
theorem E11_firstWaiting_54 (k4 : Option Int → Option Int → Int → JM → Option (Option Int × JM)) (hk4 : ∀ (l1 : Option Int) (l2 : Option Int) (l3 : Int) (h : JM) (res : (Option Int × JM)), k4 l1 l2 l3 h = some res → Ev j_W1 1 0 0 T11_firstWaiting 4 [(0, .inr (.inr (some (11, 0)))), (1, .inr (.inr (Option.map (Prod.mk 2) (l1)))), (2, .inr (.inr (Option.map (Prod.mk 0) (l2)))), (3, .inl (l3))] [] h (some (.inr (.inr (Option.map (Prod.mk 0) res.1)))) res.2) (l1 : Option Int) (l3 : Int) (l4 : Option Int) (h : JM) (res : (Option Int × JM)) (H : F11_firstWaiting_54 k4 l1 l3 l4 h = some res) : Ev j_W1 1 0 0 T11_firstWaiting 54 [(0, .inr (.inr (some (11, 0)))), (1, .inr (.inr (Option.map (Prod.mk 2) (l1)))), (3, .inl (l3)), (4, .inr (.inr (Option.map (Prod.mk 0) (l4))))] [] h (some (.inr (.inr (Option.map (Prod.mk 0) res.1)))) res.2 := by
  unfold F11_firstWaiting_54 at H
  refine ev_aload (M := T11_firstWaiting) (pc := 54) 3 dX11_firstWaiting_54 (k := ?_)
  refine ev_astore_n (M := T11_firstWaiting) (pc := 56) [(2, .inr (.inr (Option.map (Prod.mk 0) (l4)))), (0, .inr (.inr (some (11, 0)))), (1, .inr (.inr (Option.map (Prod.mk 2) (l1)))), (3, .inl (l3)), (4, .inr (.inr (Option.map (Prod.mk 0) (l4))))] dX11_firstWaiting_56 (k := ?_)
  refine ev_lv [1, 2, 0, 3] [(0, .inr (.inr (some (11, 0)))), (1, .inr (.inr (Option.map (Prod.mk 2) (l1)))), (2, .inr (.inr (Option.map (Prod.mk 0) (l4)))), (3, .inl (l3))] (k := ?_)
  exact E11_firstWaiting_57 k4 hk4 l1 l4 l3 h _ H
set_option maxRecDepth 100000 in
set_option maxHeartbeats 4000000 in
theorem E11_firstWaiting_4b (k4 : Option Int → Option Int → Int → JM → Option (Option Int × JM)) (hk4 : ∀ (l1 : Option Int) (l2 : Option Int) (l3 : Int) (h : JM) (res : (Option Int × JM)), k4 l1 l2 l3 h = some res → Ev j_W1 1 0 0 T11_firstWaiting 4 [(0, .inr (.inr (some (11, 0)))), (1, .inr (.inr (Option.map (Prod.mk 2) (l1)))), (2, .inr (.inr (Option.map (Prod.mk 0) (l2)))), (3, .inl (l3))] [] h (some (.inr (.inr (Option.map (Prod.mk 0) res.1)))) res.2) (l1 : Option Int) (l2 : Option Int) (l3 : Int) (h : JM) (res : (Option Int × JM)) (H : F11_firstWaiting_4b k4 l1 l2 l3 h = some res) : Ev j_W1 1 0 0 T11_firstWaiting 4 [(0, .inr (.inr (some (11, 0)))), (1, .inr (.inr (Option.map (Prod.mk 2) (l1)))), (2, .inr (.inr (Option.map (Prod.mk 0) (l2)))), (3, .inl (l3))] [] h (some (.inr (.inr (Option.map (Prod.mk 0) res.1)))) res.2 := by
  unfold F11_firstWaiting_4b at H
  refine ev_iload_n (M := T11_firstWaiting) (pc := 4) 3 dX11_firstWaiting_4 (k := ?_)
  refine ev_aload_n (M := T11_firstWaiting) (pc := 5) 0 dX11_firstWaiting_5 (k := ?_)
  refine ev_getI (M := T11_firstWaiting) (pc := 6) (x := h.1 11 0 11) fl_X11_452 dX11_firstWaiting_6 (K := ?_)
  refine ev_icmpge (M := T11_firstWaiting) (pc := 9) 63 dX11_firstWaiting_9 (kt := fun hc => ?_) (kf := fun hc => ?_)
  · replace H := if_pe hc H
    refine ev_aload_n (M := T11_firstWaiting) (pc := 63) 2 dX11_firstWaiting_63 (k := ?_)
    cases H
    exact ev_areturn (M := T11_firstWaiting) (pc := 64) dX11_firstWaiting_64
  · replace H := if_ne hc H
    refine ev_aload_n (M := T11_firstWaiting) (pc := 12) 0 dX11_firstWaiting_12 (k := ?_)
    refine ev_getR (M := T11_firstWaiting) (pc := 13) (t := 40) (x := some (40, 0)) fl_X11_23 dX11_firstWaiting_13 (hx := ry_11_4 _ _) (K := ?_)
    refine ev_iload_n (M := T11_firstWaiting) (pc := 16) 3 dX11_firstWaiting_16 (k := ?_)
    obtain ⟨⟨hi0, hi1⟩, H1⟩ := g_e H
    clear H
    refine ev_aaload (M := T11_firstWaiting) (pc := 17) (k := 40) 0 (x := Option.map (Prod.mk 0) (h.2.2 40 0 l3)) hi0 hi1 dX11_firstWaiting_17 (hc := ac_40) (hlen := ln_40 _ _) (hx := rz_40 _ _ _) (K := ?_)
    refine ev_astore (M := T11_firstWaiting) (pc := 18) [(4, .inr (.inr (Option.map (Prod.mk 0) (h.2.2 40 0 l3)))), (0, .inr (.inr (some (11, 0)))), (1, .inr (.inr (Option.map (Prod.mk 2) (l1)))), (2, .inr (.inr (Option.map (Prod.mk 0) (l2)))), (3, .inl (l3))] dX11_firstWaiting_18 (k := ?_)
    refine ev_aload (M := T11_firstWaiting) (pc := 20) 0 dX11_firstWaiting_20 (k := ?_)
    obtain ⟨a1, ea1, H2⟩ := bd_e H1
    clear H1
    rw [ea1]
    refine ev_getI (M := T11_firstWaiting) (pc := 22) (x := h.1 0 a1 9) fl_X11_210 dX11_firstWaiting_22 (K := ?_)
    refine ev_iconst (M := T11_firstWaiting) (pc := 25) dX11_firstWaiting_25 (k := ?_)
    refine ev_icmpne (M := T11_firstWaiting) (pc := 26) 57 dX11_firstWaiting_26 (kt := fun hc => ?_) (kf := fun hc => ?_)
    · replace H2 := if_ne hc H2
      refine ev_lv [1, 2, 3, 4] [(0, .inr (.inr (some (11, 0)))), (1, .inr (.inr (Option.map (Prod.mk 2) (l1)))), (2, .inr (.inr (Option.map (Prod.mk 0) (l2)))), (3, .inl (l3))] (k := ?_)
      exact E11_firstWaiting_57 k4 hk4 l1 l2 l3 h _ H2
    · replace H2 := if_pe hc H2
      refine ev_aload (M := T11_firstWaiting) (pc := 29) 0 dX11_firstWaiting_29 (k := ?_)
      refine ev_getR (M := T11_firstWaiting) (pc := 31) (t := 2) (x := Option.map (Prod.mk 2) (h.2.2 0 a1 5)) fl_X11_495 dX11_firstWaiting_31 (hx := ry_0_5 _ _) (K := ?_)
      refine ev_aload_n (M := T11_firstWaiting) (pc := 34) 2 dX11_firstWaiting_34 (k := ?_)
      refine ev_acmpneK (M := T11_firstWaiting) (pc := 35) (h.2.2 0 a1 5) l1 57 dX11_firstWaiting_35 (kt := fun hc => ?_) (kf := fun hc => ?_)
      · replace H2 := if_ne hc H2
        refine ev_lv [1, 2, 3, 4] [(0, .inr (.inr (some (11, 0)))), (1, .inr (.inr (Option.map (Prod.mk 2) (l1)))), (2, .inr (.inr (Option.map (Prod.mk 0) (l2)))), (3, .inl (l3))] (k := ?_)
        exact E11_firstWaiting_57 k4 hk4 l1 l2 l3 h _ H2
      · replace H2 := if_pe hc H2
        refine ev_aload_n (M := T11_firstWaiting) (pc := 38) 3 dX11_firstWaiting_38 (k := ?_)
        refine ev_nullK (M := T11_firstWaiting) (pc := 39) l2 54 dX11_firstWaiting_39 (kt := fun hc => ?_) (kf := fun hc => ?_)
        · replace H2 := if_pe hc H2
          refine ev_lv [1, 2, 4, 0] [(0, .inr (.inr (some (11, 0)))), (1, .inr (.inr (Option.map (Prod.mk 2) (l1)))), (3, .inl (l3)), (4, .inr (.inr (some (0, a1))))] (k := ?_)
          exact E11_firstWaiting_54 k4 hk4 l1 l3 (some a1) h _ H2
        · replace H2 := if_ne hc H2
          refine ev_aload (M := T11_firstWaiting) (pc := 42) 0 dX11_firstWaiting_42 (k := ?_)
          refine ev_getI (M := T11_firstWaiting) (pc := 44) (x := h.1 0 a1 14) fl_X11_548 dX11_firstWaiting_44 (K := ?_)
          refine ev_aload_n (M := T11_firstWaiting) (pc := 47) 3 dX11_firstWaiting_47 (k := ?_)
          obtain ⟨a2, ea2, H3⟩ := bd_e H2
          clear H2
          rw [ea2]
          refine ev_getI (M := T11_firstWaiting) (pc := 48) (x := h.1 0 a2 14) fl_X11_548 dX11_firstWaiting_48 (K := ?_)
          refine ev_icmpge (M := T11_firstWaiting) (pc := 51) 57 dX11_firstWaiting_51 (kt := fun hc => ?_) (kf := fun hc => ?_)
          · replace H3 := if_pe hc H3
            refine ev_lv [1, 2, 3, 4] [(0, .inr (.inr (some (11, 0)))), (1, .inr (.inr (Option.map (Prod.mk 2) (l1)))), (2, .inr (.inr (some (0, a2)))), (3, .inl (l3))] (k := ?_)
            exact E11_firstWaiting_57 k4 hk4 l1 (some a2) l3 h _ H3
          · replace H3 := if_ne hc H3
            refine ev_lv [1, 2, 4, 0] [(0, .inr (.inr (some (11, 0)))), (1, .inr (.inr (Option.map (Prod.mk 2) (l1)))), (3, .inl (l3)), (4, .inr (.inr (some (0, a1))))] (k := ?_)
            exact E11_firstWaiting_54 k4 hk4 l1 l3 (some a1) h _ H3
theorem E11_firstWaiting_4 (n : Nat) : ∀ (l1 : Option Int) (l2 : Option Int) (l3 : Int) (h : JM) (res : (Option Int × JM)), F11_firstWaiting_4 n l1 l2 l3 h = some res → Ev j_W1 1 0 0 T11_firstWaiting 4 [(0, .inr (.inr (some (11, 0)))), (1, .inr (.inr (Option.map (Prod.mk 2) (l1)))), (2, .inr (.inr (Option.map (Prod.mk 0) (l2)))), (3, .inl (l3))] [] h (some (.inr (.inr (Option.map (Prod.mk 0) res.1)))) res.2 := by
  induction n with
  | zero =>
    intro l1 l2 l3 h res H
    cases H
  | succ n ih =>
    intro l1 l2 l3 h res H
    exact E11_firstWaiting_4b (F11_firstWaiting_4 n) ih l1 l2 l3 h res H
set_option maxRecDepth 100000 in
set_option maxHeartbeats 4000000 in
theorem C11_firstWaiting {l1 : Option Int} {h : JM} {res : (Option Int × JM)} (H : F11_firstWaiting l1 h = some res) : Cn j_W1 1 0 0 yX11_firstWaiting cX11_firstWaiting 5 (some (.object "TelephoneTown$Call")) [.inr (.inr (some (11, 0))), .inr (.inr (Option.map (Prod.mk 2) (l1)))] h (some (.inr (.inr (Option.map (Prod.mk 0) res.1)))) res.2 := by
  refine Cn.by (own := RX11) (b := false) [(0, .inr (.inr (some (11, 0)))), (1, .inr (.inr (Option.map (Prod.mk 2) (l1))))] rfl (fun z => by cases z) (by decide +kernel) (K := ?_)
  unfold F11_firstWaiting at H
  refine ev_null (M := T11_firstWaiting) (pc := 0) dX11_firstWaiting_0 (k := ?_)
  refine ev_astore_n (M := T11_firstWaiting) (pc := 1) [(2, .inr (.inr none)), (0, .inr (.inr (some (11, 0)))), (1, .inr (.inr (Option.map (Prod.mk 2) (l1))))] dX11_firstWaiting_1 (k := ?_)
  refine ev_iconst (M := T11_firstWaiting) (pc := 2) dX11_firstWaiting_2 (k := ?_)
  refine ev_istore_n (M := T11_firstWaiting) (pc := 3) [(3, .inl (0)), (2, .inr (.inr none)), (0, .inr (.inr (some (11, 0)))), (1, .inr (.inr (Option.map (Prod.mk 2) (l1))))] dX11_firstWaiting_3 (k := ?_)
  refine ev_lv [2, 3, 1, 0] [(0, .inr (.inr (some (11, 0)))), (1, .inr (.inr (Option.map (Prod.mk 2) (l1)))), (2, .inr (.inr none)), (3, .inl (0))] (k := ?_)
  exact E11_firstWaiting_4 j_fu l1 none 0 h _ H
-- X11_flash
abbrev T11_flash : JT := (RX11, cX11_flash, 3, none, false)
set_option maxRecDepth 100000 in
set_option maxHeartbeats 4000000 in
theorem C11_flash {l1 : Option Int} {h : JM} {res : JM} (H : F11_flash l1 h = some res) : Cn j_W1 5 0 0 yX11_flash cX11_flash 3 none [.inr (.inr (some (11, 0))), .inr (.inr (Option.map (Prod.mk 4) (l1)))] h none res := by
  refine Cn.by (own := RX11) (b := false) [(0, .inr (.inr (some (11, 0)))), (1, .inr (.inr (Option.map (Prod.mk 4) (l1))))] rfl (fun z => by cases z) (by decide +kernel) (K := ?_)
  unfold F11_flash at H
  refine ev_aload_n (M := T11_flash) (pc := 0) 1 dX11_flash_0 (k := ?_)
  obtain ⟨a1, ea1, H1⟩ := bd_e H
  clear H
  rw [ea1]
  refine ev_getR (M := T11_flash) (pc := 1) (t := 0) (x := Option.map (Prod.mk 0) (h.2.2 4 a1 12)) fl_X11_213 dX11_flash_1 (hx := ry_4_12 _ _) (K := ?_)
  refine ev_astore_n (M := T11_flash) (pc := 4) [(2, .inr (.inr (Option.map (Prod.mk 0) (h.2.2 4 a1 12)))), (0, .inr (.inr (some (11, 0)))), (1, .inr (.inr (some (4, a1))))] dX11_flash_4 (k := ?_)
  refine ev_aload_n (M := T11_flash) (pc := 5) 0 dX11_flash_5 (k := ?_)
  refine ev_nonnullK (M := T11_flash) (pc := 6) (h.2.2 4 a1 12) 10 dX11_flash_6 (kt := fun hc => ?_) (kf := fun hc => ?_)
  · replace H1 := if_ne hc H1
    refine ev_aload_n (M := T11_flash) (pc := 10) 2 dX11_flash_10 (k := ?_)
    refine ev_aload_n (M := T11_flash) (pc := 11) 2 dX11_flash_11 (k := ?_)
    refine ev_getR (M := T11_flash) (pc := 12) (t := 0) (x := Option.map (Prod.mk 0) (h.2.2 4 a1 11)) fl_X11_206 dX11_flash_12 (hx := ry_4_11 _ _) (K := ?_)
    obtain ⟨h2, eh2, H2⟩ := lt_e H1
    clear H1
    refine ev_putR (M := T11_flash) (pc := 15) (t := 0) j_ok1 (h.2.2 4 a1 11) fl_X11_213 eh2 (hdg := dX11_flash_15) (hly := rl_4_12 _) (K := ?_)
    refine ev_aload_n (M := T11_flash) (pc := 18) 2 dX11_flash_18 (k := ?_)
    refine ev_aload_n (M := T11_flash) (pc := 19) 0 dX11_flash_19 (k := ?_)
    obtain ⟨h3, eh3, H3⟩ := lt_e H2
    clear H2
    refine ev_putR (M := T11_flash) (pc := 20) (t := 0) j_ok1 (h.2.2 4 a1 12) fl_X11_206 eh3 (hdg := dX11_flash_20) (hly := rl_4_11 _) (K := ?_)
    refine ev_aload_n (M := T11_flash) (pc := 23) 0 dX11_flash_23 (k := ?_)
    obtain ⟨a4, ea4, H4⟩ := bd_e H3
    clear H3
    rw [ea4]
    refine ev_getI (M := T11_flash) (pc := 24) (x := h3.1 0 a4 9) fl_X11_210 dX11_flash_24 (K := ?_)
    refine ev_iconst (M := T11_flash) (pc := 27) dX11_flash_27 (k := ?_)
    refine ev_icmpne (M := T11_flash) (pc := 28) 41 dX11_flash_28 (kt := fun hc => ?_) (kf := fun hc => ?_)
    · replace H4 := if_ne hc H4
      cases H4
      exact ev_return (M := T11_flash) (pc := 41) dX11_flash_41
    · replace H4 := if_pe hc H4
      refine ev_aload_n (M := T11_flash) (pc := 31) 1 dX11_flash_31 (k := ?_)
      refine ev_aload_n (M := T11_flash) (pc := 32) 0 dX11_flash_32 (k := ?_)
      refine ev_aload_n (M := T11_flash) (pc := 33) 1 dX11_flash_33 (k := ?_)
      refine ev_aload_n (M := T11_flash) (pc := 34) 0 dX11_flash_34 (k := ?_)
      obtain ⟨q5, hq, H5⟩ := bd_e H4
      clear H4
      refine ev_callV (M := T11_flash) (pc := 35) (mc := 0) (ms := 0) (st := [.inr (.inr (some (0, a4))), .inr (.inr (some (11, 0)))]) (C11_answer hq) md_X11_answer im_X11_answer se_X11_answer ml_X11_390 dX11_flash_35 _ (by decide) (K := ?_)
      obtain ⟨h6, hq, H6⟩ := bd_e H5
      clear H5
      refine ev_callV (M := T11_flash) (pc := 38) (mc := 0) (ms := 0) (st := []) (C11_endIf hq) md_X11_endIf im_X11_endIf se_X11_endIf ml_X11_394 dX11_flash_38 _ (by decide) (K := ?_)
      cases H6
      exact ev_return (M := T11_flash) (pc := 41) dX11_flash_41
  · replace H1 := if_pe hc H1
    cases H1
    exact ev_return (M := T11_flash) (pc := 9) dX11_flash_9
-- X11_forward
abbrev T11_forward : JT := (RX11, cX11_forward, 3, some .int, false)
set_option maxRecDepth 100000 in
set_option maxHeartbeats 4000000 in
theorem E11_forward_16 (h : JM) (res : (Int × JM)) (H : F11_forward_16 h = some res) : Ev j_W1 2 0 0 T11_forward 16 [] [] h (some (.inl res.1)) res.2 := by
  unfold F11_forward_16 at H
  refine ev_bipush (M := T11_forward) (pc := 16) dX11_forward_16 (k := ?_)
  cases H
  exact ev_ireturn (M := T11_forward) (pc := 18) dX11_forward_18
set_option maxRecDepth 100000 in
set_option maxHeartbeats 4000000 in
theorem C11_forward {l1 : Int} {l2 : Int} {h : JM} {res : (Int × JM)} (H : F11_forward l1 l2 h = some res) : Cn j_W1 2 0 0 yX11_forward cX11_forward 3 (some .int) [.inr (.inr (some (11, 0))), .inl (l1), .inl (l2)] h (some (.inl res.1)) res.2 := by
  refine Cn.by (own := RX11) (b := false) [(0, .inr (.inr (some (11, 0)))), (1, .inl (l1)), (2, .inl (l2))] rfl (fun z => by cases z) (by decide +kernel) (K := ?_)
  unfold F11_forward at H
  refine ev_iload_n (M := T11_forward) (pc := 0) 1 dX11_forward_0 (k := ?_)
  obtain ⟨q1, hq, H1⟩ := bd_e H
  clear H
  refine ev_callS (M := T11_forward) (pc := 1) (mc := 0) (ms := 0) (st := []) (C11_isLine hq) md_X11_isLine ss_X11_isLine ml_X11_115 dX11_forward_1 _ (by decide) (K := ?_)
  refine ev_ifeq (M := T11_forward) (pc := 4) 16 dX11_forward_4 (kt := fun hc => ?_) (kf := fun hc => ?_)
  · replace H1 := if_pe hc H1
    refine ev_lv [] [] (k := ?_)
    exact E11_forward_16 q1.2 _ H1
  · replace H1 := if_ne hc H1
    refine ev_iload_n (M := T11_forward) (pc := 7) 2 dX11_forward_7 (k := ?_)
    refine ev_iconst (M := T11_forward) (pc := 8) dX11_forward_8 (k := ?_)
    refine ev_iconst (M := T11_forward) (pc := 9) dX11_forward_9 (k := ?_)
    obtain ⟨q2, hq, H2⟩ := bd_e H1
    clear H1
    refine ev_callS (M := T11_forward) (pc := 10) (mc := 0) (ms := 0) (st := []) (C11_isWithin hq) md_X11_isWithin ss_X11_isWithin ml_X11_79 dX11_forward_10 _ (by decide) (K := ?_)
    refine ev_ifne (M := T11_forward) (pc := 13) 19 dX11_forward_13 (kt := fun hc => ?_) (kf := fun hc => ?_)
    · replace H2 := if_ne hc H2
      refine ev_aload_n (M := T11_forward) (pc := 19) 0 dX11_forward_19 (k := ?_)
      refine ev_getR (M := T11_forward) (pc := 20) (t := 39) (x := some (39, 0)) fl_X11_17 dX11_forward_20 (hx := ry_11_3 _ _) (K := ?_)
      refine ev_iload_n (M := T11_forward) (pc := 23) 1 dX11_forward_23 (k := ?_)
      obtain ⟨⟨hi0, hi1⟩, H3⟩ := g_e H2
      clear H2
      refine ev_aaload (M := T11_forward) (pc := 24) (k := 39) 4 (x := some (4, l1)) hi0 hi1 dX11_forward_24 (hc := ac_39) (hlen := ln_39 _ _) (hx := rz_39 _ _ _) (K := ?_)
      refine ev_getR (M := T11_forward) (pc := 25) (t := 29) (x := some (29, l1)) fl_X11_141 dX11_forward_25 (hx := ry_4_2 _ _) (K := ?_)
      refine ev_iload_n (M := T11_forward) (pc := 28) 2 dX11_forward_28 (k := ?_)
      refine ev_aload_n (M := T11_forward) (pc := 29) 0 dX11_forward_29 (k := ?_)
      refine ev_getL (M := T11_forward) (pc := 30) (x := q2.2.2.1 11 0 9) fl_X11_51 dX11_forward_30 (K := ?_)
      obtain ⟨⟨hi0, hi1⟩, H4⟩ := g_e H3
      clear H3
      obtain ⟨h3, eh3, H5⟩ := lt_e H4
      clear H4
      refine ev_lastore (M := T11_forward) (pc := 33) (k := 29) j_ok1 hi0 hi1 eh3 dX11_forward_33 (hc := ac_29) (hlen := ln_29 _ _) (K := ?_)
      refine ev_aload_n (M := T11_forward) (pc := 34) 0 dX11_forward_34 (k := ?_)
      refine ev_lconst (M := T11_forward) (pc := 35) (v := 0) dX11_forward_35 (k := ?_)
      obtain ⟨h4, eh4, H6⟩ := lt_e H5
      clear H5
      refine ev_putL (M := T11_forward) (pc := 36) j_ok1 fl_X11_51 eh4 dX11_forward_36 (K := ?_)
      refine ev_iconst (M := T11_forward) (pc := 39) dX11_forward_39 (k := ?_)
      cases H6
      exact ev_ireturn (M := T11_forward) (pc := 40) dX11_forward_40
    · replace H2 := if_pe hc H2
      refine ev_lv [] [] (k := ?_)
      exact E11_forward_16 q2.2 _ H2
-- X11_group
abbrev T11_group : JT := (RX11, cX11_group, 5, some .int, false)
set_option maxRecDepth 100000 in
set_option maxHeartbeats 4000000 in
theorem E11_group_25 (h : JM) (res : (Int × JM)) (H : F11_group_25 h = some res) : Ev j_W1 2 0 0 T11_group 25 [] [] h (some (.inl res.1)) res.2 := by
  unfold F11_group_25 at H
  refine ev_bipush (M := T11_group) (pc := 25) dX11_group_25 (k := ?_)
  cases H
  exact ev_ireturn (M := T11_group) (pc := 27) dX11_group_27
set_option maxRecDepth 100000 in
set_option maxHeartbeats 4000000 in
theorem C11_group {l1 : Int} {l2 : Int} {l3 : Int} {h : JM} {res : (Int × JM)} (H : F11_group l1 l2 l3 h = some res) : Cn j_W1 2 0 0 yX11_group cX11_group 5 (some .int) [.inr (.inr (some (11, 0))), .inl (l1), .inl (l2), .inl (l3)] h (some (.inl res.1)) res.2 := by
  refine Cn.by (own := RX11) (b := false) [(0, .inr (.inr (some (11, 0)))), (1, .inl (l1)), (2, .inl (l2)), (3, .inl (l3))] rfl (fun z => by cases z) (by decide +kernel) (K := ?_)
  unfold F11_group at H
  refine ev_iload_n (M := T11_group) (pc := 0) 1 dX11_group_0 (k := ?_)
  obtain ⟨q1, hq, H1⟩ := bd_e H
  clear H
  refine ev_callS (M := T11_group) (pc := 1) (mc := 0) (ms := 0) (st := []) (C11_isExchange hq) md_X11_isExchange ss_X11_isExchange ml_X11_91 dX11_group_1 _ (by decide) (K := ?_)
  refine ev_ifeq (M := T11_group) (pc := 4) 25 dX11_group_4 (kt := fun hc => ?_) (kf := fun hc => ?_)
  · replace H1 := if_pe hc H1
    refine ev_lv [] [] (k := ?_)
    exact E11_group_25 q1.2 _ H1
  · replace H1 := if_ne hc H1
    refine ev_iload_n (M := T11_group) (pc := 7) 2 dX11_group_7 (k := ?_)
    refine ev_iconst (M := T11_group) (pc := 8) dX11_group_8 (k := ?_)
    refine ev_iconst (M := T11_group) (pc := 9) dX11_group_9 (k := ?_)
    obtain ⟨q2, hq, H2⟩ := bd_e H1
    clear H1
    refine ev_callS (M := T11_group) (pc := 10) (mc := 0) (ms := 0) (st := []) (C11_isWithin hq) md_X11_isWithin ss_X11_isWithin ml_X11_79 dX11_group_10 _ (by decide) (K := ?_)
    refine ev_ifeq (M := T11_group) (pc := 13) 25 dX11_group_13 (kt := fun hc => ?_) (kf := fun hc => ?_)
    · replace H2 := if_pe hc H2
      refine ev_lv [] [] (k := ?_)
      exact E11_group_25 q2.2 _ H2
    · replace H2 := if_ne hc H2
      refine ev_iload_n (M := T11_group) (pc := 16) 3 dX11_group_16 (k := ?_)
      refine ev_iconst (M := T11_group) (pc := 17) dX11_group_17 (k := ?_)
      refine ev_iconst (M := T11_group) (pc := 18) dX11_group_18 (k := ?_)
      obtain ⟨q3, hq, H3⟩ := bd_e H2
      clear H2
      refine ev_callS (M := T11_group) (pc := 19) (mc := 0) (ms := 0) (st := []) (C11_isWithin hq) md_X11_isWithin ss_X11_isWithin ml_X11_79 dX11_group_19 _ (by decide) (K := ?_)
      refine ev_ifne (M := T11_group) (pc := 22) 28 dX11_group_22 (kt := fun hc => ?_) (kf := fun hc => ?_)
      · replace H3 := if_ne hc H3
        refine ev_aload_n (M := T11_group) (pc := 28) 0 dX11_group_28 (k := ?_)
        refine ev_getR (M := T11_group) (pc := 29) (t := 38) (x := some (38, 0)) fl_X11_11 dX11_group_29 (hx := ry_11_2 _ _) (K := ?_)
        refine ev_iload_n (M := T11_group) (pc := 32) 1 dX11_group_32 (k := ?_)
        obtain ⟨⟨hi0, hi1⟩, H4⟩ := g_e H3
        clear H3
        refine ev_aaload (M := T11_group) (pc := 33) (k := 38) 1 (x := some (1, l1)) hi0 hi1 dX11_group_33 (hc := ac_38) (hlen := ln_38 _ _) (hx := rz_38 _ _ _) (K := ?_)
        refine ev_getR (M := T11_group) (pc := 34) (t := 21) (x := some (21, l1)) fl_X11_118 dX11_group_34 (hx := ry_1_2 _ _) (K := ?_)
        refine ev_iload_n (M := T11_group) (pc := 37) 2 dX11_group_37 (k := ?_)
        obtain ⟨⟨hi0, hi1⟩, H5⟩ := g_e H4
        clear H4
        refine ev_aaload (M := T11_group) (pc := 38) (k := 21) 2 (x := some (2, (3 * l1 + l2))) hi0 hi1 dX11_group_38 (hc := ac_21) (hlen := ln_21 _ _) (hx := rz_21 _ _ _) (K := ?_)
        refine ev_astore (M := T11_group) (pc := 39) [(4, .inr (.inr (some (2, (3 * l1 + l2))))), (0, .inr (.inr (some (11, 0)))), (1, .inl (l1)), (2, .inl (l2)), (3, .inl (l3))] dX11_group_39 (k := ?_)
        refine ev_iload_n (M := T11_group) (pc := 41) 4 dX11_group_41 (k := ?_)
        refine ev_ifne (M := T11_group) (pc := 42) 53 dX11_group_42 (kt := fun hc => ?_) (kf := fun hc => ?_)
        · replace H5 := if_ne hc H5
          refine ev_aload (M := T11_group) (pc := 53) 0 dX11_group_53 (k := ?_)
          refine ev_getI (M := T11_group) (pc := 55) (x := q3.2.1 2 (3 * l1 + l2) 1) fl_X11_122 dX11_group_55 (K := ?_)
          cases H5
          exact ev_ireturn (M := T11_group) (pc := 58) dX11_group_58
        · replace H5 := if_pe hc H5
          refine ev_aload (M := T11_group) (pc := 45) 0 dX11_group_45 (k := ?_)
          refine ev_getI (M := T11_group) (pc := 47) (x := q3.2.1 2 (3 * l1 + l2) 3) fl_X11_254 dX11_group_47 (K := ?_)
          refine ev_goto (M := T11_group) (pc := 50) 58 dX11_group_50 (k := ?_)
          cases H5
          exact ev_ireturn (M := T11_group) (pc := 58) dX11_group_58
      · replace H3 := if_pe hc H3
        refine ev_lv [] [] (k := ?_)
        exact E11_group_25 q3.2 _ H3
-- X11_hang
abbrev T11_hang : JT := (RX11, cX11_hang, 4, none, false)
set_option maxRecDepth 100000 in
set_option maxHeartbeats 4000000 in
theorem E11_hang_68 (l1 : Option Int) (h : JM) (res : JM) (H : F11_hang_68 l1 h = some res) : Ev j_W1 4 0 0 T11_hang 68 [(0, .inr (.inr (some (11, 0)))), (1, .inr (.inr (Option.map (Prod.mk 4) (l1))))] [] h none res := by
  unfold F11_hang_68 at H
  refine ev_aload_n (M := T11_hang) (pc := 68) 1 dX11_hang_68 (k := ?_)
  refine ev_iconst (M := T11_hang) (pc := 69) dX11_hang_69 (k := ?_)
  obtain ⟨a1, ea1, H1⟩ := bd_e H
  clear H
  rw [ea1]
  obtain ⟨h2, eh2, H2⟩ := lt_e H1
  clear H1
  refine ev_putI (M := T11_hang) (pc := 70) j_ok1 fl_X11_435 eh2 dX11_hang_70 (K := ?_)
  refine ev_aload_n (M := T11_hang) (pc := 73) 1 dX11_hang_73 (k := ?_)
  refine ev_aload_n (M := T11_hang) (pc := 74) 0 dX11_hang_74 (k := ?_)
  refine ev_getI (M := T11_hang) (pc := 75) (x := h2.1 11 0 10) fl_X11_177 dX11_hang_75 (K := ?_)
  obtain ⟨h3, eh3, H3⟩ := lt_e H2
  clear H2
  refine ev_putI (M := T11_hang) (pc := 78) j_ok1 fl_X11_438 eh3 dX11_hang_78 (K := ?_)
  cases H3
  exact ev_return (M := T11_hang) (pc := 81) dX11_hang_81
set_option maxRecDepth 100000 in
set_option maxHeartbeats 4000000 in
theorem E11_hang_65 (l1 : Option Int) (s0 : Option Int) (s1 : Option Int) (s2 : Int) (s3 : Int) (h : JM) (res : JM) (H : F11_hang_65 l1 s0 s1 s2 s3 h = some res) : Ev j_W1 4 0 0 T11_hang 65 [(0, .inr (.inr (some (11, 0)))), (1, .inr (.inr (Option.map (Prod.mk 4) (l1))))] [.inl (s3), .inl (s2), .inr (.inr (Option.map (Prod.mk 0) (s1))), .inr (.inr (Option.map (Prod.mk 11) (s0)))] h none res := by
  unfold F11_hang_65 at H
  obtain ⟨a4, ea4, H1⟩ := bd_e H
  clear H
  obtain ⟨hz, H2⟩ := g_e H1
  clear H1
  rw [ea4, hz]
  obtain ⟨h5, hq, H3⟩ := bd_e H2
  clear H2
  refine ev_callV (M := T11_hang) (pc := 65) (mc := 0) (ms := 0) (st := []) (C11_end hq) md_X11_end im_X11_end se_X11_end ml_X11_375 dX11_hang_65 _ (by decide) (K := ?_)
  exact E11_hang_68 l1 h5 _ H3
set_option maxRecDepth 100000 in
set_option maxHeartbeats 4000000 in
theorem E11_hang_44 (l1 : Option Int) (l3 : Option Int) (h : JM) (res : JM) (H : F11_hang_44 l1 l3 h = some res) : Ev j_W1 4 0 0 T11_hang 44 [(0, .inr (.inr (some (11, 0)))), (1, .inr (.inr (Option.map (Prod.mk 4) (l1)))), (3, .inr (.inr (Option.map (Prod.mk 0) (l3))))] [] h none res := by
  unfold F11_hang_44 at H
  refine ev_aload_n (M := T11_hang) (pc := 44) 2 dX11_hang_44 (k := ?_)
  refine ev_nullK (M := T11_hang) (pc := 45) l3 68 dX11_hang_45 (kt := fun hc => ?_) (kf := fun hc => ?_)
  · replace H := if_pe hc H
    refine ev_lv [0, 1] [(0, .inr (.inr (some (11, 0)))), (1, .inr (.inr (Option.map (Prod.mk 4) (l1))))] (k := ?_)
    exact E11_hang_68 l1 h _ H
  · replace H := if_ne hc H
    refine ev_aload_n (M := T11_hang) (pc := 48) 0 dX11_hang_48 (k := ?_)
    refine ev_aload_n (M := T11_hang) (pc := 49) 2 dX11_hang_49 (k := ?_)
    refine ev_bipush (M := T11_hang) (pc := 50) dX11_hang_50 (k := ?_)
    refine ev_aload_n (M := T11_hang) (pc := 52) 2 dX11_hang_52 (k := ?_)
    obtain ⟨a6, ea6, H1⟩ := bd_e H
    clear H
    rw [ea6]
    refine ev_getR (M := T11_hang) (pc := 53) (t := 4) (x := Option.map (Prod.mk 4) (h.2.2 0 a6 1)) fl_X11_223 dX11_hang_53 (hx := ry_0_1 _ _) (K := ?_)
    refine ev_aload_n (M := T11_hang) (pc := 56) 1 dX11_hang_56 (k := ?_)
    refine ev_acmpneK (M := T11_hang) (pc := 57) (h.2.2 0 a6 1) l1 64 dX11_hang_57 (kt := fun hc => ?_) (kf := fun hc => ?_)
    · replace H1 := if_ne hc H1
      refine ev_iconst (M := T11_hang) (pc := 64) dX11_hang_64 (k := ?_)
      refine ev_lv [0, 1] [(0, .inr (.inr (some (11, 0)))), (1, .inr (.inr (Option.map (Prod.mk 4) (l1))))] (k := ?_)
      exact E11_hang_65 l1 (some 0) (some a6) 7 2 h _ H1
    · replace H1 := if_pe hc H1
      refine ev_iconst (M := T11_hang) (pc := 60) dX11_hang_60 (k := ?_)
      refine ev_goto (M := T11_hang) (pc := 61) 65 dX11_hang_61 (k := ?_)
      refine ev_lv [0, 1] [(0, .inr (.inr (some (11, 0)))), (1, .inr (.inr (Option.map (Prod.mk 4) (l1))))] (k := ?_)
      exact E11_hang_65 l1 (some 0) (some a6) 7 1 h _ H1
set_option maxRecDepth 100000 in
set_option maxHeartbeats 4000000 in
theorem E11_hang_41 (l1 : Option Int) (l3 : Option Int) (s0 : Option Int) (s1 : Option Int) (s2 : Int) (s3 : Int) (h : JM) (res : JM) (H : F11_hang_41 l1 l3 s0 s1 s2 s3 h = some res) : Ev j_W1 4 0 0 T11_hang 41 [(0, .inr (.inr (some (11, 0)))), (1, .inr (.inr (Option.map (Prod.mk 4) (l1)))), (3, .inr (.inr (Option.map (Prod.mk 0) (l3))))] [.inl (s3), .inl (s2), .inr (.inr (Option.map (Prod.mk 0) (s1))), .inr (.inr (Option.map (Prod.mk 11) (s0)))] h none res := by
  unfold F11_hang_41 at H
  obtain ⟨a7, ea7, H1⟩ := bd_e H
  clear H
  obtain ⟨hz, H2⟩ := g_e H1
  clear H1
  rw [ea7, hz]
  obtain ⟨h8, hq, H3⟩ := bd_e H2
  clear H2
  refine ev_callV (M := T11_hang) (pc := 41) (mc := 0) (ms := 0) (st := []) (C11_end hq) md_X11_end im_X11_end se_X11_end ml_X11_375 dX11_hang_41 _ (by decide) (K := ?_)
  exact E11_hang_44 l1 l3 h8 _ H3
set_option maxRecDepth 100000 in
set_option maxHeartbeats 4000000 in
theorem C11_hang {l1 : Option Int} {h : JM} {res : JM} (H : F11_hang l1 h = some res) : Cn j_W1 4 0 0 yX11_hang cX11_hang 4 none [.inr (.inr (some (11, 0))), .inr (.inr (Option.map (Prod.mk 4) (l1)))] h none res := by
  refine Cn.by (own := RX11) (b := false) [(0, .inr (.inr (some (11, 0)))), (1, .inr (.inr (Option.map (Prod.mk 4) (l1))))] rfl (fun z => by cases z) (by decide +kernel) (K := ?_)
  unfold F11_hang at H
  refine ev_aload_n (M := T11_hang) (pc := 0) 1 dX11_hang_0 (k := ?_)
  obtain ⟨a9, ea9, H1⟩ := bd_e H
  clear H
  rw [ea9]
  refine ev_getR (M := T11_hang) (pc := 1) (t := 0) (x := Option.map (Prod.mk 0) (h.2.2 4 a9 11)) fl_X11_206 dX11_hang_1 (hx := ry_4_11 _ _) (K := ?_)
  refine ev_astore_n (M := T11_hang) (pc := 4) [(2, .inr (.inr (Option.map (Prod.mk 0) (h.2.2 4 a9 11)))), (0, .inr (.inr (some (11, 0)))), (1, .inr (.inr (some (4, a9))))] dX11_hang_4 (k := ?_)
  refine ev_aload_n (M := T11_hang) (pc := 5) 2 dX11_hang_5 (k := ?_)
  refine ev_getR (M := T11_hang) (pc := 6) (t := 0) (x := Option.map (Prod.mk 0) (h.2.2 4 a9 12)) fl_X11_213 dX11_hang_6 (hx := ry_4_12 _ _) (K := ?_)
  refine ev_astore_n (M := T11_hang) (pc := 9) [(3, .inr (.inr (Option.map (Prod.mk 0) (h.2.2 4 a9 12)))), (2, .inr (.inr (Option.map (Prod.mk 0) (h.2.2 4 a9 11)))), (0, .inr (.inr (some (11, 0)))), (1, .inr (.inr (some (4, a9))))] dX11_hang_9 (k := ?_)
  refine ev_aload_n (M := T11_hang) (pc := 10) 3 dX11_hang_10 (k := ?_)
  refine ev_null (M := T11_hang) (pc := 11) dX11_hang_11 (k := ?_)
  obtain ⟨h10, eh10, H2⟩ := lt_e H1
  clear H1
  refine ev_putR (M := T11_hang) (pc := 12) (t := 0) j_ok1 none fl_X11_206 eh10 (hdg := dX11_hang_12) (hly := rl_4_11 _) (K := ?_)
  refine ev_aload_n (M := T11_hang) (pc := 15) 3 dX11_hang_15 (k := ?_)
  refine ev_null (M := T11_hang) (pc := 16) dX11_hang_16 (k := ?_)
  obtain ⟨h11, eh11, H3⟩ := lt_e H2
  clear H2
  refine ev_putR (M := T11_hang) (pc := 17) (t := 0) j_ok1 none fl_X11_213 eh11 (hdg := dX11_hang_17) (hly := rl_4_12 _) (K := ?_)
  refine ev_aload_n (M := T11_hang) (pc := 20) 1 dX11_hang_20 (k := ?_)
  refine ev_nullK (M := T11_hang) (pc := 21) (h.2.2 4 a9 11) 44 dX11_hang_21 (kt := fun hc => ?_) (kf := fun hc => ?_)
  · replace H3 := if_pe hc H3
    refine ev_lv [2, 3, 0] [(0, .inr (.inr (some (11, 0)))), (1, .inr (.inr (some (4, a9)))), (3, .inr (.inr (Option.map (Prod.mk 0) (h.2.2 4 a9 12))))] (k := ?_)
    exact E11_hang_44 (some a9) (h.2.2 4 a9 12) h11 _ H3
  · replace H3 := if_ne hc H3
    refine ev_aload_n (M := T11_hang) (pc := 24) 2 dX11_hang_24 (k := ?_)
    refine ev_aload_n (M := T11_hang) (pc := 25) 1 dX11_hang_25 (k := ?_)
    refine ev_bipush (M := T11_hang) (pc := 26) dX11_hang_26 (k := ?_)
    refine ev_aload_n (M := T11_hang) (pc := 28) 1 dX11_hang_28 (k := ?_)
    obtain ⟨a12, ea12, H4⟩ := bd_e H3
    clear H3
    rw [ea12]
    refine ev_getR (M := T11_hang) (pc := 29) (t := 4) (x := Option.map (Prod.mk 4) (h11.2.2 0 a12 1)) fl_X11_223 dX11_hang_29 (hx := ry_0_1 _ _) (K := ?_)
    refine ev_aload_n (M := T11_hang) (pc := 32) 3 dX11_hang_32 (k := ?_)
    refine ev_acmpneK (M := T11_hang) (pc := 33) (h11.2.2 0 a12 1) (some a9) 40 dX11_hang_33 (kt := fun hc => ?_) (kf := fun hc => ?_)
    · replace H4 := if_ne hc H4
      refine ev_iconst (M := T11_hang) (pc := 40) dX11_hang_40 (k := ?_)
      refine ev_lv [2, 3, 0] [(0, .inr (.inr (some (11, 0)))), (1, .inr (.inr (some (4, a9)))), (3, .inr (.inr (Option.map (Prod.mk 0) (h.2.2 4 a9 12))))] (k := ?_)
      exact E11_hang_41 (some a9) (h.2.2 4 a9 12) (some 0) (some a12) 7 2 h11 _ H4
    · replace H4 := if_pe hc H4
      refine ev_iconst (M := T11_hang) (pc := 36) dX11_hang_36 (k := ?_)
      refine ev_goto (M := T11_hang) (pc := 37) 41 dX11_hang_37 (k := ?_)
      refine ev_lv [2, 3, 0] [(0, .inr (.inr (some (11, 0)))), (1, .inr (.inr (some (4, a9)))), (3, .inr (.inr (Option.map (Prod.mk 0) (h.2.2 4 a9 12))))] (k := ?_)
      exact E11_hang_41 (some a9) (h.2.2 4 a9 12) (some 0) (some a12) 7 1 h11 _ H4
-- X11_heard
abbrev T11_heard : JT := (RX11, cX11_heard, 2, some .int, false)
set_option maxRecDepth 100000 in
set_option maxHeartbeats 4000000 in
theorem C11_heard {l1 : Int} {h : JM} {res : (Int × JM)} (H : F11_heard l1 h = some res) : Cn j_W1 2 0 0 yX11_heard cX11_heard 2 (some .int) [.inr (.inr (some (11, 0))), .inl (l1)] h (some (.inl res.1)) res.2 := by
  refine Cn.by (own := RX11) (b := false) [(0, .inr (.inr (some (11, 0)))), (1, .inl (l1))] rfl (fun z => by cases z) (by decide +kernel) (K := ?_)
  unfold F11_heard at H
  refine ev_iload_n (M := T11_heard) (pc := 0) 1 dX11_heard_0 (k := ?_)
  obtain ⟨q1, hq, H1⟩ := bd_e H
  clear H
  refine ev_callS (M := T11_heard) (pc := 1) (mc := 0) (ms := 0) (st := []) (C11_isLine hq) md_X11_isLine ss_X11_isLine ml_X11_115 dX11_heard_1 _ (by decide) (K := ?_)
  refine ev_ifeq (M := T11_heard) (pc := 4) 19 dX11_heard_4 (kt := fun hc => ?_) (kf := fun hc => ?_)
  · replace H1 := if_pe hc H1
    refine ev_bipush (M := T11_heard) (pc := 19) dX11_heard_19 (k := ?_)
    cases H1
    exact ev_ireturn (M := T11_heard) (pc := 21) dX11_heard_21
  · replace H1 := if_ne hc H1
    refine ev_aload_n (M := T11_heard) (pc := 7) 0 dX11_heard_7 (k := ?_)
    refine ev_getR (M := T11_heard) (pc := 8) (t := 39) (x := some (39, 0)) fl_X11_17 dX11_heard_8 (hx := ry_11_3 _ _) (K := ?_)
    refine ev_iload_n (M := T11_heard) (pc := 11) 1 dX11_heard_11 (k := ?_)
    obtain ⟨⟨hi0, hi1⟩, H2⟩ := g_e H1
    clear H1
    refine ev_aaload (M := T11_heard) (pc := 12) (k := 39) 4 (x := some (4, l1)) hi0 hi1 dX11_heard_12 (hc := ac_39) (hlen := ln_39 _ _) (hx := rz_39 _ _ _) (K := ?_)
    refine ev_getI (M := T11_heard) (pc := 13) (x := q1.2.1 4 l1 19) fl_X11_243 dX11_heard_13 (K := ?_)
    refine ev_goto (M := T11_heard) (pc := 16) 21 dX11_heard_16 (k := ?_)
    cases H2
    exact ev_ireturn (M := T11_heard) (pc := 21) dX11_heard_21
