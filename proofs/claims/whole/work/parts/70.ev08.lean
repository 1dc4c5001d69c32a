-- X11_flash
abbrev T11_flash : JT := (RX11, cX11_flash, 3, none, false)
set_option maxRecDepth 100000 in
set_option maxHeartbeats 4000000 in
theorem C11_flash {l1 : Option Int} {h : JM} {res : JM} (H : F11_flash l1 h = some res) : Cn j_W1 5 0 0 yX11_flash cX11_flash 3 none [.inr (.inr (some (11, 0))), .inr (.inr (Option.map (Prod.mk 4) (l1)))] h none res := by
  refine Cn.by (own := RX11) (b := false) [(0, .inr (.inr (some (11, 0)))), (1, .inr (.inr (Option.map (Prod.mk 4) (l1))))] rfl (fun z => by cases z) (by decide +kernel) (K := ?_)
  unfold F11_flash at H
  refine ev_aload_n 1 dX11_flash_0 (k := ?_)
  obtain ⟨a1, ea1, H1⟩ := bd_e H
  clear H
  rw [ea1]
  refine ev_getR (t := 0) (x := Option.map (Prod.mk 0) (h.2.2 4 a1 12)) fl_X11_213 dX11_flash_1 (hx := ry_4_12 _ _) (K := ?_)
  refine ev_astore_n [(2, .inr (.inr (Option.map (Prod.mk 0) (h.2.2 4 a1 12)))), (0, .inr (.inr (some (11, 0)))), (1, .inr (.inr (some (4, a1))))] dX11_flash_4 (k := ?_)
  refine ev_aload_n 0 dX11_flash_5 (k := ?_)
  refine ev_nonnullK (h.2.2 4 a1 12) 10 dX11_flash_6 (kt := fun hc => ?_) (kf := fun hc => ?_)
  · replace H1 := if_ne hc H1
    refine ev_aload_n 2 dX11_flash_10 (k := ?_)
    refine ev_aload_n 2 dX11_flash_11 (k := ?_)
    refine ev_getR (t := 0) (x := Option.map (Prod.mk 0) (h.2.2 4 a1 11)) fl_X11_206 dX11_flash_12 (hx := ry_4_11 _ _) (K := ?_)
    obtain ⟨h2, eh2, H2⟩ := lt_e H1
    clear H1
    refine ev_putR (t := 0) j_ok1 (h.2.2 4 a1 11) fl_X11_213 eh2 (hdg := dX11_flash_15) (hly := rl_4_12 _) (K := ?_)
    refine ev_aload_n 2 dX11_flash_18 (k := ?_)
    refine ev_aload_n 0 dX11_flash_19 (k := ?_)
    obtain ⟨h3, eh3, H3⟩ := lt_e H2
    clear H2
    refine ev_putR (t := 0) j_ok1 (h.2.2 4 a1 12) fl_X11_206 eh3 (hdg := dX11_flash_20) (hly := rl_4_11 _) (K := ?_)
    refine ev_aload_n 0 dX11_flash_23 (k := ?_)
    obtain ⟨a4, ea4, H4⟩ := bd_e H3
    clear H3
    rw [ea4]
    refine ev_getI (x := h3.1 0 a4 9) fl_X11_210 dX11_flash_24 (K := ?_)
    refine ev_iconst dX11_flash_27 (k := ?_)
    refine ev_icmpne 41 dX11_flash_28 (kt := fun hc => ?_) (kf := fun hc => ?_)
    · replace H4 := if_ne hc H4
      cases H4
      exact ev_return dX11_flash_41
    · replace H4 := if_pe hc H4
      refine ev_aload_n 1 dX11_flash_31 (k := ?_)
      refine ev_aload_n 0 dX11_flash_32 (k := ?_)
      refine ev_aload_n 1 dX11_flash_33 (k := ?_)
      refine ev_aload_n 0 dX11_flash_34 (k := ?_)
      obtain ⟨q5, hq, H5⟩ := bd_e H4
      clear H4
      refine ev_callV (mc := 0) (ms := 0) (st := [.inr (.inr (some (0, a4))), .inr (.inr (some (11, 0)))]) (C11_answer hq) md_X11_answer im_X11_answer se_X11_answer ml_X11_390 dX11_flash_35 _ (by decide) (K := ?_)
      obtain ⟨h6, hq, H6⟩ := bd_e H5
      clear H5
      refine ev_callV (mc := 0) (ms := 0) (st := []) (C11_endIf hq) md_X11_endIf im_X11_endIf se_X11_endIf ml_X11_394 dX11_flash_38 _ (by decide) (K := ?_)
      cases H6
      exact ev_return dX11_flash_41
  · replace H1 := if_pe hc H1
    cases H1
    exact ev_return dX11_flash_9
-- X11_forward
abbrev T11_forward : JT := (RX11, cX11_forward, 3, some .int, false)
set_option maxRecDepth 100000 in
set_option maxHeartbeats 4000000 in
theorem E11_forward_16 (h : JM) (res : (Int × JM)) (H : F11_forward_16 h = some res) : Ev j_W1 2 0 0 T11_forward 16 [] [] h (some (.inl res.1)) res.2 := by
  unfold F11_forward_16 at H
  refine ev_bipush dX11_forward_16 (k := ?_)
  cases H
  exact ev_ireturn dX11_forward_18
set_option maxRecDepth 100000 in
set_option maxHeartbeats 4000000 in
theorem C11_forward {l1 : Int} {l2 : Int} {h : JM} {res : (Int × JM)} (H : F11_forward l1 l2 h = some res) : Cn j_W1 2 0 0 yX11_forward cX11_forward 3 (some .int) [.inr (.inr (some (11, 0))), .inl (l1), .inl (l2)] h (some (.inl res.1)) res.2 := by
  refine Cn.by (own := RX11) (b := false) [(0, .inr (.inr (some (11, 0)))), (1, .inl (l1)), (2, .inl (l2))] rfl (fun z => by cases z) (by decide +kernel) (K := ?_)
  unfold F11_forward at H
  refine ev_iload_n 1 dX11_forward_0 (k := ?_)
  obtain ⟨q1, hq, H1⟩ := bd_e H
  clear H
  refine ev_callS (mc := 0) (ms := 0) (st := []) (C11_isLine hq) md_X11_isLine ss_X11_isLine ml_X11_115 dX11_forward_1 _ (by decide) (K := ?_)
  refine ev_ifeq 16 dX11_forward_4 (kt := fun hc => ?_) (kf := fun hc => ?_)
  · replace H1 := if_pe hc H1
    refine ev_lv [] [] (k := ?_)
    exact E11_forward_16 q1.2 _ H1
  · replace H1 := if_ne hc H1
    refine ev_iload_n 2 dX11_forward_7 (k := ?_)
    refine ev_iconst dX11_forward_8 (k := ?_)
    refine ev_iconst dX11_forward_9 (k := ?_)
    obtain ⟨q2, hq, H2⟩ := bd_e H1
    clear H1
    refine ev_callS (mc := 0) (ms := 0) (st := []) (C11_isWithin hq) md_X11_isWithin ss_X11_isWithin ml_X11_79 dX11_forward_10 _ (by decide) (K := ?_)
    refine ev_ifne 19 dX11_forward_13 (kt := fun hc => ?_) (kf := fun hc => ?_)
    · replace H2 := if_ne hc H2
      refine ev_aload_n 0 dX11_forward_19 (k := ?_)
      refine ev_getR (t := 39) (x := some (39, 0)) fl_X11_17 dX11_forward_20 (hx := ry_11_3 _ _) (K := ?_)
      refine ev_iload_n 1 dX11_forward_23 (k := ?_)
      obtain ⟨⟨hi0, hi1⟩, H3⟩ := g_e H2
      clear H2
      refine ev_aaload (k := 39) 4 (x := some (4, l1)) hi0 hi1 dX11_forward_24 (hc := ac_39) (hlen := ln_39 _ _) (hx := rz_39 _ _ _) (K := ?_)
      refine ev_getR (t := 29) (x := some (29, l1)) fl_X11_141 dX11_forward_25 (hx := ry_4_2 _ _) (K := ?_)
      refine ev_iload_n 2 dX11_forward_28 (k := ?_)
      refine ev_aload_n 0 dX11_forward_29 (k := ?_)
      refine ev_getL (x := q2.2.2.1 11 0 9) fl_X11_51 dX11_forward_30 (K := ?_)
      obtain ⟨⟨hi0, hi1⟩, H4⟩ := g_e H3
      clear H3
      obtain ⟨h3, eh3, H5⟩ := lt_e H4
      clear H4
      refine ev_lastore (k := 29) j_ok1 hi0 hi1 eh3 dX11_forward_33 (hc := ac_29) (hlen := ln_29 _ _) (K := ?_)
      refine ev_aload_n 0 dX11_forward_34 (k := ?_)
      refine ev_lconst (v := 0) dX11_forward_35 (k := ?_)
      obtain ⟨h4, eh4, H6⟩ := lt_e H5
      clear H5
      refine ev_putL j_ok1 fl_X11_51 eh4 dX11_forward_36 (K := ?_)
      refine ev_iconst dX11_forward_39 (k := ?_)
      cases H6
      exact ev_ireturn dX11_forward_40
    · replace H2 := if_pe hc H2
      refine ev_lv [] [] (k := ?_)
      exact E11_forward_16 q2.2 _ H2
-- X11_group
abbrev T11_group : JT := (RX11, cX11_group, 5, some .int, false)
set_option maxRecDepth 100000 in
set_option maxHeartbeats 4000000 in
theorem E11_group_25 (h : JM) (res : (Int × JM)) (H : F11_group_25 h = some res) : Ev j_W1 2 0 0 T11_group 25 [] [] h (some (.inl res.1)) res.2 := by
  unfold F11_group_25 at H
  refine ev_bipush dX11_group_25 (k := ?_)
  cases H
  exact ev_ireturn dX11_group_27
set_option maxRecDepth 100000 in
set_option maxHeartbeats 4000000 in
theorem C11_group {l1 : Int} {l2 : Int} {l3 : Int} {h : JM} {res : (Int × JM)} (H : F11_group l1 l2 l3 h = some res) : Cn j_W1 2 0 0 yX11_group cX11_group 5 (some .int) [.inr (.inr (some (11, 0))), .inl (l1), .inl (l2), .inl (l3)] h (some (.inl res.1)) res.2 := by
  refine Cn.by (own := RX11) (b := false) [(0, .inr (.inr (some (11, 0)))), (1, .inl (l1)), (2, .inl (l2)), (3, .inl (l3))] rfl (fun z => by cases z) (by decide +kernel) (K := ?_)
  unfold F11_group at H
  refine ev_iload_n 1 dX11_group_0 (k := ?_)
  obtain ⟨q1, hq, H1⟩ := bd_e H
  clear H
  refine ev_callS (mc := 0) (ms := 0) (st := []) (C11_isExchange hq) md_X11_isExchange ss_X11_isExchange ml_X11_91 dX11_group_1 _ (by decide) (K := ?_)
  refine ev_ifeq 25 dX11_group_4 (kt := fun hc => ?_) (kf := fun hc => ?_)
  · replace H1 := if_pe hc H1
    refine ev_lv [] [] (k := ?_)
    exact E11_group_25 q1.2 _ H1
  · replace H1 := if_ne hc H1
    refine ev_iload_n 2 dX11_group_7 (k := ?_)
    refine ev_iconst dX11_group_8 (k := ?_)
    refine ev_iconst dX11_group_9 (k := ?_)
    obtain ⟨q2, hq, H2⟩ := bd_e H1
    clear H1
    refine ev_callS (mc := 0) (ms := 0) (st := []) (C11_isWithin hq) md_X11_isWithin ss_X11_isWithin ml_X11_79 dX11_group_10 _ (by decide) (K := ?_)
    refine ev_ifeq 25 dX11_group_13 (kt := fun hc => ?_) (kf := fun hc => ?_)
    · replace H2 := if_pe hc H2
      refine ev_lv [] [] (k := ?_)
      exact E11_group_25 q2.2 _ H2
    · replace H2 := if_ne hc H2
      refine ev_iload_n 3 dX11_group_16 (k := ?_)
      refine ev_iconst dX11_group_17 (k := ?_)
      refine ev_iconst dX11_group_18 (k := ?_)
      obtain ⟨q3, hq, H3⟩ := bd_e H2
      clear H2
      refine ev_callS (mc := 0) (ms := 0) (st := []) (C11_isWithin hq) md_X11_isWithin ss_X11_isWithin ml_X11_79 dX11_group_19 _ (by decide) (K := ?_)
      refine ev_ifne 28 dX11_group_22 (kt := fun hc => ?_) (kf := fun hc => ?_)
      · replace H3 := if_ne hc H3
        refine ev_aload_n 0 dX11_group_28 (k := ?_)
        refine ev_getR (t := 38) (x := some (38, 0)) fl_X11_11 dX11_group_29 (hx := ry_11_2 _ _) (K := ?_)
        refine ev_iload_n 1 dX11_group_32 (k := ?_)
        obtain ⟨⟨hi0, hi1⟩, H4⟩ := g_e H3
        clear H3
        refine ev_aaload (k := 38) 1 (x := some (1, l1)) hi0 hi1 dX11_group_33 (hc := ac_38) (hlen := ln_38 _ _) (hx := rz_38 _ _ _) (K := ?_)
        refine ev_getR (t := 21) (x := some (21, l1)) fl_X11_118 dX11_group_34 (hx := ry_1_2 _ _) (K := ?_)
        refine ev_iload_n 2 dX11_group_37 (k := ?_)
        obtain ⟨⟨hi0, hi1⟩, H5⟩ := g_e H4
        clear H4
        refine ev_aaload (k := 21) 2 (x := some (2, (3 * l1 + l2))) hi0 hi1 dX11_group_38 (hc := ac_21) (hlen := ln_21 _ _) (hx := rz_21 _ _ _) (K := ?_)
        refine ev_astore [(4, .inr (.inr (some (2, (3 * l1 + l2))))), (0, .inr (.inr (some (11, 0)))), (1, .inl (l1)), (2, .inl (l2)), (3, .inl (l3))] dX11_group_39 (k := ?_)
        refine ev_iload_n 4 dX11_group_41 (k := ?_)
        refine ev_ifne 53 dX11_group_42 (kt := fun hc => ?_) (kf := fun hc => ?_)
        · replace H5 := if_ne hc H5
          refine ev_aload 0 dX11_group_53 (k := ?_)
          refine ev_getI (x := q3.2.1 2 (3 * l1 + l2) 1) fl_X11_122 dX11_group_55 (K := ?_)
          cases H5
          exact ev_ireturn dX11_group_58
        · replace H5 := if_pe hc H5
          refine ev_aload 0 dX11_group_45 (k := ?_)
          refine ev_getI (x := q3.2.1 2 (3 * l1 + l2) 3) fl_X11_254 dX11_group_47 (K := ?_)
          refine ev_goto 58 dX11_group_50 (k := ?_)
          cases H5
          exact ev_ireturn dX11_group_58
      · replace H3 := if_pe hc H3
        refine ev_lv [] [] (k := ?_)
        exact E11_group_25 q3.2 _ H3
-- X11_hang
abbrev T11_hang : JT := (RX11, cX11_hang, 4, none, false)
set_option maxRecDepth 100000 in
set_option maxHeartbeats 4000000 in
theorem E11_hang_68 (l1 : Option Int) (h : JM) (res : JM) (H : F11_hang_68 l1 h = some res) : Ev j_W1 4 0 0 T11_hang 68 [(0, .inr (.inr (some (11, 0)))), (1, .inr (.inr (Option.map (Prod.mk 4) (l1))))] [] h none res := by
  unfold F11_hang_68 at H
  refine ev_aload_n 1 dX11_hang_68 (k := ?_)
  refine ev_iconst dX11_hang_69 (k := ?_)
  obtain ⟨a1, ea1, H1⟩ := bd_e H
  clear H
  rw [ea1]
  obtain ⟨h2, eh2, H2⟩ := lt_e H1
  clear H1
  refine ev_putI j_ok1 fl_X11_435 eh2 dX11_hang_70 (K := ?_)
  refine ev_aload_n 1 dX11_hang_73 (k := ?_)
  refine ev_aload_n 0 dX11_hang_74 (k := ?_)
  refine ev_getI (x := h2.1 11 0 10) fl_X11_177 dX11_hang_75 (K := ?_)
  obtain ⟨h3, eh3, H3⟩ := lt_e H2
  clear H2
  refine ev_putI j_ok1 fl_X11_438 eh3 dX11_hang_78 (K := ?_)
  cases H3
  exact ev_return dX11_hang_81
set_option maxRecDepth 100000 in
set_option maxHeartbeats 4000000 in
theorem E11_hang_65 (l1 : Option Int) (s0 : Option Int) (s1 : Option Int) (s2 : Int) (s3 : Int) (h : JM) (res : JM) (H : F11_hang_65 l1 s0 s1 s2 s3 h = some res) : Ev j_W1 4 0 0 T11_hang 65 [(0, .inr (.inr (some (11, 0)))), (1, .inr (.inr (Option.map (Prod.mk 4) (l1))))] [.inl (s3), .inl (s2), .inr (.inr (Option.map (Prod.mk 0) (s1))), .inr (.inr (Option.map (Prod.mk 11) (s0)))] h none res := by
  unfold F11_hang_65 at H
  obtain ⟨a4, ea4, H1⟩ := bd_e H
  clear H
  obtain ⟨hz, H2⟩ := g_e H1
  clear H1
  rw [ea4, hz]
  obtain ⟨h5, hq, H3⟩ := bd_e H2
  clear H2
  refine ev_callV (mc := 0) (ms := 0) (st := []) (C11_end hq) md_X11_end im_X11_end se_X11_end ml_X11_375 dX11_hang_65 _ (by decide) (K := ?_)
  exact E11_hang_68 l1 h5 _ H3
set_option maxRecDepth 100000 in
set_option maxHeartbeats 4000000 in
theorem E11_hang_44 (l1 : Option Int) (l3 : Option Int) (h : JM) (res : JM) (H : F11_hang_44 l1 l3 h = some res) : Ev j_W1 4 0 0 T11_hang 44 [(0, .inr (.inr (some (11, 0)))), (1, .inr (.inr (Option.map (Prod.mk 4) (l1)))), (3, .inr (.inr (Option.map (Prod.mk 0) (l3))))] [] h none res := by
  unfold F11_hang_44 at H
  refine ev_aload_n 2 dX11_hang_44 (k := ?_)
  refine ev_nullK l3 68 dX11_hang_45 (kt := fun hc => ?_) (kf := fun hc => ?_)
  · replace H := if_pe hc H
    refine ev_lv [0, 1] [(0, .inr (.inr (some (11, 0)))), (1, .inr (.inr (Option.map (Prod.mk 4) (l1))))] (k := ?_)
    exact E11_hang_68 l1 h _ H
  · replace H := if_ne hc H
    refine ev_aload_n 0 dX11_hang_48 (k := ?_)
    refine ev_aload_n 2 dX11_hang_49 (k := ?_)
    refine ev_bipush dX11_hang_50 (k := ?_)
    refine ev_aload_n 2 dX11_hang_52 (k := ?_)
    obtain ⟨a6, ea6, H1⟩ := bd_e H
    clear H
    rw [ea6]
    refine ev_getR (t := 4) (x := Option.map (Prod.mk 4) (h.2.2 0 a6 1)) fl_X11_223 dX11_hang_53 (hx := ry_0_1 _ _) (K := ?_)
    refine ev_aload_n 1 dX11_hang_56 (k := ?_)
    refine ev_acmpneK (h.2.2 0 a6 1) l1 64 dX11_hang_57 (kt := fun hc => ?_) (kf := fun hc => ?_)
    · replace H1 := if_ne hc H1
      refine ev_iconst dX11_hang_64 (k := ?_)
      refine ev_lv [0, 1] [(0, .inr (.inr (some (11, 0)))), (1, .inr (.inr (Option.map (Prod.mk 4) (l1))))] (k := ?_)
      exact E11_hang_65 l1 (some 0) (some a6) 7 2 h _ H1
    · replace H1 := if_pe hc H1
      refine ev_iconst dX11_hang_60 (k := ?_)
      refine ev_goto 65 dX11_hang_61 (k := ?_)
      refine ev_lv [0, 1] [(0, .inr (.inr (some (11, 0)))), (1, .inr (.inr (Option.map (Prod.mk 4) (l1))))] (k := ?_)
      exact E11_hang_65 l1 (some 0) (some a6) 7 1 h _ H1
set_option maxRecDepth 100000 in
set_option maxHeartbeats 4000000 in
theorem E11_hang_41 (l1 : Option Int) (l3 : Option Int) (s0 : Option Int) (s1 : Option Int) (s2 : Int) (s3 : Int) (h : JM) (res : JM) (H : F11_hang_41 l1 l3 s0 s1 s2 s3 h = some res) : Ev j_W1 4 0 0 T11_hang 41 [(0, .inr (.inr (some (11, 0)))), (1, .inr (.inr (Option.map (Prod.mk 4) (l1)))), (3, .inr (.inr (Option.map (Prod.mk 0) (l3))))] [.inl (s3), .inl (s2), .inr (.inr (Option.map (Prod.mk 0) (s1))), .inr (.inr (Option.map (Prod.mk 11) (s0)))] h none res := by
  unfold F11_hang_41 at H
  obtain ⟨a7, ea7, H1⟩ := bd_e H
  clear H
  obtain ⟨hz, H2⟩ := g_e H1
  clear H1
  rw [ea7, hz]
  obtain ⟨h8, hq, H3⟩ := bd_e H2
  clear H2
  refine ev_callV (mc := 0) (ms := 0) (st := []) (C11_end hq) md_X11_end im_X11_end se_X11_end ml_X11_375 dX11_hang_41 _ (by decide) (K := ?_)
  exact E11_hang_44 l1 l3 h8 _ H3
set_option maxRecDepth 100000 in
set_option maxHeartbeats 4000000 in
theorem C11_hang {l1 : Option Int} {h : JM} {res : JM} (H : F11_hang l1 h = some res) : Cn j_W1 4 0 0 yX11_hang cX11_hang 4 none [.inr (.inr (some (11, 0))), .inr (.inr (Option.map (Prod.mk 4) (l1)))] h none res := by
  refine Cn.by (own := RX11) (b := false) [(0, .inr (.inr (some (11, 0)))), (1, .inr (.inr (Option.map (Prod.mk 4) (l1))))] rfl (fun z => by cases z) (by decide +kernel) (K := ?_)
  unfold F11_hang at H
  refine ev_aload_n 1 dX11_hang_0 (k := ?_)
  obtain ⟨a9, ea9, H1⟩ := bd_e H
  clear H
  rw [ea9]
  refine ev_getR (t := 0) (x := Option.map (Prod.mk 0) (h.2.2 4 a9 11)) fl_X11_206 dX11_hang_1 (hx := ry_4_11 _ _) (K := ?_)
  refine ev_astore_n [(2, .inr (.inr (Option.map (Prod.mk 0) (h.2.2 4 a9 11)))), (0, .inr (.inr (some (11, 0)))), (1, .inr (.inr (some (4, a9))))] dX11_hang_4 (k := ?_)
  refine ev_aload_n 2 dX11_hang_5 (k := ?_)
  refine ev_getR (t := 0) (x := Option.map (Prod.mk 0) (h.2.2 4 a9 12)) fl_X11_213 dX11_hang_6 (hx := ry_4_12 _ _) (K := ?_)
  refine ev_astore_n [(3, .inr (.inr (Option.map (Prod.mk 0) (h.2.2 4 a9 12)))), (2, .inr (.inr (Option.map (Prod.mk 0) (h.2.2 4 a9 11)))), (0, .inr (.inr (some (11, 0)))), (1, .inr (.inr (some (4, a9))))] dX11_hang_9 (k := ?_)
  refine ev_aload_n 3 dX11_hang_10 (k := ?_)
  refine ev_null dX11_hang_11 (k := ?_)
  obtain ⟨h10, eh10, H2⟩ := lt_e H1
  clear H1
  refine ev_putR (t := 0) j_ok1 none fl_X11_206 eh10 (hdg := dX11_hang_12) (hly := rl_4_11 _) (K := ?_)
  refine ev_aload_n 3 dX11_hang_15 (k := ?_)
  refine ev_null dX11_hang_16 (k := ?_)
  obtain ⟨h11, eh11, H3⟩ := lt_e H2
  clear H2
  refine ev_putR (t := 0) j_ok1 none fl_X11_213 eh11 (hdg := dX11_hang_17) (hly := rl_4_12 _) (K := ?_)
  refine ev_aload_n 1 dX11_hang_20 (k := ?_)
  refine ev_nullK (h.2.2 4 a9 11) 44 dX11_hang_21 (kt := fun hc => ?_) (kf := fun hc => ?_)
  · replace H3 := if_pe hc H3
    refine ev_lv [2, 3, 0] [(0, .inr (.inr (some (11, 0)))), (1, .inr (.inr (some (4, a9)))), (3, .inr (.inr (Option.map (Prod.mk 0) (h.2.2 4 a9 12))))] (k := ?_)
    exact E11_hang_44 (some a9) (h.2.2 4 a9 12) h11 _ H3
  · replace H3 := if_ne hc H3
    refine ev_aload_n 2 dX11_hang_24 (k := ?_)
    refine ev_aload_n 1 dX11_hang_25 (k := ?_)
    refine ev_bipush dX11_hang_26 (k := ?_)
    refine ev_aload_n 1 dX11_hang_28 (k := ?_)
    obtain ⟨a12, ea12, H4⟩ := bd_e H3
    clear H3
    rw [ea12]
    refine ev_getR (t := 4) (x := Option.map (Prod.mk 4) (h11.2.2 0 a12 1)) fl_X11_223 dX11_hang_29 (hx := ry_0_1 _ _) (K := ?_)
    refine ev_aload_n 3 dX11_hang_32 (k := ?_)
    refine ev_acmpneK (h11.2.2 0 a12 1) (some a9) 40 dX11_hang_33 (kt := fun hc => ?_) (kf := fun hc => ?_)
    · replace H4 := if_ne hc H4
      refine ev_iconst dX11_hang_40 (k := ?_)
      refine ev_lv [2, 3, 0] [(0, .inr (.inr (some (11, 0)))), (1, .inr (.inr (some (4, a9)))), (3, .inr (.inr (Option.map (Prod.mk 0) (h.2.2 4 a9 12))))] (k := ?_)
      exact E11_hang_41 (some a9) (h.2.2 4 a9 12) (some 0) (some a12) 7 2 h11 _ H4
    · replace H4 := if_pe hc H4
      refine ev_iconst dX11_hang_36 (k := ?_)
      refine ev_goto 41 dX11_hang_37 (k := ?_)
      refine ev_lv [2, 3, 0] [(0, .inr (.inr (some (11, 0)))), (1, .inr (.inr (some (4, a9)))), (3, .inr (.inr (Option.map (Prod.mk 0) (h.2.2 4 a9 12))))] (k := ?_)
      exact E11_hang_41 (some a9) (h.2.2 4 a9 12) (some 0) (some a12) 7 1 h11 _ H4
-- X11_heard
abbrev T11_heard : JT := (RX11, cX11_heard, 2, some .int, false)
set_option maxRecDepth 100000 in
set_option maxHeartbeats 4000000 in
theorem C11_heard {l1 : Int} {h : JM} {res : (Int × JM)} (H : F11_heard l1 h = some res) : Cn j_W1 2 0 0 yX11_heard cX11_heard 2 (some .int) [.inr (.inr (some (11, 0))), .inl (l1)] h (some (.inl res.1)) res.2 := by
  refine Cn.by (own := RX11) (b := false) [(0, .inr (.inr (some (11, 0)))), (1, .inl (l1))] rfl (fun z => by cases z) (by decide +kernel) (K := ?_)
  unfold F11_heard at H
  refine ev_iload_n 1 dX11_heard_0 (k := ?_)
  obtain ⟨q1, hq, H1⟩ := bd_e H
  clear H
  refine ev_callS (mc := 0) (ms := 0) (st := []) (C11_isLine hq) md_X11_isLine ss_X11_isLine ml_X11_115 dX11_heard_1 _ (by decide) (K := ?_)
  refine ev_ifeq 19 dX11_heard_4 (kt := fun hc => ?_) (kf := fun hc => ?_)
  · replace H1 := if_pe hc H1
    refine ev_bipush dX11_heard_19 (k := ?_)
    cases H1
    exact ev_ireturn dX11_heard_21
  · replace H1 := if_ne hc H1
    refine ev_aload_n 0 dX11_heard_7 (k := ?_)
    refine ev_getR (t := 39) (x := some (39, 0)) fl_X11_17 dX11_heard_8 (hx := ry_11_3 _ _) (K := ?_)
    refine ev_iload_n 1 dX11_heard_11 (k := ?_)
    obtain ⟨⟨hi0, hi1⟩, H2⟩ := g_e H1
    clear H1
    refine ev_aaload (k := 39) 4 (x := some (4, l1)) hi0 hi1 dX11_heard_12 (hc := ac_39) (hlen := ln_39 _ _) (hx := rz_39 _ _ _) (K := ?_)
    refine ev_getI (x := q1.2.1 4 l1 19) fl_X11_243 dX11_heard_13 (K := ?_)
    refine ev_goto 21 dX11_heard_16 (k := ?_)
    cases H2
    exact ev_ireturn dX11_heard_21
-- X11_hook
abbrev T11_hook : JT := (RX11, cX11_hook, 4, some .int, false)
set_option maxRecDepth 100000 in
set_option maxHeartbeats 4000000 in
theorem C11_hook {l1 : Int} {l2 : Int} {h : JM} {res : (Int × JM)} (H : F11_hook l1 l2 h = some res) : Cn j_W1 2 0 0 yX11_hook cX11_hook 4 (some .int) [.inr (.inr (some (11, 0))), .inl (l1), .inl (l2)] h (some (.inl res.1)) res.2 := by
  refine Cn.by (own := RX11) (b := false) [(0, .inr (.inr (some (11, 0)))), (1, .inl (l1)), (2, .inl (l2))] rfl (fun z => by cases z) (by decide +kernel) (K := ?_)
  unfold F11_hook at H
  refine ev_iload_n 1 dX11_hook_0 (k := ?_)
  obtain ⟨q1, hq, H1⟩ := bd_e H
  clear H
  refine ev_callS (mc := 0) (ms := 0) (st := []) (C11_isLine hq) md_X11_isLine ss_X11_isLine ml_X11_115 dX11_hook_1 _ (by decide) (K := ?_)
  refine ev_ifne 10 dX11_hook_4 (kt := fun hc => ?_) (kf := fun hc => ?_)
  · replace H1 := if_ne hc H1
    refine ev_aload_n 0 dX11_hook_10 (k := ?_)
    refine ev_getR (t := 39) (x := some (39, 0)) fl_X11_17 dX11_hook_11 (hx := ry_11_3 _ _) (K := ?_)
    refine ev_iload_n 1 dX11_hook_14 (k := ?_)
    obtain ⟨⟨hi0, hi1⟩, H2⟩ := g_e H1
    clear H1
    refine ev_aaload (k := 39) 4 (x := some (4, l1)) hi0 hi1 dX11_hook_15 (hc := ac_39) (hlen := ln_39 _ _) (hx := rz_39 _ _ _) (K := ?_)
    refine ev_getI (x := q1.2.1 4 l1 5) fl_X11_153 dX11_hook_16 (K := ?_)
    obtain ⟨x2, ex2, H3⟩ := lt_e H2
    clear H2
    refine ev_topI ex2 ?_
    refine ev_istore_n [(3, .inl (x2)), (0, .inr (.inr (some (11, 0)))), (1, .inl (l1)), (2, .inl (l2))] dX11_hook_19 (k := ?_)
    refine ev_aload_n 1 dX11_hook_20 (k := ?_)
    refine ev_getR (t := 39) (x := some (39, 0)) fl_X11_17 dX11_hook_21 (hx := ry_11_3 _ _) (K := ?_)
    refine ev_iload_n 2 dX11_hook_24 (k := ?_)
    obtain ⟨⟨hi0, hi1⟩, H4⟩ := g_e H3
    clear H3
    refine ev_aaload (k := 39) 4 (x := some (4, l1)) hi0 hi1 dX11_hook_25 (hc := ac_39) (hlen := ln_39 _ _) (hx := rz_39 _ _ _) (K := ?_)
    refine ev_iload_n 3 dX11_hook_26 (k := ?_)
    obtain ⟨hz, H5⟩ := g_e H4
    clear H4
    obtain ⟨h3, eh3, H6⟩ := lt_e H5
    clear H5
    refine ev_putZ j_ok1 hz fl_X11_153 eh3 dX11_hook_27 (K := ?_)
    refine ev_iload_n 0 dX11_hook_30 (k := ?_)
    refine ev_ifeq 38 dX11_hook_31 (kt := fun hc => ?_) (kf := fun hc => ?_)
    · replace H6 := if_pe hc H6
      refine ev_iconst dX11_hook_38 (k := ?_)
      cases H6
      exact ev_ireturn dX11_hook_39
    · replace H6 := if_ne hc H6
      refine ev_iconst dX11_hook_34 (k := ?_)
      refine ev_goto 39 dX11_hook_35 (k := ?_)
      cases H6
      exact ev_ireturn dX11_hook_39
  · replace H1 := if_pe hc H1
    refine ev_bipush dX11_hook_7 (k := ?_)
    cases H1
    exact ev_ireturn dX11_hook_9
-- X11_idleAtBothEnds
abbrev T11_idleAtBothEnds : JT := (RX11, cX11_idleAtBothEnds, 3, some .int, false)
set_option maxRecDepth 100000 in
set_option maxHeartbeats 4000000 in
theorem E11_idleAtBothEnds_49 (k4 : Int → Int → JM → Option (Int × JM)) (hk4 : ∀ (l1 : Int) (l2 : Int) (h : JM) (res : (Int × JM)), k4 l1 l2 h = some res → Ev j_W1 1 0 0 T11_idleAtBothEnds 4 [(0, .inr (.inr (some (11, 0)))), (1, .inl (l1)), (2, .inl (l2))] [] h (some (.inl res.1)) res.2) (l1 : Int) (l2 : Int) (h : JM) (res : (Int × JM)) (H : F11_idleAtBothEnds_49 k4 l1 l2 h = some res) : Ev j_W1 1 0 0 T11_idleAtBothEnds 49 [(0, .inr (.inr (some (11, 0)))), (1, .inl (l1)), (2, .inl (l2))] [] h (some (.inl res.1)) res.2 := by
  unfold F11_idleAtBothEnds_49 at H
  refine ev_iinc 2 [(2, .inl (w32 (l2 + 1))), (0, .inr (.inr (some (11, 0)))), (1, .inl (l1))] dX11_idleAtBothEnds_49 (k := ?_)
  refine ev_goto 4 dX11_idleAtBothEnds_52 (k := ?_)
  refine ev_lv [1, 2, 0] [(0, .inr (.inr (some (11, 0)))), (1, .inl (l1)), (2, .inl (w32 (l2 + 1)))] (k := ?_)
  exact hk4 l1 (w32 (l2 + 1)) h _ H
set_option maxRecDepth 100000 in
set_option maxHeartbeats 4000000 in
theorem E11_idleAtBothEnds_4b (k4 : Int → Int → JM → Option (Int × JM)) (hk4 : ∀ (l1 : Int) (l2 : Int) (h : JM) (res : (Int × JM)), k4 l1 l2 h = some res → Ev j_W1 1 0 0 T11_idleAtBothEnds 4 [(0, .inr (.inr (some (11, 0)))), (1, .inl (l1)), (2, .inl (l2))] [] h (some (.inl res.1)) res.2) (l1 : Int) (l2 : Int) (h : JM) (res : (Int × JM)) (H : F11_idleAtBothEnds_4b k4 l1 l2 h = some res) : Ev j_W1 1 0 0 T11_idleAtBothEnds 4 [(0, .inr (.inr (some (11, 0)))), (1, .inl (l1)), (2, .inl (l2))] [] h (some (.inl res.1)) res.2 := by
  unfold F11_idleAtBothEnds_4b at H
  refine ev_iload_n 2 dX11_idleAtBothEnds_4 (k := ?_)
  refine ev_aload_n 0 dX11_idleAtBothEnds_5 (k := ?_)
  refine ev_getI (x := h.1 11 0 0) fl_X11_55 dX11_idleAtBothEnds_6 (K := ?_)
  refine ev_icmpge 55 dX11_idleAtBothEnds_9 (kt := fun hc => ?_) (kf := fun hc => ?_)
  · replace H := if_pe hc H
    refine ev_iload_n 1 dX11_idleAtBothEnds_55 (k := ?_)
    cases H
    exact ev_ireturn dX11_idleAtBothEnds_56
  · replace H := if_ne hc H
    refine ev_aload_n 0 dX11_idleAtBothEnds_12 (k := ?_)
    refine ev_getR (t := 38) (x := some (38, 0)) fl_X11_11 dX11_idleAtBothEnds_13 (hx := ry_11_2 _ _) (K := ?_)
    refine ev_iconst dX11_idleAtBothEnds_16 (k := ?_)
    obtain ⟨⟨hi0, hi1⟩, H1⟩ := g_e H
    clear H
    refine ev_aaload (k := 38) 1 (x := some (1, 0)) hi0 hi1 dX11_idleAtBothEnds_17 (hc := ac_38) (hlen := ln_38 _ _) (hx := rz_38 _ _ _) (K := ?_)
    refine ev_getR (t := 20) (x := some (20, 0)) fl_X11_65 dX11_idleAtBothEnds_18 (hx := ry_1_1 _ _) (K := ?_)
    refine ev_iload_n 2 dX11_idleAtBothEnds_21 (k := ?_)
    obtain ⟨⟨hi0, hi1⟩, H2⟩ := g_e H1
    clear H1
    refine ev_aaload (k := 20) 8 (x := some (8, (16 * 0 + l2))) hi0 hi1 dX11_idleAtBothEnds_22 (hc := ac_20) (hlen := ln_20 _ _) (hx := rz_20 _ _ _) (K := ?_)
    refine ev_getI (x := h.1 8 (16 * 0 + l2) 2) fl_X11_250 dX11_idleAtBothEnds_23 (K := ?_)
    refine ev_ifne 49 dX11_idleAtBothEnds_26 (kt := fun hc => ?_) (kf := fun hc => ?_)
    · replace H2 := if_ne hc H2
      exact E11_idleAtBothEnds_49 k4 hk4 l1 l2 h _ H2
    · replace H2 := if_pe hc H2
      refine ev_aload_n 0 dX11_idleAtBothEnds_29 (k := ?_)
      refine ev_getR (t := 38) (x := some (38, 0)) fl_X11_11 dX11_idleAtBothEnds_30 (hx := ry_11_2 _ _) (K := ?_)
      refine ev_iconst dX11_idleAtBothEnds_33 (k := ?_)
      obtain ⟨⟨hi0, hi1⟩, H3⟩ := g_e H2
      clear H2
      refine ev_aaload (k := 38) 1 (x := some (1, 1)) hi0 hi1 dX11_idleAtBothEnds_34 (hc := ac_38) (hlen := ln_38 _ _) (hx := rz_38 _ _ _) (K := ?_)
      refine ev_getR (t := 20) (x := some (20, 1)) fl_X11_65 dX11_idleAtBothEnds_35 (hx := ry_1_1 _ _) (K := ?_)
      refine ev_iload_n 2 dX11_idleAtBothEnds_38 (k := ?_)
      obtain ⟨⟨hi0, hi1⟩, H4⟩ := g_e H3
      clear H3
      refine ev_aaload (k := 20) 8 (x := some (8, (16 * 1 + l2))) hi0 hi1 dX11_idleAtBothEnds_39 (hc := ac_20) (hlen := ln_20 _ _) (hx := rz_20 _ _ _) (K := ?_)
      refine ev_getI (x := h.1 8 (16 * 1 + l2) 2) fl_X11_250 dX11_idleAtBothEnds_40 (K := ?_)
      refine ev_ifne 49 dX11_idleAtBothEnds_43 (kt := fun hc => ?_) (kf := fun hc => ?_)
      · replace H4 := if_ne hc H4
        exact E11_idleAtBothEnds_49 k4 hk4 l1 l2 h _ H4
      · replace H4 := if_pe hc H4
        refine ev_iinc 1 [(1, .inl (w32 (l1 + 1))), (0, .inr (.inr (some (11, 0)))), (2, .inl (l2))] dX11_idleAtBothEnds_46 (k := ?_)
        refine ev_lv [1, 0, 2] [(0, .inr (.inr (some (11, 0)))), (1, .inl (w32 (l1 + 1))), (2, .inl (l2))] (k := ?_)
        exact E11_idleAtBothEnds_49 k4 hk4 (w32 (l1 + 1)) l2 h _ H4
theorem E11_idleAtBothEnds_4 (n : Nat) : ∀ (l1 : Int) (l2 : Int) (h : JM) (res : (Int × JM)), F11_idleAtBothEnds_4 n l1 l2 h = some res → Ev j_W1 1 0 0 T11_idleAtBothEnds 4 [(0, .inr (.inr (some (11, 0)))), (1, .inl (l1)), (2, .inl (l2))] [] h (some (.inl res.1)) res.2 := by
  induction n with
  | zero =>
    intro l1 l2 h res H
    cases H
  | succ n ih =>
    intro l1 l2 h res H
    exact E11_idleAtBothEnds_4b (F11_idleAtBothEnds_4 n) ih l1 l2 h res H
set_option maxRecDepth 100000 in
set_option maxHeartbeats 4000000 in
theorem C11_idleAtBothEnds {h : JM} {res : (Int × JM)} (H : F11_idleAtBothEnds h = some res) : Cn j_W1 1 0 0 yX11_idleAtBothEnds cX11_idleAtBothEnds 3 (some .int) [.inr (.inr (some (11, 0)))] h (some (.inl res.1)) res.2 := by
  refine Cn.by (own := RX11) (b := false) [(0, .inr (.inr (some (11, 0))))] rfl (fun z => by cases z) (by decide +kernel) (K := ?_)
  unfold F11_idleAtBothEnds at H
  refine ev_iconst dX11_idleAtBothEnds_0 (k := ?_)
  refine ev_istore_n [(1, .inl (0)), (0, .inr (.inr (some (11, 0))))] dX11_idleAtBothEnds_1 (k := ?_)
  refine ev_iconst dX11_idleAtBothEnds_2 (k := ?_)
  refine ev_istore_n [(2, .inl (0)), (1, .inl (0)), (0, .inr (.inr (some (11, 0))))] dX11_idleAtBothEnds_3 (k := ?_)
  refine ev_lv [2, 1, 0] [(0, .inr (.inr (some (11, 0)))), (1, .inl (0)), (2, .inl (0))] (k := ?_)
  exact E11_idleAtBothEnds_4 j_fu 0 0 h _ H
-- X11_isArg
abbrev T11_isArg : JT := (RX11, cX11_isArg, 4, some .boolean, false)
set_option maxRecDepth 100000 in
set_option maxHeartbeats 4000000 in
theorem E11_isArg_55 (h : JM) (res : (Int × JM)) (H : F11_isArg_55 h = some res) : Ev j_W1 2 0 0 T11_isArg 55 [] [] h (some (.inl res.1)) res.2 := by
  unfold F11_isArg_55 at H
  refine ev_iconst dX11_isArg_55 (k := ?_)
  cases H
  exact ev_zreturn (Or.inl rfl) dX11_isArg_56
set_option maxRecDepth 100000 in
set_option maxHeartbeats 4000000 in
theorem C11_isArg {l0 : Int} {l1 : Int} {l2 : Int} {l3 : Int} {h : JM} {res : (Int × JM)} (H : F11_isArg l0 l1 l2 l3 h = some res) : Cn j_W1 2 0 0 yX11_isArg cX11_isArg 4 (some .boolean) [.inl (l0), .inl (l1), .inl (l2), .inl (l3)] h (some (.inl res.1)) res.2 := by
  refine Cn.by (own := RX11) (b := false) [(0, .inl (l0)), (1, .inl (l1)), (2, .inl (l2)), (3, .inl (l3))] rfl (fun z => by cases z) (by decide +kernel) (K := ?_)
  unfold F11_isArg at H
  refine ev_iload_n 2 dX11_isArg_0 (k := ?_)
  by_cases hs0 : l2 = 0
  · replace H := if_pe hs0 H
    refine ev_tableIn (off := 35) 36 dX11_isArg_1 (by omega) (by omega) (by rw [hs0]; rfl) (k := ?_)
    refine ev_iload_n 3 dX11_isArg_36 (k := ?_)
    obtain ⟨q1, hq, H1⟩ := bd_e H
    clear H
    refine ev_callS (mc := 0) (ms := 0) (st := []) (C11_isLine hq) md_X11_isLine ss_X11_isLine ml_X11_115 dX11_isArg_37 _ (by decide) (K := ?_)
    refine ev_ifeq 55 dX11_isArg_40 (kt := fun hc => ?_) (kf := fun hc => ?_)
    · replace H1 := if_pe hc H1
      refine ev_lv [] [] (k := ?_)
      exact E11_isArg_55 q1.2 _ H1
    · replace H1 := if_ne hc H1
      refine ev_iload_n 3 dX11_isArg_43 (k := ?_)
      refine ev_bipush dX11_isArg_44 (k := ?_)
      refine ev_idiv dX11_isArg_46 (by decide) (k := ?_)
      refine ev_iload_n 0 dX11_isArg_47 (k := ?_)
      refine ev_icmpne 55 dX11_isArg_48 (kt := fun hc => ?_) (kf := fun hc => ?_)
      · replace H1 := if_ne hc H1
        refine ev_lv [] [] (k := ?_)
        exact E11_isArg_55 q1.2 _ H1
      · replace H1 := if_pe hc H1
        refine ev_iconst dX11_isArg_51 (k := ?_)
        refine ev_goto 56 dX11_isArg_52 (k := ?_)
        cases H1
        exact ev_zreturn (Or.inr rfl) dX11_isArg_56
  · replace H := if_ne hs0 H
    by_cases hs1 : l2 = 1
    · replace H := if_pe hs1 H
      refine ev_tableIn (off := 56) 57 dX11_isArg_1 (by omega) (by omega) (by rw [hs1]; rfl) (k := ?_)
      refine ev_iload_n 3 dX11_isArg_57 (k := ?_)
      refine ev_iconst dX11_isArg_58 (k := ?_)
      refine ev_iload_n 1 dX11_isArg_59 (k := ?_)
      obtain ⟨q2, hq, H1⟩ := bd_e H
      clear H
      refine ev_callS (mc := 0) (ms := 0) (st := []) (C11_isWithin hq) md_X11_isWithin ss_X11_isWithin ml_X11_79 dX11_isArg_60 _ (by decide) (K := ?_)
      obtain ⟨hz, H2⟩ := g_e H1
      clear H1
      cases H2
      exact ev_zreturn hz dX11_isArg_63
    · replace H := if_ne hs1 H
      by_cases hs2 : l2 = 2
      · replace H := if_pe hs2 H
        refine ev_tableIn (off := 56) 57 dX11_isArg_1 (by omega) (by omega) (by rw [hs2]; rfl) (k := ?_)
        refine ev_iload_n 3 dX11_isArg_57 (k := ?_)
        refine ev_iconst dX11_isArg_58 (k := ?_)
        refine ev_iload_n 1 dX11_isArg_59 (k := ?_)
        obtain ⟨q3, hq, H1⟩ := bd_e H
        clear H
        refine ev_callS (mc := 0) (ms := 0) (st := []) (C11_isWithin hq) md_X11_isWithin ss_X11_isWithin ml_X11_79 dX11_isArg_60 _ (by decide) (K := ?_)
        obtain ⟨hz, H2⟩ := g_e H1
        clear H1
        cases H2
        exact ev_zreturn hz dX11_isArg_63
      · replace H := if_ne hs2 H
        by_cases hs3 : l2 = 3
        · replace H := if_pe hs3 H
          refine ev_tableIn (off := 63) 64 dX11_isArg_1 (by omega) (by omega) (by rw [hs3]; rfl) (k := ?_)
          refine ev_iload_n 3 dX11_isArg_64 (k := ?_)
          refine ev_iconst dX11_isArg_65 (k := ?_)
          refine ev_iconst dX11_isArg_66 (k := ?_)
          obtain ⟨q4, hq, H1⟩ := bd_e H
          clear H
          refine ev_callS (mc := 0) (ms := 0) (st := []) (C11_isWithin hq) md_X11_isWithin ss_X11_isWithin ml_X11_79 dX11_isArg_67 _ (by decide) (K := ?_)
          obtain ⟨hz, H2⟩ := g_e H1
          clear H1
          cases H2
          exact ev_zreturn hz dX11_isArg_70
        · replace H := if_ne hs3 H
          by_cases hs4 : l2 = 4
          · replace H := if_pe hs4 H
            refine ev_tableIn (off := 70) 71 dX11_isArg_1 (by omega) (by omega) (by rw [hs4]; rfl) (k := ?_)
            refine ev_iload_n 3 dX11_isArg_71 (k := ?_)
            refine ev_iconst dX11_isArg_72 (k := ?_)
            refine ev_iconst dX11_isArg_73 (k := ?_)
            obtain ⟨q5, hq, H1⟩ := bd_e H
            clear H
            refine ev_callS (mc := 0) (ms := 0) (st := []) (C11_isWithin hq) md_X11_isWithin ss_X11_isWithin ml_X11_79 dX11_isArg_74 _ (by decide) (K := ?_)
            obtain ⟨hz, H2⟩ := g_e H1
            clear H1
            cases H2
            exact ev_zreturn hz dX11_isArg_77
          · replace H := if_ne hs4 H
            refine ev_tableOut 78 dX11_isArg_1 (by omega) (k := ?_)
            refine ev_iconst dX11_isArg_78 (k := ?_)
            cases H
            exact ev_zreturn (Or.inl rfl) dX11_isArg_79
-- X11_isUnitToCome
abbrev T11_isUnitToCome : JT := (RX11, cX11_isUnitToCome, 2, some .boolean, false)
set_option maxRecDepth 100000 in
set_option maxHeartbeats 4000000 in
theorem E11_isUnitToCome_24 (h : JM) (res : (Int × JM)) (H : F11_isUnitToCome_24 h = some res) : Ev j_W1 1 0 0 T11_isUnitToCome 24 [] [] h (some (.inl res.1)) res.2 := by
  unfold F11_isUnitToCome_24 at H
  refine ev_iconst dX11_isUnitToCome_24 (k := ?_)
  cases H
  exact ev_zreturn (Or.inl rfl) dX11_isUnitToCome_25
set_option maxRecDepth 100000 in
set_option maxHeartbeats 4000000 in
theorem C11_isUnitToCome {l1 : Int} {h : JM} {res : (Int × JM)} (H : F11_isUnitToCome l1 h = some res) : Cn j_W1 1 0 0 yX11_isUnitToCome cX11_isUnitToCome 2 (some .boolean) [.inr (.inr (some (11, 0))), .inl (l1)] h (some (.inl res.1)) res.2 := by
  refine Cn.by (own := RX11) (b := false) [(0, .inr (.inr (some (11, 0)))), (1, .inl (l1))] rfl (fun z => by cases z) (by decide +kernel) (K := ?_)
  unfold F11_isUnitToCome at H
  refine ev_iload_n 1 dX11_isUnitToCome_0 (k := ?_)
  refine ev_aload_n 0 dX11_isUnitToCome_1 (k := ?_)
  refine ev_getI (x := h.1 11 0 10) fl_X11_177 dX11_isUnitToCome_2 (K := ?_)
  refine ev_icmplt 24 dX11_isUnitToCome_5 (kt := fun hc => ?_) (kf := fun hc => ?_)
  · replace H := if_pe hc H
    refine ev_lv [] [] (k := ?_)
    exact E11_isUnitToCome_24 h _ H
  · replace H := if_ne hc H
    refine ev_iload_n 1 dX11_isUnitToCome_8 (k := ?_)
    refine ev_aload_n 0 dX11_isUnitToCome_9 (k := ?_)
    refine ev_getI (x := h.1 11 0 10) fl_X11_177 dX11_isUnitToCome_10 (K := ?_)
    refine ev_ldcw (n := 100000) ct_X11_316 dX11_isUnitToCome_13 (k := ?_)
    refine ev_iadd dX11_isUnitToCome_16 (k := ?_)
    refine ev_icmpgt 24 dX11_isUnitToCome_17 (kt := fun hc => ?_) (kf := fun hc => ?_)
    · replace H := if_pe hc H
      refine ev_lv [] [] (k := ?_)
      exact E11_isUnitToCome_24 h _ H
    · replace H := if_ne hc H
      refine ev_iconst dX11_isUnitToCome_20 (k := ?_)
      refine ev_goto 25 dX11_isUnitToCome_21 (k := ?_)
      cases H
      exact ev_zreturn (Or.inr rfl) dX11_isUnitToCome_25
-- X11_key
abbrev T11_key : JT := (RX11, cX11_key, 2, some .int, false)
set_option maxRecDepth 100000 in
set_option maxHeartbeats 4000000 in
theorem C11_key {l1 : Int} {h : JM} {res : (Int × JM)} (H : F11_key l1 h = some res) : Cn j_W1 3 0 0 yX11_key cX11_key 2 (some .int) [.inr (.inr (some (11, 0))), .inl (l1)] h (some (.inl res.1)) res.2 := by
  refine Cn.by (own := RX11) (b := false) [(0, .inr (.inr (some (11, 0)))), (1, .inl (l1))] rfl (fun z => by cases z) (by decide +kernel) (K := ?_)
  unfold F11_key at H
  refine ev_iload_n 1 dX11_key_0 (k := ?_)
  refine ev_iconst dX11_key_1 (k := ?_)
  refine ev_bipush dX11_key_2 (k := ?_)
  obtain ⟨q1, hq, H1⟩ := bd_e H
  clear H
  refine ev_callS (mc := 0) (ms := 0) (st := []) (C11_isWithin hq) md_X11_isWithin ss_X11_isWithin ml_X11_79 dX11_key_4 _ (by decide) (K := ?_)
  refine ev_ifne 13 dX11_key_7 (kt := fun hc => ?_) (kf := fun hc => ?_)
  · replace H1 := if_ne hc H1
    refine ev_aload_n 0 dX11_key_13 (k := ?_)
    refine ev_getL (x := q1.2.2.1 11 0 9) fl_X11_51 dX11_key_14 (K := ?_)
    obtain ⟨q2, hq, H2⟩ := bd_e H1
    clear H1
    refine ev_callS (mc := 0) (ms := 0) (st := []) (C11_countOf hq) md_X11_countOf ss_X11_countOf ml_X11_83 dX11_key_17 _ (by decide) (K := ?_)
    refine ev_bipush dX11_key_20 (k := ?_)
    refine ev_icmplt 28 dX11_key_22 (kt := fun hc => ?_) (kf := fun hc => ?_)
    · replace H2 := if_pe hc H2
      refine ev_aload_n 0 dX11_key_28 (k := ?_)
      refine ev_aload_n 0 dX11_key_29 (k := ?_)
      refine ev_getL (x := q2.2.2.1 11 0 9) fl_X11_51 dX11_key_30 (K := ?_)
      refine ev_iload_n 1 dX11_key_33 (k := ?_)
      obtain ⟨q3, hq, H3⟩ := bd_e H2
      clear H2
      refine ev_callS (mc := 0) (ms := 0) (st := [.inr (.inr (some (11, 0)))]) (C11_withKey hq) md_X11_withKey ss_X11_withKey ml_X11_87 dX11_key_34 _ (by decide) (K := ?_)
      obtain ⟨h4, eh4, H4⟩ := lt_e H3
      clear H3
      refine ev_putL j_ok1 fl_X11_51 eh4 dX11_key_37 (K := ?_)
      refine ev_aload_n 0 dX11_key_40 (k := ?_)
      refine ev_getL (x := h4.2.1 11 0 9) fl_X11_51 dX11_key_41 (K := ?_)
      obtain ⟨q5, hq, H5⟩ := bd_e H4
      clear H4
      refine ev_callS (mc := 0) (ms := 0) (st := []) (C11_countOf hq) md_X11_countOf ss_X11_countOf ml_X11_83 dX11_key_44 _ (by decide) (K := ?_)
      cases H5
      exact ev_ireturn dX11_key_47
    · replace H2 := if_ne hc H2
      refine ev_bipush dX11_key_25 (k := ?_)
      cases H2
      exact ev_ireturn dX11_key_27
  · replace H1 := if_pe hc H1
    refine ev_bipush dX11_key_10 (k := ?_)
    cases H1
    exact ev_ireturn dX11_key_12
-- X11_keyless
abbrev T11_keyless : JT := (RX11, cX11_keyless, 2, some .int, false)
set_option maxRecDepth 100000 in
set_option maxHeartbeats 4000000 in
theorem C11_keyless {h : JM} {res : (Int × JM)} (H : F11_keyless h = some res) : Cn j_W1 2 0 0 yX11_keyless cX11_keyless 2 (some .int) [.inr (.inr (some (11, 0)))] h (some (.inl res.1)) res.2 := by
  refine Cn.by (own := RX11) (b := false) [(0, .inr (.inr (some (11, 0))))] rfl (fun z => by cases z) (by decide +kernel) (K := ?_)
  unfold F11_keyless at H
  refine ev_aload_n 0 dX11_keyless_0 (k := ?_)
  refine ev_getL (x := h.2.1 11 0 9) fl_X11_51 dX11_keyless_1 (K := ?_)
  obtain ⟨q1, hq, H1⟩ := bd_e H
  clear H
  refine ev_callS (mc := 0) (ms := 0) (st := []) (C11_countOf hq) md_X11_countOf ss_X11_countOf ml_X11_83 dX11_keyless_4 _ (by decide) (K := ?_)
  refine ev_istore_n [(1, .inl (q1.1)), (0, .inr (.inr (some (11, 0))))] dX11_keyless_7 (k := ?_)
  refine ev_aload_n 1 dX11_keyless_8 (k := ?_)
  refine ev_lconst (v := 0) dX11_keyless_9 (k := ?_)
  obtain ⟨h2, eh2, H2⟩ := lt_e H1
  clear H1
  refine ev_putL j_ok1 fl_X11_51 eh2 dX11_keyless_10 (K := ?_)
  refine ev_iload_n 0 dX11_keyless_13 (k := ?_)
  cases H2
  exact ev_ireturn dX11_keyless_14
-- X11_makeCall
abbrev T11_makeCall : JT := (RX11, cX11_makeCall, 3, some (.object "TelephoneTown$Call"), false)
set_option maxRecDepth 100000 in
set_option maxHeartbeats 4000000 in
theorem C11_makeCall {l1 : Option Int} {h : JM} {res : (Option Int × JM)} (H : F11_makeCall l1 h = some res) : Cn j_W1 2 0 0 yX11_makeCall cX11_makeCall 3 (some (.object "TelephoneTown$Call")) [.inr (.inr (some (11, 0))), .inr (.inr (Option.map (Prod.mk 1) (l1)))] h (some (.inr (.inr (Option.map (Prod.mk 0) res.1)))) res.2 := by
  refine Cn.by (own := RX11) (b := false) [(0, .inr (.inr (some (11, 0)))), (1, .inr (.inr (Option.map (Prod.mk 1) (l1))))] rfl (fun z => by cases z) (by decide +kernel) (K := ?_)
  unfold F11_makeCall at H
  refine ev_aload_n 0 dX11_makeCall_0 (k := ?_)
  refine ev_getI (x := h.1 11 0 11) fl_X11_452 dX11_makeCall_1 (K := ?_)
  refine ev_bipush dX11_makeCall_4 (k := ?_)
  refine ev_icmplt 11 dX11_makeCall_6 (kt := fun hc => ?_) (kf := fun hc => ?_)
  · replace H := if_pe hc H
    refine ev_aload_n 0 dX11_makeCall_11 (k := ?_)
    refine ev_getR (t := 40) (x := some (40, 0)) fl_X11_23 dX11_makeCall_12 (hx := ry_11_4 _ _) (K := ?_)
    refine ev_aload_n 0 dX11_makeCall_15 (k := ?_)
    refine ev_getI (x := h.1 11 0 11) fl_X11_452 dX11_makeCall_16 (K := ?_)
    obtain ⟨⟨hi0, hi1⟩, H1⟩ := g_e H
    clear H
    refine ev_aaload (k := 40) 0 (x := Option.map (Prod.mk 0) (h.2.2 40 0 (h.1 11 0 11))) hi0 hi1 dX11_makeCall_19 (hc := ac_40) (hlen := ln_40 _ _) (hx := rz_40 _ _ _) (K := ?_)
    refine ev_astore_n [(2, .inr (.inr (Option.map (Prod.mk 0) (h.2.2 40 0 (h.1 11 0 11))))), (0, .inr (.inr (some (11, 0)))), (1, .inr (.inr (Option.map (Prod.mk 1) (l1))))] dX11_makeCall_20 (k := ?_)
    refine ev_aload_n 1 dX11_makeCall_21 (k := ?_)
    refine ev_dup dX11_makeCall_22 (k := ?_)
    refine ev_getI (x := h.1 11 0 11) fl_X11_452 dX11_makeCall_23 (K := ?_)
    refine ev_iconst dX11_makeCall_26 (k := ?_)
    refine ev_iadd dX11_makeCall_27 (k := ?_)
    obtain ⟨h1, eh1, H2⟩ := lt_e H1
    clear H1
    refine ev_putI j_ok1 fl_X11_452 eh1 dX11_makeCall_28 (K := ?_)
    refine ev_aload_n 1 dX11_makeCall_31 (k := ?_)
    refine ev_dup dX11_makeCall_32 (k := ?_)
    refine ev_getI (x := h1.1 11 0 12) fl_X11_306 dX11_makeCall_33 (K := ?_)
    refine ev_iconst dX11_makeCall_36 (k := ?_)
    refine ev_iadd dX11_makeCall_37 (k := ?_)
    obtain ⟨h2, eh2, H3⟩ := lt_e H2
    clear H2
    refine ev_putI j_ok1 fl_X11_306 eh2 dX11_makeCall_38 (K := ?_)
    refine ev_aload_n 1 dX11_makeCall_41 (k := ?_)
    refine ev_dup dX11_makeCall_42 (k := ?_)
    refine ev_getI (x := h2.1 11 0 13) fl_X11_309 dX11_makeCall_43 (K := ?_)
    refine ev_iconst dX11_makeCall_46 (k := ?_)
    refine ev_iadd dX11_makeCall_47 (k := ?_)
    obtain ⟨h3, eh3, H4⟩ := lt_e H3
    clear H3
    refine ev_putI j_ok1 fl_X11_309 eh3 dX11_makeCall_48 (K := ?_)
    refine ev_aload_n 0 dX11_makeCall_51 (k := ?_)
    refine ev_aload_n 2 dX11_makeCall_52 (k := ?_)
    refine ev_aload_n 1 dX11_makeCall_53 (k := ?_)
    refine ev_getI (x := h3.1 11 0 10) fl_X11_177 dX11_makeCall_54 (K := ?_)
    obtain ⟨a4, ea4, H5⟩ := bd_e H4
    clear H4
    rw [ea4]
    obtain ⟨h5, hq, H6⟩ := bd_e H5
    clear H5
    refine ev_callV (mc := 0) (ms := 0) (st := []) (C0_begin hq) md_X0_begin im_X0_begin se_X0_begin ml_X11_455 dX11_makeCall_57 _ (by decide) (K := ?_)
    refine ev_aload_n 0 dX11_makeCall_60 (k := ?_)
    cases H6
    exact ev_areturn dX11_makeCall_61
  · replace H := if_ne hc H
    refine ev_null dX11_makeCall_9 (k := ?_)
    cases H
    exact ev_areturn dX11_makeCall_10
-- X11_lift
abbrev T11_lift : JT := (RX11, cX11_lift, 3, none, false)
set_option maxRecDepth 100000 in
set_option maxHeartbeats 4000000 in
theorem C11_lift {l1 : Option Int} {h : JM} {res : JM} (H : F11_lift l1 h = some res) : Cn j_W1 5 0 0 yX11_lift cX11_lift 3 none [.inr (.inr (some (11, 0))), .inr (.inr (Option.map (Prod.mk 4) (l1)))] h none res := by
  refine Cn.by (own := RX11) (b := false) [(0, .inr (.inr (some (11, 0)))), (1, .inr (.inr (Option.map (Prod.mk 4) (l1))))] rfl (fun z => by cases z) (by decide +kernel) (K := ?_)
  unfold F11_lift at H
  refine ev_aload_n 1 dX11_lift_0 (k := ?_)
  refine ev_iconst dX11_lift_1 (k := ?_)
  obtain ⟨a1, ea1, H1⟩ := bd_e H
  clear H
  rw [ea1]
  obtain ⟨h2, eh2, H2⟩ := lt_e H1
  clear H1
  refine ev_putZ j_ok1 (Or.inl rfl) fl_X11_219 eh2 dX11_lift_2 (K := ?_)
  refine ev_aload_n 1 dX11_lift_5 (k := ?_)
  refine ev_getR (t := 0) (x := Option.map (Prod.mk 0) (h2.2.2 4 a1 13)) fl_X11_432 dX11_lift_6 (hx := ry_4_13 _ _) (K := ?_)
  refine ev_astore_n [(2, .inr (.inr (Option.map (Prod.mk 0) (h2.2.2 4 a1 13)))), (0, .inr (.inr (some (11, 0)))), (1, .inr (.inr (some (4, a1))))] dX11_lift_9 (k := ?_)
  refine ev_aload_n 0 dX11_lift_10 (k := ?_)
  refine ev_nullK (h2.2.2 4 a1 13) 35 dX11_lift_11 (kt := fun hc => ?_) (kf := fun hc => ?_)
  · replace H2 := if_pe hc H2
    refine ev_aload_n 1 dX11_lift_35 (k := ?_)
    refine ev_aload_n 1 dX11_lift_36 (k := ?_)
    refine ev_getR (t := 38) (x := some (38, 0)) fl_X11_11 dX11_lift_37 (hx := ry_11_2 _ _) (K := ?_)
    refine ev_aload_n 2 dX11_lift_40 (k := ?_)
    refine ev_getI (x := h2.1 4 a1 0) fl_X11_317 dX11_lift_41 (K := ?_)
    refine ev_bipush dX11_lift_44 (k := ?_)
    refine ev_idiv dX11_lift_46 (by decide) (k := ?_)
    obtain ⟨⟨hi0, hi1⟩, H3⟩ := g_e H2
    clear H2
    refine ev_aaload (k := 38) 1 (x := some (1, (j_div (h2.1 4 a1 0) 8))) hi0 hi1 dX11_lift_47 (hc := ac_38) (hlen := ln_38 _ _) (hx := rz_38 _ _ _) (K := ?_)
    obtain ⟨q3, hq, H4⟩ := bd_e H3
    clear H3
    refine ev_callV (mc := 0) (ms := 0) (st := []) (C11_makeCall hq) md_X11_makeCall im_X11_makeCall se_X11_makeCall ml_X11_359 dX11_lift_48 _ (by decide) (K := ?_)
    refine ev_astore_n [(2, .inr (.inr (Option.map (Prod.mk 0) (q3.1)))), (0, .inr (.inr (some (11, 0)))), (1, .inr (.inr (some (4, a1))))] dX11_lift_51 (k := ?_)
    refine ev_aload_n 0 dX11_lift_52 (k := ?_)
    refine ev_nullK q3.1 66 dX11_lift_53 (kt := fun hc => ?_) (kf := fun hc => ?_)
    · replace H4 := if_pe hc H4
      cases H4
      exact ev_return dX11_lift_66
    · replace H4 := if_ne hc H4
      refine ev_aload_n 0 dX11_lift_56 (k := ?_)
      refine ev_aload_n 2 dX11_lift_57 (k := ?_)
      obtain ⟨a4, ea4, H5⟩ := bd_e H4
      clear H4
      rw [ea4]
      obtain ⟨h5, eh5, H6⟩ := lt_e H5
      clear H5
      refine ev_putR (t := 4) j_ok1 (some a1) fl_X11_223 eh5 (hdg := dX11_lift_58) (hly := rl_0_1 _) (K := ?_)
      refine ev_aload_n 2 dX11_lift_61 (k := ?_)
      refine ev_aload_n 0 dX11_lift_62 (k := ?_)
      obtain ⟨h6, eh6, H7⟩ := lt_e H6
      clear H6
      refine ev_putR (t := 0) j_ok1 (some a4) fl_X11_206 eh6 (hdg := dX11_lift_63) (hly := rl_4_11 _) (K := ?_)
      cases H7
      exact ev_return dX11_lift_66
  · replace H2 := if_ne hc H2
    refine ev_aload_n 2 dX11_lift_14 (k := ?_)
    refine ev_null dX11_lift_15 (k := ?_)
    obtain ⟨h7, eh7, H3⟩ := lt_e H2
    clear H2
    refine ev_putR (t := 0) j_ok1 none fl_X11_432 eh7 (hdg := dX11_lift_16) (hly := rl_4_13 _) (K := ?_)
    refine ev_aload_n 2 dX11_lift_19 (k := ?_)
    refine ev_aload_n 0 dX11_lift_20 (k := ?_)
    obtain ⟨h8, eh8, H4⟩ := lt_e H3
    clear H3
    refine ev_putR (t := 0) j_ok1 (h2.2.2 4 a1 13) fl_X11_206 eh8 (hdg := dX11_lift_21) (hly := rl_4_11 _) (K := ?_)
    refine ev_aload_n 1 dX11_lift_24 (k := ?_)
    refine ev_aload_n 0 dX11_lift_25 (k := ?_)
    refine ev_aload_n 1 dX11_lift_26 (k := ?_)
    refine ev_aload_n 0 dX11_lift_27 (k := ?_)
    obtain ⟨q9, hq, H5⟩ := bd_e H4
    clear H4
    refine ev_callV (mc := 0) (ms := 0) (st := [.inr (.inr (Option.map (Prod.mk 0) (h2.2.2 4 a1 13))), .inr (.inr (some (11, 0)))]) (C11_answer hq) md_X11_answer im_X11_answer se_X11_answer ml_X11_390 dX11_lift_28 _ (by decide) (K := ?_)
    obtain ⟨h10, hq, H6⟩ := bd_e H5
    clear H5
    refine ev_callV (mc := 0) (ms := 0) (st := []) (C11_endIf hq) md_X11_endIf im_X11_endIf se_X11_endIf ml_X11_394 dX11_lift_31 _ (by decide) (K := ?_)
    cases H6
    exact ev_return dX11_lift_34
