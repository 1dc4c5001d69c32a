-- X11_placeFar
abbrev T11_placeFar : JT := (RX11, cX11_placeFar, 7, some .int, false)
set_option maxRecDepth 100000 in
set_option maxHeartbeats 4000000 in
theorem E11_placeFar_56 (l1 : Option Int) (l2 : Option Int) (s0 : Option Int) (s1 : Int) (h : JM) (res : (Int × JM)) (H : F11_placeFar_56 l1 l2 s0 s1 h = some res) : Ev j_W1 3 0 0 T11_placeFar 56 [(0, .inr (.inr (some (11, 0)))), (1, .inr (.inr (Option.map (Prod.mk 0) (l1)))), (2, .inr (.inr (Option.map (Prod.mk 6) (l2))))] [.inl (s1), .inr (.inr (Option.map (Prod.mk 1) (s0)))] h (some (.inl res.1)) res.2 := by
  unfold F11_placeFar_56 at H
  obtain ⟨a1, ea1, H⟩ := bd_e H
  rw [ea1]
  obtain ⟨q2, hq, H⟩ := bd_e H
  refine ev_callV (mc := 0) (ms := 0) (st := []) (C1_findIdle hq) md_X1_findIdle im_X1_findIdle se_X1_findIdle ml_X11_484 dX11_placeFar_56 _ (by decide) (K := ?_)
  refine ev_astore [(4, .inr (.inr (Option.map (Prod.mk 8) (q2.1)))), (0, .inr (.inr (some (11, 0)))), (1, .inr (.inr (Option.map (Prod.mk 0) (l1)))), (2, .inr (.inr (Option.map (Prod.mk 6) (l2))))] dX11_placeFar_59 (k := ?_)
  refine ev_aload 0 dX11_placeFar_61 (k := ?_)
  refine ev_nonnullK q2.1 68 dX11_placeFar_63 (kt := fun hc => ?_) (kf := fun hc => ?_)
  · rw [if_neg hc] at H
    refine ev_aload 0 dX11_placeFar_68 (k := ?_)
    refine ev_iconst dX11_placeFar_70 (k := ?_)
    obtain ⟨a3, ea3, H⟩ := bd_e H
    rw [ea3]
    obtain ⟨h4, eh4, H⟩ := lt_e H
    refine ev_putI j_ok1 fl_X11_250 eh4 dX11_placeFar_71 (K := ?_)
    refine ev_aload 0 dX11_placeFar_74 (k := ?_)
    refine ev_aload_n 2 dX11_placeFar_76 (k := ?_)
    obtain ⟨h5, eh5, H⟩ := lt_e H
    refine ev_putR (t := 0) j_ok1 l1 fl_X11_352 eh5 (hdg := dX11_placeFar_77) (hly := rl_8_3 _) (K := ?_)
    refine ev_aload_n 2 dX11_placeFar_80 (k := ?_)
    refine ev_aload 0 dX11_placeFar_81 (k := ?_)
    obtain ⟨a6, ea6, H⟩ := bd_e H
    rw [ea6]
    obtain ⟨h7, eh7, H⟩ := lt_e H
    refine ev_putR (t := 8) j_ok1 (some a3) fl_X11_240 eh7 (hdg := dX11_placeFar_83) (hly := rl_0_4 _) (K := ?_)
    refine ev_aload_n 1 dX11_placeFar_86 (k := ?_)
    refine ev_aload_n 2 dX11_placeFar_87 (k := ?_)
    refine ev_iconst dX11_placeFar_88 (k := ?_)
    obtain ⟨h8, hq, H⟩ := bd_e H
    refine ev_callV (mc := 0) (ms := 0) (st := []) (C11_enter hq) md_X11_enter im_X11_enter se_X11_enter ml_X11_383 dX11_placeFar_89 _ (by decide) (K := ?_)
    refine ev_aload_n 2 dX11_placeFar_92 (k := ?_)
    refine ev_getI (x := h8.1 0 a6 12) fl_X11_366 dX11_placeFar_93 (K := ?_)
    refine ev_aload_n 2 dX11_placeFar_96 (k := ?_)
    refine ev_getL (x := h8.2.1 0 a6 8) fl_X11_222 dX11_placeFar_97 (K := ?_)
    refine ev_aload_n 3 dX11_placeFar_100 (k := ?_)
    obtain ⟨a9, ea9, H⟩ := bd_e H
    rw [ea9]
    refine ev_getI (x := h8.1 6 a9 3) fl_X11_465 dX11_placeFar_101 (K := ?_)
    obtain ⟨q10, hq, H⟩ := bd_e H
    refine ev_callS (mc := 0) (ms := 0) (st := [.inl (h8.1 0 a6 12)]) (C11_withoutFirst hq) md_X11_withoutFirst ss_X11_withoutFirst ml_X11_488 dX11_placeFar_104 _ (by decide) (K := ?_)
    obtain ⟨q11, hq, H⟩ := bd_e H
    refine ev_callS (mc := 0) (ms := 0) (st := []) (C9_packIam hq) md_X9_packIam ss_X9_packIam ml_X11_491 dX11_placeFar_107 _ (by decide) (K := ?_)
    refine ev_lstore [(5, .inr (.inl (q11.1))), (4, .inr (.inr (some (8, a3)))), (0, .inr (.inr (some (11, 0)))), (1, .inr (.inr (some (0, a6)))), (2, .inr (.inr (some (6, a9))))] dX11_placeFar_110 (k := ?_)
    refine ev_aload_n 3 dX11_placeFar_112 (k := ?_)
    refine ev_getR (t := 1) (x := Option.map (Prod.mk 1) (q11.2.2.2 0 a6 0)) fl_X11_444 dX11_placeFar_113 (hx := ry_0_0 _ _) (K := ?_)
    obtain ⟨a12, ea12, H⟩ := bd_e H
    rw [ea12]
    refine ev_getR (t := 5) (x := some (5, a12)) fl_X11_261 dX11_placeFar_116 (hx := ry_1_7 _ _) (K := ?_)
    refine ev_iconst dX11_placeFar_119 (k := ?_)
    refine ev_aload 1 dX11_placeFar_120 (k := ?_)
    refine ev_getI (x := q11.2.1 8 a3 0) fl_X11_320 dX11_placeFar_122 (K := ?_)
    refine ev_lload 0 dX11_placeFar_125 (k := ?_)
    obtain ⟨q13, hq, H⟩ := bd_e H
    refine ev_callS (mc := 0) (ms := 0) (st := [.inr (.inr (some (5, a12)))]) (C9_pack hq) md_X9_pack ss_X9_pack ml_X11_404 dX11_placeFar_127 _ (by decide) (K := ?_)
    obtain ⟨h14, hq, H⟩ := bd_e H
    refine ev_callV (mc := 0) (ms := 0) (st := []) (C5_post hq) md_X5_post im_X5_post se_X5_post ml_X11_408 dX11_placeFar_130 _ (by decide) (K := ?_)
    refine ev_iconst dX11_placeFar_133 (k := ?_)
    cases H
    exact ev_ireturn dX11_placeFar_134
  · rw [if_pos hc] at H
    refine ev_iconst dX11_placeFar_66 (k := ?_)
    cases H
    exact ev_ireturn dX11_placeFar_67
set_option maxRecDepth 100000 in
set_option maxHeartbeats 4000000 in
theorem E11_placeFar_40 (l1 : Option Int) (l2 : Option Int) (l3 : Int) (h : JM) (res : (Int × JM)) (H : F11_placeFar_40 l1 l2 l3 h = some res) : Ev j_W1 3 0 0 T11_placeFar 40 [(0, .inr (.inr (some (11, 0)))), (1, .inr (.inr (Option.map (Prod.mk 0) (l1)))), (2, .inr (.inr (Option.map (Prod.mk 6) (l2)))), (3, .inl (l3))] [] h (some (.inl res.1)) res.2 := by
  unfold F11_placeFar_40 at H
  refine ev_aload_n 1 dX11_placeFar_40 (k := ?_)
  obtain ⟨a15, ea15, H⟩ := bd_e H
  rw [ea15]
  refine ev_getR (t := 1) (x := Option.map (Prod.mk 1) (h.2.2 0 a15 0)) fl_X11_444 dX11_placeFar_41 (hx := ry_0_0 _ _) (K := ?_)
  refine ev_iload_n 3 dX11_placeFar_44 (k := ?_)
  refine ev_ifeq 52 dX11_placeFar_45 (kt := fun hc => ?_) (kf := fun hc => ?_)
  · rw [if_pos hc] at H
    refine ev_aload_n 0 dX11_placeFar_52 (k := ?_)
    refine ev_getI (x := h.1 11 0 1) fl_X11_59 dX11_placeFar_53 (K := ?_)
    refine ev_lv [0, 1, 2] [(0, .inr (.inr (some (11, 0)))), (1, .inr (.inr (some (0, a15)))), (2, .inr (.inr (Option.map (Prod.mk 6) (l2))))] (k := ?_)
    exact E11_placeFar_56 (some a15) l2 (h.2.2 0 a15 0) (h.1 11 0 1) h _ H
  · rw [if_neg hc] at H
    refine ev_iconst dX11_placeFar_48 (k := ?_)
    refine ev_goto 56 dX11_placeFar_49 (k := ?_)
    refine ev_lv [0, 1, 2] [(0, .inr (.inr (some (11, 0)))), (1, .inr (.inr (some (0, a15)))), (2, .inr (.inr (Option.map (Prod.mk 6) (l2))))] (k := ?_)
    exact E11_placeFar_56 (some a15) l2 (h.2.2 0 a15 0) 0 h _ H
set_option maxRecDepth 100000 in
set_option maxHeartbeats 4000000 in
theorem E11_placeFar_13 (l1 : Option Int) (l2 : Option Int) (s0 : Int) (h : JM) (res : (Int × JM)) (H : F11_placeFar_13 l1 l2 s0 h = some res) : Ev j_W1 3 0 0 T11_placeFar 13 [(0, .inr (.inr (some (11, 0)))), (1, .inr (.inr (Option.map (Prod.mk 0) (l1)))), (2, .inr (.inr (Option.map (Prod.mk 6) (l2))))] [.inl (s0)] h (some (.inl res.1)) res.2 := by
  unfold F11_placeFar_13 at H
  refine ev_istore_n [(3, .inl (s0)), (0, .inr (.inr (some (11, 0)))), (1, .inr (.inr (Option.map (Prod.mk 0) (l1)))), (2, .inr (.inr (Option.map (Prod.mk 6) (l2))))] dX11_placeFar_13 (k := ?_)
  refine ev_iload_n 0 dX11_placeFar_14 (k := ?_)
  refine ev_ifne 40 dX11_placeFar_15 (kt := fun hc => ?_) (kf := fun hc => ?_)
  · rw [if_neg hc] at H
    refine ev_lv [1, 2, 3, 0] [(0, .inr (.inr (some (11, 0)))), (1, .inr (.inr (Option.map (Prod.mk 0) (l1)))), (2, .inr (.inr (Option.map (Prod.mk 6) (l2)))), (3, .inl (s0))] (k := ?_)
    exact E11_placeFar_40 l1 l2 s0 h _ H
  · rw [if_pos hc] at H
    refine ev_aload_n 2 dX11_placeFar_18 (k := ?_)
    obtain ⟨a16, ea16, H⟩ := bd_e H
    rw [ea16]
    refine ev_getR (t := 4) (x := Option.map (Prod.mk 4) (h.2.2 0 a16 1)) fl_X11_223 dX11_placeFar_19 (hx := ry_0_1 _ _) (K := ?_)
    refine ev_nullK (h.2.2 0 a16 1) 40 dX11_placeFar_22 (kt := fun hc => ?_) (kf := fun hc => ?_)
    · rw [if_pos hc] at H
      refine ev_lv [1, 2, 3, 0] [(0, .inr (.inr (some (11, 0)))), (1, .inr (.inr (some (0, a16)))), (2, .inr (.inr (Option.map (Prod.mk 6) (l2)))), (3, .inl (s0))] (k := ?_)
      exact E11_placeFar_40 (some a16) l2 s0 h _ H
    · rw [if_neg hc] at H
      refine ev_aload_n 2 dX11_placeFar_25 (k := ?_)
      refine ev_getR (t := 4) (x := Option.map (Prod.mk 4) (h.2.2 0 a16 1)) fl_X11_223 dX11_placeFar_26 (hx := ry_0_1 _ _) (K := ?_)
      obtain ⟨a17, ea17, H⟩ := bd_e H
      rw [ea17]
      refine ev_getR (t := 28) (x := some (28, a17)) fl_X11_137 dX11_placeFar_29 (hx := ry_4_1 _ _) (K := ?_)
      refine ev_iconst dX11_placeFar_32 (k := ?_)
      obtain ⟨⟨hi0, hi1⟩, H⟩ := g_e H
      refine ev_zaload (k := 28) hi0 hi1 dX11_placeFar_33 (hc := ac_28) (hlen := ln_28 _ _) (K := ?_)
      refine ev_ifeq 40 dX11_placeFar_34 (kt := fun hc => ?_) (kf := fun hc => ?_)
      · rw [if_pos hc] at H
        refine ev_lv [1, 2, 3, 0] [(0, .inr (.inr (some (11, 0)))), (1, .inr (.inr (some (0, a16)))), (2, .inr (.inr (Option.map (Prod.mk 6) (l2)))), (3, .inl (s0))] (k := ?_)
        exact E11_placeFar_40 (some a16) l2 s0 h _ H
      · rw [if_neg hc] at H
        refine ev_bipush dX11_placeFar_37 (k := ?_)
        cases H
        exact ev_ireturn dX11_placeFar_39
set_option maxRecDepth 100000 in
set_option maxHeartbeats 4000000 in
theorem C11_placeFar {l1 : Option Int} {l2 : Option Int} {h : JM} {res : (Int × JM)} (H : F11_placeFar l1 l2 h = some res) : Cn j_W1 3 0 0 yX11_placeFar cX11_placeFar 7 (some .int) [.inr (.inr (some (11, 0))), .inr (.inr (Option.map (Prod.mk 0) (l1))), .inr (.inr (Option.map (Prod.mk 6) (l2)))] h (some (.inl res.1)) res.2 := by
  refine Cn.by (own := RX11) (b := false) [(0, .inr (.inr (some (11, 0)))), (1, .inr (.inr (Option.map (Prod.mk 0) (l1)))), (2, .inr (.inr (Option.map (Prod.mk 6) (l2))))] rfl (fun z => by cases z) (by decide +kernel) (K := ?_)
  unfold F11_placeFar at H
  refine ev_aload_n 2 dX11_placeFar_0 (k := ?_)
  obtain ⟨a18, ea18, H⟩ := bd_e H
  rw [ea18]
  refine ev_getI (x := h.1 6 a18 2) fl_X11_462 dX11_placeFar_1 (K := ?_)
  refine ev_iconst dX11_placeFar_4 (k := ?_)
  refine ev_icmpne 12 dX11_placeFar_5 (kt := fun hc => ?_) (kf := fun hc => ?_)
  · rw [if_neg hc] at H
    refine ev_iconst dX11_placeFar_12 (k := ?_)
    exact E11_placeFar_13 l1 (some a18) 0 h _ H
  · rw [if_pos hc] at H
    refine ev_iconst dX11_placeFar_8 (k := ?_)
    refine ev_goto 13 dX11_placeFar_9 (k := ?_)
    exact E11_placeFar_13 l1 (some a18) 1 h _ H
-- X11_ring
abbrev T11_ring : JT := (RX11, cX11_ring, 3, none, false)
set_option maxRecDepth 100000 in
set_option maxHeartbeats 4000000 in
theorem C11_ring {l1 : Option Int} {l2 : Option Int} {h : JM} {res : JM} (H : F11_ring l1 l2 h = some res) : Cn j_W1 2 0 0 yX11_ring cX11_ring 3 none [.inr (.inr (some (11, 0))), .inr (.inr (Option.map (Prod.mk 0) (l1))), .inr (.inr (Option.map (Prod.mk 4) (l2)))] h none res := by
  refine Cn.by (own := RX11) (b := false) [(0, .inr (.inr (some (11, 0)))), (1, .inr (.inr (Option.map (Prod.mk 0) (l1)))), (2, .inr (.inr (Option.map (Prod.mk 4) (l2))))] rfl (fun z => by cases z) (by decide +kernel) (K := ?_)
  unfold F11_ring at H
  refine ev_aload_n 2 dX11_ring_0 (k := ?_)
  refine ev_aload_n 1 dX11_ring_1 (k := ?_)
  obtain ⟨a1, ea1, H⟩ := bd_e H
  rw [ea1]
  obtain ⟨h2, eh2, H⟩ := lt_e H
  refine ev_putR (t := 0) j_ok1 l1 fl_X11_432 eh2 (hdg := dX11_ring_2) (hly := rl_4_13 _) (K := ?_)
  refine ev_aload_n 1 dX11_ring_5 (k := ?_)
  refine ev_aload_n 2 dX11_ring_6 (k := ?_)
  obtain ⟨a3, ea3, H⟩ := bd_e H
  rw [ea3]
  obtain ⟨h4, eh4, H⟩ := lt_e H
  refine ev_putR (t := 4) j_ok1 (some a1) fl_X11_237 eh4 (hdg := dX11_ring_7) (hly := rl_0_3 _) (K := ?_)
  refine ev_aload_n 0 dX11_ring_10 (k := ?_)
  refine ev_aload_n 1 dX11_ring_11 (k := ?_)
  refine ev_iconst dX11_ring_12 (k := ?_)
  obtain ⟨h5, hq, H⟩ := bd_e H
  refine ev_callV (mc := 0) (ms := 0) (st := []) (C11_enter hq) md_X11_enter im_X11_enter se_X11_enter ml_X11_383 dX11_ring_13 _ (by decide) (K := ?_)
  cases H
  exact ev_return dX11_ring_16
-- X11_placeToGroup
abbrev T11_placeToGroup : JT := (RX11, cX11_placeToGroup, 4, some .int, false)
set_option maxRecDepth 100000 in
set_option maxHeartbeats 4000000 in
theorem E11_placeToGroup_20 (l1 : Option Int) (l2 : Option Int) (s0 : Option Int) (h : JM) (res : (Int × JM)) (H : F11_placeToGroup_20 l1 l2 s0 h = some res) : Ev j_W1 3 0 0 T11_placeToGroup 20 [(0, .inr (.inr (some (11, 0)))), (1, .inr (.inr (Option.map (Prod.mk 0) (l1)))), (2, .inr (.inr (Option.map (Prod.mk 2) (l2))))] [.inr (.inr (Option.map (Prod.mk 4) (s0)))] h (some (.inl res.1)) res.2 := by
  unfold F11_placeToGroup_20 at H
  refine ev_astore_n [(3, .inr (.inr (Option.map (Prod.mk 4) (s0)))), (0, .inr (.inr (some (11, 0)))), (1, .inr (.inr (Option.map (Prod.mk 0) (l1)))), (2, .inr (.inr (Option.map (Prod.mk 2) (l2))))] dX11_placeToGroup_20 (k := ?_)
  refine ev_aload_n 0 dX11_placeToGroup_21 (k := ?_)
  refine ev_nullK s0 33 dX11_placeToGroup_22 (kt := fun hc => ?_) (kf := fun hc => ?_)
  · rw [if_pos hc] at H
    refine ev_aload_n 3 dX11_placeToGroup_33 (k := ?_)
    obtain ⟨a1, ea1, H⟩ := bd_e H
    rw [ea1]
    refine ev_getI (x := h.1 2 a1 3) fl_X11_254 dX11_placeToGroup_34 (K := ?_)
    refine ev_aload_n 3 dX11_placeToGroup_37 (k := ?_)
    refine ev_getI (x := h.1 2 a1 2) fl_X11_134 dX11_placeToGroup_38 (K := ?_)
    refine ev_icmplt 46 dX11_placeToGroup_41 (kt := fun hc => ?_) (kf := fun hc => ?_)
    · rw [if_pos hc] at H
      refine ev_aload_n 1 dX11_placeToGroup_46 (k := ?_)
      refine ev_aload_n 2 dX11_placeToGroup_47 (k := ?_)
      refine ev_iconst dX11_placeToGroup_48 (k := ?_)
      obtain ⟨h2, hq, H⟩ := bd_e H
      refine ev_callV (mc := 0) (ms := 0) (st := []) (C11_enter hq) md_X11_enter im_X11_enter se_X11_enter ml_X11_383 dX11_placeToGroup_49 _ (by decide) (K := ?_)
      refine ev_aload_n 3 dX11_placeToGroup_52 (k := ?_)
      refine ev_aload_n 2 dX11_placeToGroup_53 (k := ?_)
      refine ev_iconst dX11_placeToGroup_54 (k := ?_)
      obtain ⟨h3, hq, H⟩ := bd_e H
      refine ev_callV (mc := 0) (ms := 0) (st := []) (C2_letWait hq) md_X2_letWait im_X2_letWait se_X2_letWait ml_X11_513 dX11_placeToGroup_55 _ (by decide) (K := ?_)
      refine ev_iconst dX11_placeToGroup_58 (k := ?_)
      cases H
      exact ev_ireturn dX11_placeToGroup_59
    · rw [if_neg hc] at H
      refine ev_iconst dX11_placeToGroup_44 (k := ?_)
      cases H
      exact ev_ireturn dX11_placeToGroup_45
  · rw [if_neg hc] at H
    refine ev_aload_n 1 dX11_placeToGroup_25 (k := ?_)
    refine ev_aload_n 2 dX11_placeToGroup_26 (k := ?_)
    refine ev_aload_n 0 dX11_placeToGroup_27 (k := ?_)
    obtain ⟨h4, hq, H⟩ := bd_e H
    refine ev_callV (mc := 0) (ms := 0) (st := []) (C11_ring hq) md_X11_ring im_X11_ring se_X11_ring ml_X11_502 dX11_placeToGroup_28 _ (by decide) (K := ?_)
    refine ev_iconst dX11_placeToGroup_31 (k := ?_)
    cases H
    exact ev_ireturn dX11_placeToGroup_32
set_option maxRecDepth 100000 in
set_option maxHeartbeats 4000000 in
theorem C11_placeToGroup {l1 : Option Int} {l2 : Option Int} {h : JM} {res : (Int × JM)} (H : F11_placeToGroup l1 l2 h = some res) : Cn j_W1 3 0 0 yX11_placeToGroup cX11_placeToGroup 4 (some .int) [.inr (.inr (some (11, 0))), .inr (.inr (Option.map (Prod.mk 0) (l1))), .inr (.inr (Option.map (Prod.mk 2) (l2)))] h (some (.inl res.1)) res.2 := by
  refine Cn.by (own := RX11) (b := false) [(0, .inr (.inr (some (11, 0)))), (1, .inr (.inr (Option.map (Prod.mk 0) (l1)))), (2, .inr (.inr (Option.map (Prod.mk 2) (l2))))] rfl (fun z => by cases z) (by decide +kernel) (K := ?_)
  unfold F11_placeToGroup at H
  refine ev_aload_n 1 dX11_placeToGroup_0 (k := ?_)
  refine ev_aload_n 2 dX11_placeToGroup_1 (k := ?_)
  obtain ⟨a5, ea5, H⟩ := bd_e H
  rw [ea5]
  obtain ⟨h6, eh6, H⟩ := lt_e H
  refine ev_putR (t := 2) j_ok1 l2 fl_X11_495 eh6 (hdg := dX11_placeToGroup_2) (hly := rl_0_5 _) (K := ?_)
  refine ev_aload_n 2 dX11_placeToGroup_5 (k := ?_)
  obtain ⟨a7, ea7, H⟩ := bd_e H
  rw [ea7]
  refine ev_getI (x := h6.1 2 a7 3) fl_X11_254 dX11_placeToGroup_6 (K := ?_)
  refine ev_ifne 19 dX11_placeToGroup_9 (kt := fun hc => ?_) (kf := fun hc => ?_)
  · rw [if_neg hc] at H
    refine ev_null dX11_placeToGroup_19 (k := ?_)
    exact E11_placeToGroup_20 (some a5) (some a7) none h6 _ H
  · rw [if_pos hc] at H
    refine ev_aload_n 2 dX11_placeToGroup_12 (k := ?_)
    obtain ⟨q8, hq, H⟩ := bd_e H
    refine ev_callV (mc := 0) (ms := 0) (st := []) (C2_nextMember hq) md_X2_nextMember im_X2_nextMember se_X2_nextMember ml_X11_509 dX11_placeToGroup_13 _ (by decide) (K := ?_)
    refine ev_goto 20 dX11_placeToGroup_16 (k := ?_)
    exact E11_placeToGroup_20 (some a5) (some a7) q8.1 q8.2 _ H
-- X11_placeToLine
abbrev T11_placeToLine : JT := (RX11, cX11_placeToLine, 3, some .int, false)
set_option maxRecDepth 100000 in
set_option maxHeartbeats 4000000 in
theorem C11_placeToLine {l1 : Option Int} {l2 : Option Int} {h : JM} {res : (Int × JM)} (H : F11_placeToLine l1 l2 h = some res) : Cn j_W1 3 0 0 yX11_placeToLine cX11_placeToLine 3 (some .int) [.inr (.inr (some (11, 0))), .inr (.inr (Option.map (Prod.mk 0) (l1))), .inr (.inr (Option.map (Prod.mk 4) (l2)))] h (some (.inl res.1)) res.2 := by
  refine Cn.by (own := RX11) (b := false) [(0, .inr (.inr (some (11, 0)))), (1, .inr (.inr (Option.map (Prod.mk 0) (l1)))), (2, .inr (.inr (Option.map (Prod.mk 4) (l2))))] rfl (fun z => by cases z) (by decide +kernel) (K := ?_)
  unfold F11_placeToLine at H
  refine ev_aload_n 2 dX11_placeToLine_0 (k := ?_)
  obtain ⟨a1, ea1, H⟩ := bd_e H
  rw [ea1]
  refine ev_getR (t := 28) (x := some (28, a1)) fl_X11_137 dX11_placeToLine_1 (hx := ry_4_1 _ _) (K := ?_)
  refine ev_iconst dX11_placeToLine_4 (k := ?_)
  obtain ⟨⟨hi0, hi1⟩, H⟩ := g_e H
  refine ev_zaload (k := 28) hi0 hi1 dX11_placeToLine_5 (hc := ac_28) (hlen := ln_28 _ _) (K := ?_)
  refine ev_ifeq 12 dX11_placeToLine_6 (kt := fun hc => ?_) (kf := fun hc => ?_)
  · rw [if_pos hc] at H
    refine ev_aload_n 2 dX11_placeToLine_12 (k := ?_)
    refine ev_getR (t := 29) (x := some (29, a1)) fl_X11_141 dX11_placeToLine_13 (hx := ry_4_2 _ _) (K := ?_)
    refine ev_iconst dX11_placeToLine_16 (k := ?_)
    obtain ⟨⟨hi0, hi1⟩, H⟩ := g_e H
    refine ev_laload (k := 29) hi0 hi1 dX11_placeToLine_17 (hc := ac_29) (hlen := ln_29 _ _) (K := ?_)
    refine ev_lconst (v := 0) dX11_placeToLine_18 (k := ?_)
    refine ev_lcmp dX11_placeToLine_19 (k := ?_)
    refine ev_ifeq 36 dX11_placeToLine_20 (kt := fun hc => ?_) (kf := fun hc => ?_)
    · rw [if_pos hc] at H
      refine ev_aload_n 1 dX11_placeToLine_36 (k := ?_)
      refine ev_null dX11_placeToLine_37 (k := ?_)
      obtain ⟨a2, ea2, H⟩ := bd_e H
      rw [ea2]
      obtain ⟨h3, eh3, H⟩ := lt_e H
      refine ev_putR (t := 2) j_ok1 none fl_X11_495 eh3 (hdg := dX11_placeToLine_38) (hly := rl_0_5 _) (K := ?_)
      refine ev_aload_n 2 dX11_placeToLine_41 (k := ?_)
      obtain ⟨q4, hq, H⟩ := bd_e H
      refine ev_callV (mc := 0) (ms := 0) (st := []) (C4_isFree hq) md_X4_isFree im_X4_isFree se_X4_isFree ml_X11_499 dX11_placeToLine_42 _ (by decide) (K := ?_)
      refine ev_ifeq 56 dX11_placeToLine_45 (kt := fun hc => ?_) (kf := fun hc => ?_)
      · rw [if_pos hc] at H
        refine ev_aload_n 2 dX11_placeToLine_56 (k := ?_)
        obtain ⟨q5, hq, H⟩ := bd_e H
        refine ev_callV (mc := 0) (ms := 0) (st := []) (C4_canTakeOther hq) md_X4_canTakeOther im_X4_canTakeOther se_X4_canTakeOther ml_X11_506 dX11_placeToLine_57 _ (by decide) (K := ?_)
        refine ev_ifeq 81 dX11_placeToLine_60 (kt := fun hc => ?_) (kf := fun hc => ?_)
        · rw [if_pos hc] at H
          refine ev_aload_n 2 dX11_placeToLine_81 (k := ?_)
          refine ev_getR (t := 29) (x := some (29, a1)) fl_X11_141 dX11_placeToLine_82 (hx := ry_4_2 _ _) (K := ?_)
          refine ev_iconst dX11_placeToLine_85 (k := ?_)
          obtain ⟨⟨hi0, hi1⟩, H⟩ := g_e H
          refine ev_laload (k := 29) hi0 hi1 dX11_placeToLine_86 (hc := ac_29) (hlen := ln_29 _ _) (K := ?_)
          refine ev_lconst (v := 0) dX11_placeToLine_87 (k := ?_)
          refine ev_lcmp dX11_placeToLine_88 (k := ?_)
          refine ev_ifeq 105 dX11_placeToLine_89 (kt := fun hc => ?_) (kf := fun hc => ?_)
          · rw [if_pos hc] at H
            refine ev_iconst dX11_placeToLine_105 (k := ?_)
            cases H
            exact ev_ireturn dX11_placeToLine_106
          · rw [if_neg hc] at H
            refine ev_aload_n 1 dX11_placeToLine_92 (k := ?_)
            refine ev_aload_n 2 dX11_placeToLine_93 (k := ?_)
            refine ev_getR (t := 29) (x := some (29, a1)) fl_X11_141 dX11_placeToLine_94 (hx := ry_4_2 _ _) (K := ?_)
            refine ev_iconst dX11_placeToLine_97 (k := ?_)
            obtain ⟨⟨hi0, hi1⟩, H⟩ := g_e H
            refine ev_laload (k := 29) hi0 hi1 dX11_placeToLine_98 (hc := ac_29) (hlen := ln_29 _ _) (K := ?_)
            obtain ⟨h6, eh6, H⟩ := lt_e H
            refine ev_putL j_ok1 fl_X11_222 eh6 dX11_placeToLine_99 (K := ?_)
            refine ev_bipush dX11_placeToLine_102 (k := ?_)
            cases H
            exact ev_ireturn dX11_placeToLine_104
        · rw [if_neg hc] at H
          refine ev_aload_n 2 dX11_placeToLine_63 (k := ?_)
          refine ev_aload_n 1 dX11_placeToLine_64 (k := ?_)
          obtain ⟨h7, eh7, H⟩ := lt_e H
          refine ev_putR (t := 0) j_ok1 (some a2) fl_X11_213 eh7 (hdg := dX11_placeToLine_65) (hly := rl_4_12 _) (K := ?_)
          refine ev_aload_n 1 dX11_placeToLine_68 (k := ?_)
          refine ev_aload_n 2 dX11_placeToLine_69 (k := ?_)
          obtain ⟨h8, eh8, H⟩ := lt_e H
          refine ev_putR (t := 4) j_ok1 (some a1) fl_X11_237 eh8 (hdg := dX11_placeToLine_70) (hly := rl_0_3 _) (K := ?_)
          refine ev_aload_n 0 dX11_placeToLine_73 (k := ?_)
          refine ev_aload_n 1 dX11_placeToLine_74 (k := ?_)
          refine ev_iconst dX11_placeToLine_75 (k := ?_)
          obtain ⟨h9, hq, H⟩ := bd_e H
          refine ev_callV (mc := 0) (ms := 0) (st := []) (C11_enter hq) md_X11_enter im_X11_enter se_X11_enter ml_X11_383 dX11_placeToLine_76 _ (by decide) (K := ?_)
          refine ev_iconst dX11_placeToLine_79 (k := ?_)
          cases H
          exact ev_ireturn dX11_placeToLine_80
      · rw [if_neg hc] at H
        refine ev_aload_n 0 dX11_placeToLine_48 (k := ?_)
        refine ev_aload_n 1 dX11_placeToLine_49 (k := ?_)
        refine ev_aload_n 2 dX11_placeToLine_50 (k := ?_)
        obtain ⟨h10, hq, H⟩ := bd_e H
        refine ev_callV (mc := 0) (ms := 0) (st := []) (C11_ring hq) md_X11_ring im_X11_ring se_X11_ring ml_X11_502 dX11_placeToLine_51 _ (by decide) (K := ?_)
        refine ev_iconst dX11_placeToLine_54 (k := ?_)
        cases H
        exact ev_ireturn dX11_placeToLine_55
    · rw [if_neg hc] at H
      refine ev_aload_n 1 dX11_placeToLine_23 (k := ?_)
      refine ev_aload_n 2 dX11_placeToLine_24 (k := ?_)
      refine ev_getR (t := 29) (x := some (29, a1)) fl_X11_141 dX11_placeToLine_25 (hx := ry_4_2 _ _) (K := ?_)
      refine ev_iconst dX11_placeToLine_28 (k := ?_)
      obtain ⟨⟨hi0, hi1⟩, H⟩ := g_e H
      refine ev_laload (k := 29) hi0 hi1 dX11_placeToLine_29 (hc := ac_29) (hlen := ln_29 _ _) (K := ?_)
      obtain ⟨a11, ea11, H⟩ := bd_e H
      rw [ea11]
      obtain ⟨h12, eh12, H⟩ := lt_e H
      refine ev_putL j_ok1 fl_X11_222 eh12 dX11_placeToLine_30 (K := ?_)
      refine ev_bipush dX11_placeToLine_33 (k := ?_)
      cases H
      exact ev_ireturn dX11_placeToLine_35
  · rw [if_neg hc] at H
    refine ev_bipush dX11_placeToLine_9 (k := ?_)
    cases H
    exact ev_ireturn dX11_placeToLine_11
-- X11_placeToRoom
abbrev T11_placeToRoom : JT := (RX11, cX11_placeToRoom, 3, some .int, false)
set_option maxRecDepth 100000 in
set_option maxHeartbeats 4000000 in
theorem C11_placeToRoom {l1 : Option Int} {l2 : Int} {h : JM} {res : (Int × JM)} (H : F11_placeToRoom l1 l2 h = some res) : Cn j_W1 1 0 0 yX11_placeToRoom cX11_placeToRoom 3 (some .int) [.inr (.inr (some (11, 0))), .inr (.inr (Option.map (Prod.mk 0) (l1))), .inl (l2)] h (some (.inl res.1)) res.2 := by
  refine Cn.by (own := RX11) (b := false) [(0, .inr (.inr (some (11, 0)))), (1, .inr (.inr (Option.map (Prod.mk 0) (l1)))), (2, .inl (l2))] rfl (fun z => by cases z) (by decide +kernel) (K := ?_)
  unfold F11_placeToRoom at H
  refine ev_aload_n 1 dX11_placeToRoom_0 (k := ?_)
  obtain ⟨a1, ea1, H⟩ := bd_e H
  rw [ea1]
  refine ev_getR (t := 1) (x := Option.map (Prod.mk 1) (h.2.2 0 a1 0)) fl_X11_444 dX11_placeToRoom_1 (hx := ry_0_0 _ _) (K := ?_)
  obtain ⟨a2, ea2, H⟩ := bd_e H
  rw [ea2]
  refine ev_getR (t := 23) (x := some (23, a2)) fl_X11_257 dX11_placeToRoom_4 (hx := ry_1_5 _ _) (K := ?_)
  refine ev_iload_n 2 dX11_placeToRoom_7 (k := ?_)
  obtain ⟨⟨hi0, hi1⟩, H⟩ := g_e H
  refine ev_iaload (k := 23) hi0 hi1 dX11_placeToRoom_8 (hc := ac_23) (hlen := ln_23 _ _) (K := ?_)
  refine ev_bipush dX11_placeToRoom_9 (k := ?_)
  refine ev_icmplt 16 dX11_placeToRoom_11 (kt := fun hc => ?_) (kf := fun hc => ?_)
  · rw [if_pos hc] at H
    refine ev_aload_n 1 dX11_placeToRoom_16 (k := ?_)
    refine ev_iload_n 2 dX11_placeToRoom_17 (k := ?_)
    obtain ⟨h3, eh3, H⟩ := lt_e H
    refine ev_putI j_ok1 fl_X11_234 eh3 dX11_placeToRoom_18 (K := ?_)
    refine ev_aload_n 1 dX11_placeToRoom_21 (k := ?_)
    refine ev_getR (t := 1) (x := Option.map (Prod.mk 1) (h3.2.2 0 a1 0)) fl_X11_444 dX11_placeToRoom_22 (hx := ry_0_0 _ _) (K := ?_)
    obtain ⟨a4, ea4, H⟩ := bd_e H
    rw [ea4]
    refine ev_getR (t := 23) (x := some (23, a4)) fl_X11_257 dX11_placeToRoom_25 (hx := ry_1_5 _ _) (K := ?_)
    refine ev_iload_n 2 dX11_placeToRoom_28 (k := ?_)
    refine ev_dup2 dX11_placeToRoom_29 (k := ?_)
    obtain ⟨⟨hi0, hi1⟩, H⟩ := g_e H
    refine ev_iaload (k := 23) hi0 hi1 dX11_placeToRoom_30 (hc := ac_23) (hlen := ln_23 _ _) (K := ?_)
    refine ev_iconst dX11_placeToRoom_31 (k := ?_)
    refine ev_iadd dX11_placeToRoom_32 (k := ?_)
    obtain ⟨⟨hi0, hi1⟩, H⟩ := g_e H
    obtain ⟨h5, eh5, H⟩ := lt_e H
    refine ev_iastore (k := 23) j_ok1 hi0 hi1 eh5 dX11_placeToRoom_33 (hc := ac_23) (hlen := ln_23 _ _) (K := ?_)
    refine ev_bipush dX11_placeToRoom_34 (k := ?_)
    cases H
    exact ev_ireturn dX11_placeToRoom_36
  · rw [if_neg hc] at H
    refine ev_iconst dX11_placeToRoom_14 (k := ?_)
    cases H
    exact ev_ireturn dX11_placeToRoom_15
-- X11_place
abbrev T11_place : JT := (RX11, cX11_place, 6, none, false)
set_option maxRecDepth 100000 in
set_option maxHeartbeats 4000000 in
theorem E11_place_173 (l1 : Option Int) (l3 : Int) (h : JM) (res : JM) (H : F11_place_173 l1 l3 h = some res) : Ev j_W1 4 0 0 T11_place 173 [(0, .inr (.inr (some (11, 0)))), (1, .inr (.inr (Option.map (Prod.mk 0) (l1)))), (3, .inl (l3))] [] h none res := by
  unfold F11_place_173 at H
  refine ev_iload_n 2 dX11_place_173 (k := ?_)
  refine ev_ifle 184 dX11_place_174 (kt := fun hc => ?_) (kf := fun hc => ?_)
  · rw [if_pos hc] at H
    cases H
    exact ev_return dX11_place_184
  · rw [if_neg hc] at H
    refine ev_aload_n 0 dX11_place_177 (k := ?_)
    refine ev_aload_n 1 dX11_place_178 (k := ?_)
    refine ev_iload_n 2 dX11_place_179 (k := ?_)
    refine ev_iconst dX11_place_180 (k := ?_)
    obtain ⟨h1, hq, H⟩ := bd_e H
    refine ev_callV (mc := 0) (ms := 0) (st := []) (C11_end hq) md_X11_end im_X11_end se_X11_end ml_X11_375 dX11_place_181 _ (by decide) (K := ?_)
    cases H
    exact ev_return dX11_place_184
set_option maxRecDepth 100000 in
set_option maxHeartbeats 4000000 in
theorem E11_place_141 (l1 : Option Int) (l3 : Int) (h : JM) (res : JM) (H : F11_place_141 l1 l3 h = some res) : Ev j_W1 4 0 0 T11_place 141 [(0, .inr (.inr (some (11, 0)))), (1, .inr (.inr (Option.map (Prod.mk 0) (l1)))), (3, .inl (l3))] [] h none res := by
  unfold F11_place_141 at H
  refine ev_iload_n 2 dX11_place_141 (k := ?_)
  refine ev_bipush dX11_place_142 (k := ?_)
  refine ev_icmpne 156 dX11_place_144 (kt := fun hc => ?_) (kf := fun hc => ?_)
  · rw [if_neg hc] at H
    refine ev_iload_n 2 dX11_place_156 (k := ?_)
    refine ev_ifne 173 dX11_place_157 (kt := fun hc => ?_) (kf := fun hc => ?_)
    · rw [if_neg hc] at H
      exact E11_place_173 l1 l3 h _ H
    · rw [if_pos hc] at H
      refine ev_aload_n 1 dX11_place_160 (k := ?_)
      obtain ⟨a2, ea2, H⟩ := bd_e H
      rw [ea2]
      refine ev_getI (x := h.1 0 a2 9) fl_X11_210 dX11_place_161 (K := ?_)
      refine ev_iconst dX11_place_164 (k := ?_)
      refine ev_icmpeq 173 dX11_place_165 (kt := fun hc => ?_) (kf := fun hc => ?_)
      · rw [if_pos hc] at H
        exact E11_place_173 (some a2) l3 h _ H
      · rw [if_neg hc] at H
        refine ev_aload_n 0 dX11_place_168 (k := ?_)
        refine ev_aload_n 1 dX11_place_169 (k := ?_)
        obtain ⟨h3, hq, H⟩ := bd_e H
        refine ev_callV (mc := 0) (ms := 0) (st := []) (C11_announce hq) md_X11_announce im_X11_announce se_X11_announce ml_X11_386 dX11_place_170 _ (by decide) (K := ?_)
        exact E11_place_173 (some a2) l3 h3 _ H
  · rw [if_pos hc] at H
    refine ev_aload_n 0 dX11_place_147 (k := ?_)
    refine ev_aload_n 1 dX11_place_148 (k := ?_)
    obtain ⟨q4, hq, H⟩ := bd_e H
    refine ev_callV (mc := 0) (ms := 0) (st := []) (C11_answer hq) md_X11_answer im_X11_answer se_X11_answer ml_X11_390 dX11_place_149 _ (by decide) (K := ?_)
    refine ev_istore_n [(3, .inl (q4.1)), (0, .inr (.inr (some (11, 0)))), (1, .inr (.inr (Option.map (Prod.mk 0) (l1))))] dX11_place_152 (k := ?_)
    refine ev_goto 173 dX11_place_153 (k := ?_)
    refine ev_lv [1, 2, 0] [(0, .inr (.inr (some (11, 0)))), (1, .inr (.inr (Option.map (Prod.mk 0) (l1)))), (3, .inl (q4.1))] (k := ?_)
    exact E11_place_173 l1 q4.1 q4.2 _ H
set_option maxRecDepth 100000 in
set_option maxHeartbeats 4000000 in
theorem E11_place_135 (k5 : Option Int → Int → Int → JM → Option JM) (hk5 : ∀ (l1 : Option Int) (l3 : Int) (l4 : Int) (h : JM) (res : JM), k5 l1 l3 l4 h = some res → Ev j_W1 4 0 0 T11_place 5 [(0, .inr (.inr (some (11, 0)))), (1, .inr (.inr (Option.map (Prod.mk 0) (l1)))), (3, .inl (l3)), (4, .inl (l4))] [] h none res) (l1 : Option Int) (l3 : Int) (l4 : Int) (h : JM) (res : JM) (H : F11_place_135 k5 l1 l3 l4 h = some res) : Ev j_W1 4 0 0 T11_place 135 [(0, .inr (.inr (some (11, 0)))), (1, .inr (.inr (Option.map (Prod.mk 0) (l1)))), (3, .inl (l3)), (4, .inl (l4))] [] h none res := by
  unfold F11_place_135 at H
  refine ev_iinc 3 [(4, .inl (w32 (l4 + 1))), (0, .inr (.inr (some (11, 0)))), (1, .inr (.inr (Option.map (Prod.mk 0) (l1)))), (3, .inl (l3))] dX11_place_135 (k := ?_)
  refine ev_goto 5 dX11_place_138 (k := ?_)
  refine ev_lv [1, 2, 3, 0] [(0, .inr (.inr (some (11, 0)))), (1, .inr (.inr (Option.map (Prod.mk 0) (l1)))), (3, .inl (l3)), (4, .inl (w32 (l4 + 1)))] (k := ?_)
  exact hk5 l1 l3 (w32 (l4 + 1)) h _ H
set_option maxRecDepth 100000 in
set_option maxHeartbeats 4000000 in
theorem E11_place_5b (k5 : Option Int → Int → Int → JM → Option JM) (hk5 : ∀ (l1 : Option Int) (l3 : Int) (l4 : Int) (h : JM) (res : JM), k5 l1 l3 l4 h = some res → Ev j_W1 4 0 0 T11_place 5 [(0, .inr (.inr (some (11, 0)))), (1, .inr (.inr (Option.map (Prod.mk 0) (l1)))), (3, .inl (l3)), (4, .inl (l4))] [] h none res) (l1 : Option Int) (l3 : Int) (l4 : Int) (h : JM) (res : JM) (H : F11_place_5b k5 l1 l3 l4 h = some res) : Ev j_W1 4 0 0 T11_place 5 [(0, .inr (.inr (some (11, 0)))), (1, .inr (.inr (Option.map (Prod.mk 0) (l1)))), (3, .inl (l3)), (4, .inl (l4))] [] h none res := by
  unfold F11_place_5b at H
  refine ev_iload 3 dX11_place_5 (k := ?_)
  refine ev_bipush dX11_place_7 (k := ?_)
  refine ev_icmpge 141 dX11_place_9 (kt := fun hc => ?_) (kf := fun hc => ?_)
  · rw [if_pos hc] at H
    refine ev_lv [0, 1, 2] [(0, .inr (.inr (some (11, 0)))), (1, .inr (.inr (Option.map (Prod.mk 0) (l1)))), (3, .inl (l3))] (k := ?_)
    exact E11_place_141 l1 l3 h _ H
  · rw [if_neg hc] at H
    refine ev_aload_n 1 dX11_place_12 (k := ?_)
    obtain ⟨a5, ea5, H⟩ := bd_e H
    rw [ea5]
    refine ev_getR (t := 6) (x := Option.map (Prod.mk 6) (h.2.2 0 a5 7)) fl_X11_379 dX11_place_13 (hx := ry_0_7 _ _) (K := ?_)
    refine ev_astore [(5, .inr (.inr (Option.map (Prod.mk 6) (h.2.2 0 a5 7)))), (0, .inr (.inr (some (11, 0)))), (1, .inr (.inr (some (0, a5)))), (3, .inl (l3)), (4, .inl (l4))] dX11_place_16 (k := ?_)
    refine ev_iload_n 3 dX11_place_18 (k := ?_)
    refine ev_bipush dX11_place_19 (k := ?_)
    refine ev_icmpne 33 dX11_place_21 (kt := fun hc => ?_) (kf := fun hc => ?_)
    · rw [if_neg hc] at H
      refine ev_iload_n 3 dX11_place_33 (k := ?_)
      refine ev_iconst dX11_place_34 (k := ?_)
      refine ev_icmpne 141 dX11_place_35 (kt := fun hc => ?_) (kf := fun hc => ?_)
      · rw [if_neg hc] at H
        refine ev_lv [1, 2, 3] [(0, .inr (.inr (some (11, 0)))), (1, .inr (.inr (some (0, a5)))), (3, .inl (l3))] (k := ?_)
        exact E11_place_141 (some a5) l3 h _ H
      · rw [if_pos hc] at H
        refine ev_aload 0 dX11_place_38 (k := ?_)
        refine ev_nonnullK (h.2.2 0 a5 7) 46 dX11_place_40 (kt := fun hc => ?_) (kf := fun hc => ?_)
        · rw [if_neg hc] at H
          refine ev_aload 0 dX11_place_46 (k := ?_)
          obtain ⟨a6, ea6, H⟩ := bd_e H
          rw [ea6]
          refine ev_getI (x := h.1 6 a6 2) fl_X11_462 dX11_place_48 (K := ?_)
          refine ev_ifne 73 dX11_place_51 (kt := fun hc => ?_) (kf := fun hc => ?_)
          · rw [if_neg hc] at H
            refine ev_aload 0 dX11_place_73 (k := ?_)
            refine ev_getI (x := h.1 6 a6 2) fl_X11_462 dX11_place_75 (K := ?_)
            refine ev_iconst dX11_place_78 (k := ?_)
            refine ev_icmpne 104 dX11_place_79 (kt := fun hc => ?_) (kf := fun hc => ?_)
            · rw [if_neg hc] at H
              refine ev_aload 0 dX11_place_104 (k := ?_)
              refine ev_getI (x := h.1 6 a6 2) fl_X11_462 dX11_place_106 (K := ?_)
              refine ev_iconst dX11_place_109 (k := ?_)
              refine ev_icmpne 127 dX11_place_110 (kt := fun hc => ?_) (kf := fun hc => ?_)
              · rw [if_neg hc] at H
                refine ev_aload_n 1 dX11_place_127 (k := ?_)
                refine ev_aload_n 2 dX11_place_128 (k := ?_)
                refine ev_aload 0 dX11_place_129 (k := ?_)
                obtain ⟨q7, hq, H⟩ := bd_e H
                refine ev_callV (mc := 0) (ms := 0) (st := []) (C11_placeFar hq) md_X11_placeFar im_X11_placeFar se_X11_placeFar ml_X11_480 dX11_place_131 _ (by decide) (K := ?_)
                refine ev_istore_n [(3, .inl (q7.1)), (5, .inr (.inr (some (6, a6)))), (0, .inr (.inr (some (11, 0)))), (1, .inr (.inr (some (0, a5)))), (4, .inl (l4))] dX11_place_134 (k := ?_)
                refine ev_lv [2, 3, 0, 4] [(0, .inr (.inr (some (11, 0)))), (1, .inr (.inr (some (0, a5)))), (3, .inl (q7.1)), (4, .inl (l4))] (k := ?_)
                exact E11_place_135 k5 hk5 (some a5) q7.1 l4 q7.2 _ H
              · rw [if_pos hc] at H
                refine ev_aload_n 1 dX11_place_113 (k := ?_)
                refine ev_aload_n 2 dX11_place_114 (k := ?_)
                refine ev_aload 0 dX11_place_115 (k := ?_)
                refine ev_getI (x := h.1 6 a6 3) fl_X11_465 dX11_place_117 (K := ?_)
                obtain ⟨q8, hq, H⟩ := bd_e H
                refine ev_callV (mc := 0) (ms := 0) (st := []) (C11_placeToRoom hq) md_X11_placeToRoom im_X11_placeToRoom se_X11_placeToRoom ml_X11_476 dX11_place_120 _ (by decide) (K := ?_)
                refine ev_istore_n [(3, .inl (q8.1)), (5, .inr (.inr (some (6, a6)))), (0, .inr (.inr (some (11, 0)))), (1, .inr (.inr (some (0, a5)))), (4, .inl (l4))] dX11_place_123 (k := ?_)
                refine ev_goto 135 dX11_place_124 (k := ?_)
                refine ev_lv [2, 3, 0, 4] [(0, .inr (.inr (some (11, 0)))), (1, .inr (.inr (some (0, a5)))), (3, .inl (q8.1)), (4, .inl (l4))] (k := ?_)
                exact E11_place_135 k5 hk5 (some a5) q8.1 l4 q8.2 _ H
            · rw [if_pos hc] at H
              refine ev_aload_n 1 dX11_place_82 (k := ?_)
              refine ev_aload_n 2 dX11_place_83 (k := ?_)
              refine ev_aload_n 2 dX11_place_84 (k := ?_)
              refine ev_getR (t := 1) (x := Option.map (Prod.mk 1) (h.2.2 0 a5 0)) fl_X11_444 dX11_place_85 (hx := ry_0_0 _ _) (K := ?_)
              obtain ⟨a9, ea9, H⟩ := bd_e H
              rw [ea9]
              refine ev_getR (t := 21) (x := some (21, a9)) fl_X11_118 dX11_place_88 (hx := ry_1_2 _ _) (K := ?_)
              refine ev_aload 0 dX11_place_91 (k := ?_)
              refine ev_getI (x := h.1 6 a6 3) fl_X11_465 dX11_place_93 (K := ?_)
              obtain ⟨⟨hi0, hi1⟩, H⟩ := g_e H
              refine ev_aaload (k := 21) 2 (x := some (2, (3 * a9 + (h.1 6 a6 3)))) hi0 hi1 dX11_place_96 (hc := ac_21) (hlen := ln_21 _ _) (hx := rz_21 _ _ _) (K := ?_)
              obtain ⟨q10, hq, H⟩ := bd_e H
              refine ev_callV (mc := 0) (ms := 0) (st := []) (C11_placeToGroup hq) md_X11_placeToGroup im_X11_placeToGroup se_X11_placeToGroup ml_X11_472 dX11_place_97 _ (by decide) (K := ?_)
              refine ev_istore_n [(3, .inl (q10.1)), (5, .inr (.inr (some (6, a6)))), (0, .inr (.inr (some (11, 0)))), (1, .inr (.inr (some (0, a5)))), (4, .inl (l4))] dX11_place_100 (k := ?_)
              refine ev_goto 135 dX11_place_101 (k := ?_)
              refine ev_lv [2, 3, 0, 4] [(0, .inr (.inr (some (11, 0)))), (1, .inr (.inr (some (0, a5)))), (3, .inl (q10.1)), (4, .inl (l4))] (k := ?_)
              exact E11_place_135 k5 hk5 (some a5) q10.1 l4 q10.2 _ H
          · rw [if_pos hc] at H
            refine ev_aload_n 1 dX11_place_54 (k := ?_)
            refine ev_aload_n 2 dX11_place_55 (k := ?_)
            refine ev_aload_n 1 dX11_place_56 (k := ?_)
            refine ev_getR (t := 39) (x := some (39, 0)) fl_X11_17 dX11_place_57 (hx := ry_11_3 _ _) (K := ?_)
            refine ev_aload 0 dX11_place_60 (k := ?_)
            refine ev_getI (x := h.1 6 a6 3) fl_X11_465 dX11_place_62 (K := ?_)
            obtain ⟨⟨hi0, hi1⟩, H⟩ := g_e H
            refine ev_aaload (k := 39) 4 (x := some (4, (h.1 6 a6 3))) hi0 hi1 dX11_place_65 (hc := ac_39) (hlen := ln_39 _ _) (hx := rz_39 _ _ _) (K := ?_)
            obtain ⟨q11, hq, H⟩ := bd_e H
            refine ev_callV (mc := 0) (ms := 0) (st := []) (C11_placeToLine hq) md_X11_placeToLine im_X11_placeToLine se_X11_placeToLine ml_X11_468 dX11_place_66 _ (by decide) (K := ?_)
            refine ev_istore_n [(3, .inl (q11.1)), (5, .inr (.inr (some (6, a6)))), (0, .inr (.inr (some (11, 0)))), (1, .inr (.inr (some (0, a5)))), (4, .inl (l4))] dX11_place_69 (k := ?_)
            refine ev_goto 135 dX11_place_70 (k := ?_)
            refine ev_lv [2, 3, 0, 4] [(0, .inr (.inr (some (11, 0)))), (1, .inr (.inr (some (0, a5)))), (3, .inl (q11.1)), (4, .inl (l4))] (k := ?_)
            exact E11_place_135 k5 hk5 (some a5) q11.1 l4 q11.2 _ H
        · rw [if_pos hc] at H
          refine ev_goto 141 dX11_place_43 (k := ?_)
          refine ev_lv [1, 2, 3] [(0, .inr (.inr (some (11, 0)))), (1, .inr (.inr (some (0, a5)))), (3, .inl (l3))] (k := ?_)
          exact E11_place_141 (some a5) l3 h _ H
    · rw [if_pos hc] at H
      refine ev_aload_n 1 dX11_place_24 (k := ?_)
      refine ev_aload_n 2 dX11_place_25 (k := ?_)
      obtain ⟨q12, hq, H⟩ := bd_e H
      refine ev_callV (mc := 0) (ms := 0) (st := []) (C11_findRowAnew hq) md_X11_findRowAnew im_X11_findRowAnew se_X11_findRowAnew ml_X11_459 dX11_place_26 _ (by decide) (K := ?_)
      refine ev_istore_n [(3, .inl (q12.1)), (5, .inr (.inr (Option.map (Prod.mk 6) (h.2.2 0 a5 7)))), (0, .inr (.inr (some (11, 0)))), (1, .inr (.inr (some (0, a5)))), (4, .inl (l4))] dX11_place_29 (k := ?_)
      refine ev_goto 135 dX11_place_30 (k := ?_)
      refine ev_lv [2, 3, 0, 4] [(0, .inr (.inr (some (11, 0)))), (1, .inr (.inr (some (0, a5)))), (3, .inl (q12.1)), (4, .inl (l4))] (k := ?_)
      exact E11_place_135 k5 hk5 (some a5) q12.1 l4 q12.2 _ H
theorem E11_place_5 (n : Nat) : ∀ (l1 : Option Int) (l3 : Int) (l4 : Int) (h : JM) (res : JM), F11_place_5 n l1 l3 l4 h = some res → Ev j_W1 4 0 0 T11_place 5 [(0, .inr (.inr (some (11, 0)))), (1, .inr (.inr (Option.map (Prod.mk 0) (l1)))), (3, .inl (l3)), (4, .inl (l4))] [] h none res := by
  induction n with
  | zero =>
    intro l1 l3 l4 h res H
    cases H
  | succ n ih =>
    intro l1 l3 l4 h res H
    exact E11_place_5b (F11_place_5 n) ih l1 l3 l4 h res H
set_option maxRecDepth 100000 in
set_option maxHeartbeats 4000000 in
theorem C11_place {l1 : Option Int} {l2 : Int} {h : JM} {res : JM} (H : F11_place l1 l2 h = some res) : Cn j_W1 4 0 0 yX11_place cX11_place 6 none [.inr (.inr (some (11, 0))), .inr (.inr (Option.map (Prod.mk 0) (l1))), .inl (l2)] h none res := by
  refine Cn.by (own := RX11) (b := false) [(0, .inr (.inr (some (11, 0)))), (1, .inr (.inr (Option.map (Prod.mk 0) (l1)))), (2, .inl (l2))] rfl (fun z => by cases z) (by decide +kernel) (K := ?_)
  unfold F11_place at H
  refine ev_iload_n 2 dX11_place_0 (k := ?_)
  refine ev_istore_n [(3, .inl (l2)), (0, .inr (.inr (some (11, 0)))), (1, .inr (.inr (Option.map (Prod.mk 0) (l1)))), (2, .inl (l2))] dX11_place_1 (k := ?_)
  refine ev_iconst dX11_place_2 (k := ?_)
  refine ev_istore [(4, .inl (0)), (3, .inl (l2)), (0, .inr (.inr (some (11, 0)))), (1, .inr (.inr (Option.map (Prod.mk 0) (l1)))), (2, .inl (l2))] dX11_place_3 (k := ?_)
  refine ev_lv [2, 3, 1, 0] [(0, .inr (.inr (some (11, 0)))), (1, .inr (.inr (Option.map (Prod.mk 0) (l1)))), (3, .inl (l2)), (4, .inl (0))] (k := ?_)
  exact E11_place_5 j_fu l1 l2 0 h _ H
-- X11_checkRinging
abbrev T11_checkRinging : JT := (RX11, cX11_checkRinging, 4, none, false)
set_option maxRecDepth 100000 in
set_option maxHeartbeats 4000000 in
theorem C11_checkRinging {l1 : Option Int} {l2 : Option Int} {l3 : Int} {h : JM} {res : JM} (H : F11_checkRinging l1 l2 l3 h = some res) : Cn j_W1 5 0 0 yX11_checkRinging cX11_checkRinging 4 none [.inr (.inr (some (11, 0))), .inr (.inr (Option.map (Prod.mk 0) (l1))), .inr (.inr (Option.map (Prod.mk 4) (l2))), .inl (l3)] h none res := by
  refine Cn.by (own := RX11) (b := false) [(0, .inr (.inr (some (11, 0)))), (1, .inr (.inr (Option.map (Prod.mk 0) (l1)))), (2, .inr (.inr (Option.map (Prod.mk 4) (l2)))), (3, .inl (l3))] rfl (fun z => by cases z) (by decide +kernel) (K := ?_)
  unfold F11_checkRinging at H
  refine ev_aload_n 1 dX11_checkRinging_0 (k := ?_)
  obtain ⟨a1, ea1, H⟩ := bd_e H
  rw [ea1]
  refine ev_getR (t := 2) (x := Option.map (Prod.mk 2) (h.2.2 0 a1 5)) fl_X11_495 dX11_checkRinging_1 (hx := ry_0_5 _ _) (K := ?_)
  refine ev_nullK (h.2.2 0 a1 5) 48 dX11_checkRinging_4 (kt := fun hc => ?_) (kf := fun hc => ?_)
  · rw [if_pos hc] at H
    refine ev_iload_n 3 dX11_checkRinging_48 (k := ?_)
    refine ev_sipush dX11_checkRinging_49 (k := ?_)
    refine ev_icmpne 65 dX11_checkRinging_52 (kt := fun hc => ?_) (kf := fun hc => ?_)
    · rw [if_neg hc] at H
      refine ev_iload_n 3 dX11_checkRinging_65 (k := ?_)
      refine ev_sipush dX11_checkRinging_66 (k := ?_)
      refine ev_icmpne 111 dX11_checkRinging_69 (kt := fun hc => ?_) (kf := fun hc => ?_)
      · rw [if_neg hc] at H
        cases H
        exact ev_return dX11_checkRinging_111
      · rw [if_pos hc] at H
        refine ev_aload_n 2 dX11_checkRinging_72 (k := ?_)
        obtain ⟨a2, ea2, H⟩ := bd_e H
        rw [ea2]
        refine ev_getR (t := 29) (x := some (29, a2)) fl_X11_141 dX11_checkRinging_73 (hx := ry_4_2 _ _) (K := ?_)
        refine ev_iconst dX11_checkRinging_76 (k := ?_)
        obtain ⟨⟨hi0, hi1⟩, H⟩ := g_e H
        refine ev_laload (k := 29) hi0 hi1 dX11_checkRinging_77 (hc := ac_29) (hlen := ln_29 _ _) (K := ?_)
        refine ev_lconst (v := 0) dX11_checkRinging_78 (k := ?_)
        refine ev_lcmp dX11_checkRinging_79 (k := ?_)
        refine ev_ifeq 111 dX11_checkRinging_80 (kt := fun hc => ?_) (kf := fun hc => ?_)
        · rw [if_pos hc] at H
          cases H
          exact ev_return dX11_checkRinging_111
        · rw [if_neg hc] at H
          refine ev_aload_n 0 dX11_checkRinging_83 (k := ?_)
          refine ev_aload_n 1 dX11_checkRinging_84 (k := ?_)
          refine ev_aload_n 2 dX11_checkRinging_85 (k := ?_)
          obtain ⟨h3, hq, H⟩ := bd_e H
          refine ev_callV (mc := 0) (ms := 0) (st := []) (C11_ringNoMore hq) md_X11_ringNoMore im_X11_ringNoMore se_X11_ringNoMore ml_X11_530 dX11_checkRinging_86 _ (by decide) (K := ?_)
          refine ev_aload_n 1 dX11_checkRinging_89 (k := ?_)
          refine ev_null dX11_checkRinging_90 (k := ?_)
          obtain ⟨h4, eh4, H⟩ := lt_e H
          refine ev_putR (t := 4) j_ok1 none fl_X11_237 eh4 (hdg := dX11_checkRinging_91) (hly := rl_0_3 _) (K := ?_)
          refine ev_aload_n 1 dX11_checkRinging_94 (k := ?_)
          refine ev_aload_n 2 dX11_checkRinging_95 (k := ?_)
          refine ev_getR (t := 29) (x := some (29, a2)) fl_X11_141 dX11_checkRinging_96 (hx := ry_4_2 _ _) (K := ?_)
          refine ev_iconst dX11_checkRinging_99 (k := ?_)
          obtain ⟨⟨hi0, hi1⟩, H⟩ := g_e H
          refine ev_laload (k := 29) hi0 hi1 dX11_checkRinging_100 (hc := ac_29) (hlen := ln_29 _ _) (K := ?_)
          obtain ⟨h5, eh5, H⟩ := lt_e H
          refine ev_putL j_ok1 fl_X11_222 eh5 dX11_checkRinging_101 (K := ?_)
          refine ev_aload_n 0 dX11_checkRinging_104 (k := ?_)
          refine ev_aload_n 1 dX11_checkRinging_105 (k := ?_)
          refine ev_bipush dX11_checkRinging_106 (k := ?_)
          obtain ⟨h6, hq, H⟩ := bd_e H
          refine ev_callV (mc := 0) (ms := 0) (st := []) (C11_place hq) md_X11_place im_X11_place se_X11_place ml_X11_355 dX11_checkRinging_108 _ (by decide) (K := ?_)
          cases H
          exact ev_return dX11_checkRinging_111
    · rw [if_pos hc] at H
      refine ev_aload_n 0 dX11_checkRinging_55 (k := ?_)
      refine ev_aload_n 1 dX11_checkRinging_56 (k := ?_)
      refine ev_iconst dX11_checkRinging_57 (k := ?_)
      refine ev_iconst dX11_checkRinging_58 (k := ?_)
      obtain ⟨h7, hq, H⟩ := bd_e H
      refine ev_callV (mc := 0) (ms := 0) (st := []) (C11_end hq) md_X11_end im_X11_end se_X11_end ml_X11_375 dX11_checkRinging_59 _ (by decide) (K := ?_)
      refine ev_goto 111 dX11_checkRinging_62 (k := ?_)
      cases H
      exact ev_return dX11_checkRinging_111
  · rw [if_neg hc] at H
    refine ev_iload_n 3 dX11_checkRinging_7 (k := ?_)
    refine ev_sipush dX11_checkRinging_8 (k := ?_)
    refine ev_icmpne 111 dX11_checkRinging_11 (kt := fun hc => ?_) (kf := fun hc => ?_)
    · rw [if_neg hc] at H
      cases H
      exact ev_return dX11_checkRinging_111
    · rw [if_pos hc] at H
      refine ev_aload_n 0 dX11_checkRinging_14 (k := ?_)
      refine ev_aload_n 1 dX11_checkRinging_15 (k := ?_)
      refine ev_aload_n 2 dX11_checkRinging_16 (k := ?_)
      obtain ⟨h8, hq, H⟩ := bd_e H
      refine ev_callV (mc := 0) (ms := 0) (st := []) (C11_ringNoMore hq) md_X11_ringNoMore im_X11_ringNoMore se_X11_ringNoMore ml_X11_530 dX11_checkRinging_17 _ (by decide) (K := ?_)
      refine ev_aload_n 2 dX11_checkRinging_20 (k := ?_)
      refine ev_iconst dX11_checkRinging_21 (k := ?_)
      obtain ⟨a9, ea9, H⟩ := bd_e H
      rw [ea9]
      obtain ⟨h10, eh10, H⟩ := lt_e H
      refine ev_putZ j_ok1 (Or.inr rfl) fl_X11_219 eh10 dX11_checkRinging_22 (K := ?_)
      refine ev_aload_n 1 dX11_checkRinging_25 (k := ?_)
      refine ev_null dX11_checkRinging_26 (k := ?_)
      obtain ⟨h11, eh11, H⟩ := lt_e H
      refine ev_putR (t := 4) j_ok1 none fl_X11_237 eh11 (hdg := dX11_checkRinging_27) (hly := rl_0_3 _) (K := ?_)
      refine ev_aload_n 0 dX11_checkRinging_30 (k := ?_)
      refine ev_aload_n 1 dX11_checkRinging_31 (k := ?_)
      refine ev_iconst dX11_checkRinging_32 (k := ?_)
      obtain ⟨h12, hq, H⟩ := bd_e H
      refine ev_callV (mc := 0) (ms := 0) (st := []) (C11_enter hq) md_X11_enter im_X11_enter se_X11_enter ml_X11_383 dX11_checkRinging_33 _ (by decide) (K := ?_)
      refine ev_aload_n 1 dX11_checkRinging_36 (k := ?_)
      refine ev_getR (t := 2) (x := Option.map (Prod.mk 2) (h12.2.2 0 a1 5)) fl_X11_495 dX11_checkRinging_37 (hx := ry_0_5 _ _) (K := ?_)
      refine ev_aload_n 1 dX11_checkRinging_40 (k := ?_)
      refine ev_iconst dX11_checkRinging_41 (k := ?_)
      obtain ⟨a13, ea13, H⟩ := bd_e H
      rw [ea13]
      obtain ⟨h14, hq, H⟩ := bd_e H
      refine ev_callV (mc := 0) (ms := 0) (st := []) (C2_letWait hq) md_X2_letWait im_X2_letWait se_X2_letWait ml_X11_513 dX11_checkRinging_42 _ (by decide) (K := ?_)
      refine ev_goto 111 dX11_checkRinging_45 (k := ?_)
      cases H
      exact ev_return dX11_checkRinging_111
-- X11_endIf
abbrev T11_endIf : JT := (RX11, cX11_endIf, 3, none, false)
set_option maxRecDepth 100000 in
set_option maxHeartbeats 4000000 in
theorem C11_endIf {l1 : Option Int} {l2 : Int} {h : JM} {res : JM} (H : F11_endIf l1 l2 h = some res) : Cn j_W1 4 0 0 yX11_endIf cX11_endIf 3 none [.inr (.inr (some (11, 0))), .inr (.inr (Option.map (Prod.mk 0) (l1))), .inl (l2)] h none res := by
  refine Cn.by (own := RX11) (b := false) [(0, .inr (.inr (some (11, 0)))), (1, .inr (.inr (Option.map (Prod.mk 0) (l1)))), (2, .inl (l2))] rfl (fun z => by cases z) (by decide +kernel) (K := ?_)
  unfold F11_endIf at H
  refine ev_iload_n 2 dX11_endIf_0 (k := ?_)
  refine ev_ifle 11 dX11_endIf_1 (kt := fun hc => ?_) (kf := fun hc => ?_)
  · rw [if_pos hc] at H
    cases H
    exact ev_return dX11_endIf_11
  · rw [if_neg hc] at H
    refine ev_aload_n 0 dX11_endIf_4 (k := ?_)
    refine ev_aload_n 1 dX11_endIf_5 (k := ?_)
    refine ev_iload_n 2 dX11_endIf_6 (k := ?_)
    refine ev_iconst dX11_endIf_7 (k := ?_)
    obtain ⟨h1, hq, H⟩ := bd_e H
    refine ev_callV (mc := 0) (ms := 0) (st := []) (C11_end hq) md_X11_end im_X11_end se_X11_end ml_X11_375 dX11_endIf_8 _ (by decide) (K := ?_)
    cases H
    exact ev_return dX11_endIf_11
-- X11_checkTimes
abbrev T11_checkTimes : JT := (RX11, cX11_checkTimes, 3, none, false)
set_option maxRecDepth 100000 in
set_option maxHeartbeats 4000000 in
theorem E11_checkTimes_72 (k2 : Int → JM → Option JM) (hk2 : ∀ (l1 : Int) (h : JM) (res : JM), k2 l1 h = some res → Ev j_W1 6 0 0 T11_checkTimes 2 [(0, .inr (.inr (some (11, 0)))), (1, .inl (l1))] [] h none res) (l1 : Int) (h : JM) (res : JM) (H : F11_checkTimes_72 k2 l1 h = some res) : Ev j_W1 6 0 0 T11_checkTimes 72 [(0, .inr (.inr (some (11, 0)))), (1, .inl (l1))] [] h none res := by
  unfold F11_checkTimes_72 at H
  refine ev_iinc 1 [(1, .inl (w32 (l1 + 1))), (0, .inr (.inr (some (11, 0))))] dX11_checkTimes_72 (k := ?_)
  refine ev_goto 2 dX11_checkTimes_75 (k := ?_)
  refine ev_lv [1, 0] [(0, .inr (.inr (some (11, 0)))), (1, .inl (w32 (l1 + 1)))] (k := ?_)
  exact hk2 (w32 (l1 + 1)) h _ H
set_option maxRecDepth 100000 in
set_option maxHeartbeats 4000000 in
theorem E11_checkTimes_53 (k2 : Int → JM → Option JM) (hk2 : ∀ (l1 : Int) (h : JM) (res : JM), k2 l1 h = some res → Ev j_W1 6 0 0 T11_checkTimes 2 [(0, .inr (.inr (some (11, 0)))), (1, .inl (l1))] [] h none res) (l1 : Int) (l2 : Option Int) (h : JM) (res : JM) (H : F11_checkTimes_53 k2 l1 l2 h = some res) : Ev j_W1 6 0 0 T11_checkTimes 53 [(0, .inr (.inr (some (11, 0)))), (1, .inl (l1)), (2, .inr (.inr (Option.map (Prod.mk 0) (l2))))] [] h none res := by
  unfold F11_checkTimes_53 at H
  refine ev_aload_n 0 dX11_checkTimes_53 (k := ?_)
  refine ev_aload_n 2 dX11_checkTimes_54 (k := ?_)
  refine ev_aload_n 0 dX11_checkTimes_55 (k := ?_)
  refine ev_aload_n 2 dX11_checkTimes_56 (k := ?_)
  refine ev_aload_n 0 dX11_checkTimes_57 (k := ?_)
  refine ev_getI (x := h.1 11 0 10) fl_X11_177 dX11_checkTimes_58 (K := ?_)
  refine ev_aload_n 2 dX11_checkTimes_61 (k := ?_)
  obtain ⟨a1, ea1, H⟩ := bd_e H
  rw [ea1]
  refine ev_getI (x := h.1 0 a1 10) fl_X11_441 dX11_checkTimes_62 (K := ?_)
  refine ev_isub dX11_checkTimes_65 (k := ?_)
  obtain ⟨q2, hq, H⟩ := bd_e H
  refine ev_callV (mc := 0) (ms := 0) (st := [.inr (.inr (some (0, a1))), .inr (.inr (some (11, 0)))]) (C11_causeByTime hq) md_X11_causeByTime im_X11_causeByTime se_X11_causeByTime ml_X11_537 dX11_checkTimes_66 _ (by decide) (K := ?_)
  obtain ⟨h3, hq, H⟩ := bd_e H
  refine ev_callV (mc := 0) (ms := 0) (st := []) (C11_endIf hq) md_X11_endIf im_X11_endIf se_X11_endIf ml_X11_394 dX11_checkTimes_69 _ (by decide) (K := ?_)
  refine ev_lv [0, 1] [(0, .inr (.inr (some (11, 0)))), (1, .inl (l1))] (k := ?_)
  exact E11_checkTimes_72 k2 hk2 l1 h3 _ H
set_option maxRecDepth 100000 in
set_option maxHeartbeats 4000000 in
theorem E11_checkTimes_2b (k2 : Int → JM → Option JM) (hk2 : ∀ (l1 : Int) (h : JM) (res : JM), k2 l1 h = some res → Ev j_W1 6 0 0 T11_checkTimes 2 [(0, .inr (.inr (some (11, 0)))), (1, .inl (l1))] [] h none res) (l1 : Int) (h : JM) (res : JM) (H : F11_checkTimes_2b k2 l1 h = some res) : Ev j_W1 6 0 0 T11_checkTimes 2 [(0, .inr (.inr (some (11, 0)))), (1, .inl (l1))] [] h none res := by
  unfold F11_checkTimes_2b at H
  refine ev_iload_n 1 dX11_checkTimes_2 (k := ?_)
  refine ev_aload_n 0 dX11_checkTimes_3 (k := ?_)
  refine ev_getI (x := h.1 11 0 11) fl_X11_452 dX11_checkTimes_4 (K := ?_)
  refine ev_icmpge 78 dX11_checkTimes_7 (kt := fun hc => ?_) (kf := fun hc => ?_)
  · rw [if_pos hc] at H
    cases H
    exact ev_return dX11_checkTimes_78
  · rw [if_neg hc] at H
    refine ev_aload_n 0 dX11_checkTimes_10 (k := ?_)
    refine ev_getR (t := 40) (x := some (40, 0)) fl_X11_23 dX11_checkTimes_11 (hx := ry_11_4 _ _) (K := ?_)
    refine ev_iload_n 1 dX11_checkTimes_14 (k := ?_)
    obtain ⟨⟨hi0, hi1⟩, H⟩ := g_e H
    refine ev_aaload (k := 40) 0 (x := Option.map (Prod.mk 0) (h.2.2 40 0 l1)) hi0 hi1 dX11_checkTimes_15 (hc := ac_40) (hlen := ln_40 _ _) (hx := rz_40 _ _ _) (K := ?_)
    refine ev_astore_n [(2, .inr (.inr (Option.map (Prod.mk 0) (h.2.2 40 0 l1)))), (0, .inr (.inr (some (11, 0)))), (1, .inl (l1))] dX11_checkTimes_16 (k := ?_)
    refine ev_aload_n 0 dX11_checkTimes_17 (k := ?_)
    obtain ⟨a4, ea4, H⟩ := bd_e H
    rw [ea4]
    refine ev_getI (x := h.1 0 a4 9) fl_X11_210 dX11_checkTimes_18 (K := ?_)
    refine ev_iconst dX11_checkTimes_21 (k := ?_)
    refine ev_icmpne 53 dX11_checkTimes_22 (kt := fun hc => ?_) (kf := fun hc => ?_)
    · rw [if_neg hc] at H
      refine ev_lv [1, 2, 0] [(0, .inr (.inr (some (11, 0)))), (1, .inl (l1)), (2, .inr (.inr (some (0, a4))))] (k := ?_)
      exact E11_checkTimes_53 k2 hk2 l1 (some a4) h _ H
    · rw [if_pos hc] at H
      refine ev_aload_n 0 dX11_checkTimes_25 (k := ?_)
      refine ev_getR (t := 4) (x := Option.map (Prod.mk 4) (h.2.2 0 a4 3)) fl_X11_237 dX11_checkTimes_26 (hx := ry_0_3 _ _) (K := ?_)
      refine ev_nullK (h.2.2 0 a4 3) 53 dX11_checkTimes_29 (kt := fun hc => ?_) (kf := fun hc => ?_)
      · rw [if_pos hc] at H
        refine ev_lv [1, 2, 0] [(0, .inr (.inr (some (11, 0)))), (1, .inl (l1)), (2, .inr (.inr (some (0, a4))))] (k := ?_)
        exact E11_checkTimes_53 k2 hk2 l1 (some a4) h _ H
      · rw [if_neg hc] at H
        refine ev_aload_n 1 dX11_checkTimes_32 (k := ?_)
        refine ev_aload_n 0 dX11_checkTimes_33 (k := ?_)
        refine ev_aload_n 0 dX11_checkTimes_34 (k := ?_)
        refine ev_getR (t := 4) (x := Option.map (Prod.mk 4) (h.2.2 0 a4 3)) fl_X11_237 dX11_checkTimes_35 (hx := ry_0_3 _ _) (K := ?_)
        refine ev_aload_n 1 dX11_checkTimes_38 (k := ?_)
        refine ev_getI (x := h.1 11 0 10) fl_X11_177 dX11_checkTimes_39 (K := ?_)
        refine ev_aload_n 0 dX11_checkTimes_42 (k := ?_)
        refine ev_getI (x := h.1 0 a4 10) fl_X11_441 dX11_checkTimes_43 (K := ?_)
        refine ev_isub dX11_checkTimes_46 (k := ?_)
        obtain ⟨h5, hq, H⟩ := bd_e H
        refine ev_callV (mc := 0) (ms := 0) (st := []) (C11_checkRinging hq) md_X11_checkRinging im_X11_checkRinging se_X11_checkRinging ml_X11_533 dX11_checkTimes_47 _ (by decide) (K := ?_)
        refine ev_goto 72 dX11_checkTimes_50 (k := ?_)
        refine ev_lv [1, 2] [(0, .inr (.inr (some (11, 0)))), (1, .inl (l1))] (k := ?_)
        exact E11_checkTimes_72 k2 hk2 l1 h5 _ H
theorem E11_checkTimes_2 (n : Nat) : ∀ (l1 : Int) (h : JM) (res : JM), F11_checkTimes_2 n l1 h = some res → Ev j_W1 6 0 0 T11_checkTimes 2 [(0, .inr (.inr (some (11, 0)))), (1, .inl (l1))] [] h none res := by
  induction n with
  | zero =>
    intro l1 h res H
    cases H
  | succ n ih =>
    intro l1 h res H
    exact E11_checkTimes_2b (F11_checkTimes_2 n) ih l1 h res H
set_option maxRecDepth 100000 in
set_option maxHeartbeats 4000000 in
theorem C11_checkTimes {h : JM} {res : JM} (H : F11_checkTimes h = some res) : Cn j_W1 6 0 0 yX11_checkTimes cX11_checkTimes 3 none [.inr (.inr (some (11, 0)))] h none res := by
  refine Cn.by (own := RX11) (b := false) [(0, .inr (.inr (some (11, 0))))] rfl (fun z => by cases z) (by decide +kernel) (K := ?_)
  unfold F11_checkTimes at H
  refine ev_iconst dX11_checkTimes_0 (k := ?_)
  refine ev_istore_n [(1, .inl (0)), (0, .inr (.inr (some (11, 0))))] dX11_checkTimes_1 (k := ?_)
  refine ev_lv [1, 0] [(0, .inr (.inr (some (11, 0)))), (1, .inl (0))] (k := ?_)
  exact E11_checkTimes_2 j_fu 0 h _ H
-- X11_isTrunk
abbrev T11_isTrunk : JT := (RX11, cX11_isTrunk, 3, some .boolean, false)
set_option maxRecDepth 100000 in
set_option maxHeartbeats 4000000 in
theorem E11_isTrunk_23 (h : JM) (res : (Int × JM)) (H : F11_isTrunk_23 h = some res) : Ev j_W1 2 0 0 T11_isTrunk 23 [] [] h (some (.inl res.1)) res.2 := by
  unfold F11_isTrunk_23 at H
  refine ev_iconst dX11_isTrunk_23 (k := ?_)
  cases H
  exact ev_zreturn (Or.inl rfl) dX11_isTrunk_24
set_option maxRecDepth 100000 in
set_option maxHeartbeats 4000000 in
theorem C11_isTrunk {l1 : Int} {l2 : Int} {h : JM} {res : (Int × JM)} (H : F11_isTrunk l1 l2 h = some res) : Cn j_W1 2 0 0 yX11_isTrunk cX11_isTrunk 3 (some .boolean) [.inr (.inr (some (11, 0))), .inl (l1), .inl (l2)] h (some (.inl res.1)) res.2 := by
  refine Cn.by (own := RX11) (b := false) [(0, .inr (.inr (some (11, 0)))), (1, .inl (l1)), (2, .inl (l2))] rfl (fun z => by cases z) (by decide +kernel) (K := ?_)
  unfold F11_isTrunk at H
  refine ev_iload_n 1 dX11_isTrunk_0 (k := ?_)
  obtain ⟨q1, hq, H⟩ := bd_e H
  refine ev_callS (mc := 0) (ms := 0) (st := []) (C11_isExchange hq) md_X11_isExchange ss_X11_isExchange ml_X11_91 dX11_isTrunk_1 _ (by decide) (K := ?_)
  refine ev_ifeq 23 dX11_isTrunk_4 (kt := fun hc => ?_) (kf := fun hc => ?_)
  · rw [if_pos hc] at H
    refine ev_lv [] [] (k := ?_)
    exact E11_isTrunk_23 q1.2 _ H
  · rw [if_neg hc] at H
    refine ev_iload_n 2 dX11_isTrunk_7 (k := ?_)
    refine ev_iflt 23 dX11_isTrunk_8 (kt := fun hc => ?_) (kf := fun hc => ?_)
    · rw [if_pos hc] at H
      refine ev_lv [] [] (k := ?_)
      exact E11_isTrunk_23 q1.2 _ H
    · rw [if_neg hc] at H
      refine ev_iload_n 2 dX11_isTrunk_11 (k := ?_)
      refine ev_aload_n 0 dX11_isTrunk_12 (k := ?_)
      refine ev_getI (x := q1.2.1 11 0 0) fl_X11_55 dX11_isTrunk_13 (K := ?_)
      refine ev_icmpge 23 dX11_isTrunk_16 (kt := fun hc => ?_) (kf := fun hc => ?_)
      · rw [if_pos hc] at H
        refine ev_lv [] [] (k := ?_)
        exact E11_isTrunk_23 q1.2 _ H
      · rw [if_neg hc] at H
        refine ev_iconst dX11_isTrunk_19 (k := ?_)
        refine ev_goto 24 dX11_isTrunk_20 (k := ?_)
        cases H
        exact ev_zreturn (Or.inr rfl) dX11_isTrunk_24
-- X11_circuit
abbrev T11_circuit : JT := (RX11, cX11_circuit, 3, some .int, false)
set_option maxRecDepth 100000 in
set_option maxHeartbeats 4000000 in
theorem C11_circuit {l1 : Int} {l2 : Int} {h : JM} {res : (Int × JM)} (H : F11_circuit l1 l2 h = some res) : Cn j_W1 3 0 0 yX11_circuit cX11_circuit 3 (some .int) [.inr (.inr (some (11, 0))), .inl (l1), .inl (l2)] h (some (.inl res.1)) res.2 := by
  refine Cn.by (own := RX11) (b := false) [(0, .inr (.inr (some (11, 0)))), (1, .inl (l1)), (2, .inl (l2))] rfl (fun z => by cases z) (by decide +kernel) (K := ?_)
  unfold F11_circuit at H
  refine ev_aload_n 0 dX11_circuit_0 (k := ?_)
  refine ev_iload_n 1 dX11_circuit_1 (k := ?_)
  refine ev_iload_n 2 dX11_circuit_2 (k := ?_)
  obtain ⟨q1, hq, H⟩ := bd_e H
  refine ev_callV (mc := 0) (ms := 0) (st := []) (C11_isTrunk hq) md_X11_isTrunk im_X11_isTrunk se_X11_isTrunk ml_X11_246 dX11_circuit_3 _ (by decide) (K := ?_)
  refine ev_ifeq 26 dX11_circuit_6 (kt := fun hc => ?_) (kf := fun hc => ?_)
  · rw [if_pos hc] at H
    refine ev_bipush dX11_circuit_26 (k := ?_)
    cases H
    exact ev_ireturn dX11_circuit_28
  · rw [if_neg hc] at H
    refine ev_aload_n 0 dX11_circuit_9 (k := ?_)
    refine ev_getR (t := 38) (x := some (38, 0)) fl_X11_11 dX11_circuit_10 (hx := ry_11_2 _ _) (K := ?_)
    refine ev_iload_n 1 dX11_circuit_13 (k := ?_)
    obtain ⟨⟨hi0, hi1⟩, H⟩ := g_e H
    refine ev_aaload (k := 38) 1 (x := some (1, l1)) hi0 hi1 dX11_circuit_14 (hc := ac_38) (hlen := ln_38 _ _) (hx := rz_38 _ _ _) (K := ?_)
    refine ev_getR (t := 20) (x := some (20, l1)) fl_X11_65 dX11_circuit_15 (hx := ry_1_1 _ _) (K := ?_)
    refine ev_iload_n 2 dX11_circuit_18 (k := ?_)
    obtain ⟨⟨hi0, hi1⟩, H⟩ := g_e H
    refine ev_aaload (k := 20) 8 (x := some (8, (16 * l1 + l2))) hi0 hi1 dX11_circuit_19 (hc := ac_20) (hlen := ln_20 _ _) (hx := rz_20 _ _ _) (K := ?_)
    refine ev_getI (x := q1.2.1 8 (16 * l1 + l2) 2) fl_X11_250 dX11_circuit_20 (K := ?_)
    refine ev_goto 28 dX11_circuit_23 (k := ?_)
    cases H
    exact ev_ireturn dX11_circuit_28
-- X11_isLine
abbrev T11_isLine : JT := (RX11, cX11_isLine, 1, some .boolean, false)
set_option maxRecDepth 100000 in
set_option maxHeartbeats 4000000 in
theorem E11_isLine_14 (h : JM) (res : (Int × JM)) (H : F11_isLine_14 h = some res) : Ev j_W1 1 0 0 T11_isLine 14 [] [] h (some (.inl res.1)) res.2 := by
  unfold F11_isLine_14 at H
  refine ev_iconst dX11_isLine_14 (k := ?_)
  cases H
  exact ev_zreturn (Or.inl rfl) dX11_isLine_15
set_option maxRecDepth 100000 in
set_option maxHeartbeats 4000000 in
theorem C11_isLine {l0 : Int} {h : JM} {res : (Int × JM)} (H : F11_isLine l0 h = some res) : Cn j_W1 1 0 0 yX11_isLine cX11_isLine 1 (some .boolean) [.inl (l0)] h (some (.inl res.1)) res.2 := by
  refine Cn.by (own := RX11) (b := false) [(0, .inl (l0))] rfl (fun z => by cases z) (by decide +kernel) (K := ?_)
  unfold F11_isLine at H
  refine ev_iload_n 0 dX11_isLine_0 (k := ?_)
  refine ev_iflt 14 dX11_isLine_1 (kt := fun hc => ?_) (kf := fun hc => ?_)
  · rw [if_pos hc] at H
    refine ev_lv [] [] (k := ?_)
    exact E11_isLine_14 h _ H
  · rw [if_neg hc] at H
    refine ev_iload_n 0 dX11_isLine_4 (k := ?_)
    refine ev_bipush dX11_isLine_5 (k := ?_)
    refine ev_icmpge 14 dX11_isLine_7 (kt := fun hc => ?_) (kf := fun hc => ?_)
    · rw [if_pos hc] at H
      refine ev_lv [] [] (k := ?_)
      exact E11_isLine_14 h _ H
    · rw [if_neg hc] at H
      refine ev_iconst dX11_isLine_10 (k := ?_)
      refine ev_goto 15 dX11_isLine_11 (k := ?_)
      cases H
      exact ev_zreturn (Or.inr rfl) dX11_isLine_15
