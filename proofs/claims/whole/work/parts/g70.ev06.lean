-- X10_write
abbrev T10_write : JT := (RX10, cX10_write, 4, none, false)
set_option maxRecDepth 100000 in
set_option maxHeartbeats 4000000 in
theorem E10_write_81b (k81 : Option Int → Int → Int → JM → Option JM) (hk81 : ∀ (l1 : Option Int) (l2 : Int) (l3 : Int) (h : JM) (res : JM), k81 l1 l2 l3 h = some res → Ev j_W1 3 0 0 T10_write 81 [(0, .inr (.inr (some (10, 0)))), (1, .inr (.inr (Option.map (Prod.mk 9) (l1)))), (2, .inl (l2)), (3, .inl (l3))] [] h none res) (l1 : Option Int) (l2 : Int) (l3 : Int) (h : JM) (res : JM) (H : F10_write_81b k81 l1 l2 l3 h = some res) : Ev j_W1 3 0 0 T10_write 81 [(0, .inr (.inr (some (10, 0)))), (1, .inr (.inr (Option.map (Prod.mk 9) (l1)))), (2, .inl (l2)), (3, .inl (l3))] [] h none res := by
  unfold F10_write_81b at H
  refine ev_iload_n (M := T10_write) (pc := 81) 3 dX10_write_81 (k := ?_)
  refine ev_iload_n (M := T10_write) (pc := 82) 2 dX10_write_82 (k := ?_)
  refine ev_icmpge (M := T10_write) (pc := 83) 106 dX10_write_83 (kt := fun hc => ?_) (kf := fun hc => ?_)
  · replace H := if_pe hc H
    refine ev_aload_n (M := T10_write) (pc := 106) 0 dX10_write_106 (k := ?_)
    refine ev_ldc (M := T10_write) (pc := 107) (n := 65535) ct_X10_28 dX10_write_107 (hv := cv_X10_28) (k := ?_)
    refine ev_aload_n (M := T10_write) (pc := 109) 0 dX10_write_109 (k := ?_)
    refine ev_getI (M := T10_write) (pc := 110) (x := h.1 10 0 3) fl_X10_29 dX10_write_110 (K := ?_)
    refine ev_isub (M := T10_write) (pc := 113) dX10_write_113 (k := ?_)
    refine ev_bipush (M := T10_write) (pc := 114) dX10_write_114 (k := ?_)
    obtain ⟨h1, hq, H1⟩ := bd_e H
    clear H
    refine ev_callV (M := T10_write) (pc := 116) (mc := 0) (ms := 0) (st := []) (C10_put hq) md_X10_put im_X10_put se_X10_put ml_X10_37 dX10_write_116 _ (by decide) (K := ?_)
    refine ev_aload_n (M := T10_write) (pc := 119) 0 dX10_write_119 (k := ?_)
    obtain ⟨h2, hq, H2⟩ := bd_e H1
    clear H1
    refine ev_callV (M := T10_write) (pc := 120) (mc := 0) (ms := 0) (st := []) (C10_putFlag hq) md_X10_putFlag im_X10_putFlag se_X10_putFlag ml_X10_22 dX10_write_120 _ (by decide) (K := ?_)
    cases H2
    exact ev_return (M := T10_write) (pc := 123) dX10_write_123
  · replace H := if_ne hc H
    refine ev_aload_n (M := T10_write) (pc := 86) 0 dX10_write_86 (k := ?_)
    refine ev_aload_n (M := T10_write) (pc := 87) 1 dX10_write_87 (k := ?_)
    obtain ⟨a3, ea3, H1⟩ := bd_e H
    clear H
    rw [ea3]
    refine ev_getL (M := T10_write) (pc := 88) (x := h.2.1 9 a3 4) fl_X10_50 dX10_write_88 (K := ?_)
    refine ev_iload_n (M := T10_write) (pc := 91) 3 dX10_write_91 (k := ?_)
    obtain ⟨q4, hq, H2⟩ := bd_e H1
    clear H1
    refine ev_callS (M := T10_write) (pc := 92) (mc := 0) (ms := 0) (st := [.inr (.inr (some (10, 0)))]) (C9_byteOf hq) md_X9_byteOf ss_X9_byteOf ml_X10_58 dX10_write_92 _ (by decide) (K := ?_)
    refine ev_bipush (M := T10_write) (pc := 95) dX10_write_95 (k := ?_)
    obtain ⟨h5, hq, H3⟩ := bd_e H2
    clear H2
    refine ev_callV (M := T10_write) (pc := 97) (mc := 0) (ms := 0) (st := []) (C10_put hq) md_X10_put im_X10_put se_X10_put ml_X10_37 dX10_write_97 _ (by decide) (K := ?_)
    refine ev_iinc (M := T10_write) (pc := 100) 3 [(3, .inl (w32 (l3 + 1))), (0, .inr (.inr (some (10, 0)))), (1, .inr (.inr (some (9, a3)))), (2, .inl (l2))] dX10_write_100 (k := ?_)
    refine ev_goto (M := T10_write) (pc := 103) 81 dX10_write_103 (k := ?_)
    refine ev_lv [1, 2, 3, 0] [(0, .inr (.inr (some (10, 0)))), (1, .inr (.inr (some (9, a3)))), (2, .inl (l2)), (3, .inl (w32 (l3 + 1)))] (k := ?_)
    exact hk81 (some a3) l2 (w32 (l3 + 1)) h5 _ H3
theorem E10_write_81 (n : Nat) : ∀ (l1 : Option Int) (l2 : Int) (l3 : Int) (h : JM) (res : JM), F10_write_81 n l1 l2 l3 h = some res → Ev j_W1 3 0 0 T10_write 81 [(0, .inr (.inr (some (10, 0)))), (1, .inr (.inr (Option.map (Prod.mk 9) (l1)))), (2, .inl (l2)), (3, .inl (l3))] [] h none res := by
  induction n with
  | zero =>
    intro l1 l2 l3 h res H
    cases H
  | succ n ih =>
    intro l1 l2 l3 h res H
    exact E10_write_81b (F10_write_81 n) ih l1 l2 l3 h res H
set_option maxRecDepth 100000 in
set_option maxHeartbeats 4000000 in
theorem C10_write {l1 : Option Int} {h : JM} {res : JM} (H : F10_write l1 h = some res) : Cn j_W1 3 0 0 yX10_write cX10_write 4 none [.inr (.inr (some (10, 0))), .inr (.inr (Option.map (Prod.mk 9) (l1)))] h none res := by
  refine Cn.by (own := RX10) (b := false) [(0, .inr (.inr (some (10, 0)))), (1, .inr (.inr (Option.map (Prod.mk 9) (l1))))] rfl (fun z => by cases z) (by decide +kernel) (K := ?_)
  unfold F10_write at H
  refine ev_aload_n (M := T10_write) (pc := 0) 0 dX10_write_0 (k := ?_)
  refine ev_iconst (M := T10_write) (pc := 1) dX10_write_1 (k := ?_)
  obtain ⟨h6, eh6, H1⟩ := lt_e H
  clear H
  refine ev_putI (M := T10_write) (pc := 2) j_ok1 fl_X10_18 eh6 dX10_write_2 (K := ?_)
  refine ev_aload_n (M := T10_write) (pc := 5) 0 dX10_write_5 (k := ?_)
  obtain ⟨h7, hq, H2⟩ := bd_e H1
  clear H1
  refine ev_callV (M := T10_write) (pc := 6) (mc := 0) (ms := 0) (st := []) (C10_putFlag hq) md_X10_putFlag im_X10_putFlag se_X10_putFlag ml_X10_22 dX10_write_6 _ (by decide) (K := ?_)
  refine ev_aload_n (M := T10_write) (pc := 9) 0 dX10_write_9 (k := ?_)
  refine ev_iconst (M := T10_write) (pc := 10) dX10_write_10 (k := ?_)
  obtain ⟨h8, eh8, H3⟩ := lt_e H2
  clear H2
  refine ev_putI (M := T10_write) (pc := 11) j_ok1 fl_X10_25 eh8 dX10_write_11 (K := ?_)
  refine ev_aload_n (M := T10_write) (pc := 14) 0 dX10_write_14 (k := ?_)
  refine ev_ldc (M := T10_write) (pc := 15) (n := 65535) ct_X10_28 dX10_write_15 (hv := cv_X10_28) (k := ?_)
  obtain ⟨h9, eh9, H4⟩ := lt_e H3
  clear H3
  refine ev_putI (M := T10_write) (pc := 17) j_ok1 fl_X10_29 eh9 dX10_write_17 (K := ?_)
  refine ev_aload_n (M := T10_write) (pc := 20) 0 dX10_write_20 (k := ?_)
  refine ev_aload_n (M := T10_write) (pc := 21) 1 dX10_write_21 (k := ?_)
  obtain ⟨a10, ea10, H5⟩ := bd_e H4
  clear H4
  rw [ea10]
  refine ev_getI (M := T10_write) (pc := 22) (x := h9.1 9 a10 0) fl_X10_32 dX10_write_22 (K := ?_)
  refine ev_bipush (M := T10_write) (pc := 25) dX10_write_25 (k := ?_)
  obtain ⟨h11, hq, H6⟩ := bd_e H5
  clear H5
  refine ev_callV (M := T10_write) (pc := 27) (mc := 0) (ms := 0) (st := []) (C10_put hq) md_X10_put im_X10_put se_X10_put ml_X10_37 dX10_write_27 _ (by decide) (K := ?_)
  refine ev_aload_n (M := T10_write) (pc := 30) 0 dX10_write_30 (k := ?_)
  refine ev_aload_n (M := T10_write) (pc := 31) 1 dX10_write_31 (k := ?_)
  refine ev_getI (M := T10_write) (pc := 32) (x := h11.1 9 a10 1) fl_X10_41 dX10_write_32 (K := ?_)
  refine ev_iconst (M := T10_write) (pc := 35) dX10_write_35 (k := ?_)
  obtain ⟨h12, hq, H7⟩ := bd_e H6
  clear H6
  refine ev_callV (M := T10_write) (pc := 36) (mc := 0) (ms := 0) (st := []) (C10_put hq) md_X10_put im_X10_put se_X10_put ml_X10_37 dX10_write_36 _ (by decide) (K := ?_)
  refine ev_aload_n (M := T10_write) (pc := 39) 0 dX10_write_39 (k := ?_)
  refine ev_aload_n (M := T10_write) (pc := 40) 1 dX10_write_40 (k := ?_)
  refine ev_getI (M := T10_write) (pc := 41) (x := h12.1 9 a10 2) fl_X10_44 dX10_write_41 (K := ?_)
  refine ev_bipush (M := T10_write) (pc := 44) dX10_write_44 (k := ?_)
  obtain ⟨h13, hq, H8⟩ := bd_e H7
  clear H7
  refine ev_callV (M := T10_write) (pc := 46) (mc := 0) (ms := 0) (st := []) (C10_put hq) md_X10_put im_X10_put se_X10_put ml_X10_37 dX10_write_46 _ (by decide) (K := ?_)
  refine ev_aload_n (M := T10_write) (pc := 49) 0 dX10_write_49 (k := ?_)
  refine ev_aload_n (M := T10_write) (pc := 50) 1 dX10_write_50 (k := ?_)
  refine ev_getI (M := T10_write) (pc := 51) (x := h13.1 9 a10 3) fl_X10_47 dX10_write_51 (K := ?_)
  refine ev_iconst (M := T10_write) (pc := 54) dX10_write_54 (k := ?_)
  obtain ⟨h14, hq, H9⟩ := bd_e H8
  clear H8
  refine ev_callV (M := T10_write) (pc := 55) (mc := 0) (ms := 0) (st := []) (C10_put hq) md_X10_put im_X10_put se_X10_put ml_X10_37 dX10_write_55 _ (by decide) (K := ?_)
  refine ev_aload_n (M := T10_write) (pc := 58) 1 dX10_write_58 (k := ?_)
  refine ev_getL (M := T10_write) (pc := 59) (x := h14.2.1 9 a10 4) fl_X10_50 dX10_write_59 (K := ?_)
  obtain ⟨q15, hq, H10⟩ := bd_e H9
  clear H9
  refine ev_callS (M := T10_write) (pc := 62) (mc := 0) (ms := 0) (st := []) (C9_sizeOf hq) md_X9_sizeOf ss_X9_sizeOf ml_X10_54 dX10_write_62 _ (by decide) (K := ?_)
  refine ev_istore_n (M := T10_write) (pc := 65) [(2, .inl (q15.1)), (0, .inr (.inr (some (10, 0)))), (1, .inr (.inr (some (9, a10))))] dX10_write_65 (k := ?_)
  refine ev_aload_n (M := T10_write) (pc := 66) 1 dX10_write_66 (k := ?_)
  refine ev_iload_n (M := T10_write) (pc := 67) 0 dX10_write_67 (k := ?_)
  refine ev_bipush (M := T10_write) (pc := 68) dX10_write_68 (k := ?_)
  obtain ⟨h16, hq, H11⟩ := bd_e H10
  clear H10
  refine ev_callV (M := T10_write) (pc := 70) (mc := 0) (ms := 0) (st := []) (C10_put hq) md_X10_put im_X10_put se_X10_put ml_X10_37 dX10_write_70 _ (by decide) (K := ?_)
  refine ev_aload_n (M := T10_write) (pc := 73) 1 dX10_write_73 (k := ?_)
  refine ev_iconst (M := T10_write) (pc := 74) dX10_write_74 (k := ?_)
  refine ev_iconst (M := T10_write) (pc := 75) dX10_write_75 (k := ?_)
  obtain ⟨h17, hq, H12⟩ := bd_e H11
  clear H11
  refine ev_callV (M := T10_write) (pc := 76) (mc := 0) (ms := 0) (st := []) (C10_put hq) md_X10_put im_X10_put se_X10_put ml_X10_37 dX10_write_76 _ (by decide) (K := ?_)
  refine ev_iconst (M := T10_write) (pc := 79) dX10_write_79 (k := ?_)
  refine ev_istore_n (M := T10_write) (pc := 80) [(3, .inl (0)), (2, .inl (q15.1)), (0, .inr (.inr (some (10, 0)))), (1, .inr (.inr (some (9, a10))))] dX10_write_80 (k := ?_)
  refine ev_lv [2, 3, 1, 0] [(0, .inr (.inr (some (10, 0)))), (1, .inr (.inr (some (9, a10)))), (2, .inl (q15.1)), (3, .inl (0))] (k := ?_)
  exact E10_write_81 j_fu (some a10) q15.1 0 h17 _ H12
-- X11_announce
abbrev T11_announce : JT := (RX11, cX11_announce, 2, none, false)
set_option maxRecDepth 100000 in
set_option maxHeartbeats 4000000 in
theorem C11_announce {l1 : Option Int} {h : JM} {res : JM} (H : F11_announce l1 h = some res) : Cn j_W1 2 0 0 yX11_announce cX11_announce 2 none [.inr (.inr (some (11, 0))), .inr (.inr (Option.map (Prod.mk 0) (l1)))] h none res := by
  refine Cn.by (own := RX11) (b := false) [(0, .inr (.inr (some (11, 0)))), (1, .inr (.inr (Option.map (Prod.mk 0) (l1))))] rfl (fun z => by cases z) (by decide +kernel) (K := ?_)
  unfold F11_announce at H
  refine ev_aload_n (M := T11_announce) (pc := 0) 1 dX11_announce_0 (k := ?_)
  obtain ⟨a1, ea1, H1⟩ := bd_e H
  clear H
  rw [ea1]
  refine ev_getR (M := T11_announce) (pc := 1) (t := 8) (x := Option.map (Prod.mk 8) (h.2.2 0 a1 2)) fl_X11_227 dX11_announce_1 (hx := ry_0_2 _ _) (K := ?_)
  refine ev_nullK (M := T11_announce) (pc := 4) (h.2.2 0 a1 2) 41 dX11_announce_4 (kt := fun hc => ?_) (kf := fun hc => ?_)
  · replace H1 := if_pe hc H1
    cases H1
    exact ev_return (M := T11_announce) (pc := 41) dX11_announce_41
  · replace H1 := if_ne hc H1
    refine ev_aload_n (M := T11_announce) (pc := 7) 1 dX11_announce_7 (k := ?_)
    refine ev_getI (M := T11_announce) (pc := 8) (x := h.1 0 a1 15) fl_X11_517 dX11_announce_8 (K := ?_)
    refine ev_ifne (M := T11_announce) (pc := 11) 41 dX11_announce_11 (kt := fun hc => ?_) (kf := fun hc => ?_)
    · replace H1 := if_ne hc H1
      cases H1
      exact ev_return (M := T11_announce) (pc := 41) dX11_announce_41
    · replace H1 := if_pe hc H1
      refine ev_aload_n (M := T11_announce) (pc := 14) 1 dX11_announce_14 (k := ?_)
      refine ev_iconst (M := T11_announce) (pc := 15) dX11_announce_15 (k := ?_)
      obtain ⟨h2, eh2, H2⟩ := lt_e H1
      clear H1
      refine ev_putZ (M := T11_announce) (pc := 16) j_ok1 (Or.inr rfl) fl_X11_517 eh2 dX11_announce_16 (K := ?_)
      refine ev_aload_n (M := T11_announce) (pc := 19) 1 dX11_announce_19 (k := ?_)
      refine ev_getR (M := T11_announce) (pc := 20) (t := 1) (x := Option.map (Prod.mk 1) (h2.2.2 0 a1 0)) fl_X11_444 dX11_announce_20 (hx := ry_0_0 _ _) (K := ?_)
      obtain ⟨a3, ea3, H3⟩ := bd_e H2
      clear H2
      rw [ea3]
      refine ev_getR (M := T11_announce) (pc := 23) (t := 5) (x := some (5, a3)) fl_X11_261 dX11_announce_23 (hx := ry_1_7 _ _) (K := ?_)
      refine ev_iconst (M := T11_announce) (pc := 26) dX11_announce_26 (k := ?_)
      refine ev_aload_n (M := T11_announce) (pc := 27) 1 dX11_announce_27 (k := ?_)
      refine ev_getR (M := T11_announce) (pc := 28) (t := 8) (x := Option.map (Prod.mk 8) (h2.2.2 0 a1 2)) fl_X11_227 dX11_announce_28 (hx := ry_0_2 _ _) (K := ?_)
      obtain ⟨a4, ea4, H4⟩ := bd_e H3
      clear H3
      rw [ea4]
      refine ev_getI (M := T11_announce) (pc := 31) (x := h2.1 8 a4 0) fl_X11_320 dX11_announce_31 (K := ?_)
      refine ev_lconst (M := T11_announce) (pc := 34) (v := 0) dX11_announce_34 (k := ?_)
      obtain ⟨q5, hq, H5⟩ := bd_e H4
      clear H4
      refine ev_callS (M := T11_announce) (pc := 35) (mc := 0) (ms := 0) (st := [.inr (.inr (some (5, a3)))]) (C9_pack hq) md_X9_pack ss_X9_pack ml_X11_404 dX11_announce_35 _ (by decide) (K := ?_)
      obtain ⟨h6, hq, H6⟩ := bd_e H5
      clear H5
      refine ev_callV (M := T11_announce) (pc := 38) (mc := 0) (ms := 0) (st := []) (C5_post hq) md_X5_post im_X5_post se_X5_post ml_X11_408 dX11_announce_38 _ (by decide) (K := ?_)
      cases H6
      exact ev_return (M := T11_announce) (pc := 41) dX11_announce_41
-- X11_enter
abbrev T11_enter : JT := (RX11, cX11_enter, 3, none, false)
set_option maxRecDepth 100000 in
set_option maxHeartbeats 4000000 in
theorem C11_enter {l1 : Option Int} {l2 : Int} {h : JM} {res : JM} (H : F11_enter l1 l2 h = some res) : Cn j_W1 1 0 0 yX11_enter cX11_enter 3 none [.inr (.inr (some (11, 0))), .inr (.inr (Option.map (Prod.mk 0) (l1))), .inl (l2)] h none res := by
  refine Cn.by (own := RX11) (b := false) [(0, .inr (.inr (some (11, 0)))), (1, .inr (.inr (Option.map (Prod.mk 0) (l1)))), (2, .inl (l2))] rfl (fun z => by cases z) (by decide +kernel) (K := ?_)
  unfold F11_enter at H
  refine ev_aload_n (M := T11_enter) (pc := 0) 1 dX11_enter_0 (k := ?_)
  refine ev_iload_n (M := T11_enter) (pc := 1) 2 dX11_enter_1 (k := ?_)
  obtain ⟨a1, ea1, H1⟩ := bd_e H
  clear H
  rw [ea1]
  obtain ⟨h2, eh2, H2⟩ := lt_e H1
  clear H1
  refine ev_putI (M := T11_enter) (pc := 2) j_ok1 fl_X11_210 eh2 dX11_enter_2 (K := ?_)
  refine ev_aload_n (M := T11_enter) (pc := 5) 1 dX11_enter_5 (k := ?_)
  refine ev_aload_n (M := T11_enter) (pc := 6) 0 dX11_enter_6 (k := ?_)
  refine ev_getI (M := T11_enter) (pc := 7) (x := h2.1 11 0 10) fl_X11_177 dX11_enter_7 (K := ?_)
  obtain ⟨h3, eh3, H3⟩ := lt_e H2
  clear H2
  refine ev_putI (M := T11_enter) (pc := 10) j_ok1 fl_X11_441 eh3 dX11_enter_10 (K := ?_)
  cases H3
  exact ev_return (M := T11_enter) (pc := 13) dX11_enter_13
-- X11_answer
abbrev T11_answer : JT := (RX11, cX11_answer, 2, some .int, false)
set_option maxRecDepth 100000 in
set_option maxHeartbeats 4000000 in
theorem C11_answer {l1 : Option Int} {h : JM} {res : (Int × JM)} (H : F11_answer l1 h = some res) : Cn j_W1 3 0 0 yX11_answer cX11_answer 2 (some .int) [.inr (.inr (some (11, 0))), .inr (.inr (Option.map (Prod.mk 0) (l1)))] h (some (.inl res.1)) res.2 := by
  refine Cn.by (own := RX11) (b := false) [(0, .inr (.inr (some (11, 0)))), (1, .inr (.inr (Option.map (Prod.mk 0) (l1))))] rfl (fun z => by cases z) (by decide +kernel) (K := ?_)
  unfold F11_answer at H
  refine ev_aload_n (M := T11_answer) (pc := 0) 0 dX11_answer_0 (k := ?_)
  refine ev_aload_n (M := T11_answer) (pc := 1) 1 dX11_answer_1 (k := ?_)
  refine ev_iconst (M := T11_answer) (pc := 2) dX11_answer_2 (k := ?_)
  obtain ⟨h1, hq, H1⟩ := bd_e H
  clear H
  refine ev_callV (M := T11_answer) (pc := 3) (mc := 0) (ms := 0) (st := []) (C11_enter hq) md_X11_enter im_X11_enter se_X11_enter ml_X11_383 dX11_answer_3 _ (by decide) (K := ?_)
  refine ev_aload_n (M := T11_answer) (pc := 6) 0 dX11_answer_6 (k := ?_)
  refine ev_aload_n (M := T11_answer) (pc := 7) 1 dX11_answer_7 (k := ?_)
  obtain ⟨h2, hq, H2⟩ := bd_e H1
  clear H1
  refine ev_callV (M := T11_answer) (pc := 8) (mc := 0) (ms := 0) (st := []) (C11_announce hq) md_X11_announce im_X11_announce se_X11_announce ml_X11_386 dX11_answer_8 _ (by decide) (K := ?_)
  refine ev_aload_n (M := T11_answer) (pc := 11) 1 dX11_answer_11 (k := ?_)
  obtain ⟨a3, ea3, H3⟩ := bd_e H2
  clear H2
  rw [ea3]
  refine ev_getR (M := T11_answer) (pc := 12) (t := 8) (x := Option.map (Prod.mk 8) (h2.2.2 0 a3 2)) fl_X11_227 dX11_answer_12 (hx := ry_0_2 _ _) (K := ?_)
  refine ev_nullK (M := T11_answer) (pc := 15) (h2.2.2 0 a3 2) 42 dX11_answer_15 (kt := fun hc => ?_) (kf := fun hc => ?_)
  · replace H3 := if_pe hc H3
    refine ev_aload_n (M := T11_answer) (pc := 42) 0 dX11_answer_42 (k := ?_)
    refine ev_getR (M := T11_answer) (pc := 43) (t := 3) (x := some (3, 0)) fl_X11_30 dX11_answer_43 (hx := ry_11_5 _ _) (K := ?_)
    refine ev_aload_n (M := T11_answer) (pc := 46) 1 dX11_answer_46 (k := ?_)
    refine ev_iconst (M := T11_answer) (pc := 47) dX11_answer_47 (k := ?_)
    refine ev_aload_n (M := T11_answer) (pc := 48) 0 dX11_answer_48 (k := ?_)
    refine ev_getI (M := T11_answer) (pc := 49) (x := h2.1 11 0 10) fl_X11_177 dX11_answer_49 (K := ?_)
    obtain ⟨q4, hq, H4⟩ := bd_e H3
    clear H3
    refine ev_callV (M := T11_answer) (pc := 52) (mc := 0) (ms := 0) (st := []) (C3_charge hq) md_X3_charge im_X3_charge se_X3_charge ml_X11_520 dX11_answer_52 _ (by decide) (K := ?_)
    refine ev_ifeq (M := T11_answer) (pc := 55) 62 dX11_answer_55 (kt := fun hc => ?_) (kf := fun hc => ?_)
    · replace H4 := if_pe hc H4
      refine ev_iconst (M := T11_answer) (pc := 62) dX11_answer_62 (k := ?_)
      cases H4
      exact ev_ireturn (M := T11_answer) (pc := 63) dX11_answer_63
    · replace H4 := if_ne hc H4
      refine ev_iconst (M := T11_answer) (pc := 58) dX11_answer_58 (k := ?_)
      refine ev_goto (M := T11_answer) (pc := 59) 63 dX11_answer_59 (k := ?_)
      cases H4
      exact ev_ireturn (M := T11_answer) (pc := 63) dX11_answer_63
  · replace H3 := if_ne hc H3
    refine ev_aload_n (M := T11_answer) (pc := 18) 1 dX11_answer_18 (k := ?_)
    refine ev_getR (M := T11_answer) (pc := 19) (t := 1) (x := Option.map (Prod.mk 1) (h2.2.2 0 a3 0)) fl_X11_444 dX11_answer_19 (hx := ry_0_0 _ _) (K := ?_)
    obtain ⟨a5, ea5, H4⟩ := bd_e H3
    clear H3
    rw [ea5]
    refine ev_getR (M := T11_answer) (pc := 22) (t := 5) (x := some (5, a5)) fl_X11_261 dX11_answer_22 (hx := ry_1_7 _ _) (K := ?_)
    refine ev_iconst (M := T11_answer) (pc := 25) dX11_answer_25 (k := ?_)
    refine ev_aload_n (M := T11_answer) (pc := 26) 1 dX11_answer_26 (k := ?_)
    refine ev_getR (M := T11_answer) (pc := 27) (t := 8) (x := Option.map (Prod.mk 8) (h2.2.2 0 a3 2)) fl_X11_227 dX11_answer_27 (hx := ry_0_2 _ _) (K := ?_)
    obtain ⟨a6, ea6, H5⟩ := bd_e H4
    clear H4
    rw [ea6]
    refine ev_getI (M := T11_answer) (pc := 30) (x := h2.1 8 a6 0) fl_X11_320 dX11_answer_30 (K := ?_)
    refine ev_lconst (M := T11_answer) (pc := 33) (v := 0) dX11_answer_33 (k := ?_)
    obtain ⟨q7, hq, H6⟩ := bd_e H5
    clear H5
    refine ev_callS (M := T11_answer) (pc := 34) (mc := 0) (ms := 0) (st := [.inr (.inr (some (5, a5)))]) (C9_pack hq) md_X9_pack ss_X9_pack ml_X11_404 dX11_answer_34 _ (by decide) (K := ?_)
    obtain ⟨h8, hq, H7⟩ := bd_e H6
    clear H6
    refine ev_callV (M := T11_answer) (pc := 37) (mc := 0) (ms := 0) (st := []) (C5_post hq) md_X5_post im_X5_post se_X5_post ml_X11_408 dX11_answer_37 _ (by decide) (K := ?_)
    refine ev_iconst (M := T11_answer) (pc := 40) dX11_answer_40 (k := ?_)
    cases H7
    exact ev_ireturn (M := T11_answer) (pc := 41) dX11_answer_41
-- X11_byLaw0
abbrev T11_byLaw0 : JT := (RX11, cX11_byLaw0, 4, some .int, false)
set_option maxRecDepth 100000 in
set_option maxHeartbeats 4000000 in
theorem E11_byLaw0_63 (l2 : Int) (l3 : Int) (s0 : Int) (h : JM) (res : (Int × JM)) (H : F11_byLaw0_63 l2 l3 s0 h = some res) : Ev j_W1 1 0 0 T11_byLaw0 63 [(2, .inl (l2)), (3, .inl (l3))] [.inl (s0)] h (some (.inl res.1)) res.2 := by
  unfold F11_byLaw0_63 at H
  refine ev_bipush (M := T11_byLaw0) (pc := 63) dX11_byLaw0_63 (k := ?_)
  refine ev_iload_n (M := T11_byLaw0) (pc := 65) 0 dX11_byLaw0_65 (k := ?_)
  refine ev_imul (M := T11_byLaw0) (pc := 66) dX11_byLaw0_66 (k := ?_)
  refine ev_iadd (M := T11_byLaw0) (pc := 67) dX11_byLaw0_67 (k := ?_)
  refine ev_iload_n (M := T11_byLaw0) (pc := 68) 1 dX11_byLaw0_68 (k := ?_)
  refine ev_iadd (M := T11_byLaw0) (pc := 69) dX11_byLaw0_69 (k := ?_)
  refine ev_bipush (M := T11_byLaw0) (pc := 70) dX11_byLaw0_70 (k := ?_)
  refine ev_ixor (M := T11_byLaw0) (pc := 72) dX11_byLaw0_72 (k := ?_)
  cases H
  exact ev_ireturn (M := T11_byLaw0) (pc := 73) dX11_byLaw0_73
set_option maxRecDepth 100000 in
set_option maxHeartbeats 4000000 in
theorem E11_byLaw0_51 (l0 : Int) (l2 : Int) (s0 : Int) (h : JM) (res : (Int × JM)) (H : F11_byLaw0_51 l0 l2 s0 h = some res) : Ev j_W1 1 0 0 T11_byLaw0 51 [(0, .inl (l0)), (2, .inl (l2))] [.inl (s0)] h (some (.inl res.1)) res.2 := by
  unfold F11_byLaw0_51 at H
  refine ev_istore_n (M := T11_byLaw0) (pc := 51) [(3, .inl (s0)), (0, .inl (l0)), (2, .inl (l2))] dX11_byLaw0_51 (k := ?_)
  refine ev_iload_n (M := T11_byLaw0) (pc := 52) 1 dX11_byLaw0_52 (k := ?_)
  refine ev_ifge (M := T11_byLaw0) (pc := 53) 60 dX11_byLaw0_53 (kt := fun hc => ?_) (kf := fun hc => ?_)
  · replace H := if_pe hc H
    refine ev_sipush (M := T11_byLaw0) (pc := 60) dX11_byLaw0_60 (k := ?_)
    refine ev_lv [2, 0] [(2, .inl (l2)), (3, .inl (s0))] (k := ?_)
    exact E11_byLaw0_63 l2 s0 128 h _ H
  · replace H := if_ne hc H
    refine ev_iconst (M := T11_byLaw0) (pc := 56) dX11_byLaw0_56 (k := ?_)
    refine ev_goto (M := T11_byLaw0) (pc := 57) 63 dX11_byLaw0_57 (k := ?_)
    refine ev_lv [2, 0] [(2, .inl (l2)), (3, .inl (s0))] (k := ?_)
    exact E11_byLaw0_63 l2 s0 0 h _ H
set_option maxRecDepth 100000 in
set_option maxHeartbeats 4000000 in
theorem E11_byLaw0_35 (l0 : Int) (l1 : Int) (l2 : Int) (h : JM) (res : (Int × JM)) (H : F11_byLaw0_35 l0 l1 l2 h = some res) : Ev j_W1 1 0 0 T11_byLaw0 35 [(0, .inl (l0)), (1, .inl (l1)), (2, .inl (l2))] [] h (some (.inl res.1)) res.2 := by
  unfold F11_byLaw0_35 at H
  refine ev_iload_n (M := T11_byLaw0) (pc := 35) 2 dX11_byLaw0_35 (k := ?_)
  refine ev_ifne (M := T11_byLaw0) (pc := 36) 45 dX11_byLaw0_36 (kt := fun hc => ?_) (kf := fun hc => ?_)
  · replace H := if_ne hc H
    refine ev_iload_n (M := T11_byLaw0) (pc := 45) 1 dX11_byLaw0_45 (k := ?_)
    refine ev_iload_n (M := T11_byLaw0) (pc := 46) 2 dX11_byLaw0_46 (k := ?_)
    refine ev_ishr (M := T11_byLaw0) (pc := 47) dX11_byLaw0_47 (k := ?_)
    refine ev_bipush (M := T11_byLaw0) (pc := 48) dX11_byLaw0_48 (k := ?_)
    refine ev_iand (M := T11_byLaw0) (pc := 50) dX11_byLaw0_50 (k := ?_)
    refine ev_lv [0, 2] [(0, .inl (l0)), (2, .inl (l2))] (k := ?_)
    exact E11_byLaw0_51 l0 l2 (j_and (j_shr l1 l2) 15) h _ H
  · replace H := if_pe hc H
    refine ev_iload_n (M := T11_byLaw0) (pc := 39) 1 dX11_byLaw0_39 (k := ?_)
    refine ev_iconst (M := T11_byLaw0) (pc := 40) dX11_byLaw0_40 (k := ?_)
    refine ev_idiv (M := T11_byLaw0) (pc := 41) dX11_byLaw0_41 (by decide) (k := ?_)
    refine ev_goto (M := T11_byLaw0) (pc := 42) 51 dX11_byLaw0_42 (k := ?_)
    refine ev_lv [0, 2] [(0, .inl (l0)), (2, .inl (l2))] (k := ?_)
    exact E11_byLaw0_51 l0 l2 (j_div l1 2) h _ H
set_option maxRecDepth 100000 in
set_option maxHeartbeats 4000000 in
theorem E11_byLaw0_15b (k15 : Int → Int → Int → JM → Option (Int × JM)) (hk15 : ∀ (l0 : Int) (l1 : Int) (l2 : Int) (h : JM) (res : (Int × JM)), k15 l0 l1 l2 h = some res → Ev j_W1 1 0 0 T11_byLaw0 15 [(0, .inl (l0)), (1, .inl (l1)), (2, .inl (l2))] [] h (some (.inl res.1)) res.2) (l0 : Int) (l1 : Int) (l2 : Int) (h : JM) (res : (Int × JM)) (H : F11_byLaw0_15b k15 l0 l1 l2 h = some res) : Ev j_W1 1 0 0 T11_byLaw0 15 [(0, .inl (l0)), (1, .inl (l1)), (2, .inl (l2))] [] h (some (.inl res.1)) res.2 := by
  unfold F11_byLaw0_15b at H
  refine ev_iload_n (M := T11_byLaw0) (pc := 15) 2 dX11_byLaw0_15 (k := ?_)
  refine ev_bipush (M := T11_byLaw0) (pc := 16) dX11_byLaw0_16 (k := ?_)
  refine ev_icmpge (M := T11_byLaw0) (pc := 18) 35 dX11_byLaw0_18 (kt := fun hc => ?_) (kf := fun hc => ?_)
  · replace H := if_pe hc H
    exact E11_byLaw0_35 l0 l1 l2 h _ H
  · replace H := if_ne hc H
    refine ev_iload_n (M := T11_byLaw0) (pc := 21) 1 dX11_byLaw0_21 (k := ?_)
    refine ev_iload_n (M := T11_byLaw0) (pc := 22) 2 dX11_byLaw0_22 (k := ?_)
    refine ev_iconst (M := T11_byLaw0) (pc := 23) dX11_byLaw0_23 (k := ?_)
    refine ev_iadd (M := T11_byLaw0) (pc := 24) dX11_byLaw0_24 (k := ?_)
    refine ev_ishr (M := T11_byLaw0) (pc := 25) dX11_byLaw0_25 (k := ?_)
    refine ev_ifeq (M := T11_byLaw0) (pc := 26) 35 dX11_byLaw0_26 (kt := fun hc => ?_) (kf := fun hc => ?_)
    · replace H := if_pe hc H
      exact E11_byLaw0_35 l0 l1 l2 h _ H
    · replace H := if_ne hc H
      refine ev_iinc (M := T11_byLaw0) (pc := 29) 2 [(2, .inl (w32 (l2 + 1))), (0, .inl (l0)), (1, .inl (l1))] dX11_byLaw0_29 (k := ?_)
      refine ev_goto (M := T11_byLaw0) (pc := 32) 15 dX11_byLaw0_32 (k := ?_)
      refine ev_lv [1, 2, 0] [(0, .inl (l0)), (1, .inl (l1)), (2, .inl (w32 (l2 + 1)))] (k := ?_)
      exact hk15 l0 l1 (w32 (l2 + 1)) h _ H
theorem E11_byLaw0_15 (n : Nat) : ∀ (l0 : Int) (l1 : Int) (l2 : Int) (h : JM) (res : (Int × JM)), F11_byLaw0_15 n l0 l1 l2 h = some res → Ev j_W1 1 0 0 T11_byLaw0 15 [(0, .inl (l0)), (1, .inl (l1)), (2, .inl (l2))] [] h (some (.inl res.1)) res.2 := by
  induction n with
  | zero =>
    intro l0 l1 l2 h res H
    cases H
  | succ n ih =>
    intro l0 l1 l2 h res H
    exact E11_byLaw0_15b (F11_byLaw0_15 n) ih l0 l1 l2 h res H
set_option maxRecDepth 100000 in
set_option maxHeartbeats 4000000 in
theorem E11_byLaw0_10 (l0 : Int) (s0 : Int) (h : JM) (res : (Int × JM)) (H : F11_byLaw0_10 l0 s0 h = some res) : Ev j_W1 1 0 0 T11_byLaw0 10 [(0, .inl (l0))] [.inl (s0)] h (some (.inl res.1)) res.2 := by
  unfold F11_byLaw0_10 at H
  refine ev_iconst (M := T11_byLaw0) (pc := 10) dX11_byLaw0_10 (k := ?_)
  refine ev_idiv (M := T11_byLaw0) (pc := 11) dX11_byLaw0_11 (by decide) (k := ?_)
  obtain ⟨x1, ex1, H1⟩ := lt_e H
  clear H
  refine ev_topI ex1 ?_
  refine ev_istore_n (M := T11_byLaw0) (pc := 12) [(1, .inl (x1)), (0, .inl (l0))] dX11_byLaw0_12 (k := ?_)
  refine ev_iconst (M := T11_byLaw0) (pc := 13) dX11_byLaw0_13 (k := ?_)
  refine ev_istore_n (M := T11_byLaw0) (pc := 14) [(2, .inl (0)), (1, .inl (x1)), (0, .inl (l0))] dX11_byLaw0_14 (k := ?_)
  refine ev_lv [2, 1, 0] [(0, .inl (l0)), (1, .inl (x1)), (2, .inl (0))] (k := ?_)
  exact E11_byLaw0_15 j_fu l0 x1 0 h _ H1
set_option maxRecDepth 100000 in
set_option maxHeartbeats 4000000 in
theorem C11_byLaw0 {l0 : Int} {h : JM} {res : (Int × JM)} (H : F11_byLaw0 l0 h = some res) : Cn j_W1 1 0 0 yX11_byLaw0 cX11_byLaw0 4 (some .int) [.inl (l0)] h (some (.inl res.1)) res.2 := by
  refine Cn.by (own := RX11) (b := false) [(0, .inl (l0))] rfl (fun z => by cases z) (by decide +kernel) (K := ?_)
  unfold F11_byLaw0 at H
  refine ev_iload_n (M := T11_byLaw0) (pc := 0) 0 dX11_byLaw0_0 (k := ?_)
  refine ev_ifge (M := T11_byLaw0) (pc := 1) 9 dX11_byLaw0_1 (kt := fun hc => ?_) (kf := fun hc => ?_)
  · replace H := if_pe hc H
    refine ev_iload_n (M := T11_byLaw0) (pc := 9) 0 dX11_byLaw0_9 (k := ?_)
    exact E11_byLaw0_10 l0 l0 h _ H
  · replace H := if_ne hc H
    refine ev_iload_n (M := T11_byLaw0) (pc := 4) 0 dX11_byLaw0_4 (k := ?_)
    refine ev_ineg (M := T11_byLaw0) (pc := 5) dX11_byLaw0_5 (k := ?_)
    refine ev_goto (M := T11_byLaw0) (pc := 6) 10 dX11_byLaw0_6 (k := ?_)
    exact E11_byLaw0_10 l0 (w32 (-l0)) h _ H
-- X11_byLaw1
abbrev T11_byLaw1 : JT := (RX11, cX11_byLaw1, 4, some .int, false)
set_option maxRecDepth 100000 in
set_option maxHeartbeats 4000000 in
theorem E11_byLaw1_66 (l2 : Int) (l3 : Int) (s0 : Int) (s1 : Int) (h : JM) (res : (Int × JM)) (H : F11_byLaw1_66 l2 l3 s0 s1 h = some res) : Ev j_W1 1 0 0 T11_byLaw1 66 [(2, .inl (l2)), (3, .inl (l3))] [.inl (s1), .inl (s0)] h (some (.inl res.1)) res.2 := by
  unfold F11_byLaw1_66 at H
  refine ev_isub (M := T11_byLaw1) (pc := 66) dX11_byLaw1_66 (k := ?_)
  refine ev_bipush (M := T11_byLaw1) (pc := 67) dX11_byLaw1_67 (k := ?_)
  refine ev_iload_n (M := T11_byLaw1) (pc := 69) 1 dX11_byLaw1_69 (k := ?_)
  refine ev_imul (M := T11_byLaw1) (pc := 70) dX11_byLaw1_70 (k := ?_)
  refine ev_isub (M := T11_byLaw1) (pc := 71) dX11_byLaw1_71 (k := ?_)
  refine ev_iload_n (M := T11_byLaw1) (pc := 72) 0 dX11_byLaw1_72 (k := ?_)
  refine ev_iload_n (M := T11_byLaw1) (pc := 73) 1 dX11_byLaw1_73 (k := ?_)
  refine ev_iconst (M := T11_byLaw1) (pc := 74) dX11_byLaw1_74 (k := ?_)
  refine ev_iadd (M := T11_byLaw1) (pc := 75) dX11_byLaw1_75 (k := ?_)
  refine ev_ishr (M := T11_byLaw1) (pc := 76) dX11_byLaw1_76 (k := ?_)
  refine ev_bipush (M := T11_byLaw1) (pc := 77) dX11_byLaw1_77 (k := ?_)
  refine ev_iand (M := T11_byLaw1) (pc := 79) dX11_byLaw1_79 (k := ?_)
  refine ev_isub (M := T11_byLaw1) (pc := 80) dX11_byLaw1_80 (k := ?_)
  cases H
  exact ev_ireturn (M := T11_byLaw1) (pc := 81) dX11_byLaw1_81
set_option maxRecDepth 100000 in
set_option maxHeartbeats 4000000 in
theorem E11_byLaw1_52 (l0 : Int) (l2 : Int) (l3 : Int) (h : JM) (res : (Int × JM)) (H : F11_byLaw1_52 l0 l2 l3 h = some res) : Ev j_W1 1 0 0 T11_byLaw1 52 [(0, .inl (l0)), (2, .inl (l2)), (3, .inl (l3))] [] h (some (.inl res.1)) res.2 := by
  unfold F11_byLaw1_52 at H
  refine ev_sipush (M := T11_byLaw1) (pc := 52) dX11_byLaw1_52 (k := ?_)
  refine ev_iload_n (M := T11_byLaw1) (pc := 55) 0 dX11_byLaw1_55 (k := ?_)
  refine ev_ifge (M := T11_byLaw1) (pc := 56) 65 dX11_byLaw1_56 (kt := fun hc => ?_) (kf := fun hc => ?_)
  · replace H := if_pe hc H
    refine ev_iconst (M := T11_byLaw1) (pc := 65) dX11_byLaw1_65 (k := ?_)
    refine ev_lv [1, 2] [(2, .inl (l2)), (3, .inl (l3))] (k := ?_)
    exact E11_byLaw1_66 l2 l3 255 0 h _ H
  · replace H := if_ne hc H
    refine ev_sipush (M := T11_byLaw1) (pc := 59) dX11_byLaw1_59 (k := ?_)
    refine ev_goto (M := T11_byLaw1) (pc := 62) 66 dX11_byLaw1_62 (k := ?_)
    refine ev_lv [1, 2] [(2, .inl (l2)), (3, .inl (l3))] (k := ?_)
    exact E11_byLaw1_66 l2 l3 255 128 h _ H
set_option maxRecDepth 100000 in
set_option maxHeartbeats 4000000 in
theorem E11_byLaw1_31b (k31 : Int → Int → Int → JM → Option (Int × JM)) (hk31 : ∀ (l0 : Int) (l2 : Int) (l3 : Int) (h : JM) (res : (Int × JM)), k31 l0 l2 l3 h = some res → Ev j_W1 1 0 0 T11_byLaw1 31 [(0, .inl (l0)), (2, .inl (l2)), (3, .inl (l3))] [] h (some (.inl res.1)) res.2) (l0 : Int) (l2 : Int) (l3 : Int) (h : JM) (res : (Int × JM)) (H : F11_byLaw1_31b k31 l0 l2 l3 h = some res) : Ev j_W1 1 0 0 T11_byLaw1 31 [(0, .inl (l0)), (2, .inl (l2)), (3, .inl (l3))] [] h (some (.inl res.1)) res.2 := by
  unfold F11_byLaw1_31b at H
  refine ev_iload_n (M := T11_byLaw1) (pc := 31) 2 dX11_byLaw1_31 (k := ?_)
  refine ev_bipush (M := T11_byLaw1) (pc := 32) dX11_byLaw1_32 (k := ?_)
  refine ev_icmpge (M := T11_byLaw1) (pc := 34) 52 dX11_byLaw1_34 (kt := fun hc => ?_) (kf := fun hc => ?_)
  · replace H := if_pe hc H
    exact E11_byLaw1_52 l0 l2 l3 h _ H
  · replace H := if_ne hc H
    refine ev_iload_n (M := T11_byLaw1) (pc := 37) 1 dX11_byLaw1_37 (k := ?_)
    refine ev_iload_n (M := T11_byLaw1) (pc := 38) 2 dX11_byLaw1_38 (k := ?_)
    refine ev_bipush (M := T11_byLaw1) (pc := 39) dX11_byLaw1_39 (k := ?_)
    refine ev_iadd (M := T11_byLaw1) (pc := 41) dX11_byLaw1_41 (k := ?_)
    refine ev_ishr (M := T11_byLaw1) (pc := 42) dX11_byLaw1_42 (k := ?_)
    refine ev_ifeq (M := T11_byLaw1) (pc := 43) 52 dX11_byLaw1_43 (kt := fun hc => ?_) (kf := fun hc => ?_)
    · replace H := if_pe hc H
      exact E11_byLaw1_52 l0 l2 l3 h _ H
    · replace H := if_ne hc H
      refine ev_iinc (M := T11_byLaw1) (pc := 46) 2 [(3, .inl (w32 (l3 + 1))), (0, .inl (l0)), (2, .inl (l2))] dX11_byLaw1_46 (k := ?_)
      refine ev_goto (M := T11_byLaw1) (pc := 49) 31 dX11_byLaw1_49 (k := ?_)
      refine ev_lv [1, 2, 0] [(0, .inl (l0)), (2, .inl (l2)), (3, .inl (w32 (l3 + 1)))] (k := ?_)
      exact hk31 l0 l2 (w32 (l3 + 1)) h _ H
theorem E11_byLaw1_31 (n : Nat) : ∀ (l0 : Int) (l2 : Int) (l3 : Int) (h : JM) (res : (Int × JM)), F11_byLaw1_31 n l0 l2 l3 h = some res → Ev j_W1 1 0 0 T11_byLaw1 31 [(0, .inl (l0)), (2, .inl (l2)), (3, .inl (l3))] [] h (some (.inl res.1)) res.2 := by
  induction n with
  | zero =>
    intro l0 l2 l3 h res H
    cases H
  | succ n ih =>
    intro l0 l2 l3 h res H
    exact E11_byLaw1_31b (F11_byLaw1_31 n) ih l0 l2 l3 h res H
set_option maxRecDepth 100000 in
set_option maxHeartbeats 4000000 in
theorem E11_byLaw1_25 (l0 : Int) (s0 : Int) (h : JM) (res : (Int × JM)) (H : F11_byLaw1_25 l0 s0 h = some res) : Ev j_W1 1 0 0 T11_byLaw1 25 [(0, .inl (l0))] [.inl (s0)] h (some (.inl res.1)) res.2 := by
  unfold F11_byLaw1_25 at H
  refine ev_bipush (M := T11_byLaw1) (pc := 25) dX11_byLaw1_25 (k := ?_)
  refine ev_iadd (M := T11_byLaw1) (pc := 27) dX11_byLaw1_27 (k := ?_)
  obtain ⟨x1, ex1, H1⟩ := lt_e H
  clear H
  refine ev_topI ex1 ?_
  refine ev_istore_n (M := T11_byLaw1) (pc := 28) [(2, .inl (x1)), (0, .inl (l0))] dX11_byLaw1_28 (k := ?_)
  refine ev_iconst (M := T11_byLaw1) (pc := 29) dX11_byLaw1_29 (k := ?_)
  refine ev_istore_n (M := T11_byLaw1) (pc := 30) [(3, .inl (0)), (2, .inl (x1)), (0, .inl (l0))] dX11_byLaw1_30 (k := ?_)
  refine ev_lv [2, 1, 0] [(0, .inl (l0)), (2, .inl (x1)), (3, .inl (0))] (k := ?_)
  exact E11_byLaw1_31 j_fu l0 x1 0 h _ H1
set_option maxRecDepth 100000 in
set_option maxHeartbeats 4000000 in
theorem E11_byLaw1_10 (l0 : Int) (s0 : Int) (h : JM) (res : (Int × JM)) (H : F11_byLaw1_10 l0 s0 h = some res) : Ev j_W1 1 0 0 T11_byLaw1 10 [(0, .inl (l0))] [.inl (s0)] h (some (.inl res.1)) res.2 := by
  unfold F11_byLaw1_10 at H
  refine ev_istore_n (M := T11_byLaw1) (pc := 10) [(1, .inl (s0)), (0, .inl (l0))] dX11_byLaw1_10 (k := ?_)
  refine ev_iload_n (M := T11_byLaw1) (pc := 11) 0 dX11_byLaw1_11 (k := ?_)
  refine ev_sipush (M := T11_byLaw1) (pc := 12) dX11_byLaw1_12 (k := ?_)
  refine ev_icmpge (M := T11_byLaw1) (pc := 15) 22 dX11_byLaw1_15 (kt := fun hc => ?_) (kf := fun hc => ?_)
  · replace H := if_pe hc H
    refine ev_sipush (M := T11_byLaw1) (pc := 22) dX11_byLaw1_22 (k := ?_)
    refine ev_lv [1] [(0, .inl (l0))] (k := ?_)
    exact E11_byLaw1_25 l0 8158 h _ H
  · replace H := if_ne hc H
    refine ev_iload_n (M := T11_byLaw1) (pc := 18) 0 dX11_byLaw1_18 (k := ?_)
    refine ev_goto (M := T11_byLaw1) (pc := 19) 25 dX11_byLaw1_19 (k := ?_)
    refine ev_lv [1] [(0, .inl (l0))] (k := ?_)
    exact E11_byLaw1_25 l0 s0 h _ H
set_option maxRecDepth 100000 in
set_option maxHeartbeats 4000000 in
theorem C11_byLaw1 {l0 : Int} {h : JM} {res : (Int × JM)} (H : F11_byLaw1 l0 h = some res) : Cn j_W1 1 0 0 yX11_byLaw1 cX11_byLaw1 4 (some .int) [.inl (l0)] h (some (.inl res.1)) res.2 := by
  refine Cn.by (own := RX11) (b := false) [(0, .inl (l0))] rfl (fun z => by cases z) (by decide +kernel) (K := ?_)
  unfold F11_byLaw1 at H
  refine ev_iload_n (M := T11_byLaw1) (pc := 0) 0 dX11_byLaw1_0 (k := ?_)
  refine ev_ifge (M := T11_byLaw1) (pc := 1) 9 dX11_byLaw1_1 (kt := fun hc => ?_) (kf := fun hc => ?_)
  · replace H := if_pe hc H
    refine ev_iload_n (M := T11_byLaw1) (pc := 9) 0 dX11_byLaw1_9 (k := ?_)
    exact E11_byLaw1_10 l0 l0 h _ H
  · replace H := if_ne hc H
    refine ev_iload_n (M := T11_byLaw1) (pc := 4) 0 dX11_byLaw1_4 (k := ?_)
    refine ev_ineg (M := T11_byLaw1) (pc := 5) dX11_byLaw1_5 (k := ?_)
    refine ev_goto (M := T11_byLaw1) (pc := 6) 10 dX11_byLaw1_6 (k := ?_)
    exact E11_byLaw1_10 l0 (w32 (-l0)) h _ H
-- X11_fromLaw0
abbrev T11_fromLaw0 : JT := (RX11, cX11_fromLaw0, 5, some .int, false)
set_option maxRecDepth 100000 in
set_option maxHeartbeats 4000000 in
theorem E11_fromLaw0_44 (l1 : Int) (s0 : Int) (h : JM) (res : (Int × JM)) (H : F11_fromLaw0_44 l1 s0 h = some res) : Ev j_W1 1 0 0 T11_fromLaw0 44 [(1, .inl (l1))] [.inl (s0)] h (some (.inl res.1)) res.2 := by
  unfold F11_fromLaw0_44 at H
  refine ev_istore (M := T11_fromLaw0) (pc := 44) [(4, .inl (s0)), (1, .inl (l1))] dX11_fromLaw0_44 (k := ?_)
  refine ev_iload_n (M := T11_fromLaw0) (pc := 46) 1 dX11_fromLaw0_46 (k := ?_)
  refine ev_sipush (M := T11_fromLaw0) (pc := 47) dX11_fromLaw0_47 (k := ?_)
  refine ev_icmpge (M := T11_fromLaw0) (pc := 50) 59 dX11_fromLaw0_50 (kt := fun hc => ?_) (kf := fun hc => ?_)
  · replace H := if_pe hc H
    refine ev_iload (M := T11_fromLaw0) (pc := 59) 0 dX11_fromLaw0_59 (k := ?_)
    cases H
    exact ev_ireturn (M := T11_fromLaw0) (pc := 61) dX11_fromLaw0_61
  · replace H := if_ne hc H
    refine ev_iload (M := T11_fromLaw0) (pc := 53) 0 dX11_fromLaw0_53 (k := ?_)
    refine ev_ineg (M := T11_fromLaw0) (pc := 55) dX11_fromLaw0_55 (k := ?_)
    refine ev_goto (M := T11_fromLaw0) (pc := 56) 61 dX11_fromLaw0_56 (k := ?_)
    cases H
    exact ev_ireturn (M := T11_fromLaw0) (pc := 61) dX11_fromLaw0_61
set_option maxRecDepth 100000 in
set_option maxHeartbeats 4000000 in
theorem C11_fromLaw0 {l0 : Int} {h : JM} {res : (Int × JM)} (H : F11_fromLaw0 l0 h = some res) : Cn j_W1 1 0 0 yX11_fromLaw0 cX11_fromLaw0 5 (some .int) [.inl (l0)] h (some (.inl res.1)) res.2 := by
  refine Cn.by (own := RX11) (b := false) [(0, .inl (l0))] rfl (fun z => by cases z) (by decide +kernel) (K := ?_)
  unfold F11_fromLaw0 at H
  refine ev_iload_n (M := T11_fromLaw0) (pc := 0) 0 dX11_fromLaw0_0 (k := ?_)
  refine ev_bipush (M := T11_fromLaw0) (pc := 1) dX11_fromLaw0_1 (k := ?_)
  refine ev_ixor (M := T11_fromLaw0) (pc := 3) dX11_fromLaw0_3 (k := ?_)
  obtain ⟨x1, ex1, H1⟩ := lt_e H
  clear H
  refine ev_topI ex1 ?_
  refine ev_istore_n (M := T11_fromLaw0) (pc := 4) [(1, .inl (x1)), (0, .inl (l0))] dX11_fromLaw0_4 (k := ?_)
  refine ev_iload_n (M := T11_fromLaw0) (pc := 5) 0 dX11_fromLaw0_5 (k := ?_)
  refine ev_bipush (M := T11_fromLaw0) (pc := 6) dX11_fromLaw0_6 (k := ?_)
  refine ev_idiv (M := T11_fromLaw0) (pc := 8) dX11_fromLaw0_8 (by decide) (k := ?_)
  refine ev_bipush (M := T11_fromLaw0) (pc := 9) dX11_fromLaw0_9 (k := ?_)
  refine ev_iand (M := T11_fromLaw0) (pc := 11) dX11_fromLaw0_11 (k := ?_)
  obtain ⟨x2, ex2, H2⟩ := lt_e H1
  clear H1
  refine ev_topI ex2 ?_
  refine ev_istore_n (M := T11_fromLaw0) (pc := 12) [(2, .inl (x2)), (1, .inl (x1)), (0, .inl (l0))] dX11_fromLaw0_12 (k := ?_)
  refine ev_iload_n (M := T11_fromLaw0) (pc := 13) 1 dX11_fromLaw0_13 (k := ?_)
  refine ev_bipush (M := T11_fromLaw0) (pc := 14) dX11_fromLaw0_14 (k := ?_)
  refine ev_iand (M := T11_fromLaw0) (pc := 16) dX11_fromLaw0_16 (k := ?_)
  obtain ⟨x3, ex3, H3⟩ := lt_e H2
  clear H2
  refine ev_topI ex3 ?_
  refine ev_istore_n (M := T11_fromLaw0) (pc := 17) [(3, .inl (x3)), (2, .inl (x2)), (1, .inl (x1)), (0, .inl (l0))] dX11_fromLaw0_17 (k := ?_)
  refine ev_iload_n (M := T11_fromLaw0) (pc := 18) 1 dX11_fromLaw0_18 (k := ?_)
  refine ev_ifne (M := T11_fromLaw0) (pc := 19) 32 dX11_fromLaw0_19 (kt := fun hc => ?_) (kf := fun hc => ?_)
  · replace H3 := if_ne hc H3
    refine ev_iconst (M := T11_fromLaw0) (pc := 32) dX11_fromLaw0_32 (k := ?_)
    refine ev_iconst (M := T11_fromLaw0) (pc := 33) dX11_fromLaw0_33 (k := ?_)
    refine ev_iload_n (M := T11_fromLaw0) (pc := 34) 0 dX11_fromLaw0_34 (k := ?_)
    refine ev_imul (M := T11_fromLaw0) (pc := 35) dX11_fromLaw0_35 (k := ?_)
    refine ev_bipush (M := T11_fromLaw0) (pc := 36) dX11_fromLaw0_36 (k := ?_)
    refine ev_iadd (M := T11_fromLaw0) (pc := 38) dX11_fromLaw0_38 (k := ?_)
    refine ev_iload_n (M := T11_fromLaw0) (pc := 39) 1 dX11_fromLaw0_39 (k := ?_)
    refine ev_iconst (M := T11_fromLaw0) (pc := 40) dX11_fromLaw0_40 (k := ?_)
    refine ev_isub (M := T11_fromLaw0) (pc := 41) dX11_fromLaw0_41 (k := ?_)
    refine ev_ishl (M := T11_fromLaw0) (pc := 42) dX11_fromLaw0_42 (k := ?_)
    refine ev_imul (M := T11_fromLaw0) (pc := 43) dX11_fromLaw0_43 (k := ?_)
    refine ev_lv [2] [(1, .inl (x1))] (k := ?_)
    exact E11_fromLaw0_44 x1 (w32 (2 * (j_shl (w32 ((w32 (2 * x3)) + 33)) (w32 (x2 - 1))))) h _ H3
  · replace H3 := if_pe hc H3
    refine ev_iconst (M := T11_fromLaw0) (pc := 22) dX11_fromLaw0_22 (k := ?_)
    refine ev_iconst (M := T11_fromLaw0) (pc := 23) dX11_fromLaw0_23 (k := ?_)
    refine ev_iload_n (M := T11_fromLaw0) (pc := 24) 0 dX11_fromLaw0_24 (k := ?_)
    refine ev_imul (M := T11_fromLaw0) (pc := 25) dX11_fromLaw0_25 (k := ?_)
    refine ev_iconst (M := T11_fromLaw0) (pc := 26) dX11_fromLaw0_26 (k := ?_)
    refine ev_iadd (M := T11_fromLaw0) (pc := 27) dX11_fromLaw0_27 (k := ?_)
    refine ev_imul (M := T11_fromLaw0) (pc := 28) dX11_fromLaw0_28 (k := ?_)
    refine ev_goto (M := T11_fromLaw0) (pc := 29) 44 dX11_fromLaw0_29 (k := ?_)
    refine ev_lv [2] [(1, .inl (x1))] (k := ?_)
    exact E11_fromLaw0_44 x1 (w32 (2 * (w32 ((w32 (2 * x3)) + 1)))) h _ H3
-- X11_fromLaw1
abbrev T11_fromLaw1 : JT := (RX11, cX11_fromLaw1, 4, some .int, false)
set_option maxRecDepth 100000 in
set_option maxHeartbeats 4000000 in
theorem C11_fromLaw1 {l0 : Int} {h : JM} {res : (Int × JM)} (H : F11_fromLaw1 l0 h = some res) : Cn j_W1 1 0 0 yX11_fromLaw1 cX11_fromLaw1 4 (some .int) [.inl (l0)] h (some (.inl res.1)) res.2 := by
  refine Cn.by (own := RX11) (b := false) [(0, .inl (l0))] rfl (fun z => by cases z) (by decide +kernel) (K := ?_)
  unfold F11_fromLaw1 at H
  refine ev_sipush (M := T11_fromLaw1) (pc := 0) dX11_fromLaw1_0 (k := ?_)
  refine ev_iload_n (M := T11_fromLaw1) (pc := 3) 0 dX11_fromLaw1_3 (k := ?_)
  refine ev_isub (M := T11_fromLaw1) (pc := 4) dX11_fromLaw1_4 (k := ?_)
  obtain ⟨x1, ex1, H1⟩ := lt_e H
  clear H
  refine ev_topI ex1 ?_
  refine ev_istore_n (M := T11_fromLaw1) (pc := 5) [(1, .inl (x1)), (0, .inl (l0))] dX11_fromLaw1_5 (k := ?_)
  refine ev_iload_n (M := T11_fromLaw1) (pc := 6) 0 dX11_fromLaw1_6 (k := ?_)
  refine ev_bipush (M := T11_fromLaw1) (pc := 7) dX11_fromLaw1_7 (k := ?_)
  refine ev_idiv (M := T11_fromLaw1) (pc := 9) dX11_fromLaw1_9 (by decide) (k := ?_)
  refine ev_bipush (M := T11_fromLaw1) (pc := 10) dX11_fromLaw1_10 (k := ?_)
  refine ev_iand (M := T11_fromLaw1) (pc := 12) dX11_fromLaw1_12 (k := ?_)
  obtain ⟨x2, ex2, H2⟩ := lt_e H1
  clear H1
  refine ev_topI ex2 ?_
  refine ev_istore_n (M := T11_fromLaw1) (pc := 13) [(2, .inl (x2)), (1, .inl (x1)), (0, .inl (l0))] dX11_fromLaw1_13 (k := ?_)
  refine ev_iconst (M := T11_fromLaw1) (pc := 14) dX11_fromLaw1_14 (k := ?_)
  refine ev_iload_n (M := T11_fromLaw1) (pc := 15) 1 dX11_fromLaw1_15 (k := ?_)
  refine ev_bipush (M := T11_fromLaw1) (pc := 16) dX11_fromLaw1_16 (k := ?_)
  refine ev_iand (M := T11_fromLaw1) (pc := 18) dX11_fromLaw1_18 (k := ?_)
  refine ev_imul (M := T11_fromLaw1) (pc := 19) dX11_fromLaw1_19 (k := ?_)
  refine ev_bipush (M := T11_fromLaw1) (pc := 20) dX11_fromLaw1_20 (k := ?_)
  refine ev_iadd (M := T11_fromLaw1) (pc := 22) dX11_fromLaw1_22 (k := ?_)
  refine ev_iload_n (M := T11_fromLaw1) (pc := 23) 0 dX11_fromLaw1_23 (k := ?_)
  refine ev_ishl (M := T11_fromLaw1) (pc := 24) dX11_fromLaw1_24 (k := ?_)
  refine ev_bipush (M := T11_fromLaw1) (pc := 25) dX11_fromLaw1_25 (k := ?_)
  refine ev_isub (M := T11_fromLaw1) (pc := 27) dX11_fromLaw1_27 (k := ?_)
  obtain ⟨x3, ex3, H3⟩ := lt_e H2
  clear H2
  refine ev_topI ex3 ?_
  refine ev_istore_n (M := T11_fromLaw1) (pc := 28) [(3, .inl (x3)), (2, .inl (x2)), (1, .inl (x1)), (0, .inl (l0))] dX11_fromLaw1_28 (k := ?_)
  refine ev_iload_n (M := T11_fromLaw1) (pc := 29) 2 dX11_fromLaw1_29 (k := ?_)
  refine ev_bipush (M := T11_fromLaw1) (pc := 30) dX11_fromLaw1_30 (k := ?_)
  refine ev_icmple (M := T11_fromLaw1) (pc := 32) 40 dX11_fromLaw1_32 (kt := fun hc => ?_) (kf := fun hc => ?_)
  · replace H3 := if_pe hc H3
    refine ev_iload_n (M := T11_fromLaw1) (pc := 40) 0 dX11_fromLaw1_40 (k := ?_)
    cases H3
    exact ev_ireturn (M := T11_fromLaw1) (pc := 41) dX11_fromLaw1_41
  · replace H3 := if_ne hc H3
    refine ev_iload_n (M := T11_fromLaw1) (pc := 35) 0 dX11_fromLaw1_35 (k := ?_)
    refine ev_ineg (M := T11_fromLaw1) (pc := 36) dX11_fromLaw1_36 (k := ?_)
    refine ev_goto (M := T11_fromLaw1) (pc := 37) 41 dX11_fromLaw1_37 (k := ?_)
    cases H3
    exact ev_ireturn (M := T11_fromLaw1) (pc := 41) dX11_fromLaw1_41
-- X11_asHeard
abbrev T11_asHeard : JT := (RX11, cX11_asHeard, 2, some .int, false)
set_option maxRecDepth 100000 in
set_option maxHeartbeats 4000000 in
theorem C11_asHeard {l0 : Int} {l1 : Int} {h : JM} {res : (Int × JM)} (H : F11_asHeard l0 l1 h = some res) : Cn j_W1 2 0 0 yX11_asHeard cX11_asHeard 2 (some .int) [.inl (l0), .inl (l1)] h (some (.inl res.1)) res.2 := by
  refine Cn.by (own := RX11) (b := false) [(0, .inl (l0)), (1, .inl (l1))] rfl (fun z => by cases z) (by decide +kernel) (K := ?_)
  unfold F11_asHeard at H
  refine ev_iload_n (M := T11_asHeard) (pc := 0) 0 dX11_asHeard_0 (k := ?_)
  refine ev_ifne (M := T11_asHeard) (pc := 1) 14 dX11_asHeard_1 (kt := fun hc => ?_) (kf := fun hc => ?_)
  · replace H := if_ne hc H
    refine ev_iload_n (M := T11_asHeard) (pc := 14) 1 dX11_asHeard_14 (k := ?_)
    obtain ⟨q1, hq, H1⟩ := bd_e H
    clear H
    refine ev_callS (M := T11_asHeard) (pc := 15) (mc := 0) (ms := 0) (st := []) (C11_byLaw1 hq) md_X11_byLaw1 ss_X11_byLaw1 ml_X11_580 dX11_asHeard_15 _ (by decide) (K := ?_)
    obtain ⟨q2, hq, H2⟩ := bd_e H1
    clear H1
    refine ev_callS (M := T11_asHeard) (pc := 18) (mc := 0) (ms := 0) (st := []) (C11_fromLaw1 hq) md_X11_fromLaw1 ss_X11_fromLaw1 ml_X11_583 dX11_asHeard_18 _ (by decide) (K := ?_)
    cases H2
    exact ev_ireturn (M := T11_asHeard) (pc := 21) dX11_asHeard_21
  · replace H := if_pe hc H
    refine ev_iload_n (M := T11_asHeard) (pc := 4) 1 dX11_asHeard_4 (k := ?_)
    obtain ⟨q3, hq, H1⟩ := bd_e H
    clear H
    refine ev_callS (M := T11_asHeard) (pc := 5) (mc := 0) (ms := 0) (st := []) (C11_byLaw0 hq) md_X11_byLaw0 ss_X11_byLaw0 ml_X11_577 dX11_asHeard_5 _ (by decide) (K := ?_)
    obtain ⟨q4, hq, H2⟩ := bd_e H1
    clear H1
    refine ev_callS (M := T11_asHeard) (pc := 8) (mc := 0) (ms := 0) (st := []) (C11_fromLaw0 hq) md_X11_fromLaw0 ss_X11_fromLaw0 ml_X11_573 dX11_asHeard_8 _ (by decide) (K := ?_)
    refine ev_goto (M := T11_asHeard) (pc := 11) 21 dX11_asHeard_11 (k := ?_)
    cases H2
    exact ev_ireturn (M := T11_asHeard) (pc := 21) dX11_asHeard_21
-- X11_isExchange
abbrev T11_isExchange : JT := (RX11, cX11_isExchange, 1, some .boolean, false)
set_option maxRecDepth 100000 in
set_option maxHeartbeats 4000000 in
theorem E11_isExchange_13 (h : JM) (res : (Int × JM)) (H : F11_isExchange_13 h = some res) : Ev j_W1 1 0 0 T11_isExchange 13 [] [] h (some (.inl res.1)) res.2 := by
  unfold F11_isExchange_13 at H
  refine ev_iconst (M := T11_isExchange) (pc := 13) dX11_isExchange_13 (k := ?_)
  cases H
  exact ev_zreturn (M := T11_isExchange) (pc := 14) (Or.inl rfl) dX11_isExchange_14
set_option maxRecDepth 100000 in
set_option maxHeartbeats 4000000 in
theorem C11_isExchange {l0 : Int} {h : JM} {res : (Int × JM)} (H : F11_isExchange l0 h = some res) : Cn j_W1 1 0 0 yX11_isExchange cX11_isExchange 1 (some .boolean) [.inl (l0)] h (some (.inl res.1)) res.2 := by
  refine Cn.by (own := RX11) (b := false) [(0, .inl (l0))] rfl (fun z => by cases z) (by decide +kernel) (K := ?_)
  unfold F11_isExchange at H
  refine ev_iload_n (M := T11_isExchange) (pc := 0) 0 dX11_isExchange_0 (k := ?_)
  refine ev_iflt (M := T11_isExchange) (pc := 1) 13 dX11_isExchange_1 (kt := fun hc => ?_) (kf := fun hc => ?_)
  · replace H := if_pe hc H
    refine ev_lv [] [] (k := ?_)
    exact E11_isExchange_13 h _ H
  · replace H := if_ne hc H
    refine ev_iload_n (M := T11_isExchange) (pc := 4) 0 dX11_isExchange_4 (k := ?_)
    refine ev_iconst (M := T11_isExchange) (pc := 5) dX11_isExchange_5 (k := ?_)
    refine ev_icmpge (M := T11_isExchange) (pc := 6) 13 dX11_isExchange_6 (kt := fun hc => ?_) (kf := fun hc => ?_)
    · replace H := if_pe hc H
      refine ev_lv [] [] (k := ?_)
      exact E11_isExchange_13 h _ H
    · replace H := if_ne hc H
      refine ev_iconst (M := T11_isExchange) (pc := 9) dX11_isExchange_9 (k := ?_)
      refine ev_goto (M := T11_isExchange) (pc := 10) 14 dX11_isExchange_10 (k := ?_)
      cases H
      exact ev_zreturn (M := T11_isExchange) (pc := 14) (Or.inr rfl) dX11_isExchange_14
