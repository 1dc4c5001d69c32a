-- X10_readBody
abbrev T10_readBody : JT := (RX10, cX10_readBody, 4, some .boolean, false)
set_option maxRecDepth 100000 in
set_option maxHeartbeats 4000000 in
theorem E10_readBody_89 (k10 : Int → Int → JM → Option (Int × JM)) (hk10 : ∀ (l1 : Int) (l2 : Int) (h : JM) (res : (Int × JM)), k10 l1 l2 h = some res → Ev j_W1 2 0 0 T10_readBody 10 [(0, .inr (.inr (some (10, 0)))), (1, .inl (l1)), (2, .inl (l2))] [] h (some (.inl res.1)) res.2) (l1 : Int) (l2 : Int) (h : JM) (res : (Int × JM)) (H : F10_readBody_89 k10 l1 l2 h = some res) : Ev j_W1 2 0 0 T10_readBody 89 [(0, .inr (.inr (some (10, 0)))), (1, .inl (l1)), (2, .inl (l2))] [] h (some (.inl res.1)) res.2 := by
  unfold F10_readBody_89 at H
  refine ev_iinc (M := T10_readBody) (pc := 89) 2 [(2, .inl (w32 (l2 + 1))), (0, .inr (.inr (some (10, 0)))), (1, .inl (l1))] dX10_readBody_89 (k := ?_)
  refine ev_goto (M := T10_readBody) (pc := 92) 10 dX10_readBody_92 (k := ?_)
  refine ev_lv [1, 2, 0] [(0, .inr (.inr (some (10, 0)))), (1, .inl (l1)), (2, .inl (w32 (l2 + 1)))] (k := ?_)
  exact hk10 l1 (w32 (l2 + 1)) h _ H
set_option maxRecDepth 100000 in
set_option maxHeartbeats 4000000 in
theorem E10_readBody_88 (k10 : Int → Int → JM → Option (Int × JM)) (hk10 : ∀ (l1 : Int) (l2 : Int) (h : JM) (res : (Int × JM)), k10 l1 l2 h = some res → Ev j_W1 2 0 0 T10_readBody 10 [(0, .inr (.inr (some (10, 0)))), (1, .inl (l1)), (2, .inl (l2))] [] h (some (.inl res.1)) res.2) (l2 : Int) (s0 : Int) (h : JM) (res : (Int × JM)) (H : F10_readBody_88 k10 l2 s0 h = some res) : Ev j_W1 2 0 0 T10_readBody 88 [(0, .inr (.inr (some (10, 0)))), (2, .inl (l2))] [.inl (s0)] h (some (.inl res.1)) res.2 := by
  unfold F10_readBody_88 at H
  refine ev_istore_n (M := T10_readBody) (pc := 88) [(1, .inl (s0)), (0, .inr (.inr (some (10, 0)))), (2, .inl (l2))] dX10_readBody_88 (k := ?_)
  refine ev_lv [1, 0, 2] [(0, .inr (.inr (some (10, 0)))), (1, .inl (s0)), (2, .inl (l2))] (k := ?_)
  exact E10_readBody_89 k10 hk10 s0 l2 h _ H
set_option maxRecDepth 100000 in
set_option maxHeartbeats 4000000 in
theorem E10_readBody_10b (k10 : Int → Int → JM → Option (Int × JM)) (hk10 : ∀ (l1 : Int) (l2 : Int) (h : JM) (res : (Int × JM)), k10 l1 l2 h = some res → Ev j_W1 2 0 0 T10_readBody 10 [(0, .inr (.inr (some (10, 0)))), (1, .inl (l1)), (2, .inl (l2))] [] h (some (.inl res.1)) res.2) (l1 : Int) (l2 : Int) (h : JM) (res : (Int × JM)) (H : F10_readBody_10b k10 l1 l2 h = some res) : Ev j_W1 2 0 0 T10_readBody 10 [(0, .inr (.inr (some (10, 0)))), (1, .inl (l1)), (2, .inl (l2))] [] h (some (.inl res.1)) res.2 := by
  unfold F10_readBody_10b at H
  refine ev_iload_n (M := T10_readBody) (pc := 10) 2 dX10_readBody_10 (k := ?_)
  refine ev_bipush (M := T10_readBody) (pc := 11) dX10_readBody_11 (k := ?_)
  refine ev_iadd (M := T10_readBody) (pc := 13) dX10_readBody_13 (k := ?_)
  refine ev_aload_n (M := T10_readBody) (pc := 14) 0 dX10_readBody_14 (k := ?_)
  refine ev_getI (M := T10_readBody) (pc := 15) (x := h.1 10 0 1) fl_X10_18 dX10_readBody_15 (K := ?_)
  refine ev_icmpgt (M := T10_readBody) (pc := 18) 95 dX10_readBody_18 (kt := fun hc => ?_) (kf := fun hc => ?_)
  · replace H := if_pe hc H
    refine ev_iconst (M := T10_readBody) (pc := 95) dX10_readBody_95 (k := ?_)
    cases H
    exact ev_zreturn (M := T10_readBody) (pc := 96) (Or.inl rfl) dX10_readBody_96
  · replace H := if_ne hc H
    refine ev_aload_n (M := T10_readBody) (pc := 21) 0 dX10_readBody_21 (k := ?_)
    refine ev_iload_n (M := T10_readBody) (pc := 22) 2 dX10_readBody_22 (k := ?_)
    obtain ⟨q1, hq, H1⟩ := bd_e H
    clear H
    refine ev_callV (M := T10_readBody) (pc := 23) (mc := 0) (ms := 0) (st := []) (C10_isFlag hq) md_X10_isFlag im_X10_isFlag se_X10_isFlag ml_X10_71 dX10_readBody_23 _ (by decide) (K := ?_)
    refine ev_ifeq (M := T10_readBody) (pc := 26) 31 dX10_readBody_26 (kt := fun hc => ?_) (kf := fun hc => ?_)
    · replace H1 := if_pe hc H1
      refine ev_aload_n (M := T10_readBody) (pc := 31) 0 dX10_readBody_31 (k := ?_)
      refine ev_getR (M := T10_readBody) (pc := 32) (t := 36) (x := some (36, 0)) fl_X10_9 dX10_readBody_32 (hx := ry_10_0 _ _) (K := ?_)
      refine ev_iload_n (M := T10_readBody) (pc := 35) 2 dX10_readBody_35 (k := ?_)
      obtain ⟨⟨hi0, hi1⟩, H2⟩ := g_e H1
      clear H1
      refine ev_baload (M := T10_readBody) (pc := 36) (k := 36) hi0 hi1 dX10_readBody_36 (hc := ac_36) (hlen := ln_36 _ _) (K := ?_)
      obtain ⟨x2, ex2, H3⟩ := lt_e H2
      clear H2
      refine ev_topI ex2 ?_
      refine ev_istore_n (M := T10_readBody) (pc := 37) [(3, .inl (x2)), (0, .inr (.inr (some (10, 0)))), (1, .inl (l1)), (2, .inl (l2))] dX10_readBody_37 (k := ?_)
      refine ev_iload_n (M := T10_readBody) (pc := 38) 2 dX10_readBody_38 (k := ?_)
      refine ev_iconst (M := T10_readBody) (pc := 39) dX10_readBody_39 (k := ?_)
      refine ev_icmpne (M := T10_readBody) (pc := 40) 55 dX10_readBody_40 (kt := fun hc => ?_) (kf := fun hc => ?_)
      · replace H3 := if_ne hc H3
        refine ev_aload_n (M := T10_readBody) (pc := 55) 1 dX10_readBody_55 (k := ?_)
        refine ev_getR (M := T10_readBody) (pc := 56) (t := 37) (x := some (37, 0)) fl_X10_15 dX10_readBody_56 (hx := ry_10_4 _ _) (K := ?_)
        refine ev_aload_n (M := T10_readBody) (pc := 59) 1 dX10_readBody_59 (k := ?_)
        refine ev_getI (M := T10_readBody) (pc := 60) (x := q1.2.1 10 0 5) fl_X10_79 dX10_readBody_60 (K := ?_)
        refine ev_iload_n (M := T10_readBody) (pc := 63) 0 dX10_readBody_63 (k := ?_)
        refine ev_i2b (M := T10_readBody) (pc := 64) dX10_readBody_64 (k := ?_)
        obtain ⟨⟨hi0, hi1⟩, H4⟩ := g_e H3
        clear H3
        obtain ⟨h3, eh3, H5⟩ := lt_e H4
        clear H4
        refine ev_bastore (M := T10_readBody) (pc := 65) (k := 37) j_ok1 hi0 hi1 eh3 dX10_readBody_65 (hc := ac_37) (hlen := ln_37 _ _) (K := ?_)
        refine ev_aload_n (M := T10_readBody) (pc := 66) 1 dX10_readBody_66 (k := ?_)
        refine ev_dup (M := T10_readBody) (pc := 67) dX10_readBody_67 (k := ?_)
        refine ev_getI (M := T10_readBody) (pc := 68) (x := h3.1 10 0 5) fl_X10_79 dX10_readBody_68 (K := ?_)
        refine ev_iconst (M := T10_readBody) (pc := 71) dX10_readBody_71 (k := ?_)
        refine ev_iadd (M := T10_readBody) (pc := 72) dX10_readBody_72 (k := ?_)
        obtain ⟨h4, eh4, H6⟩ := lt_e H5
        clear H5
        refine ev_putI (M := T10_readBody) (pc := 73) j_ok1 fl_X10_79 eh4 dX10_readBody_73 (K := ?_)
        refine ev_iload_n (M := T10_readBody) (pc := 76) 0 dX10_readBody_76 (k := ?_)
        refine ev_iconst (M := T10_readBody) (pc := 77) dX10_readBody_77 (k := ?_)
        refine ev_icmpne (M := T10_readBody) (pc := 78) 87 dX10_readBody_78 (kt := fun hc => ?_) (kf := fun hc => ?_)
        · replace H6 := if_ne hc H6
          refine ev_iconst (M := T10_readBody) (pc := 87) dX10_readBody_87 (k := ?_)
          refine ev_lv [1, 3] [(0, .inr (.inr (some (10, 0)))), (2, .inl (l2))] (k := ?_)
          exact E10_readBody_88 k10 hk10 l2 0 h4 _ H6
        · replace H6 := if_pe hc H6
          refine ev_iload_n (M := T10_readBody) (pc := 81) 2 dX10_readBody_81 (k := ?_)
          refine ev_iconst (M := T10_readBody) (pc := 82) dX10_readBody_82 (k := ?_)
          refine ev_iadd (M := T10_readBody) (pc := 83) dX10_readBody_83 (k := ?_)
          refine ev_goto (M := T10_readBody) (pc := 84) 88 dX10_readBody_84 (k := ?_)
          refine ev_lv [1, 3] [(0, .inr (.inr (some (10, 0)))), (2, .inl (l2))] (k := ?_)
          exact E10_readBody_88 k10 hk10 l2 (w32 (l1 + 1)) h4 _ H6
      · replace H3 := if_pe hc H3
        refine ev_iload_n (M := T10_readBody) (pc := 43) 0 dX10_readBody_43 (k := ?_)
        refine ev_iconst (M := T10_readBody) (pc := 44) dX10_readBody_44 (k := ?_)
        refine ev_icmpne (M := T10_readBody) (pc := 45) 50 dX10_readBody_45 (kt := fun hc => ?_) (kf := fun hc => ?_)
        · replace H3 := if_ne hc H3
          refine ev_iconst (M := T10_readBody) (pc := 50) dX10_readBody_50 (k := ?_)
          refine ev_istore_n (M := T10_readBody) (pc := 51) [(1, .inl (0)), (3, .inl (x2)), (0, .inr (.inr (some (10, 0)))), (2, .inl (l2))] dX10_readBody_51 (k := ?_)
          refine ev_goto (M := T10_readBody) (pc := 52) 89 dX10_readBody_52 (k := ?_)
          refine ev_lv [2, 0, 3] [(0, .inr (.inr (some (10, 0)))), (1, .inl (0)), (2, .inl (l2))] (k := ?_)
          exact E10_readBody_89 k10 hk10 0 l2 q1.2 _ H3
        · replace H3 := if_pe hc H3
          refine ev_iconst (M := T10_readBody) (pc := 48) dX10_readBody_48 (k := ?_)
          cases H3
          exact ev_zreturn (M := T10_readBody) (pc := 49) (Or.inl rfl) dX10_readBody_49
    · replace H1 := if_ne hc H1
      refine ev_iconst (M := T10_readBody) (pc := 29) dX10_readBody_29 (k := ?_)
      cases H1
      exact ev_zreturn (M := T10_readBody) (pc := 30) (Or.inr rfl) dX10_readBody_30
theorem E10_readBody_10 (n : Nat) : ∀ (l1 : Int) (l2 : Int) (h : JM) (res : (Int × JM)), F10_readBody_10 n l1 l2 h = some res → Ev j_W1 2 0 0 T10_readBody 10 [(0, .inr (.inr (some (10, 0)))), (1, .inl (l1)), (2, .inl (l2))] [] h (some (.inl res.1)) res.2 := by
  induction n with
  | zero =>
    intro l1 l2 h res H
    cases H
  | succ n ih =>
    intro l1 l2 h res H
    exact E10_readBody_10b (F10_readBody_10 n) ih l1 l2 h res H
set_option maxRecDepth 100000 in
set_option maxHeartbeats 4000000 in
theorem C10_readBody {h : JM} {res : (Int × JM)} (H : F10_readBody h = some res) : Cn j_W1 2 0 0 yX10_readBody cX10_readBody 4 (some .boolean) [.inr (.inr (some (10, 0)))] h (some (.inl res.1)) res.2 := by
  refine Cn.by (own := RX10) (b := false) [(0, .inr (.inr (some (10, 0))))] rfl (fun z => by cases z) (by decide +kernel) (K := ?_)
  unfold F10_readBody at H
  refine ev_aload_n (M := T10_readBody) (pc := 0) 0 dX10_readBody_0 (k := ?_)
  refine ev_iconst (M := T10_readBody) (pc := 1) dX10_readBody_1 (k := ?_)
  obtain ⟨h5, eh5, H1⟩ := lt_e H
  clear H
  refine ev_putI (M := T10_readBody) (pc := 2) j_ok1 fl_X10_79 eh5 dX10_readBody_2 (K := ?_)
  refine ev_iconst (M := T10_readBody) (pc := 5) dX10_readBody_5 (k := ?_)
  refine ev_istore_n (M := T10_readBody) (pc := 6) [(1, .inl (0)), (0, .inr (.inr (some (10, 0))))] dX10_readBody_6 (k := ?_)
  refine ev_bipush (M := T10_readBody) (pc := 7) dX10_readBody_7 (k := ?_)
  refine ev_istore_n (M := T10_readBody) (pc := 9) [(2, .inl (8)), (1, .inl (0)), (0, .inr (.inr (some (10, 0))))] dX10_readBody_9 (k := ?_)
  refine ev_lv [2, 1, 0] [(0, .inr (.inr (some (10, 0)))), (1, .inl (0)), (2, .inl (8))] (k := ?_)
  exact E10_readBody_10 j_fu 0 8 h5 _ H1
-- X10_readByte
abbrev T10_readByte : JT := (RX10, cX10_readByte, 2, some .int, false)
set_option maxRecDepth 100000 in
set_option maxHeartbeats 4000000 in
theorem C10_readByte {l1 : Int} {h : JM} {res : (Int × JM)} (H : F10_readByte l1 h = some res) : Cn j_W1 2 0 0 yX10_readByte cX10_readByte 2 (some .int) [.inr (.inr (some (10, 0))), .inl (l1)] h (some (.inl res.1)) res.2 := by
  refine Cn.by (own := RX10) (b := false) [(0, .inr (.inr (some (10, 0)))), (1, .inl (l1))] rfl (fun z => by cases z) (by decide +kernel) (K := ?_)
  unfold F10_readByte at H
  refine ev_aload_n (M := T10_readByte) (pc := 0) 0 dX10_readByte_0 (k := ?_)
  refine ev_bipush (M := T10_readByte) (pc := 1) dX10_readByte_1 (k := ?_)
  refine ev_bipush (M := T10_readByte) (pc := 3) dX10_readByte_3 (k := ?_)
  refine ev_iload_n (M := T10_readByte) (pc := 5) 1 dX10_readByte_5 (k := ?_)
  refine ev_imul (M := T10_readByte) (pc := 6) dX10_readByte_6 (k := ?_)
  refine ev_iadd (M := T10_readByte) (pc := 7) dX10_readByte_7 (k := ?_)
  refine ev_bipush (M := T10_readByte) (pc := 8) dX10_readByte_8 (k := ?_)
  obtain ⟨q1, hq, H1⟩ := bd_e H
  clear H
  refine ev_callV (M := T10_readByte) (pc := 10) (mc := 0) (ms := 0) (st := []) (C10_number hq) md_X10_number im_X10_number se_X10_number ml_X10_82 dX10_readByte_10 _ (by decide) (K := ?_)
  cases H1
  exact ev_ireturn (M := T10_readByte) (pc := 13) dX10_readByte_13
-- X11_withKey
abbrev T11_withKey : JT := (RX11, cX11_withKey, 4, some .long, false)
set_option maxRecDepth 100000 in
set_option maxHeartbeats 4000000 in
theorem C11_withKey {l0 : Int} {l2 : Int} {h : JM} {res : (Int × JM)} (H : F11_withKey l0 l2 h = some res) : Cn j_W1 2 0 0 yX11_withKey cX11_withKey 4 (some .long) [.inr (.inl (l0)), .inl (l2)] h (some (.inr (.inl res.1))) res.2 := by
  refine Cn.by (own := RX11) (b := false) [(0, .inr (.inl (l0))), (2, .inl (l2))] rfl (fun z => by cases z) (by decide +kernel) (K := ?_)
  unfold F11_withKey at H
  refine ev_lload_n (M := T11_withKey) (pc := 0) 0 dX11_withKey_0 (k := ?_)
  obtain ⟨q1, hq, H1⟩ := bd_e H
  clear H
  refine ev_callS (M := T11_withKey) (pc := 1) (mc := 0) (ms := 0) (st := []) (C11_countOf hq) md_X11_countOf ss_X11_countOf ml_X11_83 dX11_withKey_1 _ (by decide) (K := ?_)
  refine ev_istore_n (M := T11_withKey) (pc := 4) [(3, .inl (q1.1)), (0, .inr (.inl (l0))), (2, .inl (l2))] dX11_withKey_4 (k := ?_)
  refine ev_lload_n (M := T11_withKey) (pc := 5) 1 dX11_withKey_5 (k := ?_)
  refine ev_ldc2 (M := T11_withKey) (pc := 6) (n := 281474976710655) cl_X11_321 dX11_withKey_6 (hv := cw_X11_321) (k := ?_)
  refine ev_land (M := T11_withKey) (pc := 9) dX11_withKey_9 (k := ?_)
  refine ev_iload_n (M := T11_withKey) (pc := 10) 2 dX11_withKey_10 (k := ?_)
  refine ev_i2l (M := T11_withKey) (pc := 11) dX11_withKey_11 (k := ?_)
  refine ev_iconst (M := T11_withKey) (pc := 12) dX11_withKey_12 (k := ?_)
  refine ev_iload_n (M := T11_withKey) (pc := 13) 0 dX11_withKey_13 (k := ?_)
  refine ev_imul (M := T11_withKey) (pc := 14) dX11_withKey_14 (k := ?_)
  refine ev_lshl (M := T11_withKey) (pc := 15) dX11_withKey_15 (k := ?_)
  refine ev_lor (M := T11_withKey) (pc := 16) dX11_withKey_16 (k := ?_)
  refine ev_iload_n (M := T11_withKey) (pc := 17) 0 dX11_withKey_17 (k := ?_)
  refine ev_iconst (M := T11_withKey) (pc := 18) dX11_withKey_18 (k := ?_)
  refine ev_iadd (M := T11_withKey) (pc := 19) dX11_withKey_19 (k := ?_)
  refine ev_i2l (M := T11_withKey) (pc := 20) dX11_withKey_20 (k := ?_)
  refine ev_bipush (M := T11_withKey) (pc := 21) dX11_withKey_21 (k := ?_)
  refine ev_lshl (M := T11_withKey) (pc := 23) dX11_withKey_23 (k := ?_)
  refine ev_lor (M := T11_withKey) (pc := 24) dX11_withKey_24 (k := ?_)
  cases H1
  exact ev_lreturn (M := T11_withKey) (pc := 25) dX11_withKey_25
-- X10_readIam
abbrev T10_readIam : JT := (RX10, cX10_readIam, 9, some .long, false)
set_option maxRecDepth 100000 in
set_option maxHeartbeats 4000000 in
theorem E10_readIam_46b (k46 : Int → Int → Int → Int → Int → JM → Option (Int × JM)) (hk46 : ∀ (l2 : Int) (l3 : Int) (l4 : Int) (l5 : Int) (l7 : Int) (h : JM) (res : (Int × JM)), k46 l2 l3 l4 l5 l7 h = some res → Ev j_W1 3 0 0 T10_readIam 46 [(0, .inr (.inr (some (10, 0)))), (2, .inl (l2)), (3, .inl (l3)), (4, .inl (l4)), (5, .inr (.inl (l5))), (7, .inl (l7))] [] h (some (.inr (.inl res.1))) res.2) (l2 : Int) (l3 : Int) (l4 : Int) (l5 : Int) (l7 : Int) (h : JM) (res : (Int × JM)) (H : F10_readIam_46b k46 l2 l3 l4 l5 l7 h = some res) : Ev j_W1 3 0 0 T10_readIam 46 [(0, .inr (.inr (some (10, 0)))), (2, .inl (l2)), (3, .inl (l3)), (4, .inl (l4)), (5, .inr (.inl (l5))), (7, .inl (l7))] [] h (some (.inr (.inl res.1))) res.2 := by
  unfold F10_readIam_46b at H
  refine ev_iload (M := T10_readIam) (pc := 46) 5 dX10_readIam_46 (k := ?_)
  refine ev_iload (M := T10_readIam) (pc := 48) 3 dX10_readIam_48 (k := ?_)
  refine ev_icmpge (M := T10_readIam) (pc := 50) 87 dX10_readIam_50 (kt := fun hc => ?_) (kf := fun hc => ?_)
  · replace H := if_pe hc H
    refine ev_iconst (M := T10_readIam) (pc := 87) dX10_readIam_87 (k := ?_)
    refine ev_iload_n (M := T10_readIam) (pc := 88) 1 dX10_readIam_88 (k := ?_)
    refine ev_iload_n (M := T10_readIam) (pc := 89) 2 dX10_readIam_89 (k := ?_)
    refine ev_lload (M := T10_readIam) (pc := 90) 4 dX10_readIam_90 (k := ?_)
    obtain ⟨q1, hq, H1⟩ := bd_e H
    clear H
    refine ev_callS (M := T10_readIam) (pc := 92) (mc := 0) (ms := 0) (st := [.inl (l2), .inl (1)]) (C9_packIam hq) md_X9_packIam ss_X9_packIam ml_X10_106 dX10_readIam_92 _ (by decide) (K := ?_)
    obtain ⟨q2, hq, H2⟩ := bd_e H1
    clear H1
    refine ev_callS (M := T10_readIam) (pc := 95) (mc := 0) (ms := 0) (st := []) (C9_pack hq) md_X9_pack ss_X9_pack ml_X10_98 dX10_readIam_95 _ (by decide) (K := ?_)
    cases H2
    exact ev_lreturn (M := T10_readIam) (pc := 98) dX10_readIam_98
  · replace H := if_ne hc H
    refine ev_aload_n (M := T10_readIam) (pc := 53) 0 dX10_readIam_53 (k := ?_)
    refine ev_iconst (M := T10_readIam) (pc := 54) dX10_readIam_54 (k := ?_)
    refine ev_iload (M := T10_readIam) (pc := 55) 5 dX10_readIam_55 (k := ?_)
    refine ev_iadd (M := T10_readIam) (pc := 57) dX10_readIam_57 (k := ?_)
    obtain ⟨q3, hq, H1⟩ := bd_e H
    clear H
    refine ev_callV (M := T10_readIam) (pc := 58) (mc := 0) (ms := 0) (st := []) (C10_readByte hq) md_X10_readByte im_X10_readByte se_X10_readByte ml_X10_91 dX10_readIam_58 _ (by decide) (K := ?_)
    refine ev_istore (M := T10_readIam) (pc := 61) [(8, .inl (q3.1)), (0, .inr (.inr (some (10, 0)))), (2, .inl (l2)), (3, .inl (l3)), (4, .inl (l4)), (5, .inr (.inl (l5))), (7, .inl (l7))] dX10_readIam_61 (k := ?_)
    refine ev_iload (M := T10_readIam) (pc := 63) 0 dX10_readIam_63 (k := ?_)
    refine ev_bipush (M := T10_readIam) (pc := 65) dX10_readIam_65 (k := ?_)
    refine ev_icmplt (M := T10_readIam) (pc := 67) 72 dX10_readIam_67 (kt := fun hc => ?_) (kf := fun hc => ?_)
    · replace H1 := if_pe hc H1
      refine ev_lload (M := T10_readIam) (pc := 72) 5 dX10_readIam_72 (k := ?_)
      refine ev_iload (M := T10_readIam) (pc := 74) 0 dX10_readIam_74 (k := ?_)
      obtain ⟨q4, hq, H2⟩ := bd_e H1
      clear H1
      refine ev_callSN (M := T10_readIam) (pc := 76) (mc := 0) (ms := 0) (st := []) (C11_withKey hq) md_X11_withKey ss_X11_withKey ml_X10_102 dX10_readIam_76 _ (by decide) (K := ?_)
      refine ev_lstore (M := T10_readIam) (pc := 79) [(5, .inr (.inl (q4.1))), (8, .inl (q3.1)), (0, .inr (.inr (some (10, 0)))), (2, .inl (l2)), (3, .inl (l3)), (4, .inl (l4)), (7, .inl (l7))] dX10_readIam_79 (k := ?_)
      refine ev_iinc (M := T10_readIam) (pc := 81) 6 [(7, .inl (w32 (l7 + 1))), (5, .inr (.inl (q4.1))), (8, .inl (q3.1)), (0, .inr (.inr (some (10, 0)))), (2, .inl (l2)), (3, .inl (l3)), (4, .inl (l4))] dX10_readIam_81 (k := ?_)
      refine ev_goto (M := T10_readIam) (pc := 84) 46 dX10_readIam_84 (k := ?_)
      refine ev_lv [3, 4, 5, 6, 1, 0] [(0, .inr (.inr (some (10, 0)))), (2, .inl (l2)), (3, .inl (l3)), (4, .inl (l4)), (5, .inr (.inl (q4.1))), (7, .inl (w32 (l7 + 1)))] (k := ?_)
      exact hk46 l2 l3 l4 q4.1 (w32 (l7 + 1)) q4.2 _ H2
    · replace H1 := if_ne hc H1
      refine ev_lconst (M := T10_readIam) (pc := 70) (v := 0) dX10_readIam_70 (k := ?_)
      cases H1
      exact ev_lreturn (M := T10_readIam) (pc := 71) dX10_readIam_71
theorem E10_readIam_46 (n : Nat) : ∀ (l2 : Int) (l3 : Int) (l4 : Int) (l5 : Int) (l7 : Int) (h : JM) (res : (Int × JM)), F10_readIam_46 n l2 l3 l4 l5 l7 h = some res → Ev j_W1 3 0 0 T10_readIam 46 [(0, .inr (.inr (some (10, 0)))), (2, .inl (l2)), (3, .inl (l3)), (4, .inl (l4)), (5, .inr (.inl (l5))), (7, .inl (l7))] [] h (some (.inr (.inl res.1))) res.2 := by
  induction n with
  | zero =>
    intro l2 l3 l4 l5 l7 h res H
    cases H
  | succ n ih =>
    intro l2 l3 l4 l5 l7 h res H
    exact E10_readIam_46b (F10_readIam_46 n) ih l2 l3 l4 l5 l7 h res H
set_option maxRecDepth 100000 in
set_option maxHeartbeats 4000000 in
theorem E10_readIam_38 (h : JM) (res : (Int × JM)) (H : F10_readIam_38 h = some res) : Ev j_W1 3 0 0 T10_readIam 38 [] [] h (some (.inr (.inl res.1))) res.2 := by
  unfold F10_readIam_38 at H
  refine ev_lconst (M := T10_readIam) (pc := 38) (v := 0) dX10_readIam_38 (k := ?_)
  cases H
  exact ev_lreturn (M := T10_readIam) (pc := 39) dX10_readIam_39
set_option maxRecDepth 100000 in
set_option maxHeartbeats 4000000 in
theorem C10_readIam {l1 : Int} {l2 : Int} {h : JM} {res : (Int × JM)} (H : F10_readIam l1 l2 h = some res) : Cn j_W1 3 0 0 yX10_readIam cX10_readIam 9 (some .long) [.inr (.inr (some (10, 0))), .inl (l1), .inl (l2)] h (some (.inr (.inl res.1))) res.2 := by
  refine Cn.by (own := RX10) (b := false) [(0, .inr (.inr (some (10, 0)))), (1, .inl (l1)), (2, .inl (l2))] rfl (fun z => by cases z) (by decide +kernel) (K := ?_)
  unfold F10_readIam at H
  refine ev_aload_n (M := T10_readIam) (pc := 0) 0 dX10_readIam_0 (k := ?_)
  refine ev_iconst (M := T10_readIam) (pc := 1) dX10_readIam_1 (k := ?_)
  obtain ⟨q5, hq, H1⟩ := bd_e H
  clear H
  refine ev_callV (M := T10_readIam) (pc := 2) (mc := 0) (ms := 0) (st := []) (C10_readByte hq) md_X10_readByte im_X10_readByte se_X10_readByte ml_X10_91 dX10_readIam_2 _ (by decide) (K := ?_)
  refine ev_istore_n (M := T10_readIam) (pc := 5) [(3, .inl (q5.1)), (0, .inr (.inr (some (10, 0)))), (1, .inl (l1)), (2, .inl (l2))] dX10_readIam_5 (k := ?_)
  refine ev_aload_n (M := T10_readIam) (pc := 6) 1 dX10_readIam_6 (k := ?_)
  refine ev_iconst (M := T10_readIam) (pc := 7) dX10_readIam_7 (k := ?_)
  obtain ⟨q6, hq, H2⟩ := bd_e H1
  clear H1
  refine ev_callV (M := T10_readIam) (pc := 8) (mc := 0) (ms := 0) (st := []) (C10_readByte hq) md_X10_readByte im_X10_readByte se_X10_readByte ml_X10_91 dX10_readIam_8 _ (by decide) (K := ?_)
  refine ev_istore (M := T10_readIam) (pc := 11) [(4, .inl (q6.1)), (3, .inl (q5.1)), (0, .inr (.inr (some (10, 0)))), (1, .inl (l1)), (2, .inl (l2))] dX10_readIam_11 (k := ?_)
  refine ev_iload_n (M := T10_readIam) (pc := 13) 3 dX10_readIam_13 (k := ?_)
  refine ev_iconst (M := T10_readIam) (pc := 14) dX10_readIam_14 (k := ?_)
  refine ev_icmplt (M := T10_readIam) (pc := 15) 38 dX10_readIam_15 (kt := fun hc => ?_) (kf := fun hc => ?_)
  · replace H2 := if_pe hc H2
    refine ev_lv [] [] (k := ?_)
    exact E10_readIam_38 q6.2 _ H2
  · replace H2 := if_ne hc H2
    refine ev_iload_n (M := T10_readIam) (pc := 18) 1 dX10_readIam_18 (k := ?_)
    refine ev_iconst (M := T10_readIam) (pc := 19) dX10_readIam_19 (k := ?_)
    refine ev_icmpgt (M := T10_readIam) (pc := 20) 38 dX10_readIam_20 (kt := fun hc => ?_) (kf := fun hc => ?_)
    · replace H2 := if_pe hc H2
      refine ev_lv [] [] (k := ?_)
      exact E10_readIam_38 q6.2 _ H2
    · replace H2 := if_ne hc H2
      refine ev_iload (M := T10_readIam) (pc := 23) 0 dX10_readIam_23 (k := ?_)
      refine ev_bipush (M := T10_readIam) (pc := 25) dX10_readIam_25 (k := ?_)
      refine ev_icmpgt (M := T10_readIam) (pc := 27) 38 dX10_readIam_27 (kt := fun hc => ?_) (kf := fun hc => ?_)
      · replace H2 := if_pe hc H2
        refine ev_lv [] [] (k := ?_)
        exact E10_readIam_38 q6.2 _ H2
      · replace H2 := if_ne hc H2
        refine ev_iload_n (M := T10_readIam) (pc := 30) 3 dX10_readIam_30 (k := ?_)
        refine ev_iconst (M := T10_readIam) (pc := 31) dX10_readIam_31 (k := ?_)
        refine ev_iload (M := T10_readIam) (pc := 32) 0 dX10_readIam_32 (k := ?_)
        refine ev_iadd (M := T10_readIam) (pc := 34) dX10_readIam_34 (k := ?_)
        refine ev_icmpeq (M := T10_readIam) (pc := 35) 40 dX10_readIam_35 (kt := fun hc => ?_) (kf := fun hc => ?_)
        · replace H2 := if_pe hc H2
          refine ev_lconst (M := T10_readIam) (pc := 40) (v := 0) dX10_readIam_40 (k := ?_)
          refine ev_lstore (M := T10_readIam) (pc := 41) [(5, .inr (.inl (0))), (4, .inl (q6.1)), (3, .inl (q5.1)), (0, .inr (.inr (some (10, 0)))), (1, .inl (l1)), (2, .inl (l2))] dX10_readIam_41 (k := ?_)
          refine ev_iconst (M := T10_readIam) (pc := 43) dX10_readIam_43 (k := ?_)
          refine ev_istore (M := T10_readIam) (pc := 44) [(7, .inl (0)), (5, .inr (.inl (0))), (4, .inl (q6.1)), (3, .inl (q5.1)), (0, .inr (.inr (some (10, 0)))), (1, .inl (l1)), (2, .inl (l2))] dX10_readIam_44 (k := ?_)
          refine ev_lv [4, 6, 3, 2, 1, 0] [(0, .inr (.inr (some (10, 0)))), (2, .inl (l2)), (3, .inl (q5.1)), (4, .inl (q6.1)), (5, .inr (.inl (0))), (7, .inl (0))] (k := ?_)
          exact E10_readIam_46 j_fu l2 q5.1 q6.1 0 0 q6.2 _ H2
        · replace H2 := if_ne hc H2
          refine ev_lv [] [] (k := ?_)
          exact E10_readIam_38 q6.2 _ H2
-- X10_readMessage
abbrev T10_readMessage : JT := (RX10, cX10_readMessage, 5, some .long, false)
set_option maxRecDepth 100000 in
set_option maxHeartbeats 4000000 in
theorem E10_readMessage_31 (h : JM) (res : (Int × JM)) (H : F10_readMessage_31 h = some res) : Ev j_W1 4 0 0 T10_readMessage 31 [] [] h (some (.inr (.inl res.1))) res.2 := by
  unfold F10_readMessage_31 at H
  refine ev_lconst (M := T10_readMessage) (pc := 31) (v := 0) dX10_readMessage_31 (k := ?_)
  cases H
  exact ev_lreturn (M := T10_readMessage) (pc := 32) dX10_readMessage_32
set_option maxRecDepth 100000 in
set_option maxHeartbeats 4000000 in
theorem C10_readMessage {l1 : Int} {l2 : Int} {h : JM} {res : (Int × JM)} (H : F10_readMessage l1 l2 h = some res) : Cn j_W1 4 0 0 yX10_readMessage cX10_readMessage 5 (some .long) [.inr (.inr (some (10, 0))), .inl (l1), .inl (l2)] h (some (.inr (.inl res.1))) res.2 := by
  refine Cn.by (own := RX10) (b := false) [(0, .inr (.inr (some (10, 0)))), (1, .inl (l1)), (2, .inl (l2))] rfl (fun z => by cases z) (by decide +kernel) (K := ?_)
  unfold F10_readMessage at H
  refine ev_iload_n (M := T10_readMessage) (pc := 0) 1 dX10_readMessage_0 (k := ?_)
  refine ev_ifne (M := T10_readMessage) (pc := 1) 8 dX10_readMessage_1 (kt := fun hc => ?_) (kf := fun hc => ?_)
  · replace H := if_ne hc H
    refine ev_aload_n (M := T10_readMessage) (pc := 8) 0 dX10_readMessage_8 (k := ?_)
    refine ev_iconst (M := T10_readMessage) (pc := 9) dX10_readMessage_9 (k := ?_)
    obtain ⟨q1, hq, H1⟩ := bd_e H
    clear H
    refine ev_callV (M := T10_readMessage) (pc := 10) (mc := 0) (ms := 0) (st := []) (C10_readByte hq) md_X10_readByte im_X10_readByte se_X10_readByte ml_X10_91 dX10_readMessage_10 _ (by decide) (K := ?_)
    refine ev_istore_n (M := T10_readMessage) (pc := 13) [(3, .inl (q1.1)), (0, .inr (.inr (some (10, 0)))), (1, .inl (l1)), (2, .inl (l2))] dX10_readMessage_13 (k := ?_)
    refine ev_aload_n (M := T10_readMessage) (pc := 14) 1 dX10_readMessage_14 (k := ?_)
    refine ev_iconst (M := T10_readMessage) (pc := 15) dX10_readMessage_15 (k := ?_)
    obtain ⟨q2, hq, H2⟩ := bd_e H1
    clear H1
    refine ev_callV (M := T10_readMessage) (pc := 16) (mc := 0) (ms := 0) (st := []) (C10_readByte hq) md_X10_readByte im_X10_readByte se_X10_readByte ml_X10_91 dX10_readMessage_16 _ (by decide) (K := ?_)
    refine ev_istore (M := T10_readMessage) (pc := 19) [(4, .inl (q2.1)), (3, .inl (q1.1)), (0, .inr (.inr (some (10, 0)))), (1, .inl (l1)), (2, .inl (l2))] dX10_readMessage_19 (k := ?_)
    refine ev_iload_n (M := T10_readMessage) (pc := 21) 3 dX10_readMessage_21 (k := ?_)
    refine ev_iconst (M := T10_readMessage) (pc := 22) dX10_readMessage_22 (k := ?_)
    refine ev_icmplt (M := T10_readMessage) (pc := 23) 31 dX10_readMessage_23 (kt := fun hc => ?_) (kf := fun hc => ?_)
    · replace H2 := if_pe hc H2
      refine ev_lv [] [] (k := ?_)
      exact E10_readMessage_31 q2.2 _ H2
    · replace H2 := if_ne hc H2
      refine ev_iload_n (M := T10_readMessage) (pc := 26) 1 dX10_readMessage_26 (k := ?_)
      refine ev_iload_n (M := T10_readMessage) (pc := 27) 4 dX10_readMessage_27 (k := ?_)
      refine ev_icmplt (M := T10_readMessage) (pc := 28) 33 dX10_readMessage_28 (kt := fun hc => ?_) (kf := fun hc => ?_)
      · replace H2 := if_pe hc H2
        refine ev_iload (M := T10_readMessage) (pc := 33) 0 dX10_readMessage_33 (k := ?_)
        by_cases hs0 : q2.1 = 1
        · replace H2 := if_pe hs0 H2
          refine ev_tableIn (M := T10_readMessage) (pc := 35) (off := 33) 68 dX10_readMessage_35 (by omega) (by omega) (by rw [hs0]; rfl) (k := ?_)
          refine ev_aload_n (M := T10_readMessage) (pc := 68) 2 dX10_readMessage_68 (k := ?_)
          refine ev_iload_n (M := T10_readMessage) (pc := 69) 3 dX10_readMessage_69 (k := ?_)
          refine ev_iload_n (M := T10_readMessage) (pc := 70) 1 dX10_readMessage_70 (k := ?_)
          obtain ⟨q3, hq, H3⟩ := bd_e H2
          clear H2
          refine ev_callV (M := T10_readMessage) (pc := 71) (mc := 0) (ms := 0) (st := []) (C10_readIam hq) md_X10_readIam im_X10_readIam se_X10_readIam ml_X10_95 dX10_readMessage_71 _ (by decide) (K := ?_)
          cases H3
          exact ev_lreturn (M := T10_readMessage) (pc := 74) dX10_readMessage_74
        · replace H2 := if_ne hs0 H2
          by_cases hs1 : q2.1 = 2
          · replace H2 := if_pe hs1 H2
            refine ev_tableIn (M := T10_readMessage) (pc := 35) (off := 62) 97 dX10_readMessage_35 (by omega) (by omega) (by rw [hs1]; rfl) (k := ?_)
            refine ev_iload_n (M := T10_readMessage) (pc := 97) 3 dX10_readMessage_97 (k := ?_)
            refine ev_iconst (M := T10_readMessage) (pc := 98) dX10_readMessage_98 (k := ?_)
            refine ev_icmpne (M := T10_readMessage) (pc := 99) 112 dX10_readMessage_99 (kt := fun hc => ?_) (kf := fun hc => ?_)
            · replace H2 := if_ne hc H2
              refine ev_lconst (M := T10_readMessage) (pc := 112) (v := 0) dX10_readMessage_112 (k := ?_)
              cases H2
              exact ev_lreturn (M := T10_readMessage) (pc := 113) dX10_readMessage_113
            · replace H2 := if_pe hc H2
              refine ev_iload (M := T10_readMessage) (pc := 102) 0 dX10_readMessage_102 (k := ?_)
              refine ev_iload_n (M := T10_readMessage) (pc := 104) 1 dX10_readMessage_104 (k := ?_)
              refine ev_lconst (M := T10_readMessage) (pc := 105) (v := 0) dX10_readMessage_105 (k := ?_)
              obtain ⟨q4, hq, H3⟩ := bd_e H2
              clear H2
              refine ev_callS (M := T10_readMessage) (pc := 106) (mc := 0) (ms := 0) (st := []) (C9_pack hq) md_X9_pack ss_X9_pack ml_X10_98 dX10_readMessage_106 _ (by decide) (K := ?_)
              refine ev_goto (M := T10_readMessage) (pc := 109) 113 dX10_readMessage_109 (k := ?_)
              cases H3
              exact ev_lreturn (M := T10_readMessage) (pc := 113) dX10_readMessage_113
          · replace H2 := if_ne hs1 H2
            by_cases hs2 : q2.1 = 3
            · replace H2 := if_pe hs2 H2
              refine ev_tableIn (M := T10_readMessage) (pc := 35) (off := 62) 97 dX10_readMessage_35 (by omega) (by omega) (by rw [hs2]; rfl) (k := ?_)
              refine ev_iload_n (M := T10_readMessage) (pc := 97) 3 dX10_readMessage_97 (k := ?_)
              refine ev_iconst (M := T10_readMessage) (pc := 98) dX10_readMessage_98 (k := ?_)
              refine ev_icmpne (M := T10_readMessage) (pc := 99) 112 dX10_readMessage_99 (kt := fun hc => ?_) (kf := fun hc => ?_)
              · replace H2 := if_ne hc H2
                refine ev_lconst (M := T10_readMessage) (pc := 112) (v := 0) dX10_readMessage_112 (k := ?_)
                cases H2
                exact ev_lreturn (M := T10_readMessage) (pc := 113) dX10_readMessage_113
              · replace H2 := if_pe hc H2
                refine ev_iload (M := T10_readMessage) (pc := 102) 0 dX10_readMessage_102 (k := ?_)
                refine ev_iload_n (M := T10_readMessage) (pc := 104) 1 dX10_readMessage_104 (k := ?_)
                refine ev_lconst (M := T10_readMessage) (pc := 105) (v := 0) dX10_readMessage_105 (k := ?_)
                obtain ⟨q5, hq, H3⟩ := bd_e H2
                clear H2
                refine ev_callS (M := T10_readMessage) (pc := 106) (mc := 0) (ms := 0) (st := []) (C9_pack hq) md_X9_pack ss_X9_pack ml_X10_98 dX10_readMessage_106 _ (by decide) (K := ?_)
                refine ev_goto (M := T10_readMessage) (pc := 109) 113 dX10_readMessage_109 (k := ?_)
                cases H3
                exact ev_lreturn (M := T10_readMessage) (pc := 113) dX10_readMessage_113
            · replace H2 := if_ne hs2 H2
              by_cases hs3 : q2.1 = 4
              · replace H2 := if_pe hs3 H2
                refine ev_tableIn (M := T10_readMessage) (pc := 35) (off := 40) 75 dX10_readMessage_35 (by omega) (by omega) (by rw [hs3]; rfl) (k := ?_)
                refine ev_iload_n (M := T10_readMessage) (pc := 75) 3 dX10_readMessage_75 (k := ?_)
                refine ev_iconst (M := T10_readMessage) (pc := 76) dX10_readMessage_76 (k := ?_)
                refine ev_icmpne (M := T10_readMessage) (pc := 77) 95 dX10_readMessage_77 (kt := fun hc => ?_) (kf := fun hc => ?_)
                · replace H2 := if_ne hc H2
                  refine ev_lconst (M := T10_readMessage) (pc := 95) (v := 0) dX10_readMessage_95 (k := ?_)
                  cases H2
                  exact ev_lreturn (M := T10_readMessage) (pc := 96) dX10_readMessage_96
                · replace H2 := if_pe hc H2
                  refine ev_iload (M := T10_readMessage) (pc := 80) 0 dX10_readMessage_80 (k := ?_)
                  refine ev_iload_n (M := T10_readMessage) (pc := 82) 1 dX10_readMessage_82 (k := ?_)
                  refine ev_aload_n (M := T10_readMessage) (pc := 83) 2 dX10_readMessage_83 (k := ?_)
                  refine ev_iconst (M := T10_readMessage) (pc := 84) dX10_readMessage_84 (k := ?_)
                  obtain ⟨q6, hq, H3⟩ := bd_e H2
                  clear H2
                  refine ev_callV (M := T10_readMessage) (pc := 85) (mc := 0) (ms := 0) (st := [.inl (q1.1), .inl (q2.1)]) (C10_readByte hq) md_X10_readByte im_X10_readByte se_X10_readByte ml_X10_91 dX10_readMessage_85 _ (by decide) (K := ?_)
                  refine ev_i2l (M := T10_readMessage) (pc := 88) dX10_readMessage_88 (k := ?_)
                  obtain ⟨q7, hq, H4⟩ := bd_e H3
                  clear H3
                  refine ev_callS (M := T10_readMessage) (pc := 89) (mc := 0) (ms := 0) (st := []) (C9_pack hq) md_X9_pack ss_X9_pack ml_X10_98 dX10_readMessage_89 _ (by decide) (K := ?_)
                  refine ev_goto (M := T10_readMessage) (pc := 92) 96 dX10_readMessage_92 (k := ?_)
                  cases H4
                  exact ev_lreturn (M := T10_readMessage) (pc := 96) dX10_readMessage_96
              · replace H2 := if_ne hs3 H2
                by_cases hs4 : q2.1 = 5
                · replace H2 := if_pe hs4 H2
                  refine ev_tableIn (M := T10_readMessage) (pc := 35) (off := 62) 97 dX10_readMessage_35 (by omega) (by omega) (by rw [hs4]; rfl) (k := ?_)
                  refine ev_iload_n (M := T10_readMessage) (pc := 97) 3 dX10_readMessage_97 (k := ?_)
                  refine ev_iconst (M := T10_readMessage) (pc := 98) dX10_readMessage_98 (k := ?_)
                  refine ev_icmpne (M := T10_readMessage) (pc := 99) 112 dX10_readMessage_99 (kt := fun hc => ?_) (kf := fun hc => ?_)
                  · replace H2 := if_ne hc H2
                    refine ev_lconst (M := T10_readMessage) (pc := 112) (v := 0) dX10_readMessage_112 (k := ?_)
                    cases H2
                    exact ev_lreturn (M := T10_readMessage) (pc := 113) dX10_readMessage_113
                  · replace H2 := if_pe hc H2
                    refine ev_iload (M := T10_readMessage) (pc := 102) 0 dX10_readMessage_102 (k := ?_)
                    refine ev_iload_n (M := T10_readMessage) (pc := 104) 1 dX10_readMessage_104 (k := ?_)
                    refine ev_lconst (M := T10_readMessage) (pc := 105) (v := 0) dX10_readMessage_105 (k := ?_)
                    obtain ⟨q8, hq, H3⟩ := bd_e H2
                    clear H2
                    refine ev_callS (M := T10_readMessage) (pc := 106) (mc := 0) (ms := 0) (st := []) (C9_pack hq) md_X9_pack ss_X9_pack ml_X10_98 dX10_readMessage_106 _ (by decide) (K := ?_)
                    refine ev_goto (M := T10_readMessage) (pc := 109) 113 dX10_readMessage_109 (k := ?_)
                    cases H3
                    exact ev_lreturn (M := T10_readMessage) (pc := 113) dX10_readMessage_113
                · replace H2 := if_ne hs4 H2
                  refine ev_tableOut (M := T10_readMessage) (pc := 35) 114 dX10_readMessage_35 (by omega) (k := ?_)
                  refine ev_lconst (M := T10_readMessage) (pc := 114) (v := 0) dX10_readMessage_114 (k := ?_)
                  cases H2
                  exact ev_lreturn (M := T10_readMessage) (pc := 115) dX10_readMessage_115
      · replace H2 := if_ne hc H2
        refine ev_lv [] [] (k := ?_)
        exact E10_readMessage_31 q2.2 _ H2
  · replace H := if_pe hc H
    refine ev_ldc2 (M := T10_readMessage) (pc := 4) (n := (-1)) cl_X10_89 dX10_readMessage_4 (hv := cw_X10_89) (k := ?_)
    cases H
    exact ev_lreturn (M := T10_readMessage) (pc := 7) dX10_readMessage_7
-- X10_read
abbrev T10_read : JT := (RX10, cX10_read, 6, some .boolean, false)
set_option maxRecDepth 100000 in
set_option maxHeartbeats 4000000 in
theorem E10_read_58b (k58 : Option Int → Int → Int → Int → Int → JM → Option (Int × JM)) (hk58 : ∀ (l1 : Option Int) (l2 : Int) (l3 : Int) (l4 : Int) (l5 : Int) (h : JM) (res : (Int × JM)), k58 l1 l2 l3 l4 l5 h = some res → Ev j_W1 5 0 0 T10_read 58 [(0, .inr (.inr (some (10, 0)))), (1, .inr (.inr (Option.map (Prod.mk 9) (l1)))), (2, .inl (l2)), (3, .inl (l3)), (4, .inl (l4)), (5, .inl (l5))] [] h (some (.inl res.1)) res.2) (l1 : Option Int) (l2 : Int) (l3 : Int) (l4 : Int) (l5 : Int) (h : JM) (res : (Int × JM)) (H : F10_read_58b k58 l1 l2 l3 l4 l5 h = some res) : Ev j_W1 5 0 0 T10_read 58 [(0, .inr (.inr (some (10, 0)))), (1, .inr (.inr (Option.map (Prod.mk 9) (l1)))), (2, .inl (l2)), (3, .inl (l3)), (4, .inl (l4)), (5, .inl (l5))] [] h (some (.inl res.1)) res.2 := by
  unfold F10_read_58b at H
  refine ev_iload (M := T10_read) (pc := 58) 5 dX10_read_58 (k := ?_)
  refine ev_aload_n (M := T10_read) (pc := 60) 0 dX10_read_60 (k := ?_)
  refine ev_getI (M := T10_read) (pc := 61) (x := h.1 10 0 5) fl_X10_79 dX10_read_61 (K := ?_)
  refine ev_bipush (M := T10_read) (pc := 64) dX10_read_64 (k := ?_)
  refine ev_isub (M := T10_read) (pc := 66) dX10_read_66 (k := ?_)
  refine ev_icmpge (M := T10_read) (pc := 67) 90 dX10_read_67 (kt := fun hc => ?_) (kf := fun hc => ?_)
  · replace H := if_pe hc H
    refine ev_aload_n (M := T10_read) (pc := 90) 0 dX10_read_90 (k := ?_)
    refine ev_aload_n (M := T10_read) (pc := 91) 0 dX10_read_91 (k := ?_)
    refine ev_getI (M := T10_read) (pc := 92) (x := h.1 10 0 5) fl_X10_79 dX10_read_92 (K := ?_)
    refine ev_bipush (M := T10_read) (pc := 95) dX10_read_95 (k := ?_)
    refine ev_isub (M := T10_read) (pc := 97) dX10_read_97 (k := ?_)
    refine ev_bipush (M := T10_read) (pc := 98) dX10_read_98 (k := ?_)
    obtain ⟨q1, hq, H1⟩ := bd_e H
    clear H
    refine ev_callV (M := T10_read) (pc := 100) (mc := 0) (ms := 0) (st := []) (C10_number hq) md_X10_number im_X10_number se_X10_number ml_X10_82 dX10_read_100 _ (by decide) (K := ?_)
    refine ev_ldc (M := T10_read) (pc := 103) (n := 65535) ct_X10_28 dX10_read_103 (hv := cv_X10_28) (k := ?_)
    refine ev_iload (M := T10_read) (pc := 105) 4 dX10_read_105 (k := ?_)
    refine ev_isub (M := T10_read) (pc := 107) dX10_read_107 (k := ?_)
    refine ev_icmpeq (M := T10_read) (pc := 108) 113 dX10_read_108 (kt := fun hc => ?_) (kf := fun hc => ?_)
    · replace H1 := if_pe hc H1
      refine ev_aload_n (M := T10_read) (pc := 113) 1 dX10_read_113 (k := ?_)
      refine ev_aload_n (M := T10_read) (pc := 114) 0 dX10_read_114 (k := ?_)
      refine ev_iconst (M := T10_read) (pc := 115) dX10_read_115 (k := ?_)
      refine ev_bipush (M := T10_read) (pc := 116) dX10_read_116 (k := ?_)
      obtain ⟨q2, hq, H2⟩ := bd_e H1
      clear H1
      refine ev_callV (M := T10_read) (pc := 118) (mc := 0) (ms := 0) (st := [.inr (.inr (Option.map (Prod.mk 9) (l1)))]) (C10_number hq) md_X10_number im_X10_number se_X10_number ml_X10_82 dX10_read_118 _ (by decide) (K := ?_)
      obtain ⟨a3, ea3, H3⟩ := bd_e H2
      clear H2
      rw [ea3]
      obtain ⟨h4, eh4, H4⟩ := lt_e H3
      clear H3
      refine ev_putI (M := T10_read) (pc := 121) j_ok1 fl_X10_32 eh4 dX10_read_121 (K := ?_)
      refine ev_aload_n (M := T10_read) (pc := 124) 1 dX10_read_124 (k := ?_)
      refine ev_aload_n (M := T10_read) (pc := 125) 0 dX10_read_125 (k := ?_)
      refine ev_bipush (M := T10_read) (pc := 126) dX10_read_126 (k := ?_)
      refine ev_iconst (M := T10_read) (pc := 128) dX10_read_128 (k := ?_)
      obtain ⟨q5, hq, H5⟩ := bd_e H4
      clear H4
      refine ev_callV (M := T10_read) (pc := 129) (mc := 0) (ms := 0) (st := [.inr (.inr (some (9, a3)))]) (C10_number hq) md_X10_number im_X10_number se_X10_number ml_X10_82 dX10_read_129 _ (by decide) (K := ?_)
      obtain ⟨h6, eh6, H6⟩ := lt_e H5
      clear H5
      refine ev_putI (M := T10_read) (pc := 132) j_ok1 fl_X10_41 eh6 dX10_read_132 (K := ?_)
      refine ev_aload_n (M := T10_read) (pc := 135) 1 dX10_read_135 (k := ?_)
      refine ev_aload_n (M := T10_read) (pc := 136) 0 dX10_read_136 (k := ?_)
      refine ev_bipush (M := T10_read) (pc := 137) dX10_read_137 (k := ?_)
      refine ev_bipush (M := T10_read) (pc := 139) dX10_read_139 (k := ?_)
      obtain ⟨q7, hq, H7⟩ := bd_e H6
      clear H6
      refine ev_callV (M := T10_read) (pc := 141) (mc := 0) (ms := 0) (st := [.inr (.inr (some (9, a3)))]) (C10_number hq) md_X10_number im_X10_number se_X10_number ml_X10_82 dX10_read_141 _ (by decide) (K := ?_)
      obtain ⟨h8, eh8, H8⟩ := lt_e H7
      clear H7
      refine ev_putI (M := T10_read) (pc := 144) j_ok1 fl_X10_44 eh8 dX10_read_144 (K := ?_)
      refine ev_aload_n (M := T10_read) (pc := 147) 1 dX10_read_147 (k := ?_)
      refine ev_aload_n (M := T10_read) (pc := 148) 0 dX10_read_148 (k := ?_)
      refine ev_bipush (M := T10_read) (pc := 149) dX10_read_149 (k := ?_)
      refine ev_iconst (M := T10_read) (pc := 151) dX10_read_151 (k := ?_)
      obtain ⟨q9, hq, H9⟩ := bd_e H8
      clear H8
      refine ev_callV (M := T10_read) (pc := 152) (mc := 0) (ms := 0) (st := [.inr (.inr (some (9, a3)))]) (C10_number hq) md_X10_number im_X10_number se_X10_number ml_X10_82 dX10_read_152 _ (by decide) (K := ?_)
      obtain ⟨h10, eh10, H10⟩ := lt_e H9
      clear H9
      refine ev_putI (M := T10_read) (pc := 155) j_ok1 fl_X10_47 eh10 dX10_read_155 (K := ?_)
      refine ev_aload_n (M := T10_read) (pc := 158) 1 dX10_read_158 (k := ?_)
      refine ev_aload_n (M := T10_read) (pc := 159) 0 dX10_read_159 (k := ?_)
      refine ev_iload_n (M := T10_read) (pc := 160) 3 dX10_read_160 (k := ?_)
      refine ev_iload_n (M := T10_read) (pc := 161) 2 dX10_read_161 (k := ?_)
      obtain ⟨q11, hq, H11⟩ := bd_e H10
      clear H10
      refine ev_callV (M := T10_read) (pc := 162) (mc := 0) (ms := 0) (st := [.inr (.inr (some (9, a3)))]) (C10_readMessage hq) md_X10_readMessage im_X10_readMessage se_X10_readMessage ml_X10_85 dX10_read_162 _ (by decide) (K := ?_)
      obtain ⟨h12, eh12, H12⟩ := lt_e H11
      clear H11
      refine ev_putL (M := T10_read) (pc := 165) j_ok1 fl_X10_50 eh12 dX10_read_165 (K := ?_)
      refine ev_iconst (M := T10_read) (pc := 168) dX10_read_168 (k := ?_)
      cases H12
      exact ev_zreturn (M := T10_read) (pc := 169) (Or.inr rfl) dX10_read_169
    · replace H1 := if_ne hc H1
      refine ev_iconst (M := T10_read) (pc := 111) dX10_read_111 (k := ?_)
      cases H1
      exact ev_zreturn (M := T10_read) (pc := 112) (Or.inl rfl) dX10_read_112
  · replace H := if_ne hc H
    refine ev_iload (M := T10_read) (pc := 70) 4 dX10_read_70 (k := ?_)
    refine ev_aload_n (M := T10_read) (pc := 72) 0 dX10_read_72 (k := ?_)
    refine ev_getR (M := T10_read) (pc := 73) (t := 37) (x := some (37, 0)) fl_X10_15 dX10_read_73 (hx := ry_10_4 _ _) (K := ?_)
    refine ev_iload (M := T10_read) (pc := 76) 5 dX10_read_76 (k := ?_)
    obtain ⟨⟨hi0, hi1⟩, H1⟩ := g_e H
    clear H
    refine ev_baload (M := T10_read) (pc := 78) (k := 37) hi0 hi1 dX10_read_78 (hc := ac_37) (hlen := ln_37 _ _) (K := ?_)
    obtain ⟨q13, hq, H2⟩ := bd_e H1
    clear H1
    refine ev_callS (M := T10_read) (pc := 79) (mc := 0) (ms := 0) (st := []) (C10_stepCheck hq) md_X10_stepCheck ss_X10_stepCheck ml_X10_66 dX10_read_79 _ (by decide) (K := ?_)
    refine ev_istore (M := T10_read) (pc := 82) [(4, .inl (q13.1)), (0, .inr (.inr (some (10, 0)))), (1, .inr (.inr (Option.map (Prod.mk 9) (l1)))), (2, .inl (l2)), (3, .inl (l3)), (5, .inl (l5))] dX10_read_82 (k := ?_)
    refine ev_iinc (M := T10_read) (pc := 84) 5 [(5, .inl (w32 (l5 + 1))), (4, .inl (q13.1)), (0, .inr (.inr (some (10, 0)))), (1, .inr (.inr (Option.map (Prod.mk 9) (l1)))), (2, .inl (l2)), (3, .inl (l3))] dX10_read_84 (k := ?_)
    refine ev_goto (M := T10_read) (pc := 87) 58 dX10_read_87 (k := ?_)
    refine ev_lv [2, 3, 4, 5, 1, 0] [(0, .inr (.inr (some (10, 0)))), (1, .inr (.inr (Option.map (Prod.mk 9) (l1)))), (2, .inl (l2)), (3, .inl (l3)), (4, .inl (q13.1)), (5, .inl (w32 (l5 + 1)))] (k := ?_)
    exact hk58 l1 l2 l3 q13.1 (w32 (l5 + 1)) q13.2 _ H2
theorem E10_read_58 (n : Nat) : ∀ (l1 : Option Int) (l2 : Int) (l3 : Int) (l4 : Int) (l5 : Int) (h : JM) (res : (Int × JM)), F10_read_58 n l1 l2 l3 l4 l5 h = some res → Ev j_W1 5 0 0 T10_read 58 [(0, .inr (.inr (some (10, 0)))), (1, .inr (.inr (Option.map (Prod.mk 9) (l1)))), (2, .inl (l2)), (3, .inl (l3)), (4, .inl (l4)), (5, .inl (l5))] [] h (some (.inl res.1)) res.2 := by
  induction n with
  | zero =>
    intro l1 l2 l3 l4 l5 h res H
    cases H
  | succ n ih =>
    intro l1 l2 l3 l4 l5 h res H
    exact E10_read_58b (F10_read_58 n) ih l1 l2 l3 l4 l5 h res H
set_option maxRecDepth 100000 in
set_option maxHeartbeats 4000000 in
theorem E10_read_24 (h : JM) (res : (Int × JM)) (H : F10_read_24 h = some res) : Ev j_W1 5 0 0 T10_read 24 [] [] h (some (.inl res.1)) res.2 := by
  unfold F10_read_24 at H
  refine ev_iconst (M := T10_read) (pc := 24) dX10_read_24 (k := ?_)
  cases H
  exact ev_zreturn (M := T10_read) (pc := 25) (Or.inl rfl) dX10_read_25
set_option maxRecDepth 100000 in
set_option maxHeartbeats 4000000 in
theorem C10_read {l1 : Option Int} {l2 : Int} {h : JM} {res : (Int × JM)} (H : F10_read l1 l2 h = some res) : Cn j_W1 5 0 0 yX10_read cX10_read 6 (some .boolean) [.inr (.inr (some (10, 0))), .inr (.inr (Option.map (Prod.mk 9) (l1))), .inl (l2)] h (some (.inl res.1)) res.2 := by
  refine Cn.by (own := RX10) (b := false) [(0, .inr (.inr (some (10, 0)))), (1, .inr (.inr (Option.map (Prod.mk 9) (l1)))), (2, .inl (l2))] rfl (fun z => by cases z) (by decide +kernel) (K := ?_)
  unfold F10_read at H
  refine ev_aload_n (M := T10_read) (pc := 0) 0 dX10_read_0 (k := ?_)
  refine ev_iconst (M := T10_read) (pc := 1) dX10_read_1 (k := ?_)
  obtain ⟨q14, hq, H1⟩ := bd_e H
  clear H
  refine ev_callV (M := T10_read) (pc := 2) (mc := 0) (ms := 0) (st := []) (C10_isFlag hq) md_X10_isFlag im_X10_isFlag se_X10_isFlag ml_X10_71 dX10_read_2 _ (by decide) (K := ?_)
  refine ev_ifeq (M := T10_read) (pc := 5) 24 dX10_read_5 (kt := fun hc => ?_) (kf := fun hc => ?_)
  · replace H1 := if_pe hc H1
    refine ev_lv [] [] (k := ?_)
    exact E10_read_24 q14.2 _ H1
  · replace H1 := if_ne hc H1
    refine ev_aload_n (M := T10_read) (pc := 8) 0 dX10_read_8 (k := ?_)
    obtain ⟨q15, hq, H2⟩ := bd_e H1
    clear H1
    refine ev_callV (M := T10_read) (pc := 9) (mc := 0) (ms := 0) (st := []) (C10_readBody hq) md_X10_readBody im_X10_readBody se_X10_readBody ml_X10_75 dX10_read_9 _ (by decide) (K := ?_)
    refine ev_ifeq (M := T10_read) (pc := 12) 24 dX10_read_12 (kt := fun hc => ?_) (kf := fun hc => ?_)
    · replace H2 := if_pe hc H2
      refine ev_lv [] [] (k := ?_)
      exact E10_read_24 q15.2 _ H2
    · replace H2 := if_ne hc H2
      refine ev_aload_n (M := T10_read) (pc := 15) 0 dX10_read_15 (k := ?_)
      refine ev_getI (M := T10_read) (pc := 16) (x := q15.2.1 10 0 5) fl_X10_79 dX10_read_16 (K := ?_)
      refine ev_bipush (M := T10_read) (pc := 19) dX10_read_19 (k := ?_)
      refine ev_icmpge (M := T10_read) (pc := 21) 26 dX10_read_21 (kt := fun hc => ?_) (kf := fun hc => ?_)
      · replace H2 := if_pe hc H2
        refine ev_aload_n (M := T10_read) (pc := 26) 0 dX10_read_26 (k := ?_)
        refine ev_bipush (M := T10_read) (pc := 27) dX10_read_27 (k := ?_)
        refine ev_bipush (M := T10_read) (pc := 29) dX10_read_29 (k := ?_)
        obtain ⟨q16, hq, H3⟩ := bd_e H2
        clear H2
        refine ev_callV (M := T10_read) (pc := 31) (mc := 0) (ms := 0) (st := []) (C10_number hq) md_X10_number im_X10_number se_X10_number ml_X10_82 dX10_read_31 _ (by decide) (K := ?_)
        refine ev_istore_n (M := T10_read) (pc := 34) [(3, .inl (q16.1)), (0, .inr (.inr (some (10, 0)))), (1, .inr (.inr (Option.map (Prod.mk 9) (l1)))), (2, .inl (l2))] dX10_read_34 (k := ?_)
        refine ev_aload_n (M := T10_read) (pc := 35) 1 dX10_read_35 (k := ?_)
        refine ev_getI (M := T10_read) (pc := 36) (x := q16.2.1 10 0 5) fl_X10_79 dX10_read_36 (K := ?_)
        refine ev_bipush (M := T10_read) (pc := 39) dX10_read_39 (k := ?_)
        refine ev_bipush (M := T10_read) (pc := 41) dX10_read_41 (k := ?_)
        refine ev_iload_n (M := T10_read) (pc := 43) 0 dX10_read_43 (k := ?_)
        refine ev_imul (M := T10_read) (pc := 44) dX10_read_44 (k := ?_)
        refine ev_iadd (M := T10_read) (pc := 45) dX10_read_45 (k := ?_)
        refine ev_icmpeq (M := T10_read) (pc := 46) 51 dX10_read_46 (kt := fun hc => ?_) (kf := fun hc => ?_)
        · replace H3 := if_pe hc H3
          refine ev_ldc (M := T10_read) (pc := 51) (n := 65535) ct_X10_28 dX10_read_51 (hv := cv_X10_28) (k := ?_)
          refine ev_istore (M := T10_read) (pc := 53) [(4, .inl (65535)), (3, .inl (q16.1)), (0, .inr (.inr (some (10, 0)))), (1, .inr (.inr (Option.map (Prod.mk 9) (l1)))), (2, .inl (l2))] dX10_read_53 (k := ?_)
          refine ev_iconst (M := T10_read) (pc := 55) dX10_read_55 (k := ?_)
          refine ev_istore (M := T10_read) (pc := 56) [(5, .inl (0)), (4, .inl (65535)), (3, .inl (q16.1)), (0, .inr (.inr (some (10, 0)))), (1, .inr (.inr (Option.map (Prod.mk 9) (l1)))), (2, .inl (l2))] dX10_read_56 (k := ?_)
          refine ev_lv [3, 4, 5, 2, 1, 0] [(0, .inr (.inr (some (10, 0)))), (1, .inr (.inr (Option.map (Prod.mk 9) (l1)))), (2, .inl (l2)), (3, .inl (q16.1)), (4, .inl (65535)), (5, .inl (0))] (k := ?_)
          exact E10_read_58 j_fu l1 l2 q16.1 65535 0 q16.2 _ H3
        · replace H3 := if_ne hc H3
          refine ev_iconst (M := T10_read) (pc := 49) dX10_read_49 (k := ?_)
          cases H3
          exact ev_zreturn (M := T10_read) (pc := 50) (Or.inl rfl) dX10_read_50
      · replace H2 := if_ne hc H2
        refine ev_lv [] [] (k := ?_)
        exact E10_read_24 q15.2 _ H2
