-- X9_byteOf
abbrev T9_byteOf : JT := (RX9, cX9_byteOf, 3, some .int, false)
set_option maxRecDepth 100000 in
set_option maxHeartbeats 4000000 in
theorem C9_byteOf {l0 : Int} {l2 : Int} {h : JM} {res : (Int × JM)} (H : F9_byteOf l0 l2 h = some res) : Cn j_W1 2 0 0 yX9_byteOf cX9_byteOf 3 (some .int) [.inr (.inl (l0)), .inl (l2)] h (some (.inl res.1)) res.2 := by
  refine Cn.by (own := RX9) (b := false) [(0, .inr (.inl (l0))), (2, .inl (l2))] rfl (fun z => by cases z) (by decide +kernel) (K := ?_)
  unfold F9_byteOf at H
  refine ev_iload_n (M := T9_byteOf) (pc := 0) 1 dX9_byteOf_0 (k := ?_)
  by_cases hs0 : l2 = 0
  · replace H := if_pe hs0 H
    refine ev_tableIn (M := T9_byteOf) (pc := 1) (off := 31) 32 dX9_byteOf_1 (by omega) (by omega) (by rw [hs0]; rfl) (k := ?_)
    refine ev_lload_n (M := T9_byteOf) (pc := 32) 0 dX9_byteOf_32 (k := ?_)
    obtain ⟨q1, hq, H1⟩ := bd_e H
    clear H
    refine ev_callS (M := T9_byteOf) (pc := 33) (mc := 0) (ms := 0) (st := []) (C9_circuitOf hq) md_X9_circuitOf ss_X9_circuitOf ml_X9_46 dX9_byteOf_33 _ (by decide) (K := ?_)
    cases H1
    exact ev_ireturn (M := T9_byteOf) (pc := 36) dX9_byteOf_36
  · replace H := if_ne hs0 H
    by_cases hs1 : l2 = 1
    · replace H := if_pe hs1 H
      refine ev_tableIn (M := T9_byteOf) (pc := 1) (off := 36) 37 dX9_byteOf_1 (by omega) (by omega) (by rw [hs1]; rfl) (k := ?_)
      refine ev_lload_n (M := T9_byteOf) (pc := 37) 0 dX9_byteOf_37 (k := ?_)
      obtain ⟨q2, hq, H1⟩ := bd_e H
      clear H
      refine ev_callS (M := T9_byteOf) (pc := 38) (mc := 0) (ms := 0) (st := []) (C9_typeOf hq) md_X9_typeOf ss_X9_typeOf ml_X9_35 dX9_byteOf_38 _ (by decide) (K := ?_)
      cases H1
      exact ev_ireturn (M := T9_byteOf) (pc := 41) dX9_byteOf_41
    · replace H := if_ne hs1 H
      by_cases hs2 : l2 = 2
      · replace H := if_pe hs2 H
        refine ev_tableIn (M := T9_byteOf) (pc := 1) (off := 41) 42 dX9_byteOf_1 (by omega) (by omega) (by rw [hs2]; rfl) (k := ?_)
        refine ev_lload_n (M := T9_byteOf) (pc := 42) 0 dX9_byteOf_42 (k := ?_)
        obtain ⟨q3, hq, H1⟩ := bd_e H
        clear H
        refine ev_callS (M := T9_byteOf) (pc := 43) (mc := 0) (ms := 0) (st := []) (C9_typeOf hq) md_X9_typeOf ss_X9_typeOf ml_X9_35 dX9_byteOf_43 _ (by decide) (K := ?_)
        refine ev_iconst (M := T9_byteOf) (pc := 46) dX9_byteOf_46 (k := ?_)
        refine ev_icmpne (M := T9_byteOf) (pc := 47) 57 dX9_byteOf_47 (kt := fun hc => ?_) (kf := fun hc => ?_)
        · replace H1 := if_ne hc H1
          refine ev_lload_n (M := T9_byteOf) (pc := 57) 0 dX9_byteOf_57 (k := ?_)
          obtain ⟨q4, hq, H2⟩ := bd_e H1
          clear H1
          refine ev_callS (M := T9_byteOf) (pc := 58) (mc := 0) (ms := 0) (st := []) (C9_forwardsOf hq) md_X9_forwardsOf ss_X9_forwardsOf ml_X9_52 dX9_byteOf_58 _ (by decide) (K := ?_)
          cases H2
          exact ev_ireturn (M := T9_byteOf) (pc := 61) dX9_byteOf_61
        · replace H1 := if_pe hc H1
          refine ev_lload_n (M := T9_byteOf) (pc := 50) 0 dX9_byteOf_50 (k := ?_)
          obtain ⟨q5, hq, H2⟩ := bd_e H1
          clear H1
          refine ev_callS (M := T9_byteOf) (pc := 51) (mc := 0) (ms := 0) (st := []) (C9_causeOf hq) md_X9_causeOf ss_X9_causeOf ml_X9_49 dX9_byteOf_51 _ (by decide) (K := ?_)
          refine ev_goto (M := T9_byteOf) (pc := 54) 61 dX9_byteOf_54 (k := ?_)
          cases H2
          exact ev_ireturn (M := T9_byteOf) (pc := 61) dX9_byteOf_61
      · replace H := if_ne hs2 H
        by_cases hs3 : l2 = 3
        · replace H := if_pe hs3 H
          refine ev_tableIn (M := T9_byteOf) (pc := 1) (off := 61) 62 dX9_byteOf_1 (by omega) (by omega) (by rw [hs3]; rfl) (k := ?_)
          refine ev_lload_n (M := T9_byteOf) (pc := 62) 0 dX9_byteOf_62 (k := ?_)
          obtain ⟨q6, hq, H1⟩ := bd_e H
          clear H
          refine ev_callS (M := T9_byteOf) (pc := 63) (mc := 0) (ms := 0) (st := []) (C9_keysOf hq) md_X9_keysOf ss_X9_keysOf ml_X9_39 dX9_byteOf_63 _ (by decide) (K := ?_)
          obtain ⟨q7, hq, H2⟩ := bd_e H1
          clear H1
          refine ev_callSN (M := T9_byteOf) (pc := 66) (mc := 0) (ms := 0) (st := []) (C11_countOf hq) md_X11_countOf ss_X11_countOf ml_X9_43 dX9_byteOf_66 _ (by decide) (K := ?_)
          cases H2
          exact ev_ireturn (M := T9_byteOf) (pc := 69) dX9_byteOf_69
        · replace H := if_ne hs3 H
          refine ev_tableOut (M := T9_byteOf) (pc := 1) 70 dX9_byteOf_1 (by omega) (k := ?_)
          refine ev_lload_n (M := T9_byteOf) (pc := 70) 0 dX9_byteOf_70 (k := ?_)
          refine ev_iconst (M := T9_byteOf) (pc := 71) dX9_byteOf_71 (k := ?_)
          refine ev_iload_n (M := T9_byteOf) (pc := 72) 1 dX9_byteOf_72 (k := ?_)
          refine ev_iconst (M := T9_byteOf) (pc := 73) dX9_byteOf_73 (k := ?_)
          refine ev_isub (M := T9_byteOf) (pc := 74) dX9_byteOf_74 (k := ?_)
          refine ev_imul (M := T9_byteOf) (pc := 75) dX9_byteOf_75 (k := ?_)
          refine ev_lshr (M := T9_byteOf) (pc := 76) dX9_byteOf_76 (k := ?_)
          refine ev_l2i (M := T9_byteOf) (pc := 77) dX9_byteOf_77 (k := ?_)
          refine ev_bipush (M := T9_byteOf) (pc := 78) dX9_byteOf_78 (k := ?_)
          refine ev_iand (M := T9_byteOf) (pc := 80) dX9_byteOf_80 (k := ?_)
          cases H
          exact ev_ireturn (M := T9_byteOf) (pc := 81) dX9_byteOf_81
-- X9_copyOf
abbrev T9_copyOf : JT := (RX9, cX9_copyOf, 2, none, false)
set_option maxRecDepth 100000 in
set_option maxHeartbeats 4000000 in
theorem C9_copyOf {l0 : Int} {l1 : Option Int} {h : JM} {res : JM} (H : F9_copyOf l0 l1 h = some res) : Cn j_W1 1 0 0 yX9_copyOf cX9_copyOf 2 none [.inr (.inr (some (9, l0))), .inr (.inr (Option.map (Prod.mk 9) (l1)))] h none res := by
  refine Cn.by (own := RX9) (b := false) [(0, .inr (.inr (some (9, l0)))), (1, .inr (.inr (Option.map (Prod.mk 9) (l1))))] rfl (fun z => by cases z) (by decide +kernel) (K := ?_)
  unfold F9_copyOf at H
  refine ev_aload_n (M := T9_copyOf) (pc := 0) 0 dX9_copyOf_0 (k := ?_)
  refine ev_aload_n (M := T9_copyOf) (pc := 1) 1 dX9_copyOf_1 (k := ?_)
  obtain ⟨a1, ea1, H1⟩ := bd_e H
  clear H
  rw [ea1]
  refine ev_getI (M := T9_copyOf) (pc := 2) (x := h.1 9 a1 0) fl_X9_21 dX9_copyOf_2 (K := ?_)
  obtain ⟨h2, eh2, H2⟩ := lt_e H1
  clear H1
  refine ev_putI (M := T9_copyOf) (pc := 5) j_ok1 fl_X9_21 eh2 dX9_copyOf_5 (K := ?_)
  refine ev_aload_n (M := T9_copyOf) (pc := 8) 0 dX9_copyOf_8 (k := ?_)
  refine ev_aload_n (M := T9_copyOf) (pc := 9) 1 dX9_copyOf_9 (k := ?_)
  refine ev_getI (M := T9_copyOf) (pc := 10) (x := h2.1 9 a1 1) fl_X9_24 dX9_copyOf_10 (K := ?_)
  obtain ⟨h3, eh3, H3⟩ := lt_e H2
  clear H2
  refine ev_putI (M := T9_copyOf) (pc := 13) j_ok1 fl_X9_24 eh3 dX9_copyOf_13 (K := ?_)
  refine ev_aload_n (M := T9_copyOf) (pc := 16) 0 dX9_copyOf_16 (k := ?_)
  refine ev_aload_n (M := T9_copyOf) (pc := 17) 1 dX9_copyOf_17 (k := ?_)
  refine ev_getI (M := T9_copyOf) (pc := 18) (x := h3.1 9 a1 2) fl_X9_27 dX9_copyOf_18 (K := ?_)
  obtain ⟨h4, eh4, H4⟩ := lt_e H3
  clear H3
  refine ev_putI (M := T9_copyOf) (pc := 21) j_ok1 fl_X9_27 eh4 dX9_copyOf_21 (K := ?_)
  refine ev_aload_n (M := T9_copyOf) (pc := 24) 0 dX9_copyOf_24 (k := ?_)
  refine ev_aload_n (M := T9_copyOf) (pc := 25) 1 dX9_copyOf_25 (k := ?_)
  refine ev_getI (M := T9_copyOf) (pc := 26) (x := h4.1 9 a1 3) fl_X9_30 dX9_copyOf_26 (K := ?_)
  obtain ⟨h5, eh5, H5⟩ := lt_e H4
  clear H4
  refine ev_putI (M := T9_copyOf) (pc := 29) j_ok1 fl_X9_30 eh5 dX9_copyOf_29 (K := ?_)
  refine ev_aload_n (M := T9_copyOf) (pc := 32) 0 dX9_copyOf_32 (k := ?_)
  refine ev_aload_n (M := T9_copyOf) (pc := 33) 1 dX9_copyOf_33 (k := ?_)
  refine ev_getL (M := T9_copyOf) (pc := 34) (x := h5.2.1 9 a1 4) fl_X9_11 dX9_copyOf_34 (K := ?_)
  obtain ⟨h6, eh6, H6⟩ := lt_e H5
  clear H5
  refine ev_putL (M := T9_copyOf) (pc := 37) j_ok1 fl_X9_11 eh6 dX9_copyOf_37 (K := ?_)
  refine ev_aload_n (M := T9_copyOf) (pc := 40) 0 dX9_copyOf_40 (k := ?_)
  refine ev_aload_n (M := T9_copyOf) (pc := 41) 1 dX9_copyOf_41 (k := ?_)
  refine ev_getI (M := T9_copyOf) (pc := 42) (x := h6.1 9 a1 5) fl_X9_17 dX9_copyOf_42 (K := ?_)
  obtain ⟨h7, eh7, H7⟩ := lt_e H6
  clear H6
  refine ev_putI (M := T9_copyOf) (pc := 45) j_ok1 fl_X9_17 eh7 dX9_copyOf_45 (K := ?_)
  cases H7
  exact ev_return (M := T9_copyOf) (pc := 48) dX9_copyOf_48
-- X9_pack
abbrev T9_pack : JT := (RX9, cX9_pack, 4, some .long, false)
set_option maxRecDepth 100000 in
set_option maxHeartbeats 4000000 in
theorem C9_pack {l0 : Int} {l1 : Int} {l2 : Int} {h : JM} {res : (Int × JM)} (H : F9_pack l0 l1 l2 h = some res) : Cn j_W1 1 0 0 yX9_pack cX9_pack 4 (some .long) [.inl (l0), .inl (l1), .inr (.inl (l2))] h (some (.inr (.inl res.1))) res.2 := by
  refine Cn.by (own := RX9) (b := false) [(0, .inl (l0)), (1, .inl (l1)), (2, .inr (.inl (l2)))] rfl (fun z => by cases z) (by decide +kernel) (K := ?_)
  unfold F9_pack at H
  refine ev_iload_n (M := T9_pack) (pc := 0) 0 dX9_pack_0 (k := ?_)
  refine ev_i2l (M := T9_pack) (pc := 1) dX9_pack_1 (k := ?_)
  refine ev_bipush (M := T9_pack) (pc := 2) dX9_pack_2 (k := ?_)
  refine ev_lshl (M := T9_pack) (pc := 4) dX9_pack_4 (k := ?_)
  refine ev_iload_n (M := T9_pack) (pc := 5) 1 dX9_pack_5 (k := ?_)
  refine ev_i2l (M := T9_pack) (pc := 6) dX9_pack_6 (k := ?_)
  refine ev_bipush (M := T9_pack) (pc := 7) dX9_pack_7 (k := ?_)
  refine ev_lshl (M := T9_pack) (pc := 9) dX9_pack_9 (k := ?_)
  refine ev_lor (M := T9_pack) (pc := 10) dX9_pack_10 (k := ?_)
  refine ev_lload_n (M := T9_pack) (pc := 11) 2 dX9_pack_11 (k := ?_)
  refine ev_lor (M := T9_pack) (pc := 12) dX9_pack_12 (k := ?_)
  cases H
  exact ev_lreturn (M := T9_pack) (pc := 13) dX9_pack_13
-- X9_packIam
abbrev T9_packIam : JT := (RX9, cX9_packIam, 3, some .long, false)
set_option maxRecDepth 100000 in
set_option maxHeartbeats 4000000 in
theorem C9_packIam {l0 : Int} {l1 : Int} {h : JM} {res : (Int × JM)} (H : F9_packIam l0 l1 h = some res) : Cn j_W1 1 0 0 yX9_packIam cX9_packIam 3 (some .long) [.inl (l0), .inr (.inl (l1))] h (some (.inr (.inl res.1))) res.2 := by
  refine Cn.by (own := RX9) (b := false) [(0, .inl (l0)), (1, .inr (.inl (l1)))] rfl (fun z => by cases z) (by decide +kernel) (K := ?_)
  unfold F9_packIam at H
  refine ev_iload_n (M := T9_packIam) (pc := 0) 0 dX9_packIam_0 (k := ?_)
  refine ev_i2l (M := T9_packIam) (pc := 1) dX9_packIam_1 (k := ?_)
  refine ev_bipush (M := T9_packIam) (pc := 2) dX9_packIam_2 (k := ?_)
  refine ev_lshl (M := T9_packIam) (pc := 4) dX9_packIam_4 (k := ?_)
  refine ev_lload_n (M := T9_packIam) (pc := 5) 1 dX9_packIam_5 (k := ?_)
  refine ev_lor (M := T9_packIam) (pc := 6) dX9_packIam_6 (k := ?_)
  cases H
  exact ev_lreturn (M := T9_packIam) (pc := 7) dX9_packIam_7
-- X9_sizeOf
abbrev T9_sizeOf : JT := (RX9, cX9_sizeOf, 2, some .int, false)
set_option maxRecDepth 100000 in
set_option maxHeartbeats 4000000 in
theorem C9_sizeOf {l0 : Int} {h : JM} {res : (Int × JM)} (H : F9_sizeOf l0 h = some res) : Cn j_W1 2 0 0 yX9_sizeOf cX9_sizeOf 2 (some .int) [.inr (.inl (l0))] h (some (.inl res.1)) res.2 := by
  refine Cn.by (own := RX9) (b := false) [(0, .inr (.inl (l0)))] rfl (fun z => by cases z) (by decide +kernel) (K := ?_)
  unfold F9_sizeOf at H
  refine ev_lload_n (M := T9_sizeOf) (pc := 0) 0 dX9_sizeOf_0 (k := ?_)
  refine ev_ldc2 (M := T9_sizeOf) (pc := 1) (n := (-1)) cl_X9_9 dX9_sizeOf_1 (hv := cw_X9_9) (k := ?_)
  refine ev_lcmp (M := T9_sizeOf) (pc := 4) dX9_sizeOf_4 (k := ?_)
  refine ev_ifne (M := T9_sizeOf) (pc := 5) 10 dX9_sizeOf_5 (kt := fun hc => ?_) (kf := fun hc => ?_)
  · replace H := if_ne hc H
    refine ev_lload_n (M := T9_sizeOf) (pc := 10) 0 dX9_sizeOf_10 (k := ?_)
    obtain ⟨q1, hq, H1⟩ := bd_e H
    clear H
    refine ev_callS (M := T9_sizeOf) (pc := 11) (mc := 0) (ms := 0) (st := []) (C9_typeOf hq) md_X9_typeOf ss_X9_typeOf ml_X9_35 dX9_sizeOf_11 _ (by decide) (K := ?_)
    by_cases hs0 : q1.1 = 1
    · replace H1 := if_pe hs0 H1
      refine ev_lookup (M := T9_sizeOf) (pc := 14) (off := 26) 40 dX9_sizeOf_14 rfl (by rw [hs0]; rfl) (k := ?_)
      refine ev_iconst (M := T9_sizeOf) (pc := 40) dX9_sizeOf_40 (k := ?_)
      refine ev_lload_n (M := T9_sizeOf) (pc := 41) 0 dX9_sizeOf_41 (k := ?_)
      obtain ⟨q2, hq, H2⟩ := bd_e H1
      clear H1
      refine ev_callS (M := T9_sizeOf) (pc := 42) (mc := 0) (ms := 0) (st := [.inl (4)]) (C9_keysOf hq) md_X9_keysOf ss_X9_keysOf ml_X9_39 dX9_sizeOf_42 _ (by decide) (K := ?_)
      obtain ⟨q3, hq, H3⟩ := bd_e H2
      clear H2
      refine ev_callSN (M := T9_sizeOf) (pc := 45) (mc := 0) (ms := 0) (st := [.inl (4)]) (C11_countOf hq) md_X11_countOf ss_X11_countOf ml_X9_43 dX9_sizeOf_45 _ (by decide) (K := ?_)
      refine ev_iadd (M := T9_sizeOf) (pc := 48) dX9_sizeOf_48 (k := ?_)
      cases H3
      exact ev_ireturn (M := T9_sizeOf) (pc := 49) dX9_sizeOf_49
    · replace H1 := if_ne hs0 H1
      by_cases hs1 : q1.1 = 4
      · replace H1 := if_pe hs1 H1
        refine ev_lookup (M := T9_sizeOf) (pc := 14) (off := 36) 50 dX9_sizeOf_14 rfl (by rw [hs1]; rfl) (k := ?_)
        refine ev_iconst (M := T9_sizeOf) (pc := 50) dX9_sizeOf_50 (k := ?_)
        cases H1
        exact ev_ireturn (M := T9_sizeOf) (pc := 51) dX9_sizeOf_51
      · replace H1 := if_ne hs1 H1
        refine ev_lookup (M := T9_sizeOf) (pc := 14) (off := 38) 52 dX9_sizeOf_14 rfl (by simp [Op.lookupswitch.offset]; (repeat' split) <;> omega) (k := ?_)
        refine ev_iconst (M := T9_sizeOf) (pc := 52) dX9_sizeOf_52 (k := ?_)
        cases H1
        exact ev_ireturn (M := T9_sizeOf) (pc := 53) dX9_sizeOf_53
  · replace H := if_pe hc H
    refine ev_iconst (M := T9_sizeOf) (pc := 8) dX9_sizeOf_8 (k := ?_)
    cases H
    exact ev_ireturn (M := T9_sizeOf) (pc := 9) dX9_sizeOf_9
-- X10_isFlag
abbrev T10_isFlag : JT := (RX10, cX10_isFlag, 3, some .boolean, false)
set_option maxRecDepth 100000 in
set_option maxHeartbeats 4000000 in
theorem E10_isFlag_48 (k19 : Int → Int → JM → Option (Int × JM)) (hk19 : ∀ (l1 : Int) (l2 : Int) (h : JM) (res : (Int × JM)), k19 l1 l2 h = some res → Ev j_W1 1 0 0 T10_isFlag 19 [(0, .inr (.inr (some (10, 0)))), (1, .inl (l1)), (2, .inl (l2))] [] h (some (.inl res.1)) res.2) (l1 : Int) (l2 : Int) (s0 : Int) (s1 : Int) (h : JM) (res : (Int × JM)) (H : F10_isFlag_48 k19 l1 l2 s0 s1 h = some res) : Ev j_W1 1 0 0 T10_isFlag 48 [(0, .inr (.inr (some (10, 0)))), (1, .inl (l1)), (2, .inl (l2))] [.inl (s1), .inl (s0)] h (some (.inl res.1)) res.2 := by
  unfold F10_isFlag_48 at H
  refine ev_icmpeq (M := T10_isFlag) (pc := 48) 53 dX10_isFlag_48 (kt := fun hc => ?_) (kf := fun hc => ?_)
  · replace H := if_pe hc H
    refine ev_iinc (M := T10_isFlag) (pc := 53) 2 [(2, .inl (w32 (l2 + 1))), (0, .inr (.inr (some (10, 0)))), (1, .inl (l1))] dX10_isFlag_53 (k := ?_)
    refine ev_goto (M := T10_isFlag) (pc := 56) 19 dX10_isFlag_56 (k := ?_)
    refine ev_lv [1, 2, 0] [(0, .inr (.inr (some (10, 0)))), (1, .inl (l1)), (2, .inl (w32 (l2 + 1)))] (k := ?_)
    exact hk19 l1 (w32 (l2 + 1)) h _ H
  · replace H := if_ne hc H
    refine ev_iconst (M := T10_isFlag) (pc := 51) dX10_isFlag_51 (k := ?_)
    cases H
    exact ev_zreturn (M := T10_isFlag) (pc := 52) (Or.inl rfl) dX10_isFlag_52
set_option maxRecDepth 100000 in
set_option maxHeartbeats 4000000 in
theorem E10_isFlag_43 (k19 : Int → Int → JM → Option (Int × JM)) (hk19 : ∀ (l1 : Int) (l2 : Int) (h : JM) (res : (Int × JM)), k19 l1 l2 h = some res → Ev j_W1 1 0 0 T10_isFlag 19 [(0, .inr (.inr (some (10, 0)))), (1, .inl (l1)), (2, .inl (l2))] [] h (some (.inl res.1)) res.2) (l1 : Int) (l2 : Int) (s0 : Int) (h : JM) (res : (Int × JM)) (H : F10_isFlag_43 k19 l1 l2 s0 h = some res) : Ev j_W1 1 0 0 T10_isFlag 43 [(0, .inr (.inr (some (10, 0)))), (1, .inl (l1)), (2, .inl (l2))] [.inl (s0)] h (some (.inl res.1)) res.2 := by
  unfold F10_isFlag_43 at H
  refine ev_iconst (M := T10_isFlag) (pc := 43) dX10_isFlag_43 (k := ?_)
  refine ev_goto (M := T10_isFlag) (pc := 44) 48 dX10_isFlag_44 (k := ?_)
  exact E10_isFlag_48 k19 hk19 l1 l2 s0 0 h _ H
set_option maxRecDepth 100000 in
set_option maxHeartbeats 4000000 in
theorem E10_isFlag_19b (k19 : Int → Int → JM → Option (Int × JM)) (hk19 : ∀ (l1 : Int) (l2 : Int) (h : JM) (res : (Int × JM)), k19 l1 l2 h = some res → Ev j_W1 1 0 0 T10_isFlag 19 [(0, .inr (.inr (some (10, 0)))), (1, .inl (l1)), (2, .inl (l2))] [] h (some (.inl res.1)) res.2) (l1 : Int) (l2 : Int) (h : JM) (res : (Int × JM)) (H : F10_isFlag_19b k19 l1 l2 h = some res) : Ev j_W1 1 0 0 T10_isFlag 19 [(0, .inr (.inr (some (10, 0)))), (1, .inl (l1)), (2, .inl (l2))] [] h (some (.inl res.1)) res.2 := by
  unfold F10_isFlag_19b at H
  refine ev_iload_n (M := T10_isFlag) (pc := 19) 2 dX10_isFlag_19 (k := ?_)
  refine ev_bipush (M := T10_isFlag) (pc := 20) dX10_isFlag_20 (k := ?_)
  refine ev_icmpge (M := T10_isFlag) (pc := 22) 59 dX10_isFlag_22 (kt := fun hc => ?_) (kf := fun hc => ?_)
  · replace H := if_pe hc H
    refine ev_iconst (M := T10_isFlag) (pc := 59) dX10_isFlag_59 (k := ?_)
    cases H
    exact ev_zreturn (M := T10_isFlag) (pc := 60) (Or.inr rfl) dX10_isFlag_60
  · replace H := if_ne hc H
    refine ev_aload_n (M := T10_isFlag) (pc := 25) 0 dX10_isFlag_25 (k := ?_)
    refine ev_getR (M := T10_isFlag) (pc := 26) (t := 36) (x := some (36, 0)) fl_X10_9 dX10_isFlag_26 (hx := ry_10_0 _ _) (K := ?_)
    refine ev_iload_n (M := T10_isFlag) (pc := 29) 1 dX10_isFlag_29 (k := ?_)
    refine ev_iload_n (M := T10_isFlag) (pc := 30) 2 dX10_isFlag_30 (k := ?_)
    refine ev_iadd (M := T10_isFlag) (pc := 31) dX10_isFlag_31 (k := ?_)
    obtain ⟨⟨hi0, hi1⟩, H1⟩ := g_e H
    clear H
    refine ev_baload (M := T10_isFlag) (pc := 32) (k := 36) hi0 hi1 dX10_isFlag_32 (hc := ac_36) (hlen := ln_36 _ _) (K := ?_)
    refine ev_iload_n (M := T10_isFlag) (pc := 33) 2 dX10_isFlag_33 (k := ?_)
    refine ev_ifeq (M := T10_isFlag) (pc := 34) 43 dX10_isFlag_34 (kt := fun hc => ?_) (kf := fun hc => ?_)
    · replace H1 := if_pe hc H1
      exact E10_isFlag_43 k19 hk19 l1 l2 (h.1 36 0 (w32 (l1 + l2))) h _ H1
    · replace H1 := if_ne hc H1
      refine ev_iload_n (M := T10_isFlag) (pc := 37) 2 dX10_isFlag_37 (k := ?_)
      refine ev_bipush (M := T10_isFlag) (pc := 38) dX10_isFlag_38 (k := ?_)
      refine ev_icmpne (M := T10_isFlag) (pc := 40) 47 dX10_isFlag_40 (kt := fun hc => ?_) (kf := fun hc => ?_)
      · replace H1 := if_ne hc H1
        refine ev_iconst (M := T10_isFlag) (pc := 47) dX10_isFlag_47 (k := ?_)
        exact E10_isFlag_48 k19 hk19 l1 l2 (h.1 36 0 (w32 (l1 + l2))) 1 h _ H1
      · replace H1 := if_pe hc H1
        exact E10_isFlag_43 k19 hk19 l1 l2 (h.1 36 0 (w32 (l1 + l2))) h _ H1
theorem E10_isFlag_19 (n : Nat) : ∀ (l1 : Int) (l2 : Int) (h : JM) (res : (Int × JM)), F10_isFlag_19 n l1 l2 h = some res → Ev j_W1 1 0 0 T10_isFlag 19 [(0, .inr (.inr (some (10, 0)))), (1, .inl (l1)), (2, .inl (l2))] [] h (some (.inl res.1)) res.2 := by
  induction n with
  | zero =>
    intro l1 l2 h res H
    cases H
  | succ n ih =>
    intro l1 l2 h res H
    exact E10_isFlag_19b (F10_isFlag_19 n) ih l1 l2 h res H
set_option maxRecDepth 100000 in
set_option maxHeartbeats 4000000 in
theorem E10_isFlag_15 (h : JM) (res : (Int × JM)) (H : F10_isFlag_15 h = some res) : Ev j_W1 1 0 0 T10_isFlag 15 [] [] h (some (.inl res.1)) res.2 := by
  unfold F10_isFlag_15 at H
  refine ev_iconst (M := T10_isFlag) (pc := 15) dX10_isFlag_15 (k := ?_)
  cases H
  exact ev_zreturn (M := T10_isFlag) (pc := 16) (Or.inl rfl) dX10_isFlag_16
set_option maxRecDepth 100000 in
set_option maxHeartbeats 4000000 in
theorem C10_isFlag {l1 : Int} {h : JM} {res : (Int × JM)} (H : F10_isFlag l1 h = some res) : Cn j_W1 1 0 0 yX10_isFlag cX10_isFlag 3 (some .boolean) [.inr (.inr (some (10, 0))), .inl (l1)] h (some (.inl res.1)) res.2 := by
  refine Cn.by (own := RX10) (b := false) [(0, .inr (.inr (some (10, 0)))), (1, .inl (l1))] rfl (fun z => by cases z) (by decide +kernel) (K := ?_)
  unfold F10_isFlag at H
  refine ev_iload_n (M := T10_isFlag) (pc := 0) 1 dX10_isFlag_0 (k := ?_)
  refine ev_iflt (M := T10_isFlag) (pc := 1) 15 dX10_isFlag_1 (kt := fun hc => ?_) (kf := fun hc => ?_)
  · replace H := if_pe hc H
    refine ev_lv [] [] (k := ?_)
    exact E10_isFlag_15 h _ H
  · replace H := if_ne hc H
    refine ev_iload_n (M := T10_isFlag) (pc := 4) 1 dX10_isFlag_4 (k := ?_)
    refine ev_bipush (M := T10_isFlag) (pc := 5) dX10_isFlag_5 (k := ?_)
    refine ev_iadd (M := T10_isFlag) (pc := 7) dX10_isFlag_7 (k := ?_)
    refine ev_aload_n (M := T10_isFlag) (pc := 8) 0 dX10_isFlag_8 (k := ?_)
    refine ev_getI (M := T10_isFlag) (pc := 9) (x := h.1 10 0 1) fl_X10_18 dX10_isFlag_9 (K := ?_)
    refine ev_icmple (M := T10_isFlag) (pc := 12) 17 dX10_isFlag_12 (kt := fun hc => ?_) (kf := fun hc => ?_)
    · replace H := if_pe hc H
      refine ev_iconst (M := T10_isFlag) (pc := 17) dX10_isFlag_17 (k := ?_)
      refine ev_istore_n (M := T10_isFlag) (pc := 18) [(2, .inl (0)), (0, .inr (.inr (some (10, 0)))), (1, .inl (l1))] dX10_isFlag_18 (k := ?_)
      refine ev_lv [1, 2, 0] [(0, .inr (.inr (some (10, 0)))), (1, .inl (l1)), (2, .inl (0))] (k := ?_)
      exact E10_isFlag_19 j_fu l1 0 h _ H
    · replace H := if_ne hc H
      refine ev_lv [] [] (k := ?_)
      exact E10_isFlag_15 h _ H
-- X10_number
abbrev T10_number : JT := (RX10, cX10_number, 5, some .int, false)
set_option maxRecDepth 100000 in
set_option maxHeartbeats 4000000 in
theorem E10_number_42 (k5 : Int → Int → Int → Int → JM → Option (Int × JM)) (hk5 : ∀ (l1 : Int) (l2 : Int) (l3 : Int) (l4 : Int) (h : JM) (res : (Int × JM)), k5 l1 l2 l3 l4 h = some res → Ev j_W1 1 0 0 T10_number 5 [(0, .inr (.inr (some (10, 0)))), (1, .inl (l1)), (2, .inl (l2)), (3, .inl (l3)), (4, .inl (l4))] [] h (some (.inl res.1)) res.2) (l1 : Int) (l2 : Int) (l3 : Int) (l4 : Int) (h : JM) (res : (Int × JM)) (H : F10_number_42 k5 l1 l2 l3 l4 h = some res) : Ev j_W1 1 0 0 T10_number 42 [(0, .inr (.inr (some (10, 0)))), (1, .inl (l1)), (2, .inl (l2)), (3, .inl (l3)), (4, .inl (l4))] [] h (some (.inl res.1)) res.2 := by
  unfold F10_number_42 at H
  refine ev_iinc (M := T10_number) (pc := 42) 4 [(4, .inl (w32 (l4 + 1))), (0, .inr (.inr (some (10, 0)))), (1, .inl (l1)), (2, .inl (l2)), (3, .inl (l3))] dX10_number_42 (k := ?_)
  refine ev_goto (M := T10_number) (pc := 45) 5 dX10_number_45 (k := ?_)
  refine ev_lv [1, 2, 3, 4, 0] [(0, .inr (.inr (some (10, 0)))), (1, .inl (l1)), (2, .inl (l2)), (3, .inl (l3)), (4, .inl (w32 (l4 + 1)))] (k := ?_)
  exact hk5 l1 l2 l3 (w32 (l4 + 1)) h _ H
set_option maxRecDepth 100000 in
set_option maxHeartbeats 4000000 in
theorem E10_number_5b (k5 : Int → Int → Int → Int → JM → Option (Int × JM)) (hk5 : ∀ (l1 : Int) (l2 : Int) (l3 : Int) (l4 : Int) (h : JM) (res : (Int × JM)), k5 l1 l2 l3 l4 h = some res → Ev j_W1 1 0 0 T10_number 5 [(0, .inr (.inr (some (10, 0)))), (1, .inl (l1)), (2, .inl (l2)), (3, .inl (l3)), (4, .inl (l4))] [] h (some (.inl res.1)) res.2) (l1 : Int) (l2 : Int) (l3 : Int) (l4 : Int) (h : JM) (res : (Int × JM)) (H : F10_number_5b k5 l1 l2 l3 l4 h = some res) : Ev j_W1 1 0 0 T10_number 5 [(0, .inr (.inr (some (10, 0)))), (1, .inl (l1)), (2, .inl (l2)), (3, .inl (l3)), (4, .inl (l4))] [] h (some (.inl res.1)) res.2 := by
  unfold F10_number_5b at H
  refine ev_iload (M := T10_number) (pc := 5) 4 dX10_number_5 (k := ?_)
  refine ev_iload_n (M := T10_number) (pc := 7) 2 dX10_number_7 (k := ?_)
  refine ev_icmpge (M := T10_number) (pc := 8) 48 dX10_number_8 (kt := fun hc => ?_) (kf := fun hc => ?_)
  · replace H := if_pe hc H
    refine ev_iload_n (M := T10_number) (pc := 48) 3 dX10_number_48 (k := ?_)
    cases H
    exact ev_ireturn (M := T10_number) (pc := 49) dX10_number_49
  · replace H := if_ne hc H
    refine ev_iload_n (M := T10_number) (pc := 11) 1 dX10_number_11 (k := ?_)
    refine ev_iload (M := T10_number) (pc := 12) 4 dX10_number_12 (k := ?_)
    refine ev_iadd (M := T10_number) (pc := 14) dX10_number_14 (k := ?_)
    refine ev_aload_n (M := T10_number) (pc := 15) 0 dX10_number_15 (k := ?_)
    refine ev_getI (M := T10_number) (pc := 16) (x := h.1 10 0 5) fl_X10_79 dX10_number_16 (K := ?_)
    refine ev_icmpge (M := T10_number) (pc := 19) 42 dX10_number_19 (kt := fun hc => ?_) (kf := fun hc => ?_)
    · replace H := if_pe hc H
      exact E10_number_42 k5 hk5 l1 l2 l3 l4 h _ H
    · replace H := if_ne hc H
      refine ev_aload_n (M := T10_number) (pc := 22) 0 dX10_number_22 (k := ?_)
      refine ev_getR (M := T10_number) (pc := 23) (t := 37) (x := some (37, 0)) fl_X10_15 dX10_number_23 (hx := ry_10_4 _ _) (K := ?_)
      refine ev_iload_n (M := T10_number) (pc := 26) 1 dX10_number_26 (k := ?_)
      refine ev_iload (M := T10_number) (pc := 27) 4 dX10_number_27 (k := ?_)
      refine ev_iadd (M := T10_number) (pc := 29) dX10_number_29 (k := ?_)
      obtain ⟨⟨hi0, hi1⟩, H1⟩ := g_e H
      clear H
      refine ev_baload (M := T10_number) (pc := 30) (k := 37) hi0 hi1 dX10_number_30 (hc := ac_37) (hlen := ln_37 _ _) (K := ?_)
      refine ev_iconst (M := T10_number) (pc := 31) dX10_number_31 (k := ?_)
      refine ev_icmpne (M := T10_number) (pc := 32) 42 dX10_number_32 (kt := fun hc => ?_) (kf := fun hc => ?_)
      · replace H1 := if_ne hc H1
        exact E10_number_42 k5 hk5 l1 l2 l3 l4 h _ H1
      · replace H1 := if_pe hc H1
        refine ev_iload_n (M := T10_number) (pc := 35) 3 dX10_number_35 (k := ?_)
        refine ev_iconst (M := T10_number) (pc := 36) dX10_number_36 (k := ?_)
        refine ev_iload (M := T10_number) (pc := 37) 4 dX10_number_37 (k := ?_)
        refine ev_ishl (M := T10_number) (pc := 39) dX10_number_39 (k := ?_)
        refine ev_ior (M := T10_number) (pc := 40) dX10_number_40 (k := ?_)
        obtain ⟨x1, ex1, H2⟩ := lt_e H1
        clear H1
        refine ev_topI ex1 ?_
        refine ev_istore_n (M := T10_number) (pc := 41) [(3, .inl (x1)), (0, .inr (.inr (some (10, 0)))), (1, .inl (l1)), (2, .inl (l2)), (4, .inl (l4))] dX10_number_41 (k := ?_)
        refine ev_lv [1, 2, 3, 0, 4] [(0, .inr (.inr (some (10, 0)))), (1, .inl (l1)), (2, .inl (l2)), (3, .inl (x1)), (4, .inl (l4))] (k := ?_)
        exact E10_number_42 k5 hk5 l1 l2 x1 l4 h _ H2
theorem E10_number_5 (n : Nat) : ∀ (l1 : Int) (l2 : Int) (l3 : Int) (l4 : Int) (h : JM) (res : (Int × JM)), F10_number_5 n l1 l2 l3 l4 h = some res → Ev j_W1 1 0 0 T10_number 5 [(0, .inr (.inr (some (10, 0)))), (1, .inl (l1)), (2, .inl (l2)), (3, .inl (l3)), (4, .inl (l4))] [] h (some (.inl res.1)) res.2 := by
  induction n with
  | zero =>
    intro l1 l2 l3 l4 h res H
    cases H
  | succ n ih =>
    intro l1 l2 l3 l4 h res H
    exact E10_number_5b (F10_number_5 n) ih l1 l2 l3 l4 h res H
set_option maxRecDepth 100000 in
set_option maxHeartbeats 4000000 in
theorem C10_number {l1 : Int} {l2 : Int} {h : JM} {res : (Int × JM)} (H : F10_number l1 l2 h = some res) : Cn j_W1 1 0 0 yX10_number cX10_number 5 (some .int) [.inr (.inr (some (10, 0))), .inl (l1), .inl (l2)] h (some (.inl res.1)) res.2 := by
  refine Cn.by (own := RX10) (b := false) [(0, .inr (.inr (some (10, 0)))), (1, .inl (l1)), (2, .inl (l2))] rfl (fun z => by cases z) (by decide +kernel) (K := ?_)
  unfold F10_number at H
  refine ev_iconst (M := T10_number) (pc := 0) dX10_number_0 (k := ?_)
  refine ev_istore_n (M := T10_number) (pc := 1) [(3, .inl (0)), (0, .inr (.inr (some (10, 0)))), (1, .inl (l1)), (2, .inl (l2))] dX10_number_1 (k := ?_)
  refine ev_iconst (M := T10_number) (pc := 2) dX10_number_2 (k := ?_)
  refine ev_istore (M := T10_number) (pc := 3) [(4, .inl (0)), (3, .inl (0)), (0, .inr (.inr (some (10, 0)))), (1, .inl (l1)), (2, .inl (l2))] dX10_number_3 (k := ?_)
  refine ev_lv [2, 3, 4, 1, 0] [(0, .inr (.inr (some (10, 0)))), (1, .inl (l1)), (2, .inl (l2)), (3, .inl (0)), (4, .inl (0))] (k := ?_)
  exact E10_number_5 j_fu l1 l2 0 0 h _ H
-- X10_putBit
abbrev T10_putBit : JT := (RX10, cX10_putBit, 2, none, false)
set_option maxRecDepth 100000 in
set_option maxHeartbeats 4000000 in
theorem C10_putBit {l1 : Int} {h : JM} {res : JM} (H : F10_putBit l1 h = some res) : Cn j_W1 1 0 0 yX10_putBit cX10_putBit 2 none [.inr (.inr (some (10, 0))), .inl (l1)] h none res := by
  refine Cn.by (own := RX10) (b := false) [(0, .inr (.inr (some (10, 0)))), (1, .inl (l1))] rfl (fun z => by cases z) (by decide +kernel) (K := ?_)
  unfold F10_putBit at H
  refine ev_aload_n (M := T10_putBit) (pc := 0) 0 dX10_putBit_0 (k := ?_)
  refine ev_getI (M := T10_putBit) (pc := 1) (x := h.1 10 0 1) fl_X10_18 dX10_putBit_1 (K := ?_)
  refine ev_sipush (M := T10_putBit) (pc := 4) dX10_putBit_4 (k := ?_)
  refine ev_icmpge (M := T10_putBit) (pc := 7) 31 dX10_putBit_7 (kt := fun hc => ?_) (kf := fun hc => ?_)
  · replace H := if_pe hc H
    cases H
    exact ev_return (M := T10_putBit) (pc := 31) dX10_putBit_31
  · replace H := if_ne hc H
    refine ev_aload_n (M := T10_putBit) (pc := 10) 0 dX10_putBit_10 (k := ?_)
    refine ev_getR (M := T10_putBit) (pc := 11) (t := 36) (x := some (36, 0)) fl_X10_9 dX10_putBit_11 (hx := ry_10_0 _ _) (K := ?_)
    refine ev_aload_n (M := T10_putBit) (pc := 14) 0 dX10_putBit_14 (k := ?_)
    refine ev_getI (M := T10_putBit) (pc := 15) (x := h.1 10 0 1) fl_X10_18 dX10_putBit_15 (K := ?_)
    refine ev_iload_n (M := T10_putBit) (pc := 18) 1 dX10_putBit_18 (k := ?_)
    refine ev_i2b (M := T10_putBit) (pc := 19) dX10_putBit_19 (k := ?_)
    obtain ⟨⟨hi0, hi1⟩, H1⟩ := g_e H
    clear H
    obtain ⟨h1, eh1, H2⟩ := lt_e H1
    clear H1
    refine ev_bastore (M := T10_putBit) (pc := 20) (k := 36) j_ok1 hi0 hi1 eh1 dX10_putBit_20 (hc := ac_36) (hlen := ln_36 _ _) (K := ?_)
    refine ev_aload_n (M := T10_putBit) (pc := 21) 0 dX10_putBit_21 (k := ?_)
    refine ev_dup (M := T10_putBit) (pc := 22) dX10_putBit_22 (k := ?_)
    refine ev_getI (M := T10_putBit) (pc := 23) (x := h1.1 10 0 1) fl_X10_18 dX10_putBit_23 (K := ?_)
    refine ev_iconst (M := T10_putBit) (pc := 26) dX10_putBit_26 (k := ?_)
    refine ev_iadd (M := T10_putBit) (pc := 27) dX10_putBit_27 (k := ?_)
    obtain ⟨h2, eh2, H3⟩ := lt_e H2
    clear H2
    refine ev_putI (M := T10_putBit) (pc := 28) j_ok1 fl_X10_18 eh2 dX10_putBit_28 (K := ?_)
    cases H3
    exact ev_return (M := T10_putBit) (pc := 31) dX10_putBit_31
-- X10_stepCheck
abbrev T10_stepCheck : JT := (RX10, cX10_stepCheck, 2, some .int, false)
set_option maxRecDepth 100000 in
set_option maxHeartbeats 4000000 in
theorem C10_stepCheck {l0 : Int} {l1 : Int} {h : JM} {res : (Int × JM)} (H : F10_stepCheck l0 l1 h = some res) : Cn j_W1 1 0 0 yX10_stepCheck cX10_stepCheck 2 (some .int) [.inl (l0), .inl (l1)] h (some (.inl res.1)) res.2 := by
  refine Cn.by (own := RX10) (b := false) [(0, .inl (l0)), (1, .inl (l1))] rfl (fun z => by cases z) (by decide +kernel) (K := ?_)
  unfold F10_stepCheck at H
  refine ev_iload_n (M := T10_stepCheck) (pc := 0) 0 dX10_stepCheck_0 (k := ?_)
  refine ev_iload_n (M := T10_stepCheck) (pc := 1) 1 dX10_stepCheck_1 (k := ?_)
  refine ev_ixor (M := T10_stepCheck) (pc := 2) dX10_stepCheck_2 (k := ?_)
  refine ev_iconst (M := T10_stepCheck) (pc := 3) dX10_stepCheck_3 (k := ?_)
  refine ev_iand (M := T10_stepCheck) (pc := 4) dX10_stepCheck_4 (k := ?_)
  refine ev_iconst (M := T10_stepCheck) (pc := 5) dX10_stepCheck_5 (k := ?_)
  refine ev_icmpne (M := T10_stepCheck) (pc := 6) 18 dX10_stepCheck_6 (kt := fun hc => ?_) (kf := fun hc => ?_)
  · replace H := if_ne hc H
    refine ev_iload_n (M := T10_stepCheck) (pc := 18) 0 dX10_stepCheck_18 (k := ?_)
    refine ev_iconst (M := T10_stepCheck) (pc := 19) dX10_stepCheck_19 (k := ?_)
    refine ev_ishr (M := T10_stepCheck) (pc := 20) dX10_stepCheck_20 (k := ?_)
    cases H
    exact ev_ireturn (M := T10_stepCheck) (pc := 21) dX10_stepCheck_21
  · replace H := if_pe hc H
    refine ev_iload_n (M := T10_stepCheck) (pc := 9) 0 dX10_stepCheck_9 (k := ?_)
    refine ev_iconst (M := T10_stepCheck) (pc := 10) dX10_stepCheck_10 (k := ?_)
    refine ev_ishr (M := T10_stepCheck) (pc := 11) dX10_stepCheck_11 (k := ?_)
    refine ev_ldc (M := T10_stepCheck) (pc := 12) (n := 33800) ct_X10_70 dX10_stepCheck_12 (hv := cv_X10_70) (k := ?_)
    refine ev_ixor (M := T10_stepCheck) (pc := 14) dX10_stepCheck_14 (k := ?_)
    refine ev_goto (M := T10_stepCheck) (pc := 15) 21 dX10_stepCheck_15 (k := ?_)
    cases H
    exact ev_ireturn (M := T10_stepCheck) (pc := 21) dX10_stepCheck_21
-- X10_put
abbrev T10_put : JT := (RX10, cX10_put, 5, none, false)
set_option maxRecDepth 100000 in
set_option maxHeartbeats 4000000 in
theorem E10_put_71 (k2 : Int → Int → Int → JM → Option JM) (hk2 : ∀ (l1 : Int) (l2 : Int) (l3 : Int) (h : JM) (res : JM), k2 l1 l2 l3 h = some res → Ev j_W1 2 0 0 T10_put 2 [(0, .inr (.inr (some (10, 0)))), (1, .inl (l1)), (2, .inl (l2)), (3, .inl (l3))] [] h none res) (l1 : Int) (l2 : Int) (l3 : Int) (h : JM) (res : JM) (H : F10_put_71 k2 l1 l2 l3 h = some res) : Ev j_W1 2 0 0 T10_put 71 [(0, .inr (.inr (some (10, 0)))), (1, .inl (l1)), (2, .inl (l2)), (3, .inl (l3))] [] h none res := by
  unfold F10_put_71 at H
  refine ev_iinc (M := T10_put) (pc := 71) 3 [(3, .inl (w32 (l3 + 1))), (0, .inr (.inr (some (10, 0)))), (1, .inl (l1)), (2, .inl (l2))] dX10_put_71 (k := ?_)
  refine ev_goto (M := T10_put) (pc := 74) 2 dX10_put_74 (k := ?_)
  refine ev_lv [1, 2, 3, 0] [(0, .inr (.inr (some (10, 0)))), (1, .inl (l1)), (2, .inl (l2)), (3, .inl (w32 (l3 + 1)))] (k := ?_)
  exact hk2 l1 l2 (w32 (l3 + 1)) h _ H
set_option maxRecDepth 100000 in
set_option maxHeartbeats 4000000 in
theorem E10_put_50 (k2 : Int → Int → Int → JM → Option JM) (hk2 : ∀ (l1 : Int) (l2 : Int) (l3 : Int) (h : JM) (res : JM), k2 l1 l2 l3 h = some res → Ev j_W1 2 0 0 T10_put 2 [(0, .inr (.inr (some (10, 0)))), (1, .inl (l1)), (2, .inl (l2)), (3, .inl (l3))] [] h none res) (l1 : Int) (l2 : Int) (l3 : Int) (s0 : Option Int) (s1 : Int) (h : JM) (res : JM) (H : F10_put_50 k2 l1 l2 l3 s0 s1 h = some res) : Ev j_W1 2 0 0 T10_put 50 [(0, .inr (.inr (some (10, 0)))), (1, .inl (l1)), (2, .inl (l2)), (3, .inl (l3))] [.inl (s1), .inr (.inr (Option.map (Prod.mk 10) (s0)))] h none res := by
  unfold F10_put_50 at H
  obtain ⟨a1, ea1, H1⟩ := bd_e H
  clear H
  obtain ⟨hz, H2⟩ := g_e H1
  clear H1
  rw [ea1, hz]
  obtain ⟨h2, eh2, H3⟩ := lt_e H2
  clear H2
  refine ev_putI (M := T10_put) (pc := 50) j_ok1 fl_X10_25 eh2 dX10_put_50 (K := ?_)
  refine ev_aload_n (M := T10_put) (pc := 53) 0 dX10_put_53 (k := ?_)
  refine ev_getI (M := T10_put) (pc := 54) (x := h2.1 10 0 2) fl_X10_25 dX10_put_54 (K := ?_)
  refine ev_iconst (M := T10_put) (pc := 57) dX10_put_57 (k := ?_)
  refine ev_icmpne (M := T10_put) (pc := 58) 71 dX10_put_58 (kt := fun hc => ?_) (kf := fun hc => ?_)
  · replace H3 := if_ne hc H3
    exact E10_put_71 k2 hk2 l1 l2 l3 h2 _ H3
  · replace H3 := if_pe hc H3
    refine ev_aload_n (M := T10_put) (pc := 61) 0 dX10_put_61 (k := ?_)
    refine ev_iconst (M := T10_put) (pc := 62) dX10_put_62 (k := ?_)
    obtain ⟨h3, hq, H4⟩ := bd_e H3
    clear H3
    refine ev_callV (M := T10_put) (pc := 63) (mc := 0) (ms := 0) (st := []) (C10_putBit hq) md_X10_putBit im_X10_putBit se_X10_putBit ml_X10_62 dX10_put_63 _ (by decide) (K := ?_)
    refine ev_aload_n (M := T10_put) (pc := 66) 0 dX10_put_66 (k := ?_)
    refine ev_iconst (M := T10_put) (pc := 67) dX10_put_67 (k := ?_)
    obtain ⟨h4, eh4, H5⟩ := lt_e H4
    clear H4
    refine ev_putI (M := T10_put) (pc := 68) j_ok1 fl_X10_25 eh4 dX10_put_68 (K := ?_)
    exact E10_put_71 k2 hk2 l1 l2 l3 h4 _ H5
set_option maxRecDepth 100000 in
set_option maxHeartbeats 4000000 in
theorem E10_put_2b (k2 : Int → Int → Int → JM → Option JM) (hk2 : ∀ (l1 : Int) (l2 : Int) (l3 : Int) (h : JM) (res : JM), k2 l1 l2 l3 h = some res → Ev j_W1 2 0 0 T10_put 2 [(0, .inr (.inr (some (10, 0)))), (1, .inl (l1)), (2, .inl (l2)), (3, .inl (l3))] [] h none res) (l1 : Int) (l2 : Int) (l3 : Int) (h : JM) (res : JM) (H : F10_put_2b k2 l1 l2 l3 h = some res) : Ev j_W1 2 0 0 T10_put 2 [(0, .inr (.inr (some (10, 0)))), (1, .inl (l1)), (2, .inl (l2)), (3, .inl (l3))] [] h none res := by
  unfold F10_put_2b at H
  refine ev_iload_n (M := T10_put) (pc := 2) 3 dX10_put_2 (k := ?_)
  refine ev_iload_n (M := T10_put) (pc := 3) 2 dX10_put_3 (k := ?_)
  refine ev_icmpge (M := T10_put) (pc := 4) 77 dX10_put_4 (kt := fun hc => ?_) (kf := fun hc => ?_)
  · replace H := if_pe hc H
    cases H
    exact ev_return (M := T10_put) (pc := 77) dX10_put_77
  · replace H := if_ne hc H
    refine ev_iload_n (M := T10_put) (pc := 7) 1 dX10_put_7 (k := ?_)
    refine ev_iload_n (M := T10_put) (pc := 8) 3 dX10_put_8 (k := ?_)
    refine ev_ishr (M := T10_put) (pc := 9) dX10_put_9 (k := ?_)
    refine ev_iconst (M := T10_put) (pc := 10) dX10_put_10 (k := ?_)
    refine ev_iand (M := T10_put) (pc := 11) dX10_put_11 (k := ?_)
    obtain ⟨x5, ex5, H1⟩ := lt_e H
    clear H
    refine ev_topI ex5 ?_
    refine ev_istore (M := T10_put) (pc := 12) [(4, .inl (x5)), (0, .inr (.inr (some (10, 0)))), (1, .inl (l1)), (2, .inl (l2)), (3, .inl (l3))] dX10_put_12 (k := ?_)
    refine ev_aload_n (M := T10_put) (pc := 14) 1 dX10_put_14 (k := ?_)
    refine ev_iload (M := T10_put) (pc := 15) 0 dX10_put_15 (k := ?_)
    obtain ⟨h6, hq, H2⟩ := bd_e H1
    clear H1
    refine ev_callV (M := T10_put) (pc := 17) (mc := 0) (ms := 0) (st := []) (C10_putBit hq) md_X10_putBit im_X10_putBit se_X10_putBit ml_X10_62 dX10_put_17 _ (by decide) (K := ?_)
    refine ev_aload_n (M := T10_put) (pc := 20) 1 dX10_put_20 (k := ?_)
    refine ev_aload_n (M := T10_put) (pc := 21) 1 dX10_put_21 (k := ?_)
    refine ev_getI (M := T10_put) (pc := 22) (x := h6.1 10 0 3) fl_X10_29 dX10_put_22 (K := ?_)
    refine ev_iload (M := T10_put) (pc := 25) 0 dX10_put_25 (k := ?_)
    obtain ⟨q7, hq, H3⟩ := bd_e H2
    clear H2
    refine ev_callS (M := T10_put) (pc := 27) (mc := 0) (ms := 0) (st := [.inr (.inr (some (10, 0)))]) (C10_stepCheck hq) md_X10_stepCheck ss_X10_stepCheck ml_X10_66 dX10_put_27 _ (by decide) (K := ?_)
    obtain ⟨h8, eh8, H4⟩ := lt_e H3
    clear H3
    refine ev_putI (M := T10_put) (pc := 30) j_ok1 fl_X10_29 eh8 dX10_put_30 (K := ?_)
    refine ev_aload_n (M := T10_put) (pc := 33) 1 dX10_put_33 (k := ?_)
    refine ev_iload (M := T10_put) (pc := 34) 0 dX10_put_34 (k := ?_)
    refine ev_iconst (M := T10_put) (pc := 36) dX10_put_36 (k := ?_)
    refine ev_icmpne (M := T10_put) (pc := 37) 49 dX10_put_37 (kt := fun hc => ?_) (kf := fun hc => ?_)
    · replace H4 := if_ne hc H4
      refine ev_iconst (M := T10_put) (pc := 49) dX10_put_49 (k := ?_)
      refine ev_lv [1, 2, 3, 4] [(0, .inr (.inr (some (10, 0)))), (1, .inl (l1)), (2, .inl (l2)), (3, .inl (l3))] (k := ?_)
      exact E10_put_50 k2 hk2 l1 l2 l3 (some 0) 0 h8 _ H4
    · replace H4 := if_pe hc H4
      refine ev_aload_n (M := T10_put) (pc := 40) 1 dX10_put_40 (k := ?_)
      refine ev_getI (M := T10_put) (pc := 41) (x := h8.1 10 0 2) fl_X10_25 dX10_put_41 (K := ?_)
      refine ev_iconst (M := T10_put) (pc := 44) dX10_put_44 (k := ?_)
      refine ev_iadd (M := T10_put) (pc := 45) dX10_put_45 (k := ?_)
      refine ev_goto (M := T10_put) (pc := 46) 50 dX10_put_46 (k := ?_)
      refine ev_lv [1, 2, 3, 4] [(0, .inr (.inr (some (10, 0)))), (1, .inl (l1)), (2, .inl (l2)), (3, .inl (l3))] (k := ?_)
      exact E10_put_50 k2 hk2 l1 l2 l3 (some 0) (w32 ((h8.1 10 0 2) + 1)) h8 _ H4
theorem E10_put_2 (n : Nat) : ∀ (l1 : Int) (l2 : Int) (l3 : Int) (h : JM) (res : JM), F10_put_2 n l1 l2 l3 h = some res → Ev j_W1 2 0 0 T10_put 2 [(0, .inr (.inr (some (10, 0)))), (1, .inl (l1)), (2, .inl (l2)), (3, .inl (l3))] [] h none res := by
  induction n with
  | zero =>
    intro l1 l2 l3 h res H
    cases H
  | succ n ih =>
    intro l1 l2 l3 h res H
    exact E10_put_2b (F10_put_2 n) ih l1 l2 l3 h res H
set_option maxRecDepth 100000 in
set_option maxHeartbeats 4000000 in
theorem C10_put {l1 : Int} {l2 : Int} {h : JM} {res : JM} (H : F10_put l1 l2 h = some res) : Cn j_W1 2 0 0 yX10_put cX10_put 5 none [.inr (.inr (some (10, 0))), .inl (l1), .inl (l2)] h none res := by
  refine Cn.by (own := RX10) (b := false) [(0, .inr (.inr (some (10, 0)))), (1, .inl (l1)), (2, .inl (l2))] rfl (fun z => by cases z) (by decide +kernel) (K := ?_)
  unfold F10_put at H
  refine ev_iconst (M := T10_put) (pc := 0) dX10_put_0 (k := ?_)
  refine ev_istore_n (M := T10_put) (pc := 1) [(3, .inl (0)), (0, .inr (.inr (some (10, 0)))), (1, .inl (l1)), (2, .inl (l2))] dX10_put_1 (k := ?_)
  refine ev_lv [1, 2, 3, 0] [(0, .inr (.inr (some (10, 0)))), (1, .inl (l1)), (2, .inl (l2)), (3, .inl (0))] (k := ?_)
  exact E10_put_2 j_fu l1 l2 0 h _ H
-- X10_putFlag
abbrev T10_putFlag : JT := (RX10, cX10_putFlag, 2, none, false)
set_option maxRecDepth 100000 in
set_option maxHeartbeats 4000000 in
theorem E10_putFlag_24 (k2 : Int → JM → Option JM) (hk2 : ∀ (l1 : Int) (h : JM) (res : JM), k2 l1 h = some res → Ev j_W1 2 0 0 T10_putFlag 2 [(0, .inr (.inr (some (10, 0)))), (1, .inl (l1))] [] h none res) (l1 : Int) (s0 : Option Int) (s1 : Int) (h : JM) (res : JM) (H : F10_putFlag_24 k2 l1 s0 s1 h = some res) : Ev j_W1 2 0 0 T10_putFlag 24 [(0, .inr (.inr (some (10, 0)))), (1, .inl (l1))] [.inl (s1), .inr (.inr (Option.map (Prod.mk 10) (s0)))] h none res := by
  unfold F10_putFlag_24 at H
  obtain ⟨a1, ea1, H1⟩ := bd_e H
  clear H
  obtain ⟨hz, H2⟩ := g_e H1
  clear H1
  rw [ea1, hz]
  obtain ⟨h2, hq, H3⟩ := bd_e H2
  clear H2
  refine ev_callV (M := T10_putFlag) (pc := 24) (mc := 0) (ms := 0) (st := []) (C10_putBit hq) md_X10_putBit im_X10_putBit se_X10_putBit ml_X10_62 dX10_putFlag_24 _ (by decide) (K := ?_)
  refine ev_iinc (M := T10_putFlag) (pc := 27) 1 [(1, .inl (w32 (l1 + 1))), (0, .inr (.inr (some (10, 0))))] dX10_putFlag_27 (k := ?_)
  refine ev_goto (M := T10_putFlag) (pc := 30) 2 dX10_putFlag_30 (k := ?_)
  refine ev_lv [1, 0] [(0, .inr (.inr (some (10, 0)))), (1, .inl (w32 (l1 + 1)))] (k := ?_)
  exact hk2 (w32 (l1 + 1)) h2 _ H3
set_option maxRecDepth 100000 in
set_option maxHeartbeats 4000000 in
theorem E10_putFlag_19 (k2 : Int → JM → Option JM) (hk2 : ∀ (l1 : Int) (h : JM) (res : JM), k2 l1 h = some res → Ev j_W1 2 0 0 T10_putFlag 2 [(0, .inr (.inr (some (10, 0)))), (1, .inl (l1))] [] h none res) (l1 : Int) (s0 : Option Int) (h : JM) (res : JM) (H : F10_putFlag_19 k2 l1 s0 h = some res) : Ev j_W1 2 0 0 T10_putFlag 19 [(0, .inr (.inr (some (10, 0)))), (1, .inl (l1))] [.inr (.inr (Option.map (Prod.mk 10) (s0)))] h none res := by
  unfold F10_putFlag_19 at H
  refine ev_iconst (M := T10_putFlag) (pc := 19) dX10_putFlag_19 (k := ?_)
  refine ev_goto (M := T10_putFlag) (pc := 20) 24 dX10_putFlag_20 (k := ?_)
  exact E10_putFlag_24 k2 hk2 l1 s0 0 h _ H
set_option maxRecDepth 100000 in
set_option maxHeartbeats 4000000 in
theorem E10_putFlag_2b (k2 : Int → JM → Option JM) (hk2 : ∀ (l1 : Int) (h : JM) (res : JM), k2 l1 h = some res → Ev j_W1 2 0 0 T10_putFlag 2 [(0, .inr (.inr (some (10, 0)))), (1, .inl (l1))] [] h none res) (l1 : Int) (h : JM) (res : JM) (H : F10_putFlag_2b k2 l1 h = some res) : Ev j_W1 2 0 0 T10_putFlag 2 [(0, .inr (.inr (some (10, 0)))), (1, .inl (l1))] [] h none res := by
  unfold F10_putFlag_2b at H
  refine ev_iload_n (M := T10_putFlag) (pc := 2) 1 dX10_putFlag_2 (k := ?_)
  refine ev_bipush (M := T10_putFlag) (pc := 3) dX10_putFlag_3 (k := ?_)
  refine ev_icmpge (M := T10_putFlag) (pc := 5) 33 dX10_putFlag_5 (kt := fun hc => ?_) (kf := fun hc => ?_)
  · replace H := if_pe hc H
    cases H
    exact ev_return (M := T10_putFlag) (pc := 33) dX10_putFlag_33
  · replace H := if_ne hc H
    refine ev_aload_n (M := T10_putFlag) (pc := 8) 0 dX10_putFlag_8 (k := ?_)
    refine ev_iload_n (M := T10_putFlag) (pc := 9) 1 dX10_putFlag_9 (k := ?_)
    refine ev_ifeq (M := T10_putFlag) (pc := 10) 19 dX10_putFlag_10 (kt := fun hc => ?_) (kf := fun hc => ?_)
    · replace H := if_pe hc H
      exact E10_putFlag_19 k2 hk2 l1 (some 0) h _ H
    · replace H := if_ne hc H
      refine ev_iload_n (M := T10_putFlag) (pc := 13) 1 dX10_putFlag_13 (k := ?_)
      refine ev_bipush (M := T10_putFlag) (pc := 14) dX10_putFlag_14 (k := ?_)
      refine ev_icmpne (M := T10_putFlag) (pc := 16) 23 dX10_putFlag_16 (kt := fun hc => ?_) (kf := fun hc => ?_)
      · replace H := if_ne hc H
        refine ev_iconst (M := T10_putFlag) (pc := 23) dX10_putFlag_23 (k := ?_)
        exact E10_putFlag_24 k2 hk2 l1 (some 0) 1 h _ H
      · replace H := if_pe hc H
        exact E10_putFlag_19 k2 hk2 l1 (some 0) h _ H
theorem E10_putFlag_2 (n : Nat) : ∀ (l1 : Int) (h : JM) (res : JM), F10_putFlag_2 n l1 h = some res → Ev j_W1 2 0 0 T10_putFlag 2 [(0, .inr (.inr (some (10, 0)))), (1, .inl (l1))] [] h none res := by
  induction n with
  | zero =>
    intro l1 h res H
    cases H
  | succ n ih =>
    intro l1 h res H
    exact E10_putFlag_2b (F10_putFlag_2 n) ih l1 h res H
set_option maxRecDepth 100000 in
set_option maxHeartbeats 4000000 in
theorem C10_putFlag {h : JM} {res : JM} (H : F10_putFlag h = some res) : Cn j_W1 2 0 0 yX10_putFlag cX10_putFlag 2 none [.inr (.inr (some (10, 0)))] h none res := by
  refine Cn.by (own := RX10) (b := false) [(0, .inr (.inr (some (10, 0))))] rfl (fun z => by cases z) (by decide +kernel) (K := ?_)
  unfold F10_putFlag at H
  refine ev_iconst (M := T10_putFlag) (pc := 0) dX10_putFlag_0 (k := ?_)
  refine ev_istore_n (M := T10_putFlag) (pc := 1) [(1, .inl (0)), (0, .inr (.inr (some (10, 0))))] dX10_putFlag_1 (k := ?_)
  refine ev_lv [1, 0] [(0, .inr (.inr (some (10, 0)))), (1, .inl (0))] (k := ?_)
  exact E10_putFlag_2 j_fu 0 h _ H
