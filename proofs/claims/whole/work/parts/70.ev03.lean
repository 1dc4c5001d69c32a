-- X9_byteOf
abbrev T9_byteOf : JT := (RX9, cX9_byteOf, 3, some .int, false)
set_option maxRecDepth 100000 in
set_option maxHeartbeats 4000000 in
theorem C9_byteOf {l0 : Int} {l2 : Int} {h : JM} {res : (Int × JM)} (H : F9_byteOf l0 l2 h = some res) : Cn j_W1 2 0 0 yX9_byteOf cX9_byteOf 3 (some .int) [.inr (.inl (l0)), .inl (l2)] h (some (.inl res.1)) res.2 := by
  refine Cn.by (own := RX9) (b := false) [(0, .inr (.inl (l0))), (2, .inl (l2))] rfl (fun z => by cases z) (by decide +kernel) (K := ?_)
  unfold F9_byteOf at H
  refine ev_iload_n 1 dX9_byteOf_0 (k := ?_)
  by_cases hs0 : l2 = 0
  · replace H := if_pe hs0 H
    refine ev_tableIn (off := 31) 32 dX9_byteOf_1 (by omega) (by omega) (by rw [hs0]; rfl) (k := ?_)
    refine ev_lload_n 0 dX9_byteOf_32 (k := ?_)
    obtain ⟨q1, hq, H1⟩ := bd_e H
    clear H
    refine ev_callS (mc := 0) (ms := 0) (st := []) (C9_circuitOf hq) md_X9_circuitOf ss_X9_circuitOf ml_X9_46 dX9_byteOf_33 _ (by decide) (K := ?_)
    cases H1
    exact ev_ireturn dX9_byteOf_36
  · replace H := if_ne hs0 H
    by_cases hs1 : l2 = 1
    · replace H := if_pe hs1 H
      refine ev_tableIn (off := 36) 37 dX9_byteOf_1 (by omega) (by omega) (by rw [hs1]; rfl) (k := ?_)
      refine ev_lload_n 0 dX9_byteOf_37 (k := ?_)
      obtain ⟨q2, hq, H1⟩ := bd_e H
      clear H
      refine ev_callS (mc := 0) (ms := 0) (st := []) (C9_typeOf hq) md_X9_typeOf ss_X9_typeOf ml_X9_35 dX9_byteOf_38 _ (by decide) (K := ?_)
      cases H1
      exact ev_ireturn dX9_byteOf_41
    · replace H := if_ne hs1 H
      by_cases hs2 : l2 = 2
      · replace H := if_pe hs2 H
        refine ev_tableIn (off := 41) 42 dX9_byteOf_1 (by omega) (by omega) (by rw [hs2]; rfl) (k := ?_)
        refine ev_lload_n 0 dX9_byteOf_42 (k := ?_)
        obtain ⟨q3, hq, H1⟩ := bd_e H
        clear H
        refine ev_callS (mc := 0) (ms := 0) (st := []) (C9_typeOf hq) md_X9_typeOf ss_X9_typeOf ml_X9_35 dX9_byteOf_43 _ (by decide) (K := ?_)
        refine ev_iconst dX9_byteOf_46 (k := ?_)
        refine ev_icmpne 57 dX9_byteOf_47 (kt := fun hc => ?_) (kf := fun hc => ?_)
        · replace H1 := if_ne hc H1
          refine ev_lload_n 0 dX9_byteOf_57 (k := ?_)
          obtain ⟨q4, hq, H2⟩ := bd_e H1
          clear H1
          refine ev_callS (mc := 0) (ms := 0) (st := []) (C9_forwardsOf hq) md_X9_forwardsOf ss_X9_forwardsOf ml_X9_52 dX9_byteOf_58 _ (by decide) (K := ?_)
          cases H2
          exact ev_ireturn dX9_byteOf_61
        · replace H1 := if_pe hc H1
          refine ev_lload_n 0 dX9_byteOf_50 (k := ?_)
          obtain ⟨q5, hq, H2⟩ := bd_e H1
          clear H1
          refine ev_callS (mc := 0) (ms := 0) (st := []) (C9_causeOf hq) md_X9_causeOf ss_X9_causeOf ml_X9_49 dX9_byteOf_51 _ (by decide) (K := ?_)
          refine ev_goto 61 dX9_byteOf_54 (k := ?_)
          cases H2
          exact ev_ireturn dX9_byteOf_61
      · replace H := if_ne hs2 H
        by_cases hs3 : l2 = 3
        · replace H := if_pe hs3 H
          refine ev_tableIn (off := 61) 62 dX9_byteOf_1 (by omega) (by omega) (by rw [hs3]; rfl) (k := ?_)
          refine ev_lload_n 0 dX9_byteOf_62 (k := ?_)
          obtain ⟨q6, hq, H1⟩ := bd_e H
          clear H
          refine ev_callS (mc := 0) (ms := 0) (st := []) (C9_keysOf hq) md_X9_keysOf ss_X9_keysOf ml_X9_39 dX9_byteOf_63 _ (by decide) (K := ?_)
          obtain ⟨q7, hq, H2⟩ := bd_e H1
          clear H1
          refine ev_callSN (mc := 0) (ms := 0) (st := []) (C11_countOf hq) md_X11_countOf ss_X11_countOf ml_X9_43 dX9_byteOf_66 _ (by decide) (K := ?_)
          cases H2
          exact ev_ireturn dX9_byteOf_69
        · replace H := if_ne hs3 H
          refine ev_tableOut 70 dX9_byteOf_1 (by omega) (k := ?_)
          refine ev_lload_n 0 dX9_byteOf_70 (k := ?_)
          refine ev_iconst dX9_byteOf_71 (k := ?_)
          refine ev_iload_n 1 dX9_byteOf_72 (k := ?_)
          refine ev_iconst dX9_byteOf_73 (k := ?_)
          refine ev_isub dX9_byteOf_74 (k := ?_)
          refine ev_imul dX9_byteOf_75 (k := ?_)
          refine ev_lshr dX9_byteOf_76 (k := ?_)
          refine ev_l2i dX9_byteOf_77 (k := ?_)
          refine ev_bipush dX9_byteOf_78 (k := ?_)
          refine ev_iand dX9_byteOf_80 (k := ?_)
          cases H
          exact ev_ireturn dX9_byteOf_81
-- X9_copyOf
abbrev T9_copyOf : JT := (RX9, cX9_copyOf, 2, none, false)
set_option maxRecDepth 100000 in
set_option maxHeartbeats 4000000 in
theorem C9_copyOf {l0 : Int} {l1 : Option Int} {h : JM} {res : JM} (H : F9_copyOf l0 l1 h = some res) : Cn j_W1 1 0 0 yX9_copyOf cX9_copyOf 2 none [.inr (.inr (some (9, l0))), .inr (.inr (Option.map (Prod.mk 9) (l1)))] h none res := by
  refine Cn.by (own := RX9) (b := false) [(0, .inr (.inr (some (9, l0)))), (1, .inr (.inr (Option.map (Prod.mk 9) (l1))))] rfl (fun z => by cases z) (by decide +kernel) (K := ?_)
  unfold F9_copyOf at H
  refine ev_aload_n 0 dX9_copyOf_0 (k := ?_)
  refine ev_aload_n 1 dX9_copyOf_1 (k := ?_)
  obtain ⟨a1, ea1, H1⟩ := bd_e H
  clear H
  rw [ea1]
  refine ev_getI (x := h.1 9 a1 0) fl_X9_21 dX9_copyOf_2 (K := ?_)
  obtain ⟨h2, eh2, H2⟩ := lt_e H1
  clear H1
  refine ev_putI j_ok1 fl_X9_21 eh2 dX9_copyOf_5 (K := ?_)
  refine ev_aload_n 0 dX9_copyOf_8 (k := ?_)
  refine ev_aload_n 1 dX9_copyOf_9 (k := ?_)
  refine ev_getI (x := h2.1 9 a1 1) fl_X9_24 dX9_copyOf_10 (K := ?_)
  obtain ⟨h3, eh3, H3⟩ := lt_e H2
  clear H2
  refine ev_putI j_ok1 fl_X9_24 eh3 dX9_copyOf_13 (K := ?_)
  refine ev_aload_n 0 dX9_copyOf_16 (k := ?_)
  refine ev_aload_n 1 dX9_copyOf_17 (k := ?_)
  refine ev_getI (x := h3.1 9 a1 2) fl_X9_27 dX9_copyOf_18 (K := ?_)
  obtain ⟨h4, eh4, H4⟩ := lt_e H3
  clear H3
  refine ev_putI j_ok1 fl_X9_27 eh4 dX9_copyOf_21 (K := ?_)
  refine ev_aload_n 0 dX9_copyOf_24 (k := ?_)
  refine ev_aload_n 1 dX9_copyOf_25 (k := ?_)
  refine ev_getI (x := h4.1 9 a1 3) fl_X9_30 dX9_copyOf_26 (K := ?_)
  obtain ⟨h5, eh5, H5⟩ := lt_e H4
  clear H4
  refine ev_putI j_ok1 fl_X9_30 eh5 dX9_copyOf_29 (K := ?_)
  refine ev_aload_n 0 dX9_copyOf_32 (k := ?_)
  refine ev_aload_n 1 dX9_copyOf_33 (k := ?_)
  refine ev_getL (x := h5.2.1 9 a1 4) fl_X9_11 dX9_copyOf_34 (K := ?_)
  obtain ⟨h6, eh6, H6⟩ := lt_e H5
  clear H5
  refine ev_putL j_ok1 fl_X9_11 eh6 dX9_copyOf_37 (K := ?_)
  refine ev_aload_n 0 dX9_copyOf_40 (k := ?_)
  refine ev_aload_n 1 dX9_copyOf_41 (k := ?_)
  refine ev_getI (x := h6.1 9 a1 5) fl_X9_17 dX9_copyOf_42 (K := ?_)
  obtain ⟨h7, eh7, H7⟩ := lt_e H6
  clear H6
  refine ev_putI j_ok1 fl_X9_17 eh7 dX9_copyOf_45 (K := ?_)
  cases H7
  exact ev_return dX9_copyOf_48
-- X9_pack
abbrev T9_pack : JT := (RX9, cX9_pack, 4, some .long, false)
set_option maxRecDepth 100000 in
set_option maxHeartbeats 4000000 in
theorem C9_pack {l0 : Int} {l1 : Int} {l2 : Int} {h : JM} {res : (Int × JM)} (H : F9_pack l0 l1 l2 h = some res) : Cn j_W1 1 0 0 yX9_pack cX9_pack 4 (some .long) [.inl (l0), .inl (l1), .inr (.inl (l2))] h (some (.inr (.inl res.1))) res.2 := by
  refine Cn.by (own := RX9) (b := false) [(0, .inl (l0)), (1, .inl (l1)), (2, .inr (.inl (l2)))] rfl (fun z => by cases z) (by decide +kernel) (K := ?_)
  unfold F9_pack at H
  refine ev_iload_n 0 dX9_pack_0 (k := ?_)
  refine ev_i2l dX9_pack_1 (k := ?_)
  refine ev_bipush dX9_pack_2 (k := ?_)
  refine ev_lshl dX9_pack_4 (k := ?_)
  refine ev_iload_n 1 dX9_pack_5 (k := ?_)
  refine ev_i2l dX9_pack_6 (k := ?_)
  refine ev_bipush dX9_pack_7 (k := ?_)
  refine ev_lshl dX9_pack_9 (k := ?_)
  refine ev_lor dX9_pack_10 (k := ?_)
  refine ev_lload_n 2 dX9_pack_11 (k := ?_)
  refine ev_lor dX9_pack_12 (k := ?_)
  cases H
  exact ev_lreturn dX9_pack_13
-- X9_packIam
abbrev T9_packIam : JT := (RX9, cX9_packIam, 3, some .long, false)
set_option maxRecDepth 100000 in
set_option maxHeartbeats 4000000 in
theorem C9_packIam {l0 : Int} {l1 : Int} {h : JM} {res : (Int × JM)} (H : F9_packIam l0 l1 h = some res) : Cn j_W1 1 0 0 yX9_packIam cX9_packIam 3 (some .long) [.inl (l0), .inr (.inl (l1))] h (some (.inr (.inl res.1))) res.2 := by
  refine Cn.by (own := RX9) (b := false) [(0, .inl (l0)), (1, .inr (.inl (l1)))] rfl (fun z => by cases z) (by decide +kernel) (K := ?_)
  unfold F9_packIam at H
  refine ev_iload_n 0 dX9_packIam_0 (k := ?_)
  refine ev_i2l dX9_packIam_1 (k := ?_)
  refine ev_bipush dX9_packIam_2 (k := ?_)
  refine ev_lshl dX9_packIam_4 (k := ?_)
  refine ev_lload_n 1 dX9_packIam_5 (k := ?_)
  refine ev_lor dX9_packIam_6 (k := ?_)
  cases H
  exact ev_lreturn dX9_packIam_7
-- X9_sizeOf
abbrev T9_sizeOf : JT := (RX9, cX9_sizeOf, 2, some .int, false)
set_option maxRecDepth 100000 in
set_option maxHeartbeats 4000000 in
theorem C9_sizeOf {l0 : Int} {h : JM} {res : (Int × JM)} (H : F9_sizeOf l0 h = some res) : Cn j_W1 2 0 0 yX9_sizeOf cX9_sizeOf 2 (some .int) [.inr (.inl (l0))] h (some (.inl res.1)) res.2 := by
  refine Cn.by (own := RX9) (b := false) [(0, .inr (.inl (l0)))] rfl (fun z => by cases z) (by decide +kernel) (K := ?_)
  unfold F9_sizeOf at H
  refine ev_lload_n 0 dX9_sizeOf_0 (k := ?_)
  refine ev_ldc2 (n := (-1)) cl_X9_9 dX9_sizeOf_1 (k := ?_)
  refine ev_lcmp dX9_sizeOf_4 (k := ?_)
  refine ev_ifne 10 dX9_sizeOf_5 (kt := fun hc => ?_) (kf := fun hc => ?_)
  · replace H := if_ne hc H
    refine ev_lload_n 0 dX9_sizeOf_10 (k := ?_)
    obtain ⟨q1, hq, H1⟩ := bd_e H
    clear H
    refine ev_callS (mc := 0) (ms := 0) (st := []) (C9_typeOf hq) md_X9_typeOf ss_X9_typeOf ml_X9_35 dX9_sizeOf_11 _ (by decide) (K := ?_)
    by_cases hs0 : q1.1 = 1
    · replace H1 := if_pe hs0 H1
      refine ev_lookup (off := 26) 40 dX9_sizeOf_14 rfl (by rw [hs0]; rfl) (k := ?_)
      refine ev_iconst dX9_sizeOf_40 (k := ?_)
      refine ev_lload_n 0 dX9_sizeOf_41 (k := ?_)
      obtain ⟨q2, hq, H2⟩ := bd_e H1
      clear H1
      refine ev_callS (mc := 0) (ms := 0) (st := [.inl (4)]) (C9_keysOf hq) md_X9_keysOf ss_X9_keysOf ml_X9_39 dX9_sizeOf_42 _ (by decide) (K := ?_)
      obtain ⟨q3, hq, H3⟩ := bd_e H2
      clear H2
      refine ev_callSN (mc := 0) (ms := 0) (st := [.inl (4)]) (C11_countOf hq) md_X11_countOf ss_X11_countOf ml_X9_43 dX9_sizeOf_45 _ (by decide) (K := ?_)
      refine ev_iadd dX9_sizeOf_48 (k := ?_)
      cases H3
      exact ev_ireturn dX9_sizeOf_49
    · replace H1 := if_ne hs0 H1
      by_cases hs1 : q1.1 = 4
      · replace H1 := if_pe hs1 H1
        refine ev_lookup (off := 36) 50 dX9_sizeOf_14 rfl (by rw [hs1]; rfl) (k := ?_)
        refine ev_iconst dX9_sizeOf_50 (k := ?_)
        cases H1
        exact ev_ireturn dX9_sizeOf_51
      · replace H1 := if_ne hs1 H1
        refine ev_lookup (off := 38) 52 dX9_sizeOf_14 rfl (by simp [Op.lookupswitch.offset]; (repeat' split) <;> omega) (k := ?_)
        refine ev_iconst dX9_sizeOf_52 (k := ?_)
        cases H1
        exact ev_ireturn dX9_sizeOf_53
  · replace H := if_pe hc H
    refine ev_iconst dX9_sizeOf_8 (k := ?_)
    cases H
    exact ev_ireturn dX9_sizeOf_9
-- X10_isFlag
abbrev T10_isFlag : JT := (RX10, cX10_isFlag, 3, some .boolean, false)
set_option maxRecDepth 100000 in
set_option maxHeartbeats 4000000 in
theorem E10_isFlag_48 (k19 : Int → Int → JM → Option (Int × JM)) (hk19 : ∀ (l1 : Int) (l2 : Int) (h : JM) (res : (Int × JM)), k19 l1 l2 h = some res → Ev j_W1 1 0 0 T10_isFlag 19 [(0, .inr (.inr (some (10, 0)))), (1, .inl (l1)), (2, .inl (l2))] [] h (some (.inl res.1)) res.2) (l1 : Int) (l2 : Int) (s0 : Int) (s1 : Int) (h : JM) (res : (Int × JM)) (H : F10_isFlag_48 k19 l1 l2 s0 s1 h = some res) : Ev j_W1 1 0 0 T10_isFlag 48 [(0, .inr (.inr (some (10, 0)))), (1, .inl (l1)), (2, .inl (l2))] [.inl (s1), .inl (s0)] h (some (.inl res.1)) res.2 := by
  unfold F10_isFlag_48 at H
  refine ev_icmpeq 53 dX10_isFlag_48 (kt := fun hc => ?_) (kf := fun hc => ?_)
  · replace H := if_pe hc H
    refine ev_iinc 2 [(2, .inl (w32 (l2 + 1))), (0, .inr (.inr (some (10, 0)))), (1, .inl (l1))] dX10_isFlag_53 (k := ?_)
    refine ev_goto 19 dX10_isFlag_56 (k := ?_)
    refine ev_lv [1, 2, 0] [(0, .inr (.inr (some (10, 0)))), (1, .inl (l1)), (2, .inl (w32 (l2 + 1)))] (k := ?_)
    exact hk19 l1 (w32 (l2 + 1)) h _ H
  · replace H := if_ne hc H
    refine ev_iconst dX10_isFlag_51 (k := ?_)
    cases H
    exact ev_zreturn (Or.inl rfl) dX10_isFlag_52
set_option maxRecDepth 100000 in
set_option maxHeartbeats 4000000 in
theorem E10_isFlag_43 (k19 : Int → Int → JM → Option (Int × JM)) (hk19 : ∀ (l1 : Int) (l2 : Int) (h : JM) (res : (Int × JM)), k19 l1 l2 h = some res → Ev j_W1 1 0 0 T10_isFlag 19 [(0, .inr (.inr (some (10, 0)))), (1, .inl (l1)), (2, .inl (l2))] [] h (some (.inl res.1)) res.2) (l1 : Int) (l2 : Int) (s0 : Int) (h : JM) (res : (Int × JM)) (H : F10_isFlag_43 k19 l1 l2 s0 h = some res) : Ev j_W1 1 0 0 T10_isFlag 43 [(0, .inr (.inr (some (10, 0)))), (1, .inl (l1)), (2, .inl (l2))] [.inl (s0)] h (some (.inl res.1)) res.2 := by
  unfold F10_isFlag_43 at H
  refine ev_iconst dX10_isFlag_43 (k := ?_)
  refine ev_goto 48 dX10_isFlag_44 (k := ?_)
  exact E10_isFlag_48 k19 hk19 l1 l2 s0 0 h _ H
set_option maxRecDepth 100000 in
set_option maxHeartbeats 4000000 in
theorem E10_isFlag_19b (k19 : Int → Int → JM → Option (Int × JM)) (hk19 : ∀ (l1 : Int) (l2 : Int) (h : JM) (res : (Int × JM)), k19 l1 l2 h = some res → Ev j_W1 1 0 0 T10_isFlag 19 [(0, .inr (.inr (some (10, 0)))), (1, .inl (l1)), (2, .inl (l2))] [] h (some (.inl res.1)) res.2) (l1 : Int) (l2 : Int) (h : JM) (res : (Int × JM)) (H : F10_isFlag_19b k19 l1 l2 h = some res) : Ev j_W1 1 0 0 T10_isFlag 19 [(0, .inr (.inr (some (10, 0)))), (1, .inl (l1)), (2, .inl (l2))] [] h (some (.inl res.1)) res.2 := by
  unfold F10_isFlag_19b at H
  refine ev_iload_n 2 dX10_isFlag_19 (k := ?_)
  refine ev_bipush dX10_isFlag_20 (k := ?_)
  refine ev_icmpge 59 dX10_isFlag_22 (kt := fun hc => ?_) (kf := fun hc => ?_)
  · replace H := if_pe hc H
    refine ev_iconst dX10_isFlag_59 (k := ?_)
    cases H
    exact ev_zreturn (Or.inr rfl) dX10_isFlag_60
  · replace H := if_ne hc H
    refine ev_aload_n 0 dX10_isFlag_25 (k := ?_)
    refine ev_getR (t := 36) (x := some (36, 0)) fl_X10_9 dX10_isFlag_26 (hx := ry_10_0 _ _) (K := ?_)
    refine ev_iload_n 1 dX10_isFlag_29 (k := ?_)
    refine ev_iload_n 2 dX10_isFlag_30 (k := ?_)
    refine ev_iadd dX10_isFlag_31 (k := ?_)
    obtain ⟨⟨hi0, hi1⟩, H1⟩ := g_e H
    clear H
    refine ev_baload (k := 36) hi0 hi1 dX10_isFlag_32 (hc := ac_36) (hlen := ln_36 _ _) (K := ?_)
    refine ev_iload_n 2 dX10_isFlag_33 (k := ?_)
    refine ev_ifeq 43 dX10_isFlag_34 (kt := fun hc => ?_) (kf := fun hc => ?_)
    · replace H1 := if_pe hc H1
      exact E10_isFlag_43 k19 hk19 l1 l2 (h.1 36 0 (w32 (l1 + l2))) h _ H1
    · replace H1 := if_ne hc H1
      refine ev_iload_n 2 dX10_isFlag_37 (k := ?_)
      refine ev_bipush dX10_isFlag_38 (k := ?_)
      refine ev_icmpne 47 dX10_isFlag_40 (kt := fun hc => ?_) (kf := fun hc => ?_)
      · replace H1 := if_ne hc H1
        refine ev_iconst dX10_isFlag_47 (k := ?_)
        exact E10_isFlag_48 k19 hk19 l1 l2 (h.1 36 0 (w32 (l1 + l2))) 1 h _ H1
      · replace H1 := if_pe hc H1
        exact E10_isFlag_43 k19 hk19 l1 l2 (h.1 36 0 (w32 (l1 + l2))) h _ H1
theorem E10_isFlag_19 (n : Nat) : ∀ (l1 : Int) (l2 : Int) (h : JM) (res : (Int × JM)), F10_isFlag_19 n l1 l2 h = some res → Ev j_W1 1 0 0 T10_isFlag 19 [(0, .inr (.inr (some (10, 0)))), (1, .inl (l1)), (2, .inl (l2))] [] h (some (.inl res.1)) res.2 := by
  induction n with
  | zero =>
    intro l1 l2 h res H
    cases H
  | succ n ih =>
    intro l1 l2 h res H
    exact E10_isFlag_19b (F10_isFlag_19 n) ih l1 l2 h res H
set_option maxRecDepth 100000 in
set_option maxHeartbeats 4000000 in
theorem E10_isFlag_15 (h : JM) (res : (Int × JM)) (H : F10_isFlag_15 h = some res) : Ev j_W1 1 0 0 T10_isFlag 15 [] [] h (some (.inl res.1)) res.2 := by
  unfold F10_isFlag_15 at H
  refine ev_iconst dX10_isFlag_15 (k := ?_)
  cases H
  exact ev_zreturn (Or.inl rfl) dX10_isFlag_16
set_option maxRecDepth 100000 in
set_option maxHeartbeats 4000000 in
theorem C10_isFlag {l1 : Int} {h : JM} {res : (Int × JM)} (H : F10_isFlag l1 h = some res) : Cn j_W1 1 0 0 yX10_isFlag cX10_isFlag 3 (some .boolean) [.inr (.inr (some (10, 0))), .inl (l1)] h (some (.inl res.1)) res.2 := by
  refine Cn.by (own := RX10) (b := false) [(0, .inr (.inr (some (10, 0)))), (1, .inl (l1))] rfl (fun z => by cases z) (by decide +kernel) (K := ?_)
  unfold F10_isFlag at H
  refine ev_iload_n 1 dX10_isFlag_0 (k := ?_)
  refine ev_iflt 15 dX10_isFlag_1 (kt := fun hc => ?_) (kf := fun hc => ?_)
  · replace H := if_pe hc H
    refine ev_lv [] [] (k := ?_)
    exact E10_isFlag_15 h _ H
  · replace H := if_ne hc H
    refine ev_iload_n 1 dX10_isFlag_4 (k := ?_)
    refine ev_bipush dX10_isFlag_5 (k := ?_)
    refine ev_iadd dX10_isFlag_7 (k := ?_)
    refine ev_aload_n 0 dX10_isFlag_8 (k := ?_)
    refine ev_getI (x := h.1 10 0 1) fl_X10_18 dX10_isFlag_9 (K := ?_)
    refine ev_icmple 17 dX10_isFlag_12 (kt := fun hc => ?_) (kf := fun hc => ?_)
    · replace H := if_pe hc H
      refine ev_iconst dX10_isFlag_17 (k := ?_)
      refine ev_istore_n [(2, .inl (0)), (0, .inr (.inr (some (10, 0)))), (1, .inl (l1))] dX10_isFlag_18 (k := ?_)
      refine ev_lv [1, 2, 0] [(0, .inr (.inr (some (10, 0)))), (1, .inl (l1)), (2, .inl (0))] (k := ?_)
      exact E10_isFlag_19 j_fu l1 0 h _ H
    · replace H := if_ne hc H
      refine ev_lv [] [] (k := ?_)
      exact E10_isFlag_15 h _ H
-- X10_number
abbrev T10_number : JT := (RX10, cX10_number, 5, some .int, false)
set_option maxRecDepth 100000 in
set_option maxHeartbeats 4000000 in
theorem E10_number_42 (k5 : Int → Int → Int → Int → JM → Option (Int × JM)) (hk5 : ∀ (l1 : Int) (l2 : Int) (l3 : Int) (l4 : Int) (h : JM) (res : (Int × JM)), k5 l1 l2 l3 l4 h = some res → Ev j_W1 1 0 0 T10_number 5 [(0, .inr (.inr (some (10, 0)))), (1, .inl (l1)), (2, .inl (l2)), (3, .inl (l3)), (4, .inl (l4))] [] h (some (.inl res.1)) res.2) (l1 : Int) (l2 : Int) (l3 : Int) (l4 : Int) (h : JM) (res : (Int × JM)) (H : F10_number_42 k5 l1 l2 l3 l4 h = some res) : Ev j_W1 1 0 0 T10_number 42 [(0, .inr (.inr (some (10, 0)))), (1, .inl (l1)), (2, .inl (l2)), (3, .inl (l3)), (4, .inl (l4))] [] h (some (.inl res.1)) res.2 := by
  unfold F10_number_42 at H
  refine ev_iinc 4 [(4, .inl (w32 (l4 + 1))), (0, .inr (.inr (some (10, 0)))), (1, .inl (l1)), (2, .inl (l2)), (3, .inl (l3))] dX10_number_42 (k := ?_)
  refine ev_goto 5 dX10_number_45 (k := ?_)
  refine ev_lv [1, 2, 3, 4, 0] [(0, .inr (.inr (some (10, 0)))), (1, .inl (l1)), (2, .inl (l2)), (3, .inl (l3)), (4, .inl (w32 (l4 + 1)))] (k := ?_)
  exact hk5 l1 l2 l3 (w32 (l4 + 1)) h _ H
set_option maxRecDepth 100000 in
set_option maxHeartbeats 4000000 in
theorem E10_number_5b (k5 : Int → Int → Int → Int → JM → Option (Int × JM)) (hk5 : ∀ (l1 : Int) (l2 : Int) (l3 : Int) (l4 : Int) (h : JM) (res : (Int × JM)), k5 l1 l2 l3 l4 h = some res → Ev j_W1 1 0 0 T10_number 5 [(0, .inr (.inr (some (10, 0)))), (1, .inl (l1)), (2, .inl (l2)), (3, .inl (l3)), (4, .inl (l4))] [] h (some (.inl res.1)) res.2) (l1 : Int) (l2 : Int) (l3 : Int) (l4 : Int) (h : JM) (res : (Int × JM)) (H : F10_number_5b k5 l1 l2 l3 l4 h = some res) : Ev j_W1 1 0 0 T10_number 5 [(0, .inr (.inr (some (10, 0)))), (1, .inl (l1)), (2, .inl (l2)), (3, .inl (l3)), (4, .inl (l4))] [] h (some (.inl res.1)) res.2 := by
  unfold F10_number_5b at H
  refine ev_iload 4 dX10_number_5 (k := ?_)
  refine ev_iload_n 2 dX10_number_7 (k := ?_)
  refine ev_icmpge 48 dX10_number_8 (kt := fun hc => ?_) (kf := fun hc => ?_)
  · replace H := if_pe hc H
    refine ev_iload_n 3 dX10_number_48 (k := ?_)
    cases H
    exact ev_ireturn dX10_number_49
  · replace H := if_ne hc H
    refine ev_iload_n 1 dX10_number_11 (k := ?_)
    refine ev_iload 4 dX10_number_12 (k := ?_)
    refine ev_iadd dX10_number_14 (k := ?_)
    refine ev_aload_n 0 dX10_number_15 (k := ?_)
    refine ev_getI (x := h.1 10 0 5) fl_X10_79 dX10_number_16 (K := ?_)
    refine ev_icmpge 42 dX10_number_19 (kt := fun hc => ?_) (kf := fun hc => ?_)
    · replace H := if_pe hc H
      exact E10_number_42 k5 hk5 l1 l2 l3 l4 h _ H
    · replace H := if_ne hc H
      refine ev_aload_n 0 dX10_number_22 (k := ?_)
      refine ev_getR (t := 37) (x := some (37, 0)) fl_X10_15 dX10_number_23 (hx := ry_10_4 _ _) (K := ?_)
      refine ev_iload_n 1 dX10_number_26 (k := ?_)
      refine ev_iload 4 dX10_number_27 (k := ?_)
      refine ev_iadd dX10_number_29 (k := ?_)
      obtain ⟨⟨hi0, hi1⟩, H1⟩ := g_e H
      clear H
      refine ev_baload (k := 37) hi0 hi1 dX10_number_30 (hc := ac_37) (hlen := ln_37 _ _) (K := ?_)
      refine ev_iconst dX10_number_31 (k := ?_)
      refine ev_icmpne 42 dX10_number_32 (kt := fun hc => ?_) (kf := fun hc => ?_)
      · replace H1 := if_ne hc H1
        exact E10_number_42 k5 hk5 l1 l2 l3 l4 h _ H1
      · replace H1 := if_pe hc H1
        refine ev_iload_n 3 dX10_number_35 (k := ?_)
        refine ev_iconst dX10_number_36 (k := ?_)
        refine ev_iload 4 dX10_number_37 (k := ?_)
        refine ev_ishl dX10_number_39 (k := ?_)
        refine ev_ior dX10_number_40 (k := ?_)
        obtain ⟨x1, ex1, H2⟩ := lt_e H1
        clear H1
        refine ev_topI ex1 ?_
        refine ev_istore_n [(3, .inl (x1)), (0, .inr (.inr (some (10, 0)))), (1, .inl (l1)), (2, .inl (l2)), (4, .inl (l4))] dX10_number_41 (k := ?_)
        refine ev_lv [1, 2, 3, 0, 4] [(0, .inr (.inr (some (10, 0)))), (1, .inl (l1)), (2, .inl (l2)), (3, .inl (x1)), (4, .inl (l4))] (k := ?_)
        exact E10_number_42 k5 hk5 l1 l2 x1 l4 h _ H2
theorem E10_number_5 (n : Nat) : ∀ (l1 : Int) (l2 : Int) (l3 : Int) (l4 : Int) (h : JM) (res : (Int × JM)), F10_number_5 n l1 l2 l3 l4 h = some res → Ev j_W1 1 0 0 T10_number 5 [(0, .inr (.inr (some (10, 0)))), (1, .inl (l1)), (2, .inl (l2)), (3, .inl (l3)), (4, .inl (l4))] [] h (some (.inl res.1)) res.2 := by
  induction n with
  | zero =>
    intro l1 l2 l3 l4 h res H
    cases H
  | succ n ih =>
    intro l1 l2 l3 l4 h res H
    exact E10_number_5b (F10_number_5 n) ih l1 l2 l3 l4 h res H
set_option maxRecDepth 100000 in
set_option maxHeartbeats 4000000 in
theorem C10_number {l1 : Int} {l2 : Int} {h : JM} {res : (Int × JM)} (H : F10_number l1 l2 h = some res) : Cn j_W1 1 0 0 yX10_number cX10_number 5 (some .int) [.inr (.inr (some (10, 0))), .inl (l1), .inl (l2)] h (some (.inl res.1)) res.2 := by
  refine Cn.by (own := RX10) (b := false) [(0, .inr (.inr (some (10, 0)))), (1, .inl (l1)), (2, .inl (l2))] rfl (fun z => by cases z) (by decide +kernel) (K := ?_)
  unfold F10_number at H
  refine ev_iconst dX10_number_0 (k := ?_)
  refine ev_istore_n [(3, .inl (0)), (0, .inr (.inr (some (10, 0)))), (1, .inl (l1)), (2, .inl (l2))] dX10_number_1 (k := ?_)
  refine ev_iconst dX10_number_2 (k := ?_)
  refine ev_istore [(4, .inl (0)), (3, .inl (0)), (0, .inr (.inr (some (10, 0)))), (1, .inl (l1)), (2, .inl (l2))] dX10_number_3 (k := ?_)
  refine ev_lv [2, 3, 4, 1, 0] [(0, .inr (.inr (some (10, 0)))), (1, .inl (l1)), (2, .inl (l2)), (3, .inl (0)), (4, .inl (0))] (k := ?_)
  exact E10_number_5 j_fu l1 l2 0 0 h _ H
-- X10_putBit
abbrev T10_putBit : JT := (RX10, cX10_putBit, 2, none, false)
set_option maxRecDepth 100000 in
set_option maxHeartbeats 4000000 in
theorem C10_putBit {l1 : Int} {h : JM} {res : JM} (H : F10_putBit l1 h = some res) : Cn j_W1 1 0 0 yX10_putBit cX10_putBit 2 none [.inr (.inr (some (10, 0))), .inl (l1)] h none res := by
  refine Cn.by (own := RX10) (b := false) [(0, .inr (.inr (some (10, 0)))), (1, .inl (l1))] rfl (fun z => by cases z) (by decide +kernel) (K := ?_)
  unfold F10_putBit at H
  refine ev_aload_n 0 dX10_putBit_0 (k := ?_)
  refine ev_getI (x := h.1 10 0 1) fl_X10_18 dX10_putBit_1 (K := ?_)
  refine ev_sipush dX10_putBit_4 (k := ?_)
  refine ev_icmpge 31 dX10_putBit_7 (kt := fun hc => ?_) (kf := fun hc => ?_)
  · replace H := if_pe hc H
    cases H
    exact ev_return dX10_putBit_31
  · replace H := if_ne hc H
    refine ev_aload_n 0 dX10_putBit_10 (k := ?_)
    refine ev_getR (t := 36) (x := some (36, 0)) fl_X10_9 dX10_putBit_11 (hx := ry_10_0 _ _) (K := ?_)
    refine ev_aload_n 0 dX10_putBit_14 (k := ?_)
    refine ev_getI (x := h.1 10 0 1) fl_X10_18 dX10_putBit_15 (K := ?_)
    refine ev_iload_n 1 dX10_putBit_18 (k := ?_)
    refine ev_i2b dX10_putBit_19 (k := ?_)
    obtain ⟨⟨hi0, hi1⟩, H1⟩ := g_e H
    clear H
    obtain ⟨h1, eh1, H2⟩ := lt_e H1
    clear H1
    refine ev_bastore (k := 36) j_ok1 hi0 hi1 eh1 dX10_putBit_20 (hc := ac_36) (hlen := ln_36 _ _) (K := ?_)
    refine ev_aload_n 0 dX10_putBit_21 (k := ?_)
    refine ev_dup dX10_putBit_22 (k := ?_)
    refine ev_getI (x := h1.1 10 0 1) fl_X10_18 dX10_putBit_23 (K := ?_)
    refine ev_iconst dX10_putBit_26 (k := ?_)
    refine ev_iadd dX10_putBit_27 (k := ?_)
    obtain ⟨h2, eh2, H3⟩ := lt_e H2
    clear H2
    refine ev_putI j_ok1 fl_X10_18 eh2 dX10_putBit_28 (K := ?_)
    cases H3
    exact ev_return dX10_putBit_31
-- X10_stepCheck
abbrev T10_stepCheck : JT := (RX10, cX10_stepCheck, 2, some .int, false)
set_option maxRecDepth 100000 in
set_option maxHeartbeats 4000000 in
theorem C10_stepCheck {l0 : Int} {l1 : Int} {h : JM} {res : (Int × JM)} (H : F10_stepCheck l0 l1 h = some res) : Cn j_W1 1 0 0 yX10_stepCheck cX10_stepCheck 2 (some .int) [.inl (l0), .inl (l1)] h (some (.inl res.1)) res.2 := by
  refine Cn.by (own := RX10) (b := false) [(0, .inl (l0)), (1, .inl (l1))] rfl (fun z => by cases z) (by decide +kernel) (K := ?_)
  unfold F10_stepCheck at H
  refine ev_iload_n 0 dX10_stepCheck_0 (k := ?_)
  refine ev_iload_n 1 dX10_stepCheck_1 (k := ?_)
  refine ev_ixor dX10_stepCheck_2 (k := ?_)
  refine ev_iconst dX10_stepCheck_3 (k := ?_)
  refine ev_iand dX10_stepCheck_4 (k := ?_)
  refine ev_iconst dX10_stepCheck_5 (k := ?_)
  refine ev_icmpne 18 dX10_stepCheck_6 (kt := fun hc => ?_) (kf := fun hc => ?_)
  · replace H := if_ne hc H
    refine ev_iload_n 0 dX10_stepCheck_18 (k := ?_)
    refine ev_iconst dX10_stepCheck_19 (k := ?_)
    refine ev_ishr dX10_stepCheck_20 (k := ?_)
    cases H
    exact ev_ireturn dX10_stepCheck_21
  · replace H := if_pe hc H
    refine ev_iload_n 0 dX10_stepCheck_9 (k := ?_)
    refine ev_iconst dX10_stepCheck_10 (k := ?_)
    refine ev_ishr dX10_stepCheck_11 (k := ?_)
    refine ev_ldc (n := 33800) ct_X10_70 dX10_stepCheck_12 (k := ?_)
    refine ev_ixor dX10_stepCheck_14 (k := ?_)
    refine ev_goto 21 dX10_stepCheck_15 (k := ?_)
    cases H
    exact ev_ireturn dX10_stepCheck_21
-- X10_put
abbrev T10_put : JT := (RX10, cX10_put, 5, none, false)
set_option maxRecDepth 100000 in
set_option maxHeartbeats 4000000 in
theorem E10_put_71 (k2 : Int → Int → Int → JM → Option JM) (hk2 : ∀ (l1 : Int) (l2 : Int) (l3 : Int) (h : JM) (res : JM), k2 l1 l2 l3 h = some res → Ev j_W1 2 0 0 T10_put 2 [(0, .inr (.inr (some (10, 0)))), (1, .inl (l1)), (2, .inl (l2)), (3, .inl (l3))] [] h none res) (l1 : Int) (l2 : Int) (l3 : Int) (h : JM) (res : JM) (H : F10_put_71 k2 l1 l2 l3 h = some res) : Ev j_W1 2 0 0 T10_put 71 [(0, .inr (.inr (some (10, 0)))), (1, .inl (l1)), (2, .inl (l2)), (3, .inl (l3))] [] h none res := by
  unfold F10_put_71 at H
  refine ev_iinc 3 [(3, .inl (w32 (l3 + 1))), (0, .inr (.inr (some (10, 0)))), (1, .inl (l1)), (2, .inl (l2))] dX10_put_71 (k := ?_)
  refine ev_goto 2 dX10_put_74 (k := ?_)
  refine ev_lv [1, 2, 3, 0] [(0, .inr (.inr (some (10, 0)))), (1, .inl (l1)), (2, .inl (l2)), (3, .inl (w32 (l3 + 1)))] (k := ?_)
  exact hk2 l1 l2 (w32 (l3 + 1)) h _ H
set_option maxRecDepth 100000 in
set_option maxHeartbeats 4000000 in
theorem E10_put_50 (k2 : Int → Int → Int → JM → Option JM) (hk2 : ∀ (l1 : Int) (l2 : Int) (l3 : Int) (h : JM) (res : JM), k2 l1 l2 l3 h = some res → Ev j_W1 2 0 0 T10_put 2 [(0, .inr (.inr (some (10, 0)))), (1, .inl (l1)), (2, .inl (l2)), (3, .inl (l3))] [] h none res) (l1 : Int) (l2 : Int) (l3 : Int) (s0 : Option Int) (s1 : Int) (h : JM) (res : JM) (H : F10_put_50 k2 l1 l2 l3 s0 s1 h = some res) : Ev j_W1 2 0 0 T10_put 50 [(0, .inr (.inr (some (10, 0)))), (1, .inl (l1)), (2, .inl (l2)), (3, .inl (l3))] [.inl (s1), .inr (.inr (Option.map (Prod.mk 10) (s0)))] h none res := by
  unfold F10_put_50 at H
  obtain ⟨a1, ea1, H1⟩ := bd_e H
  clear H
  obtain ⟨hz, H2⟩ := g_e H1
  clear H1
  rw [ea1, hz]
  obtain ⟨h2, eh2, H3⟩ := lt_e H2
  clear H2
  refine ev_putI j_ok1 fl_X10_25 eh2 dX10_put_50 (K := ?_)
  refine ev_aload_n 0 dX10_put_53 (k := ?_)
  refine ev_getI (x := h2.1 10 0 2) fl_X10_25 dX10_put_54 (K := ?_)
  refine ev_iconst dX10_put_57 (k := ?_)
  refine ev_icmpne 71 dX10_put_58 (kt := fun hc => ?_) (kf := fun hc => ?_)
  · replace H3 := if_ne hc H3
    exact E10_put_71 k2 hk2 l1 l2 l3 h2 _ H3
  · replace H3 := if_pe hc H3
    refine ev_aload_n 0 dX10_put_61 (k := ?_)
    refine ev_iconst dX10_put_62 (k := ?_)
    obtain ⟨h3, hq, H4⟩ := bd_e H3
    clear H3
    refine ev_callV (mc := 0) (ms := 0) (st := []) (C10_putBit hq) md_X10_putBit im_X10_putBit se_X10_putBit ml_X10_62 dX10_put_63 _ (by decide) (K := ?_)
    refine ev_aload_n 0 dX10_put_66 (k := ?_)
    refine ev_iconst dX10_put_67 (k := ?_)
    obtain ⟨h4, eh4, H5⟩ := lt_e H4
    clear H4
    refine ev_putI j_ok1 fl_X10_25 eh4 dX10_put_68 (K := ?_)
    exact E10_put_71 k2 hk2 l1 l2 l3 h4 _ H5
set_option maxRecDepth 100000 in
set_option maxHeartbeats 4000000 in
theorem E10_put_2b (k2 : Int → Int → Int → JM → Option JM) (hk2 : ∀ (l1 : Int) (l2 : Int) (l3 : Int) (h : JM) (res : JM), k2 l1 l2 l3 h = some res → Ev j_W1 2 0 0 T10_put 2 [(0, .inr (.inr (some (10, 0)))), (1, .inl (l1)), (2, .inl (l2)), (3, .inl (l3))] [] h none res) (l1 : Int) (l2 : Int) (l3 : Int) (h : JM) (res : JM) (H : F10_put_2b k2 l1 l2 l3 h = some res) : Ev j_W1 2 0 0 T10_put 2 [(0, .inr (.inr (some (10, 0)))), (1, .inl (l1)), (2, .inl (l2)), (3, .inl (l3))] [] h none res := by
  unfold F10_put_2b at H
  refine ev_iload_n 3 dX10_put_2 (k := ?_)
  refine ev_iload_n 2 dX10_put_3 (k := ?_)
  refine ev_icmpge 77 dX10_put_4 (kt := fun hc => ?_) (kf := fun hc => ?_)
  · replace H := if_pe hc H
    cases H
    exact ev_return dX10_put_77
  · replace H := if_ne hc H
    refine ev_iload_n 1 dX10_put_7 (k := ?_)
    refine ev_iload_n 3 dX10_put_8 (k := ?_)
    refine ev_ishr dX10_put_9 (k := ?_)
    refine ev_iconst dX10_put_10 (k := ?_)
    refine ev_iand dX10_put_11 (k := ?_)
    obtain ⟨x5, ex5, H1⟩ := lt_e H
    clear H
    refine ev_topI ex5 ?_
    refine ev_istore [(4, .inl (x5)), (0, .inr (.inr (some (10, 0)))), (1, .inl (l1)), (2, .inl (l2)), (3, .inl (l3))] dX10_put_12 (k := ?_)
    refine ev_aload_n 1 dX10_put_14 (k := ?_)
    refine ev_iload 0 dX10_put_15 (k := ?_)
    obtain ⟨h6, hq, H2⟩ := bd_e H1
    clear H1
    refine ev_callV (mc := 0) (ms := 0) (st := []) (C10_putBit hq) md_X10_putBit im_X10_putBit se_X10_putBit ml_X10_62 dX10_put_17 _ (by decide) (K := ?_)
    refine ev_aload_n 1 dX10_put_20 (k := ?_)
    refine ev_aload_n 1 dX10_put_21 (k := ?_)
    refine ev_getI (x := h6.1 10 0 3) fl_X10_29 dX10_put_22 (K := ?_)
    refine ev_iload 0 dX10_put_25 (k := ?_)
    obtain ⟨q7, hq, H3⟩ := bd_e H2
    clear H2
    refine ev_callS (mc := 0) (ms := 0) (st := [.inr (.inr (some (10, 0)))]) (C10_stepCheck hq) md_X10_stepCheck ss_X10_stepCheck ml_X10_66 dX10_put_27 _ (by decide) (K := ?_)
    obtain ⟨h8, eh8, H4⟩ := lt_e H3
    clear H3
    refine ev_putI j_ok1 fl_X10_29 eh8 dX10_put_30 (K := ?_)
    refine ev_aload_n 1 dX10_put_33 (k := ?_)
    refine ev_iload 0 dX10_put_34 (k := ?_)
    refine ev_iconst dX10_put_36 (k := ?_)
    refine ev_icmpne 49 dX10_put_37 (kt := fun hc => ?_) (kf := fun hc => ?_)
    · replace H4 := if_ne hc H4
      refine ev_iconst dX10_put_49 (k := ?_)
      refine ev_lv [1, 2, 3, 4] [(0, .inr (.inr (some (10, 0)))), (1, .inl (l1)), (2, .inl (l2)), (3, .inl (l3))] (k := ?_)
      exact E10_put_50 k2 hk2 l1 l2 l3 (some 0) 0 h8 _ H4
    · replace H4 := if_pe hc H4
      refine ev_aload_n 1 dX10_put_40 (k := ?_)
      refine ev_getI (x := h8.1 10 0 2) fl_X10_25 dX10_put_41 (K := ?_)
      refine ev_iconst dX10_put_44 (k := ?_)
      refine ev_iadd dX10_put_45 (k := ?_)
      refine ev_goto 50 dX10_put_46 (k := ?_)
      refine ev_lv [1, 2, 3, 4] [(0, .inr (.inr (some (10, 0)))), (1, .inl (l1)), (2, .inl (l2)), (3, .inl (l3))] (k := ?_)
      exact E10_put_50 k2 hk2 l1 l2 l3 (some 0) (w32 ((h8.1 10 0 2) + 1)) h8 _ H4
theorem E10_put_2 (n : Nat) : ∀ (l1 : Int) (l2 : Int) (l3 : Int) (h : JM) (res : JM), F10_put_2 n l1 l2 l3 h = some res → Ev j_W1 2 0 0 T10_put 2 [(0, .inr (.inr (some (10, 0)))), (1, .inl (l1)), (2, .inl (l2)), (3, .inl (l3))] [] h none res := by
  induction n with
  | zero =>
    intro l1 l2 l3 h res H
    cases H
  | succ n ih =>
    intro l1 l2 l3 h res H
    exact E10_put_2b (F10_put_2 n) ih l1 l2 l3 h res H
set_option maxRecDepth 100000 in
set_option maxHeartbeats 4000000 in
theorem C10_put {l1 : Int} {l2 : Int} {h : JM} {res : JM} (H : F10_put l1 l2 h = some res) : Cn j_W1 2 0 0 yX10_put cX10_put 5 none [.inr (.inr (some (10, 0))), .inl (l1), .inl (l2)] h none res := by
  refine Cn.by (own := RX10) (b := false) [(0, .inr (.inr (some (10, 0)))), (1, .inl (l1)), (2, .inl (l2))] rfl (fun z => by cases z) (by decide +kernel) (K := ?_)
  unfold F10_put at H
  refine ev_iconst dX10_put_0 (k := ?_)
  refine ev_istore_n [(3, .inl (0)), (0, .inr (.inr (some (10, 0)))), (1, .inl (l1)), (2, .inl (l2))] dX10_put_1 (k := ?_)
  refine ev_lv [1, 2, 3, 0] [(0, .inr (.inr (some (10, 0)))), (1, .inl (l1)), (2, .inl (l2)), (3, .inl (0))] (k := ?_)
  exact E10_put_2 j_fu l1 l2 0 h _ H
-- X10_putFlag
abbrev T10_putFlag : JT := (RX10, cX10_putFlag, 2, none, false)
set_option maxRecDepth 100000 in
set_option maxHeartbeats 4000000 in
theorem E10_putFlag_24 (k2 : Int → JM → Option JM) (hk2 : ∀ (l1 : Int) (h : JM) (res : JM), k2 l1 h = some res → Ev j_W1 2 0 0 T10_putFlag 2 [(0, .inr (.inr (some (10, 0)))), (1, .inl (l1))] [] h none res) (l1 : Int) (s0 : Option Int) (s1 : Int) (h : JM) (res : JM) (H : F10_putFlag_24 k2 l1 s0 s1 h = some res) : Ev j_W1 2 0 0 T10_putFlag 24 [(0, .inr (.inr (some (10, 0)))), (1, .inl (l1))] [.inl (s1), .inr (.inr (Option.map (Prod.mk 10) (s0)))] h none res := by
  unfold F10_putFlag_24 at H
  obtain ⟨a1, ea1, H1⟩ := bd_e H
  clear H
  obtain ⟨hz, H2⟩ := g_e H1
  clear H1
  rw [ea1, hz]
  obtain ⟨h2, hq, H3⟩ := bd_e H2
  clear H2
  refine ev_callV (mc := 0) (ms := 0) (st := []) (C10_putBit hq) md_X10_putBit im_X10_putBit se_X10_putBit ml_X10_62 dX10_putFlag_24 _ (by decide) (K := ?_)
  refine ev_iinc 1 [(1, .inl (w32 (l1 + 1))), (0, .inr (.inr (some (10, 0))))] dX10_putFlag_27 (k := ?_)
  refine ev_goto 2 dX10_putFlag_30 (k := ?_)
  refine ev_lv [1, 0] [(0, .inr (.inr (some (10, 0)))), (1, .inl (w32 (l1 + 1)))] (k := ?_)
  exact hk2 (w32 (l1 + 1)) h2 _ H3
set_option maxRecDepth 100000 in
set_option maxHeartbeats 4000000 in
theorem E10_putFlag_19 (k2 : Int → JM → Option JM) (hk2 : ∀ (l1 : Int) (h : JM) (res : JM), k2 l1 h = some res → Ev j_W1 2 0 0 T10_putFlag 2 [(0, .inr (.inr (some (10, 0)))), (1, .inl (l1))] [] h none res) (l1 : Int) (s0 : Option Int) (h : JM) (res : JM) (H : F10_putFlag_19 k2 l1 s0 h = some res) : Ev j_W1 2 0 0 T10_putFlag 19 [(0, .inr (.inr (some (10, 0)))), (1, .inl (l1))] [.inr (.inr (Option.map (Prod.mk 10) (s0)))] h none res := by
  unfold F10_putFlag_19 at H
  refine ev_iconst dX10_putFlag_19 (k := ?_)
  refine ev_goto 24 dX10_putFlag_20 (k := ?_)
  exact E10_putFlag_24 k2 hk2 l1 s0 0 h _ H
set_option maxRecDepth 100000 in
set_option maxHeartbeats 4000000 in
theorem E10_putFlag_2b (k2 : Int → JM → Option JM) (hk2 : ∀ (l1 : Int) (h : JM) (res : JM), k2 l1 h = some res → Ev j_W1 2 0 0 T10_putFlag 2 [(0, .inr (.inr (some (10, 0)))), (1, .inl (l1))] [] h none res) (l1 : Int) (h : JM) (res : JM) (H : F10_putFlag_2b k2 l1 h = some res) : Ev j_W1 2 0 0 T10_putFlag 2 [(0, .inr (.inr (some (10, 0)))), (1, .inl (l1))] [] h none res := by
  unfold F10_putFlag_2b at H
  refine ev_iload_n 1 dX10_putFlag_2 (k := ?_)
  refine ev_bipush dX10_putFlag_3 (k := ?_)
  refine ev_icmpge 33 dX10_putFlag_5 (kt := fun hc => ?_) (kf := fun hc => ?_)
  · replace H := if_pe hc H
    cases H
    exact ev_return dX10_putFlag_33
  · replace H := if_ne hc H
    refine ev_aload_n 0 dX10_putFlag_8 (k := ?_)
    refine ev_iload_n 1 dX10_putFlag_9 (k := ?_)
    refine ev_ifeq 19 dX10_putFlag_10 (kt := fun hc => ?_) (kf := fun hc => ?_)
    · replace H := if_pe hc H
      exact E10_putFlag_19 k2 hk2 l1 (some 0) h _ H
    · replace H := if_ne hc H
      refine ev_iload_n 1 dX10_putFlag_13 (k := ?_)
      refine ev_bipush dX10_putFlag_14 (k := ?_)
      refine ev_icmpne 23 dX10_putFlag_16 (kt := fun hc => ?_) (kf := fun hc => ?_)
      · replace H := if_ne hc H
        refine ev_iconst dX10_putFlag_23 (k := ?_)
        exact E10_putFlag_24 k2 hk2 l1 (some 0) 1 h _ H
      · replace H := if_pe hc H
        exact E10_putFlag_19 k2 hk2 l1 (some 0) h _ H
theorem E10_putFlag_2 (n : Nat) : ∀ (l1 : Int) (h : JM) (res : JM), F10_putFlag_2 n l1 h = some res → Ev j_W1 2 0 0 T10_putFlag 2 [(0, .inr (.inr (some (10, 0)))), (1, .inl (l1))] [] h none res := by
  induction n with
  | zero =>
    intro l1 h res H
    cases H
  | succ n ih =>
    intro l1 h res H
    exact E10_putFlag_2b (F10_putFlag_2 n) ih l1 h res H
set_option maxRecDepth 100000 in
set_option maxHeartbeats 4000000 in
theorem C10_putFlag {h : JM} {res : JM} (H : F10_putFlag h = some res) : Cn j_W1 2 0 0 yX10_putFlag cX10_putFlag 2 none [.inr (.inr (some (10, 0)))] h none res := by
  refine Cn.by (own := RX10) (b := false) [(0, .inr (.inr (some (10, 0))))] rfl (fun z => by cases z) (by decide +kernel) (K := ?_)
  unfold F10_putFlag at H
  refine ev_iconst dX10_putFlag_0 (k := ?_)
  refine ev_istore_n [(1, .inl (0)), (0, .inr (.inr (some (10, 0))))] dX10_putFlag_1 (k := ?_)
  refine ev_lv [1, 0] [(0, .inr (.inr (some (10, 0)))), (1, .inl (0))] (k := ?_)
  exact E10_putFlag_2 j_fu 0 h _ H
-- X10_readBody
abbrev T10_readBody : JT := (RX10, cX10_readBody, 4, some .boolean, false)
set_option maxRecDepth 100000 in
set_option maxHeartbeats 4000000 in
theorem E10_readBody_89 (k10 : Int → Int → JM → Option (Int × JM)) (hk10 : ∀ (l1 : Int) (l2 : Int) (h : JM) (res : (Int × JM)), k10 l1 l2 h = some res → Ev j_W1 2 0 0 T10_readBody 10 [(0, .inr (.inr (some (10, 0)))), (1, .inl (l1)), (2, .inl (l2))] [] h (some (.inl res.1)) res.2) (l1 : Int) (l2 : Int) (h : JM) (res : (Int × JM)) (H : F10_readBody_89 k10 l1 l2 h = some res) : Ev j_W1 2 0 0 T10_readBody 89 [(0, .inr (.inr (some (10, 0)))), (1, .inl (l1)), (2, .inl (l2))] [] h (some (.inl res.1)) res.2 := by
  unfold F10_readBody_89 at H
  refine ev_iinc 2 [(2, .inl (w32 (l2 + 1))), (0, .inr (.inr (some (10, 0)))), (1, .inl (l1))] dX10_readBody_89 (k := ?_)
  refine ev_goto 10 dX10_readBody_92 (k := ?_)
  refine ev_lv [1, 2, 0] [(0, .inr (.inr (some (10, 0)))), (1, .inl (l1)), (2, .inl (w32 (l2 + 1)))] (k := ?_)
  exact hk10 l1 (w32 (l2 + 1)) h _ H
set_option maxRecDepth 100000 in
set_option maxHeartbeats 4000000 in
theorem E10_readBody_88 (k10 : Int → Int → JM → Option (Int × JM)) (hk10 : ∀ (l1 : Int) (l2 : Int) (h : JM) (res : (Int × JM)), k10 l1 l2 h = some res → Ev j_W1 2 0 0 T10_readBody 10 [(0, .inr (.inr (some (10, 0)))), (1, .inl (l1)), (2, .inl (l2))] [] h (some (.inl res.1)) res.2) (l2 : Int) (s0 : Int) (h : JM) (res : (Int × JM)) (H : F10_readBody_88 k10 l2 s0 h = some res) : Ev j_W1 2 0 0 T10_readBody 88 [(0, .inr (.inr (some (10, 0)))), (2, .inl (l2))] [.inl (s0)] h (some (.inl res.1)) res.2 := by
  unfold F10_readBody_88 at H
  refine ev_istore_n [(1, .inl (s0)), (0, .inr (.inr (some (10, 0)))), (2, .inl (l2))] dX10_readBody_88 (k := ?_)
  refine ev_lv [1, 0, 2] [(0, .inr (.inr (some (10, 0)))), (1, .inl (s0)), (2, .inl (l2))] (k := ?_)
  exact E10_readBody_89 k10 hk10 s0 l2 h _ H
set_option maxRecDepth 100000 in
set_option maxHeartbeats 4000000 in
theorem E10_readBody_10b (k10 : Int → Int → JM → Option (Int × JM)) (hk10 : ∀ (l1 : Int) (l2 : Int) (h : JM) (res : (Int × JM)), k10 l1 l2 h = some res → Ev j_W1 2 0 0 T10_readBody 10 [(0, .inr (.inr (some (10, 0)))), (1, .inl (l1)), (2, .inl (l2))] [] h (some (.inl res.1)) res.2) (l1 : Int) (l2 : Int) (h : JM) (res : (Int × JM)) (H : F10_readBody_10b k10 l1 l2 h = some res) : Ev j_W1 2 0 0 T10_readBody 10 [(0, .inr (.inr (some (10, 0)))), (1, .inl (l1)), (2, .inl (l2))] [] h (some (.inl res.1)) res.2 := by
  unfold F10_readBody_10b at H
  refine ev_iload_n 2 dX10_readBody_10 (k := ?_)
  refine ev_bipush dX10_readBody_11 (k := ?_)
  refine ev_iadd dX10_readBody_13 (k := ?_)
  refine ev_aload_n 0 dX10_readBody_14 (k := ?_)
  refine ev_getI (x := h.1 10 0 1) fl_X10_18 dX10_readBody_15 (K := ?_)
  refine ev_icmpgt 95 dX10_readBody_18 (kt := fun hc => ?_) (kf := fun hc => ?_)
  · replace H := if_pe hc H
    refine ev_iconst dX10_readBody_95 (k := ?_)
    cases H
    exact ev_zreturn (Or.inl rfl) dX10_readBody_96
  · replace H := if_ne hc H
    refine ev_aload_n 0 dX10_readBody_21 (k := ?_)
    refine ev_iload_n 2 dX10_readBody_22 (k := ?_)
    obtain ⟨q1, hq, H1⟩ := bd_e H
    clear H
    refine ev_callV (mc := 0) (ms := 0) (st := []) (C10_isFlag hq) md_X10_isFlag im_X10_isFlag se_X10_isFlag ml_X10_71 dX10_readBody_23 _ (by decide) (K := ?_)
    refine ev_ifeq 31 dX10_readBody_26 (kt := fun hc => ?_) (kf := fun hc => ?_)
    · replace H1 := if_pe hc H1
      refine ev_aload_n 0 dX10_readBody_31 (k := ?_)
      refine ev_getR (t := 36) (x := some (36, 0)) fl_X10_9 dX10_readBody_32 (hx := ry_10_0 _ _) (K := ?_)
      refine ev_iload_n 2 dX10_readBody_35 (k := ?_)
      obtain ⟨⟨hi0, hi1⟩, H2⟩ := g_e H1
      clear H1
      refine ev_baload (k := 36) hi0 hi1 dX10_readBody_36 (hc := ac_36) (hlen := ln_36 _ _) (K := ?_)
      obtain ⟨x2, ex2, H3⟩ := lt_e H2
      clear H2
      refine ev_topI ex2 ?_
      refine ev_istore_n [(3, .inl (x2)), (0, .inr (.inr (some (10, 0)))), (1, .inl (l1)), (2, .inl (l2))] dX10_readBody_37 (k := ?_)
      refine ev_iload_n 2 dX10_readBody_38 (k := ?_)
      refine ev_iconst dX10_readBody_39 (k := ?_)
      refine ev_icmpne 55 dX10_readBody_40 (kt := fun hc => ?_) (kf := fun hc => ?_)
      · replace H3 := if_ne hc H3
        refine ev_aload_n 1 dX10_readBody_55 (k := ?_)
        refine ev_getR (t := 37) (x := some (37, 0)) fl_X10_15 dX10_readBody_56 (hx := ry_10_4 _ _) (K := ?_)
        refine ev_aload_n 1 dX10_readBody_59 (k := ?_)
        refine ev_getI (x := q1.2.1 10 0 5) fl_X10_79 dX10_readBody_60 (K := ?_)
        refine ev_iload_n 0 dX10_readBody_63 (k := ?_)
        refine ev_i2b dX10_readBody_64 (k := ?_)
        obtain ⟨⟨hi0, hi1⟩, H4⟩ := g_e H3
        clear H3
        obtain ⟨h3, eh3, H5⟩ := lt_e H4
        clear H4
        refine ev_bastore (k := 37) j_ok1 hi0 hi1 eh3 dX10_readBody_65 (hc := ac_37) (hlen := ln_37 _ _) (K := ?_)
        refine ev_aload_n 1 dX10_readBody_66 (k := ?_)
        refine ev_dup dX10_readBody_67 (k := ?_)
        refine ev_getI (x := h3.1 10 0 5) fl_X10_79 dX10_readBody_68 (K := ?_)
        refine ev_iconst dX10_readBody_71 (k := ?_)
        refine ev_iadd dX10_readBody_72 (k := ?_)
        obtain ⟨h4, eh4, H6⟩ := lt_e H5
        clear H5
        refine ev_putI j_ok1 fl_X10_79 eh4 dX10_readBody_73 (K := ?_)
        refine ev_iload_n 0 dX10_readBody_76 (k := ?_)
        refine ev_iconst dX10_readBody_77 (k := ?_)
        refine ev_icmpne 87 dX10_readBody_78 (kt := fun hc => ?_) (kf := fun hc => ?_)
        · replace H6 := if_ne hc H6
          refine ev_iconst dX10_readBody_87 (k := ?_)
          refine ev_lv [1, 3] [(0, .inr (.inr (some (10, 0)))), (2, .inl (l2))] (k := ?_)
          exact E10_readBody_88 k10 hk10 l2 0 h4 _ H6
        · replace H6 := if_pe hc H6
          refine ev_iload_n 2 dX10_readBody_81 (k := ?_)
          refine ev_iconst dX10_readBody_82 (k := ?_)
          refine ev_iadd dX10_readBody_83 (k := ?_)
          refine ev_goto 88 dX10_readBody_84 (k := ?_)
          refine ev_lv [1, 3] [(0, .inr (.inr (some (10, 0)))), (2, .inl (l2))] (k := ?_)
          exact E10_readBody_88 k10 hk10 l2 (w32 (l1 + 1)) h4 _ H6
      · replace H3 := if_pe hc H3
        refine ev_iload_n 0 dX10_readBody_43 (k := ?_)
        refine ev_iconst dX10_readBody_44 (k := ?_)
        refine ev_icmpne 50 dX10_readBody_45 (kt := fun hc => ?_) (kf := fun hc => ?_)
        · replace H3 := if_ne hc H3
          refine ev_iconst dX10_readBody_50 (k := ?_)
          refine ev_istore_n [(1, .inl (0)), (3, .inl (x2)), (0, .inr (.inr (some (10, 0)))), (2, .inl (l2))] dX10_readBody_51 (k := ?_)
          refine ev_goto 89 dX10_readBody_52 (k := ?_)
          refine ev_lv [2, 0, 3] [(0, .inr (.inr (some (10, 0)))), (1, .inl (0)), (2, .inl (l2))] (k := ?_)
          exact E10_readBody_89 k10 hk10 0 l2 q1.2 _ H3
        · replace H3 := if_pe hc H3
          refine ev_iconst dX10_readBody_48 (k := ?_)
          cases H3
          exact ev_zreturn (Or.inl rfl) dX10_readBody_49
    · replace H1 := if_ne hc H1
      refine ev_iconst dX10_readBody_29 (k := ?_)
      cases H1
      exact ev_zreturn (Or.inr rfl) dX10_readBody_30
theorem E10_readBody_10 (n : Nat) : ∀ (l1 : Int) (l2 : Int) (h : JM) (res : (Int × JM)), F10_readBody_10 n l1 l2 h = some res → Ev j_W1 2 0 0 T10_readBody 10 [(0, .inr (.inr (some (10, 0)))), (1, .inl (l1)), (2, .inl (l2))] [] h (some (.inl res.1)) res.2 := by
  induction n with
  | zero =>
    intro l1 l2 h res H
    cases H
  | succ n ih =>
    intro l1 l2 h res H
    exact E10_readBody_10b (F10_readBody_10 n) ih l1 l2 h res H
set_option maxRecDepth 100000 in
set_option maxHeartbeats 4000000 in
theorem C10_readBody {h : JM} {res : (Int × JM)} (H : F10_readBody h = some res) : Cn j_W1 2 0 0 yX10_readBody cX10_readBody 4 (some .boolean) [.inr (.inr (some (10, 0)))] h (some (.inl res.1)) res.2 := by
  refine Cn.by (own := RX10) (b := false) [(0, .inr (.inr (some (10, 0))))] rfl (fun z => by cases z) (by decide +kernel) (K := ?_)
  unfold F10_readBody at H
  refine ev_aload_n 0 dX10_readBody_0 (k := ?_)
  refine ev_iconst dX10_readBody_1 (k := ?_)
  obtain ⟨h5, eh5, H1⟩ := lt_e H
  clear H
  refine ev_putI j_ok1 fl_X10_79 eh5 dX10_readBody_2 (K := ?_)
  refine ev_iconst dX10_readBody_5 (k := ?_)
  refine ev_istore_n [(1, .inl (0)), (0, .inr (.inr (some (10, 0))))] dX10_readBody_6 (k := ?_)
  refine ev_bipush dX10_readBody_7 (k := ?_)
  refine ev_istore_n [(2, .inl (8)), (1, .inl (0)), (0, .inr (.inr (some (10, 0))))] dX10_readBody_9 (k := ?_)
  refine ev_lv [2, 1, 0] [(0, .inr (.inr (some (10, 0)))), (1, .inl (0)), (2, .inl (8))] (k := ?_)
  exact E10_readBody_10 j_fu 0 8 h5 _ H1
-- X10_readByte
abbrev T10_readByte : JT := (RX10, cX10_readByte, 2, some .int, false)
set_option maxRecDepth 100000 in
set_option maxHeartbeats 4000000 in
theorem C10_readByte {l1 : Int} {h : JM} {res : (Int × JM)} (H : F10_readByte l1 h = some res) : Cn j_W1 2 0 0 yX10_readByte cX10_readByte 2 (some .int) [.inr (.inr (some (10, 0))), .inl (l1)] h (some (.inl res.1)) res.2 := by
  refine Cn.by (own := RX10) (b := false) [(0, .inr (.inr (some (10, 0)))), (1, .inl (l1))] rfl (fun z => by cases z) (by decide +kernel) (K := ?_)
  unfold F10_readByte at H
  refine ev_aload_n 0 dX10_readByte_0 (k := ?_)
  refine ev_bipush dX10_readByte_1 (k := ?_)
  refine ev_bipush dX10_readByte_3 (k := ?_)
  refine ev_iload_n 1 dX10_readByte_5 (k := ?_)
  refine ev_imul dX10_readByte_6 (k := ?_)
  refine ev_iadd dX10_readByte_7 (k := ?_)
  refine ev_bipush dX10_readByte_8 (k := ?_)
  obtain ⟨q1, hq, H1⟩ := bd_e H
  clear H
  refine ev_callV (mc := 0) (ms := 0) (st := []) (C10_number hq) md_X10_number im_X10_number se_X10_number ml_X10_82 dX10_readByte_10 _ (by decide) (K := ?_)
  cases H1
  exact ev_ireturn dX10_readByte_13
-- X11_withKey
abbrev T11_withKey : JT := (RX11, cX11_withKey, 4, some .long, false)
set_option maxRecDepth 100000 in
set_option maxHeartbeats 4000000 in
theorem C11_withKey {l0 : Int} {l2 : Int} {h : JM} {res : (Int × JM)} (H : F11_withKey l0 l2 h = some res) : Cn j_W1 2 0 0 yX11_withKey cX11_withKey 4 (some .long) [.inr (.inl (l0)), .inl (l2)] h (some (.inr (.inl res.1))) res.2 := by
  refine Cn.by (own := RX11) (b := false) [(0, .inr (.inl (l0))), (2, .inl (l2))] rfl (fun z => by cases z) (by decide +kernel) (K := ?_)
  unfold F11_withKey at H
  refine ev_lload_n 0 dX11_withKey_0 (k := ?_)
  obtain ⟨q1, hq, H1⟩ := bd_e H
  clear H
  refine ev_callS (mc := 0) (ms := 0) (st := []) (C11_countOf hq) md_X11_countOf ss_X11_countOf ml_X11_83 dX11_withKey_1 _ (by decide) (K := ?_)
  refine ev_istore_n [(3, .inl (q1.1)), (0, .inr (.inl (l0))), (2, .inl (l2))] dX11_withKey_4 (k := ?_)
  refine ev_lload_n 1 dX11_withKey_5 (k := ?_)
  refine ev_ldc2 (n := 281474976710655) cl_X11_321 dX11_withKey_6 (k := ?_)
  refine ev_land dX11_withKey_9 (k := ?_)
  refine ev_iload_n 2 dX11_withKey_10 (k := ?_)
  refine ev_i2l dX11_withKey_11 (k := ?_)
  refine ev_iconst dX11_withKey_12 (k := ?_)
  refine ev_iload_n 0 dX11_withKey_13 (k := ?_)
  refine ev_imul dX11_withKey_14 (k := ?_)
  refine ev_lshl dX11_withKey_15 (k := ?_)
  refine ev_lor dX11_withKey_16 (k := ?_)
  refine ev_iload_n 0 dX11_withKey_17 (k := ?_)
  refine ev_iconst dX11_withKey_18 (k := ?_)
  refine ev_iadd dX11_withKey_19 (k := ?_)
  refine ev_i2l dX11_withKey_20 (k := ?_)
  refine ev_bipush dX11_withKey_21 (k := ?_)
  refine ev_lshl dX11_withKey_23 (k := ?_)
  refine ev_lor dX11_withKey_24 (k := ?_)
  cases H1
  exact ev_lreturn dX11_withKey_25
-- X10_readIam
abbrev T10_readIam : JT := (RX10, cX10_readIam, 9, some .long, false)
set_option maxRecDepth 100000 in
set_option maxHeartbeats 4000000 in
theorem E10_readIam_46b (k46 : Int → Int → Int → Int → Int → JM → Option (Int × JM)) (hk46 : ∀ (l2 : Int) (l3 : Int) (l4 : Int) (l5 : Int) (l7 : Int) (h : JM) (res : (Int × JM)), k46 l2 l3 l4 l5 l7 h = some res → Ev j_W1 3 0 0 T10_readIam 46 [(0, .inr (.inr (some (10, 0)))), (2, .inl (l2)), (3, .inl (l3)), (4, .inl (l4)), (5, .inr (.inl (l5))), (7, .inl (l7))] [] h (some (.inr (.inl res.1))) res.2) (l2 : Int) (l3 : Int) (l4 : Int) (l5 : Int) (l7 : Int) (h : JM) (res : (Int × JM)) (H : F10_readIam_46b k46 l2 l3 l4 l5 l7 h = some res) : Ev j_W1 3 0 0 T10_readIam 46 [(0, .inr (.inr (some (10, 0)))), (2, .inl (l2)), (3, .inl (l3)), (4, .inl (l4)), (5, .inr (.inl (l5))), (7, .inl (l7))] [] h (some (.inr (.inl res.1))) res.2 := by
  unfold F10_readIam_46b at H
  refine ev_iload 5 dX10_readIam_46 (k := ?_)
  refine ev_iload 3 dX10_readIam_48 (k := ?_)
  refine ev_icmpge 87 dX10_readIam_50 (kt := fun hc => ?_) (kf := fun hc => ?_)
  · replace H := if_pe hc H
    refine ev_iconst dX10_readIam_87 (k := ?_)
    refine ev_iload_n 1 dX10_readIam_88 (k := ?_)
    refine ev_iload_n 2 dX10_readIam_89 (k := ?_)
    refine ev_lload 4 dX10_readIam_90 (k := ?_)
    obtain ⟨q1, hq, H1⟩ := bd_e H
    clear H
    refine ev_callS (mc := 0) (ms := 0) (st := [.inl (l2), .inl (1)]) (C9_packIam hq) md_X9_packIam ss_X9_packIam ml_X10_106 dX10_readIam_92 _ (by decide) (K := ?_)
    obtain ⟨q2, hq, H2⟩ := bd_e H1
    clear H1
    refine ev_callS (mc := 0) (ms := 0) (st := []) (C9_pack hq) md_X9_pack ss_X9_pack ml_X10_98 dX10_readIam_95 _ (by decide) (K := ?_)
    cases H2
    exact ev_lreturn dX10_readIam_98
  · replace H := if_ne hc H
    refine ev_aload_n 0 dX10_readIam_53 (k := ?_)
    refine ev_iconst dX10_readIam_54 (k := ?_)
    refine ev_iload 5 dX10_readIam_55 (k := ?_)
    refine ev_iadd dX10_readIam_57 (k := ?_)
    obtain ⟨q3, hq, H1⟩ := bd_e H
    clear H
    refine ev_callV (mc := 0) (ms := 0) (st := []) (C10_readByte hq) md_X10_readByte im_X10_readByte se_X10_readByte ml_X10_91 dX10_readIam_58 _ (by decide) (K := ?_)
    refine ev_istore [(8, .inl (q3.1)), (0, .inr (.inr (some (10, 0)))), (2, .inl (l2)), (3, .inl (l3)), (4, .inl (l4)), (5, .inr (.inl (l5))), (7, .inl (l7))] dX10_readIam_61 (k := ?_)
    refine ev_iload 0 dX10_readIam_63 (k := ?_)
    refine ev_bipush dX10_readIam_65 (k := ?_)
    refine ev_icmplt 72 dX10_readIam_67 (kt := fun hc => ?_) (kf := fun hc => ?_)
    · replace H1 := if_pe hc H1
      refine ev_lload 5 dX10_readIam_72 (k := ?_)
      refine ev_iload 0 dX10_readIam_74 (k := ?_)
      obtain ⟨q4, hq, H2⟩ := bd_e H1
      clear H1
      refine ev_callSN (mc := 0) (ms := 0) (st := []) (C11_withKey hq) md_X11_withKey ss_X11_withKey ml_X10_102 dX10_readIam_76 _ (by decide) (K := ?_)
      refine ev_lstore [(5, .inr (.inl (q4.1))), (8, .inl (q3.1)), (0, .inr (.inr (some (10, 0)))), (2, .inl (l2)), (3, .inl (l3)), (4, .inl (l4)), (7, .inl (l7))] dX10_readIam_79 (k := ?_)
      refine ev_iinc 6 [(7, .inl (w32 (l7 + 1))), (5, .inr (.inl (q4.1))), (8, .inl (q3.1)), (0, .inr (.inr (some (10, 0)))), (2, .inl (l2)), (3, .inl (l3)), (4, .inl (l4))] dX10_readIam_81 (k := ?_)
      refine ev_goto 46 dX10_readIam_84 (k := ?_)
      refine ev_lv [3, 4, 5, 6, 1, 0] [(0, .inr (.inr (some (10, 0)))), (2, .inl (l2)), (3, .inl (l3)), (4, .inl (l4)), (5, .inr (.inl (q4.1))), (7, .inl (w32 (l7 + 1)))] (k := ?_)
      exact hk46 l2 l3 l4 q4.1 (w32 (l7 + 1)) q4.2 _ H2
    · replace H1 := if_ne hc H1
      refine ev_lconst (v := 0) dX10_readIam_70 (k := ?_)
      cases H1
      exact ev_lreturn dX10_readIam_71
theorem E10_readIam_46 (n : Nat) : ∀ (l2 : Int) (l3 : Int) (l4 : Int) (l5 : Int) (l7 : Int) (h : JM) (res : (Int × JM)), F10_readIam_46 n l2 l3 l4 l5 l7 h = some res → Ev j_W1 3 0 0 T10_readIam 46 [(0, .inr (.inr (some (10, 0)))), (2, .inl (l2)), (3, .inl (l3)), (4, .inl (l4)), (5, .inr (.inl (l5))), (7, .inl (l7))] [] h (some (.inr (.inl res.1))) res.2 := by
  induction n with
  | zero =>
    intro l2 l3 l4 l5 l7 h res H
    cases H
  | succ n ih =>
    intro l2 l3 l4 l5 l7 h res H
    exact E10_readIam_46b (F10_readIam_46 n) ih l2 l3 l4 l5 l7 h res H
set_option maxRecDepth 100000 in
set_option maxHeartbeats 4000000 in
theorem E10_readIam_38 (h : JM) (res : (Int × JM)) (H : F10_readIam_38 h = some res) : Ev j_W1 3 0 0 T10_readIam 38 [] [] h (some (.inr (.inl res.1))) res.2 := by
  unfold F10_readIam_38 at H
  refine ev_lconst (v := 0) dX10_readIam_38 (k := ?_)
  cases H
  exact ev_lreturn dX10_readIam_39
set_option maxRecDepth 100000 in
set_option maxHeartbeats 4000000 in
theorem C10_readIam {l1 : Int} {l2 : Int} {h : JM} {res : (Int × JM)} (H : F10_readIam l1 l2 h = some res) : Cn j_W1 3 0 0 yX10_readIam cX10_readIam 9 (some .long) [.inr (.inr (some (10, 0))), .inl (l1), .inl (l2)] h (some (.inr (.inl res.1))) res.2 := by
  refine Cn.by (own := RX10) (b := false) [(0, .inr (.inr (some (10, 0)))), (1, .inl (l1)), (2, .inl (l2))] rfl (fun z => by cases z) (by decide +kernel) (K := ?_)
  unfold F10_readIam at H
  refine ev_aload_n 0 dX10_readIam_0 (k := ?_)
  refine ev_iconst dX10_readIam_1 (k := ?_)
  obtain ⟨q5, hq, H1⟩ := bd_e H
  clear H
  refine ev_callV (mc := 0) (ms := 0) (st := []) (C10_readByte hq) md_X10_readByte im_X10_readByte se_X10_readByte ml_X10_91 dX10_readIam_2 _ (by decide) (K := ?_)
  refine ev_istore_n [(3, .inl (q5.1)), (0, .inr (.inr (some (10, 0)))), (1, .inl (l1)), (2, .inl (l2))] dX10_readIam_5 (k := ?_)
  refine ev_aload_n 1 dX10_readIam_6 (k := ?_)
  refine ev_iconst dX10_readIam_7 (k := ?_)
  obtain ⟨q6, hq, H2⟩ := bd_e H1
  clear H1
  refine ev_callV (mc := 0) (ms := 0) (st := []) (C10_readByte hq) md_X10_readByte im_X10_readByte se_X10_readByte ml_X10_91 dX10_readIam_8 _ (by decide) (K := ?_)
  refine ev_istore [(4, .inl (q6.1)), (3, .inl (q5.1)), (0, .inr (.inr (some (10, 0)))), (1, .inl (l1)), (2, .inl (l2))] dX10_readIam_11 (k := ?_)
  refine ev_iload_n 3 dX10_readIam_13 (k := ?_)
  refine ev_iconst dX10_readIam_14 (k := ?_)
  refine ev_icmplt 38 dX10_readIam_15 (kt := fun hc => ?_) (kf := fun hc => ?_)
  · replace H2 := if_pe hc H2
    refine ev_lv [] [] (k := ?_)
    exact E10_readIam_38 q6.2 _ H2
  · replace H2 := if_ne hc H2
    refine ev_iload_n 1 dX10_readIam_18 (k := ?_)
    refine ev_iconst dX10_readIam_19 (k := ?_)
    refine ev_icmpgt 38 dX10_readIam_20 (kt := fun hc => ?_) (kf := fun hc => ?_)
    · replace H2 := if_pe hc H2
      refine ev_lv [] [] (k := ?_)
      exact E10_readIam_38 q6.2 _ H2
    · replace H2 := if_ne hc H2
      refine ev_iload 0 dX10_readIam_23 (k := ?_)
      refine ev_bipush dX10_readIam_25 (k := ?_)
      refine ev_icmpgt 38 dX10_readIam_27 (kt := fun hc => ?_) (kf := fun hc => ?_)
      · replace H2 := if_pe hc H2
        refine ev_lv [] [] (k := ?_)
        exact E10_readIam_38 q6.2 _ H2
      · replace H2 := if_ne hc H2
        refine ev_iload_n 3 dX10_readIam_30 (k := ?_)
        refine ev_iconst dX10_readIam_31 (k := ?_)
        refine ev_iload 0 dX10_readIam_32 (k := ?_)
        refine ev_iadd dX10_readIam_34 (k := ?_)
        refine ev_icmpeq 40 dX10_readIam_35 (kt := fun hc => ?_) (kf := fun hc => ?_)
        · replace H2 := if_pe hc H2
          refine ev_lconst (v := 0) dX10_readIam_40 (k := ?_)
          refine ev_lstore [(5, .inr (.inl (0))), (4, .inl (q6.1)), (3, .inl (q5.1)), (0, .inr (.inr (some (10, 0)))), (1, .inl (l1)), (2, .inl (l2))] dX10_readIam_41 (k := ?_)
          refine ev_iconst dX10_readIam_43 (k := ?_)
          refine ev_istore [(7, .inl (0)), (5, .inr (.inl (0))), (4, .inl (q6.1)), (3, .inl (q5.1)), (0, .inr (.inr (some (10, 0)))), (1, .inl (l1)), (2, .inl (l2))] dX10_readIam_44 (k := ?_)
          refine ev_lv [4, 6, 3, 2, 1, 0] [(0, .inr (.inr (some (10, 0)))), (2, .inl (l2)), (3, .inl (q5.1)), (4, .inl (q6.1)), (5, .inr (.inl (0))), (7, .inl (0))] (k := ?_)
          exact E10_readIam_46 j_fu l2 q5.1 q6.1 0 0 q6.2 _ H2
        · replace H2 := if_ne hc H2
          refine ev_lv [] [] (k := ?_)
          exact E10_readIam_38 q6.2 _ H2
