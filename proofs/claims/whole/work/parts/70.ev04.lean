-- X10_readMessage
abbrev T10_readMessage : JT := (RX10, cX10_readMessage, 5, some .long, false)
set_option maxRecDepth 100000 in
set_option maxHeartbeats 4000000 in
theorem E10_readMessage_31 (h : JM) (res : (Int × JM)) (H : F10_readMessage_31 h = some res) : Ev j_W1 4 0 0 T10_readMessage 31 [] [] h (some (.inr (.inl res.1))) res.2 := by
  unfold F10_readMessage_31 at H
  refine ev_lconst (v := 0) dX10_readMessage_31 (k := ?_)
  cases H
  exact ev_lreturn dX10_readMessage_32
set_option maxRecDepth 100000 in
set_option maxHeartbeats 4000000 in
theorem C10_readMessage {l1 : Int} {l2 : Int} {h : JM} {res : (Int × JM)} (H : F10_readMessage l1 l2 h = some res) : Cn j_W1 4 0 0 yX10_readMessage cX10_readMessage 5 (some .long) [.inr (.inr (some (10, 0))), .inl (l1), .inl (l2)] h (some (.inr (.inl res.1))) res.2 := by
  refine Cn.by (own := RX10) (b := false) [(0, .inr (.inr (some (10, 0)))), (1, .inl (l1)), (2, .inl (l2))] rfl (fun z => by cases z) (by decide +kernel) (K := ?_)
  unfold F10_readMessage at H
  refine ev_iload_n 1 dX10_readMessage_0 (k := ?_)
  refine ev_ifne 8 dX10_readMessage_1 (kt := fun hc => ?_) (kf := fun hc => ?_)
  · replace H := if_ne hc H
    refine ev_aload_n 0 dX10_readMessage_8 (k := ?_)
    refine ev_iconst dX10_readMessage_9 (k := ?_)
    obtain ⟨q1, hq, H1⟩ := bd_e H
    clear H
    refine ev_callV (mc := 0) (ms := 0) (st := []) (C10_readByte hq) md_X10_readByte im_X10_readByte se_X10_readByte ml_X10_91 dX10_readMessage_10 _ (by decide) (K := ?_)
    refine ev_istore_n [(3, .inl (q1.1)), (0, .inr (.inr (some (10, 0)))), (1, .inl (l1)), (2, .inl (l2))] dX10_readMessage_13 (k := ?_)
    refine ev_aload_n 1 dX10_readMessage_14 (k := ?_)
    refine ev_iconst dX10_readMessage_15 (k := ?_)
    obtain ⟨q2, hq, H2⟩ := bd_e H1
    clear H1
    refine ev_callV (mc := 0) (ms := 0) (st := []) (C10_readByte hq) md_X10_readByte im_X10_readByte se_X10_readByte ml_X10_91 dX10_readMessage_16 _ (by decide) (K := ?_)
    refine ev_istore [(4, .inl (q2.1)), (3, .inl (q1.1)), (0, .inr (.inr (some (10, 0)))), (1, .inl (l1)), (2, .inl (l2))] dX10_readMessage_19 (k := ?_)
    refine ev_iload_n 3 dX10_readMessage_21 (k := ?_)
    refine ev_iconst dX10_readMessage_22 (k := ?_)
    refine ev_icmplt 31 dX10_readMessage_23 (kt := fun hc => ?_) (kf := fun hc => ?_)
    · replace H2 := if_pe hc H2
      refine ev_lv [] [] (k := ?_)
      exact E10_readMessage_31 q2.2 _ H2
    · replace H2 := if_ne hc H2
      refine ev_iload_n 1 dX10_readMessage_26 (k := ?_)
      refine ev_iload_n 4 dX10_readMessage_27 (k := ?_)
      refine ev_icmplt 33 dX10_readMessage_28 (kt := fun hc => ?_) (kf := fun hc => ?_)
      · replace H2 := if_pe hc H2
        refine ev_iload 0 dX10_readMessage_33 (k := ?_)
        by_cases hs0 : q2.1 = 1
        · replace H2 := if_pe hs0 H2
          refine ev_tableIn (off := 33) 68 dX10_readMessage_35 (by omega) (by omega) (by rw [hs0]; rfl) (k := ?_)
          refine ev_aload_n 2 dX10_readMessage_68 (k := ?_)
          refine ev_iload_n 3 dX10_readMessage_69 (k := ?_)
          refine ev_iload_n 1 dX10_readMessage_70 (k := ?_)
          obtain ⟨q3, hq, H3⟩ := bd_e H2
          clear H2
          refine ev_callV (mc := 0) (ms := 0) (st := []) (C10_readIam hq) md_X10_readIam im_X10_readIam se_X10_readIam ml_X10_95 dX10_readMessage_71 _ (by decide) (K := ?_)
          cases H3
          exact ev_lreturn dX10_readMessage_74
        · replace H2 := if_ne hs0 H2
          by_cases hs1 : q2.1 = 2
          · replace H2 := if_pe hs1 H2
            refine ev_tableIn (off := 62) 97 dX10_readMessage_35 (by omega) (by omega) (by rw [hs1]; rfl) (k := ?_)
            refine ev_iload_n 3 dX10_readMessage_97 (k := ?_)
            refine ev_iconst dX10_readMessage_98 (k := ?_)
            refine ev_icmpne 112 dX10_readMessage_99 (kt := fun hc => ?_) (kf := fun hc => ?_)
            · replace H2 := if_ne hc H2
              refine ev_lconst (v := 0) dX10_readMessage_112 (k := ?_)
              cases H2
              exact ev_lreturn dX10_readMessage_113
            · replace H2 := if_pe hc H2
              refine ev_iload 0 dX10_readMessage_102 (k := ?_)
              refine ev_iload_n 1 dX10_readMessage_104 (k := ?_)
              refine ev_lconst (v := 0) dX10_readMessage_105 (k := ?_)
              obtain ⟨q4, hq, H3⟩ := bd_e H2
              clear H2
              refine ev_callS (mc := 0) (ms := 0) (st := []) (C9_pack hq) md_X9_pack ss_X9_pack ml_X10_98 dX10_readMessage_106 _ (by decide) (K := ?_)
              refine ev_goto 113 dX10_readMessage_109 (k := ?_)
              cases H3
              exact ev_lreturn dX10_readMessage_113
          · replace H2 := if_ne hs1 H2
            by_cases hs2 : q2.1 = 3
            · replace H2 := if_pe hs2 H2
              refine ev_tableIn (off := 62) 97 dX10_readMessage_35 (by omega) (by omega) (by rw [hs2]; rfl) (k := ?_)
              refine ev_iload_n 3 dX10_readMessage_97 (k := ?_)
              refine ev_iconst dX10_readMessage_98 (k := ?_)
              refine ev_icmpne 112 dX10_readMessage_99 (kt := fun hc => ?_) (kf := fun hc => ?_)
              · replace H2 := if_ne hc H2
                refine ev_lconst (v := 0) dX10_readMessage_112 (k := ?_)
                cases H2
                exact ev_lreturn dX10_readMessage_113
              · replace H2 := if_pe hc H2
                refine ev_iload 0 dX10_readMessage_102 (k := ?_)
                refine ev_iload_n 1 dX10_readMessage_104 (k := ?_)
                refine ev_lconst (v := 0) dX10_readMessage_105 (k := ?_)
                obtain ⟨q5, hq, H3⟩ := bd_e H2
                clear H2
                refine ev_callS (mc := 0) (ms := 0) (st := []) (C9_pack hq) md_X9_pack ss_X9_pack ml_X10_98 dX10_readMessage_106 _ (by decide) (K := ?_)
                refine ev_goto 113 dX10_readMessage_109 (k := ?_)
                cases H3
                exact ev_lreturn dX10_readMessage_113
            · replace H2 := if_ne hs2 H2
              by_cases hs3 : q2.1 = 4
              · replace H2 := if_pe hs3 H2
                refine ev_tableIn (off := 40) 75 dX10_readMessage_35 (by omega) (by omega) (by rw [hs3]; rfl) (k := ?_)
                refine ev_iload_n 3 dX10_readMessage_75 (k := ?_)
                refine ev_iconst dX10_readMessage_76 (k := ?_)
                refine ev_icmpne 95 dX10_readMessage_77 (kt := fun hc => ?_) (kf := fun hc => ?_)
                · replace H2 := if_ne hc H2
                  refine ev_lconst (v := 0) dX10_readMessage_95 (k := ?_)
                  cases H2
                  exact ev_lreturn dX10_readMessage_96
                · replace H2 := if_pe hc H2
                  refine ev_iload 0 dX10_readMessage_80 (k := ?_)
                  refine ev_iload_n 1 dX10_readMessage_82 (k := ?_)
                  refine ev_aload_n 2 dX10_readMessage_83 (k := ?_)
                  refine ev_iconst dX10_readMessage_84 (k := ?_)
                  obtain ⟨q6, hq, H3⟩ := bd_e H2
                  clear H2
                  refine ev_callV (mc := 0) (ms := 0) (st := [.inl (q1.1), .inl (q2.1)]) (C10_readByte hq) md_X10_readByte im_X10_readByte se_X10_readByte ml_X10_91 dX10_readMessage_85 _ (by decide) (K := ?_)
                  refine ev_i2l dX10_readMessage_88 (k := ?_)
                  obtain ⟨q7, hq, H4⟩ := bd_e H3
                  clear H3
                  refine ev_callS (mc := 0) (ms := 0) (st := []) (C9_pack hq) md_X9_pack ss_X9_pack ml_X10_98 dX10_readMessage_89 _ (by decide) (K := ?_)
                  refine ev_goto 96 dX10_readMessage_92 (k := ?_)
                  cases H4
                  exact ev_lreturn dX10_readMessage_96
              · replace H2 := if_ne hs3 H2
                by_cases hs4 : q2.1 = 5
                · replace H2 := if_pe hs4 H2
                  refine ev_tableIn (off := 62) 97 dX10_readMessage_35 (by omega) (by omega) (by rw [hs4]; rfl) (k := ?_)
                  refine ev_iload_n 3 dX10_readMessage_97 (k := ?_)
                  refine ev_iconst dX10_readMessage_98 (k := ?_)
                  refine ev_icmpne 112 dX10_readMessage_99 (kt := fun hc => ?_) (kf := fun hc => ?_)
                  · replace H2 := if_ne hc H2
                    refine ev_lconst (v := 0) dX10_readMessage_112 (k := ?_)
                    cases H2
                    exact ev_lreturn dX10_readMessage_113
                  · replace H2 := if_pe hc H2
                    refine ev_iload 0 dX10_readMessage_102 (k := ?_)
                    refine ev_iload_n 1 dX10_readMessage_104 (k := ?_)
                    refine ev_lconst (v := 0) dX10_readMessage_105 (k := ?_)
                    obtain ⟨q8, hq, H3⟩ := bd_e H2
                    clear H2
                    refine ev_callS (mc := 0) (ms := 0) (st := []) (C9_pack hq) md_X9_pack ss_X9_pack ml_X10_98 dX10_readMessage_106 _ (by decide) (K := ?_)
                    refine ev_goto 113 dX10_readMessage_109 (k := ?_)
                    cases H3
                    exact ev_lreturn dX10_readMessage_113
                · replace H2 := if_ne hs4 H2
                  refine ev_tableOut 114 dX10_readMessage_35 (by omega) (k := ?_)
                  refine ev_lconst (v := 0) dX10_readMessage_114 (k := ?_)
                  cases H2
                  exact ev_lreturn dX10_readMessage_115
      · replace H2 := if_ne hc H2
        refine ev_lv [] [] (k := ?_)
        exact E10_readMessage_31 q2.2 _ H2
  · replace H := if_pe hc H
    refine ev_ldc2 (n := (-1)) cl_X10_89 dX10_readMessage_4 (k := ?_)
    cases H
    exact ev_lreturn dX10_readMessage_7
-- X10_read
abbrev T10_read : JT := (RX10, cX10_read, 6, some .boolean, false)
set_option maxRecDepth 100000 in
set_option maxHeartbeats 4000000 in
theorem E10_read_58b (k58 : Option Int → Int → Int → Int → Int → JM → Option (Int × JM)) (hk58 : ∀ (l1 : Option Int) (l2 : Int) (l3 : Int) (l4 : Int) (l5 : Int) (h : JM) (res : (Int × JM)), k58 l1 l2 l3 l4 l5 h = some res → Ev j_W1 5 0 0 T10_read 58 [(0, .inr (.inr (some (10, 0)))), (1, .inr (.inr (Option.map (Prod.mk 9) (l1)))), (2, .inl (l2)), (3, .inl (l3)), (4, .inl (l4)), (5, .inl (l5))] [] h (some (.inl res.1)) res.2) (l1 : Option Int) (l2 : Int) (l3 : Int) (l4 : Int) (l5 : Int) (h : JM) (res : (Int × JM)) (H : F10_read_58b k58 l1 l2 l3 l4 l5 h = some res) : Ev j_W1 5 0 0 T10_read 58 [(0, .inr (.inr (some (10, 0)))), (1, .inr (.inr (Option.map (Prod.mk 9) (l1)))), (2, .inl (l2)), (3, .inl (l3)), (4, .inl (l4)), (5, .inl (l5))] [] h (some (.inl res.1)) res.2 := by
  unfold F10_read_58b at H
  refine ev_iload 5 dX10_read_58 (k := ?_)
  refine ev_aload_n 0 dX10_read_60 (k := ?_)
  refine ev_getI (x := h.1 10 0 5) fl_X10_79 dX10_read_61 (K := ?_)
  refine ev_bipush dX10_read_64 (k := ?_)
  refine ev_isub dX10_read_66 (k := ?_)
  refine ev_icmpge 90 dX10_read_67 (kt := fun hc => ?_) (kf := fun hc => ?_)
  · replace H := if_pe hc H
    refine ev_aload_n 0 dX10_read_90 (k := ?_)
    refine ev_aload_n 0 dX10_read_91 (k := ?_)
    refine ev_getI (x := h.1 10 0 5) fl_X10_79 dX10_read_92 (K := ?_)
    refine ev_bipush dX10_read_95 (k := ?_)
    refine ev_isub dX10_read_97 (k := ?_)
    refine ev_bipush dX10_read_98 (k := ?_)
    obtain ⟨q1, hq, H1⟩ := bd_e H
    clear H
    refine ev_callV (mc := 0) (ms := 0) (st := []) (C10_number hq) md_X10_number im_X10_number se_X10_number ml_X10_82 dX10_read_100 _ (by decide) (K := ?_)
    refine ev_ldc (n := 65535) ct_X10_28 dX10_read_103 (k := ?_)
    refine ev_iload 4 dX10_read_105 (k := ?_)
    refine ev_isub dX10_read_107 (k := ?_)
    refine ev_icmpeq 113 dX10_read_108 (kt := fun hc => ?_) (kf := fun hc => ?_)
    · replace H1 := if_pe hc H1
      refine ev_aload_n 1 dX10_read_113 (k := ?_)
      refine ev_aload_n 0 dX10_read_114 (k := ?_)
      refine ev_iconst dX10_read_115 (k := ?_)
      refine ev_bipush dX10_read_116 (k := ?_)
      obtain ⟨q2, hq, H2⟩ := bd_e H1
      clear H1
      refine ev_callV (mc := 0) (ms := 0) (st := [.inr (.inr (Option.map (Prod.mk 9) (l1)))]) (C10_number hq) md_X10_number im_X10_number se_X10_number ml_X10_82 dX10_read_118 _ (by decide) (K := ?_)
      obtain ⟨a3, ea3, H3⟩ := bd_e H2
      clear H2
      rw [ea3]
      obtain ⟨h4, eh4, H4⟩ := lt_e H3
      clear H3
      refine ev_putI j_ok1 fl_X10_32 eh4 dX10_read_121 (K := ?_)
      refine ev_aload_n 1 dX10_read_124 (k := ?_)
      refine ev_aload_n 0 dX10_read_125 (k := ?_)
      refine ev_bipush dX10_read_126 (k := ?_)
      refine ev_iconst dX10_read_128 (k := ?_)
      obtain ⟨q5, hq, H5⟩ := bd_e H4
      clear H4
      refine ev_callV (mc := 0) (ms := 0) (st := [.inr (.inr (some (9, a3)))]) (C10_number hq) md_X10_number im_X10_number se_X10_number ml_X10_82 dX10_read_129 _ (by decide) (K := ?_)
      obtain ⟨h6, eh6, H6⟩ := lt_e H5
      clear H5
      refine ev_putI j_ok1 fl_X10_41 eh6 dX10_read_132 (K := ?_)
      refine ev_aload_n 1 dX10_read_135 (k := ?_)
      refine ev_aload_n 0 dX10_read_136 (k := ?_)
      refine ev_bipush dX10_read_137 (k := ?_)
      refine ev_bipush dX10_read_139 (k := ?_)
      obtain ⟨q7, hq, H7⟩ := bd_e H6
      clear H6
      refine ev_callV (mc := 0) (ms := 0) (st := [.inr (.inr (some (9, a3)))]) (C10_number hq) md_X10_number im_X10_number se_X10_number ml_X10_82 dX10_read_141 _ (by decide) (K := ?_)
      obtain ⟨h8, eh8, H8⟩ := lt_e H7
      clear H7
      refine ev_putI j_ok1 fl_X10_44 eh8 dX10_read_144 (K := ?_)
      refine ev_aload_n 1 dX10_read_147 (k := ?_)
      refine ev_aload_n 0 dX10_read_148 (k := ?_)
      refine ev_bipush dX10_read_149 (k := ?_)
      refine ev_iconst dX10_read_151 (k := ?_)
      obtain ⟨q9, hq, H9⟩ := bd_e H8
      clear H8
      refine ev_callV (mc := 0) (ms := 0) (st := [.inr (.inr (some (9, a3)))]) (C10_number hq) md_X10_number im_X10_number se_X10_number ml_X10_82 dX10_read_152 _ (by decide) (K := ?_)
      obtain ⟨h10, eh10, H10⟩ := lt_e H9
      clear H9
      refine ev_putI j_ok1 fl_X10_47 eh10 dX10_read_155 (K := ?_)
      refine ev_aload_n 1 dX10_read_158 (k := ?_)
      refine ev_aload_n 0 dX10_read_159 (k := ?_)
      refine ev_iload_n 3 dX10_read_160 (k := ?_)
      refine ev_iload_n 2 dX10_read_161 (k := ?_)
      obtain ⟨q11, hq, H11⟩ := bd_e H10
      clear H10
      refine ev_callV (mc := 0) (ms := 0) (st := [.inr (.inr (some (9, a3)))]) (C10_readMessage hq) md_X10_readMessage im_X10_readMessage se_X10_readMessage ml_X10_85 dX10_read_162 _ (by decide) (K := ?_)
      obtain ⟨h12, eh12, H12⟩ := lt_e H11
      clear H11
      refine ev_putL j_ok1 fl_X10_50 eh12 dX10_read_165 (K := ?_)
      refine ev_iconst dX10_read_168 (k := ?_)
      cases H12
      exact ev_zreturn (Or.inr rfl) dX10_read_169
    · replace H1 := if_ne hc H1
      refine ev_iconst dX10_read_111 (k := ?_)
      cases H1
      exact ev_zreturn (Or.inl rfl) dX10_read_112
  · replace H := if_ne hc H
    refine ev_iload 4 dX10_read_70 (k := ?_)
    refine ev_aload_n 0 dX10_read_72 (k := ?_)
    refine ev_getR (t := 37) (x := some (37, 0)) fl_X10_15 dX10_read_73 (hx := ry_10_4 _ _) (K := ?_)
    refine ev_iload 5 dX10_read_76 (k := ?_)
    obtain ⟨⟨hi0, hi1⟩, H1⟩ := g_e H
    clear H
    refine ev_baload (k := 37) hi0 hi1 dX10_read_78 (hc := ac_37) (hlen := ln_37 _ _) (K := ?_)
    obtain ⟨q13, hq, H2⟩ := bd_e H1
    clear H1
    refine ev_callS (mc := 0) (ms := 0) (st := []) (C10_stepCheck hq) md_X10_stepCheck ss_X10_stepCheck ml_X10_66 dX10_read_79 _ (by decide) (K := ?_)
    refine ev_istore [(4, .inl (q13.1)), (0, .inr (.inr (some (10, 0)))), (1, .inr (.inr (Option.map (Prod.mk 9) (l1)))), (2, .inl (l2)), (3, .inl (l3)), (5, .inl (l5))] dX10_read_82 (k := ?_)
    refine ev_iinc 5 [(5, .inl (w32 (l5 + 1))), (4, .inl (q13.1)), (0, .inr (.inr (some (10, 0)))), (1, .inr (.inr (Option.map (Prod.mk 9) (l1)))), (2, .inl (l2)), (3, .inl (l3))] dX10_read_84 (k := ?_)
    refine ev_goto 58 dX10_read_87 (k := ?_)
    refine ev_lv [2, 3, 4, 5, 1, 0] [(0, .inr (.inr (some (10, 0)))), (1, .inr (.inr (Option.map (Prod.mk 9) (l1)))), (2, .inl (l2)), (3, .inl (l3)), (4, .inl (q13.1)), (5, .inl (w32 (l5 + 1)))] (k := ?_)
    exact hk58 l1 l2 l3 q13.1 (w32 (l5 + 1)) q13.2 _ H2
theorem E10_read_58 (n : Nat) : ∀ (l1 : Option Int) (l2 : Int) (l3 : Int) (l4 : Int) (l5 : Int) (h : JM) (res : (Int × JM)), F10_read_58 n l1 l2 l3 l4 l5 h = some res → Ev j_W1 5 0 0 T10_read 58 [(0, .inr (.inr (some (10, 0)))), (1, .inr (.inr (Option.map (Prod.mk 9) (l1)))), (2, .inl (l2)), (3, .inl (l3)), (4, .inl (l4)), (5, .inl (l5))] [] h (some (.inl res.1)) res.2 := by
  induction n with
  | zero =>
    intro l1 l2 l3 l4 l5 h res H
    cases H
  | succ n ih =>
    intro l1 l2 l3 l4 l5 h res H
    exact E10_read_58b (F10_read_58 n) ih l1 l2 l3 l4 l5 h res H
set_option maxRecDepth 100000 in
set_option maxHeartbeats 4000000 in
theorem E10_read_24 (h : JM) (res : (Int × JM)) (H : F10_read_24 h = some res) : Ev j_W1 5 0 0 T10_read 24 [] [] h (some (.inl res.1)) res.2 := by
  unfold F10_read_24 at H
  refine ev_iconst dX10_read_24 (k := ?_)
  cases H
  exact ev_zreturn (Or.inl rfl) dX10_read_25
set_option maxRecDepth 100000 in
set_option maxHeartbeats 4000000 in
theorem C10_read {l1 : Option Int} {l2 : Int} {h : JM} {res : (Int × JM)} (H : F10_read l1 l2 h = some res) : Cn j_W1 5 0 0 yX10_read cX10_read 6 (some .boolean) [.inr (.inr (some (10, 0))), .inr (.inr (Option.map (Prod.mk 9) (l1))), .inl (l2)] h (some (.inl res.1)) res.2 := by
  refine Cn.by (own := RX10) (b := false) [(0, .inr (.inr (some (10, 0)))), (1, .inr (.inr (Option.map (Prod.mk 9) (l1)))), (2, .inl (l2))] rfl (fun z => by cases z) (by decide +kernel) (K := ?_)
  unfold F10_read at H
  refine ev_aload_n 0 dX10_read_0 (k := ?_)
  refine ev_iconst dX10_read_1 (k := ?_)
  obtain ⟨q14, hq, H1⟩ := bd_e H
  clear H
  refine ev_callV (mc := 0) (ms := 0) (st := []) (C10_isFlag hq) md_X10_isFlag im_X10_isFlag se_X10_isFlag ml_X10_71 dX10_read_2 _ (by decide) (K := ?_)
  refine ev_ifeq 24 dX10_read_5 (kt := fun hc => ?_) (kf := fun hc => ?_)
  · replace H1 := if_pe hc H1
    refine ev_lv [] [] (k := ?_)
    exact E10_read_24 q14.2 _ H1
  · replace H1 := if_ne hc H1
    refine ev_aload_n 0 dX10_read_8 (k := ?_)
    obtain ⟨q15, hq, H2⟩ := bd_e H1
    clear H1
    refine ev_callV (mc := 0) (ms := 0) (st := []) (C10_readBody hq) md_X10_readBody im_X10_readBody se_X10_readBody ml_X10_75 dX10_read_9 _ (by decide) (K := ?_)
    refine ev_ifeq 24 dX10_read_12 (kt := fun hc => ?_) (kf := fun hc => ?_)
    · replace H2 := if_pe hc H2
      refine ev_lv [] [] (k := ?_)
      exact E10_read_24 q15.2 _ H2
    · replace H2 := if_ne hc H2
      refine ev_aload_n 0 dX10_read_15 (k := ?_)
      refine ev_getI (x := q15.2.1 10 0 5) fl_X10_79 dX10_read_16 (K := ?_)
      refine ev_bipush dX10_read_19 (k := ?_)
      refine ev_icmpge 26 dX10_read_21 (kt := fun hc => ?_) (kf := fun hc => ?_)
      · replace H2 := if_pe hc H2
        refine ev_aload_n 0 dX10_read_26 (k := ?_)
        refine ev_bipush dX10_read_27 (k := ?_)
        refine ev_bipush dX10_read_29 (k := ?_)
        obtain ⟨q16, hq, H3⟩ := bd_e H2
        clear H2
        refine ev_callV (mc := 0) (ms := 0) (st := []) (C10_number hq) md_X10_number im_X10_number se_X10_number ml_X10_82 dX10_read_31 _ (by decide) (K := ?_)
        refine ev_istore_n [(3, .inl (q16.1)), (0, .inr (.inr (some (10, 0)))), (1, .inr (.inr (Option.map (Prod.mk 9) (l1)))), (2, .inl (l2))] dX10_read_34 (k := ?_)
        refine ev_aload_n 1 dX10_read_35 (k := ?_)
        refine ev_getI (x := q16.2.1 10 0 5) fl_X10_79 dX10_read_36 (K := ?_)
        refine ev_bipush dX10_read_39 (k := ?_)
        refine ev_bipush dX10_read_41 (k := ?_)
        refine ev_iload_n 0 dX10_read_43 (k := ?_)
        refine ev_imul dX10_read_44 (k := ?_)
        refine ev_iadd dX10_read_45 (k := ?_)
        refine ev_icmpeq 51 dX10_read_46 (kt := fun hc => ?_) (kf := fun hc => ?_)
        · replace H3 := if_pe hc H3
          refine ev_ldc (n := 65535) ct_X10_28 dX10_read_51 (k := ?_)
          refine ev_istore [(4, .inl (65535)), (3, .inl (q16.1)), (0, .inr (.inr (some (10, 0)))), (1, .inr (.inr (Option.map (Prod.mk 9) (l1)))), (2, .inl (l2))] dX10_read_53 (k := ?_)
          refine ev_iconst dX10_read_55 (k := ?_)
          refine ev_istore [(5, .inl (0)), (4, .inl (65535)), (3, .inl (q16.1)), (0, .inr (.inr (some (10, 0)))), (1, .inr (.inr (Option.map (Prod.mk 9) (l1)))), (2, .inl (l2))] dX10_read_56 (k := ?_)
          refine ev_lv [3, 4, 5, 2, 1, 0] [(0, .inr (.inr (some (10, 0)))), (1, .inr (.inr (Option.map (Prod.mk 9) (l1)))), (2, .inl (l2)), (3, .inl (q16.1)), (4, .inl (65535)), (5, .inl (0))] (k := ?_)
          exact E10_read_58 j_fu l1 l2 q16.1 65535 0 q16.2 _ H3
        · replace H3 := if_ne hc H3
          refine ev_iconst dX10_read_49 (k := ?_)
          cases H3
          exact ev_zreturn (Or.inl rfl) dX10_read_50
      · replace H2 := if_ne hc H2
        refine ev_lv [] [] (k := ?_)
        exact E10_read_24 q15.2 _ H2
-- X10_write
abbrev T10_write : JT := (RX10, cX10_write, 4, none, false)
set_option maxRecDepth 100000 in
set_option maxHeartbeats 4000000 in
theorem E10_write_81b (k81 : Option Int → Int → Int → JM → Option JM) (hk81 : ∀ (l1 : Option Int) (l2 : Int) (l3 : Int) (h : JM) (res : JM), k81 l1 l2 l3 h = some res → Ev j_W1 3 0 0 T10_write 81 [(0, .inr (.inr (some (10, 0)))), (1, .inr (.inr (Option.map (Prod.mk 9) (l1)))), (2, .inl (l2)), (3, .inl (l3))] [] h none res) (l1 : Option Int) (l2 : Int) (l3 : Int) (h : JM) (res : JM) (H : F10_write_81b k81 l1 l2 l3 h = some res) : Ev j_W1 3 0 0 T10_write 81 [(0, .inr (.inr (some (10, 0)))), (1, .inr (.inr (Option.map (Prod.mk 9) (l1)))), (2, .inl (l2)), (3, .inl (l3))] [] h none res := by
  unfold F10_write_81b at H
  refine ev_iload_n 3 dX10_write_81 (k := ?_)
  refine ev_iload_n 2 dX10_write_82 (k := ?_)
  refine ev_icmpge 106 dX10_write_83 (kt := fun hc => ?_) (kf := fun hc => ?_)
  · replace H := if_pe hc H
    refine ev_aload_n 0 dX10_write_106 (k := ?_)
    refine ev_ldc (n := 65535) ct_X10_28 dX10_write_107 (k := ?_)
    refine ev_aload_n 0 dX10_write_109 (k := ?_)
    refine ev_getI (x := h.1 10 0 3) fl_X10_29 dX10_write_110 (K := ?_)
    refine ev_isub dX10_write_113 (k := ?_)
    refine ev_bipush dX10_write_114 (k := ?_)
    obtain ⟨h1, hq, H1⟩ := bd_e H
    clear H
    refine ev_callV (mc := 0) (ms := 0) (st := []) (C10_put hq) md_X10_put im_X10_put se_X10_put ml_X10_37 dX10_write_116 _ (by decide) (K := ?_)
    refine ev_aload_n 0 dX10_write_119 (k := ?_)
    obtain ⟨h2, hq, H2⟩ := bd_e H1
    clear H1
    refine ev_callV (mc := 0) (ms := 0) (st := []) (C10_putFlag hq) md_X10_putFlag im_X10_putFlag se_X10_putFlag ml_X10_22 dX10_write_120 _ (by decide) (K := ?_)
    cases H2
    exact ev_return dX10_write_123
  · replace H := if_ne hc H
    refine ev_aload_n 0 dX10_write_86 (k := ?_)
    refine ev_aload_n 1 dX10_write_87 (k := ?_)
    obtain ⟨a3, ea3, H1⟩ := bd_e H
    clear H
    rw [ea3]
    refine ev_getL (x := h.2.1 9 a3 4) fl_X10_50 dX10_write_88 (K := ?_)
    refine ev_iload_n 3 dX10_write_91 (k := ?_)
    obtain ⟨q4, hq, H2⟩ := bd_e H1
    clear H1
    refine ev_callS (mc := 0) (ms := 0) (st := [.inr (.inr (some (10, 0)))]) (C9_byteOf hq) md_X9_byteOf ss_X9_byteOf ml_X10_58 dX10_write_92 _ (by decide) (K := ?_)
    refine ev_bipush dX10_write_95 (k := ?_)
    obtain ⟨h5, hq, H3⟩ := bd_e H2
    clear H2
    refine ev_callV (mc := 0) (ms := 0) (st := []) (C10_put hq) md_X10_put im_X10_put se_X10_put ml_X10_37 dX10_write_97 _ (by decide) (K := ?_)
    refine ev_iinc 3 [(3, .inl (w32 (l3 + 1))), (0, .inr (.inr (some (10, 0)))), (1, .inr (.inr (some (9, a3)))), (2, .inl (l2))] dX10_write_100 (k := ?_)
    refine ev_goto 81 dX10_write_103 (k := ?_)
    refine ev_lv [1, 2, 3, 0] [(0, .inr (.inr (some (10, 0)))), (1, .inr (.inr (some (9, a3)))), (2, .inl (l2)), (3, .inl (w32 (l3 + 1)))] (k := ?_)
    exact hk81 (some a3) l2 (w32 (l3 + 1)) h5 _ H3
theorem E10_write_81 (n : Nat) : ∀ (l1 : Option Int) (l2 : Int) (l3 : Int) (h : JM) (res : JM), F10_write_81 n l1 l2 l3 h = some res → Ev j_W1 3 0 0 T10_write 81 [(0, .inr (.inr (some (10, 0)))), (1, .inr (.inr (Option.map (Prod.mk 9) (l1)))), (2, .inl (l2)), (3, .inl (l3))] [] h none res := by
  induction n with
  | zero =>
    intro l1 l2 l3 h res H
    cases H
  | succ n ih =>
    intro l1 l2 l3 h res H
    exact E10_write_81b (F10_write_81 n) ih l1 l2 l3 h res H
set_option maxRecDepth 100000 in
set_option maxHeartbeats 4000000 in
theorem C10_write {l1 : Option Int} {h : JM} {res : JM} (H : F10_write l1 h = some res) : Cn j_W1 3 0 0 yX10_write cX10_write 4 none [.inr (.inr (some (10, 0))), .inr (.inr (Option.map (Prod.mk 9) (l1)))] h none res := by
  refine Cn.by (own := RX10) (b := false) [(0, .inr (.inr (some (10, 0)))), (1, .inr (.inr (Option.map (Prod.mk 9) (l1))))] rfl (fun z => by cases z) (by decide +kernel) (K := ?_)
  unfold F10_write at H
  refine ev_aload_n 0 dX10_write_0 (k := ?_)
  refine ev_iconst dX10_write_1 (k := ?_)
  obtain ⟨h6, eh6, H1⟩ := lt_e H
  clear H
  refine ev_putI j_ok1 fl_X10_18 eh6 dX10_write_2 (K := ?_)
  refine ev_aload_n 0 dX10_write_5 (k := ?_)
  obtain ⟨h7, hq, H2⟩ := bd_e H1
  clear H1
  refine ev_callV (mc := 0) (ms := 0) (st := []) (C10_putFlag hq) md_X10_putFlag im_X10_putFlag se_X10_putFlag ml_X10_22 dX10_write_6 _ (by decide) (K := ?_)
  refine ev_aload_n 0 dX10_write_9 (k := ?_)
  refine ev_iconst dX10_write_10 (k := ?_)
  obtain ⟨h8, eh8, H3⟩ := lt_e H2
  clear H2
  refine ev_putI j_ok1 fl_X10_25 eh8 dX10_write_11 (K := ?_)
  refine ev_aload_n 0 dX10_write_14 (k := ?_)
  refine ev_ldc (n := 65535) ct_X10_28 dX10_write_15 (k := ?_)
  obtain ⟨h9, eh9, H4⟩ := lt_e H3
  clear H3
  refine ev_putI j_ok1 fl_X10_29 eh9 dX10_write_17 (K := ?_)
  refine ev_aload_n 0 dX10_write_20 (k := ?_)
  refine ev_aload_n 1 dX10_write_21 (k := ?_)
  obtain ⟨a10, ea10, H5⟩ := bd_e H4
  clear H4
  rw [ea10]
  refine ev_getI (x := h9.1 9 a10 0) fl_X10_32 dX10_write_22 (K := ?_)
  refine ev_bipush dX10_write_25 (k := ?_)
  obtain ⟨h11, hq, H6⟩ := bd_e H5
  clear H5
  refine ev_callV (mc := 0) (ms := 0) (st := []) (C10_put hq) md_X10_put im_X10_put se_X10_put ml_X10_37 dX10_write_27 _ (by decide) (K := ?_)
  refine ev_aload_n 0 dX10_write_30 (k := ?_)
  refine ev_aload_n 1 dX10_write_31 (k := ?_)
  refine ev_getI (x := h11.1 9 a10 1) fl_X10_41 dX10_write_32 (K := ?_)
  refine ev_iconst dX10_write_35 (k := ?_)
  obtain ⟨h12, hq, H7⟩ := bd_e H6
  clear H6
  refine ev_callV (mc := 0) (ms := 0) (st := []) (C10_put hq) md_X10_put im_X10_put se_X10_put ml_X10_37 dX10_write_36 _ (by decide) (K := ?_)
  refine ev_aload_n 0 dX10_write_39 (k := ?_)
  refine ev_aload_n 1 dX10_write_40 (k := ?_)
  refine ev_getI (x := h12.1 9 a10 2) fl_X10_44 dX10_write_41 (K := ?_)
  refine ev_bipush dX10_write_44 (k := ?_)
  obtain ⟨h13, hq, H8⟩ := bd_e H7
  clear H7
  refine ev_callV (mc := 0) (ms := 0) (st := []) (C10_put hq) md_X10_put im_X10_put se_X10_put ml_X10_37 dX10_write_46 _ (by decide) (K := ?_)
  refine ev_aload_n 0 dX10_write_49 (k := ?_)
  refine ev_aload_n 1 dX10_write_50 (k := ?_)
  refine ev_getI (x := h13.1 9 a10 3) fl_X10_47 dX10_write_51 (K := ?_)
  refine ev_iconst dX10_write_54 (k := ?_)
  obtain ⟨h14, hq, H9⟩ := bd_e H8
  clear H8
  refine ev_callV (mc := 0) (ms := 0) (st := []) (C10_put hq) md_X10_put im_X10_put se_X10_put ml_X10_37 dX10_write_55 _ (by decide) (K := ?_)
  refine ev_aload_n 1 dX10_write_58 (k := ?_)
  refine ev_getL (x := h14.2.1 9 a10 4) fl_X10_50 dX10_write_59 (K := ?_)
  obtain ⟨q15, hq, H10⟩ := bd_e H9
  clear H9
  refine ev_callS (mc := 0) (ms := 0) (st := []) (C9_sizeOf hq) md_X9_sizeOf ss_X9_sizeOf ml_X10_54 dX10_write_62 _ (by decide) (K := ?_)
  refine ev_istore_n [(2, .inl (q15.1)), (0, .inr (.inr (some (10, 0)))), (1, .inr (.inr (some (9, a10))))] dX10_write_65 (k := ?_)
  refine ev_aload_n 1 dX10_write_66 (k := ?_)
  refine ev_iload_n 0 dX10_write_67 (k := ?_)
  refine ev_bipush dX10_write_68 (k := ?_)
  obtain ⟨h16, hq, H11⟩ := bd_e H10
  clear H10
  refine ev_callV (mc := 0) (ms := 0) (st := []) (C10_put hq) md_X10_put im_X10_put se_X10_put ml_X10_37 dX10_write_70 _ (by decide) (K := ?_)
  refine ev_aload_n 1 dX10_write_73 (k := ?_)
  refine ev_iconst dX10_write_74 (k := ?_)
  refine ev_iconst dX10_write_75 (k := ?_)
  obtain ⟨h17, hq, H12⟩ := bd_e H11
  clear H11
  refine ev_callV (mc := 0) (ms := 0) (st := []) (C10_put hq) md_X10_put im_X10_put se_X10_put ml_X10_37 dX10_write_76 _ (by decide) (K := ?_)
  refine ev_iconst dX10_write_79 (k := ?_)
  refine ev_istore_n [(3, .inl (0)), (2, .inl (q15.1)), (0, .inr (.inr (some (10, 0)))), (1, .inr (.inr (some (9, a10))))] dX10_write_80 (k := ?_)
  refine ev_lv [2, 3, 1, 0] [(0, .inr (.inr (some (10, 0)))), (1, .inr (.inr (some (9, a10)))), (2, .inl (q15.1)), (3, .inl (0))] (k := ?_)
  exact E10_write_81 j_fu (some a10) q15.1 0 h17 _ H12
-- X11_announce
abbrev T11_announce : JT := (RX11, cX11_announce, 2, none, false)
set_option maxRecDepth 100000 in
set_option maxHeartbeats 4000000 in
theorem C11_announce {l1 : Option Int} {h : JM} {res : JM} (H : F11_announce l1 h = some res) : Cn j_W1 2 0 0 yX11_announce cX11_announce 2 none [.inr (.inr (some (11, 0))), .inr (.inr (Option.map (Prod.mk 0) (l1)))] h none res := by
  refine Cn.by (own := RX11) (b := false) [(0, .inr (.inr (some (11, 0)))), (1, .inr (.inr (Option.map (Prod.mk 0) (l1))))] rfl (fun z => by cases z) (by decide +kernel) (K := ?_)
  unfold F11_announce at H
  refine ev_aload_n 1 dX11_announce_0 (k := ?_)
  obtain ⟨a1, ea1, H1⟩ := bd_e H
  clear H
  rw [ea1]
  refine ev_getR (t := 8) (x := Option.map (Prod.mk 8) (h.2.2 0 a1 2)) fl_X11_227 dX11_announce_1 (hx := ry_0_2 _ _) (K := ?_)
  refine ev_nullK (h.2.2 0 a1 2) 41 dX11_announce_4 (kt := fun hc => ?_) (kf := fun hc => ?_)
  · replace H1 := if_pe hc H1
    cases H1
    exact ev_return dX11_announce_41
  · replace H1 := if_ne hc H1
    refine ev_aload_n 1 dX11_announce_7 (k := ?_)
    refine ev_getI (x := h.1 0 a1 15) fl_X11_517 dX11_announce_8 (K := ?_)
    refine ev_ifne 41 dX11_announce_11 (kt := fun hc => ?_) (kf := fun hc => ?_)
    · replace H1 := if_ne hc H1
      cases H1
      exact ev_return dX11_announce_41
    · replace H1 := if_pe hc H1
      refine ev_aload_n 1 dX11_announce_14 (k := ?_)
      refine ev_iconst dX11_announce_15 (k := ?_)
      obtain ⟨h2, eh2, H2⟩ := lt_e H1
      clear H1
      refine ev_putZ j_ok1 (Or.inr rfl) fl_X11_517 eh2 dX11_announce_16 (K := ?_)
      refine ev_aload_n 1 dX11_announce_19 (k := ?_)
      refine ev_getR (t := 1) (x := Option.map (Prod.mk 1) (h2.2.2 0 a1 0)) fl_X11_444 dX11_announce_20 (hx := ry_0_0 _ _) (K := ?_)
      obtain ⟨a3, ea3, H3⟩ := bd_e H2
      clear H2
      rw [ea3]
      refine ev_getR (t := 5) (x := some (5, a3)) fl_X11_261 dX11_announce_23 (hx := ry_1_7 _ _) (K := ?_)
      refine ev_iconst dX11_announce_26 (k := ?_)
      refine ev_aload_n 1 dX11_announce_27 (k := ?_)
      refine ev_getR (t := 8) (x := Option.map (Prod.mk 8) (h2.2.2 0 a1 2)) fl_X11_227 dX11_announce_28 (hx := ry_0_2 _ _) (K := ?_)
      obtain ⟨a4, ea4, H4⟩ := bd_e H3
      clear H3
      rw [ea4]
      refine ev_getI (x := h2.1 8 a4 0) fl_X11_320 dX11_announce_31 (K := ?_)
      refine ev_lconst (v := 0) dX11_announce_34 (k := ?_)
      obtain ⟨q5, hq, H5⟩ := bd_e H4
      clear H4
      refine ev_callS (mc := 0) (ms := 0) (st := [.inr (.inr (some (5, a3)))]) (C9_pack hq) md_X9_pack ss_X9_pack ml_X11_404 dX11_announce_35 _ (by decide) (K := ?_)
      obtain ⟨h6, hq, H6⟩ := bd_e H5
      clear H5
      refine ev_callV (mc := 0) (ms := 0) (st := []) (C5_post hq) md_X5_post im_X5_post se_X5_post ml_X11_408 dX11_announce_38 _ (by decide) (K := ?_)
      cases H6
      exact ev_return dX11_announce_41
-- X11_enter
abbrev T11_enter : JT := (RX11, cX11_enter, 3, none, false)
set_option maxRecDepth 100000 in
set_option maxHeartbeats 4000000 in
theorem C11_enter {l1 : Option Int} {l2 : Int} {h : JM} {res : JM} (H : F11_enter l1 l2 h = some res) : Cn j_W1 1 0 0 yX11_enter cX11_enter 3 none [.inr (.inr (some (11, 0))), .inr (.inr (Option.map (Prod.mk 0) (l1))), .inl (l2)] h none res := by
  refine Cn.by (own := RX11) (b := false) [(0, .inr (.inr (some (11, 0)))), (1, .inr (.inr (Option.map (Prod.mk 0) (l1)))), (2, .inl (l2))] rfl (fun z => by cases z) (by decide +kernel) (K := ?_)
  unfold F11_enter at H
  refine ev_aload_n 1 dX11_enter_0 (k := ?_)
  refine ev_iload_n 2 dX11_enter_1 (k := ?_)
  obtain ⟨a1, ea1, H1⟩ := bd_e H
  clear H
  rw [ea1]
  obtain ⟨h2, eh2, H2⟩ := lt_e H1
  clear H1
  refine ev_putI j_ok1 fl_X11_210 eh2 dX11_enter_2 (K := ?_)
  refine ev_aload_n 1 dX11_enter_5 (k := ?_)
  refine ev_aload_n 0 dX11_enter_6 (k := ?_)
  refine ev_getI (x := h2.1 11 0 10) fl_X11_177 dX11_enter_7 (K := ?_)
  obtain ⟨h3, eh3, H3⟩ := lt_e H2
  clear H2
  refine ev_putI j_ok1 fl_X11_441 eh3 dX11_enter_10 (K := ?_)
  cases H3
  exact ev_return dX11_enter_13
-- X11_answer
abbrev T11_answer : JT := (RX11, cX11_answer, 2, some .int, false)
set_option maxRecDepth 100000 in
set_option maxHeartbeats 4000000 in
theorem C11_answer {l1 : Option Int} {h : JM} {res : (Int × JM)} (H : F11_answer l1 h = some res) : Cn j_W1 3 0 0 yX11_answer cX11_answer 2 (some .int) [.inr (.inr (some (11, 0))), .inr (.inr (Option.map (Prod.mk 0) (l1)))] h (some (.inl res.1)) res.2 := by
  refine Cn.by (own := RX11) (b := false) [(0, .inr (.inr (some (11, 0)))), (1, .inr (.inr (Option.map (Prod.mk 0) (l1))))] rfl (fun z => by cases z) (by decide +kernel) (K := ?_)
  unfold F11_answer at H
  refine ev_aload_n 0 dX11_answer_0 (k := ?_)
  refine ev_aload_n 1 dX11_answer_1 (k := ?_)
  refine ev_iconst dX11_answer_2 (k := ?_)
  obtain ⟨h1, hq, H1⟩ := bd_e H
  clear H
  refine ev_callV (mc := 0) (ms := 0) (st := []) (C11_enter hq) md_X11_enter im_X11_enter se_X11_enter ml_X11_383 dX11_answer_3 _ (by decide) (K := ?_)
  refine ev_aload_n 0 dX11_answer_6 (k := ?_)
  refine ev_aload_n 1 dX11_answer_7 (k := ?_)
  obtain ⟨h2, hq, H2⟩ := bd_e H1
  clear H1
  refine ev_callV (mc := 0) (ms := 0) (st := []) (C11_announce hq) md_X11_announce im_X11_announce se_X11_announce ml_X11_386 dX11_answer_8 _ (by decide) (K := ?_)
  refine ev_aload_n 1 dX11_answer_11 (k := ?_)
  obtain ⟨a3, ea3, H3⟩ := bd_e H2
  clear H2
  rw [ea3]
  refine ev_getR (t := 8) (x := Option.map (Prod.mk 8) (h2.2.2 0 a3 2)) fl_X11_227 dX11_answer_12 (hx := ry_0_2 _ _) (K := ?_)
  refine ev_nullK (h2.2.2 0 a3 2) 42 dX11_answer_15 (kt := fun hc => ?_) (kf := fun hc => ?_)
  · replace H3 := if_pe hc H3
    refine ev_aload_n 0 dX11_answer_42 (k := ?_)
    refine ev_getR (t := 3) (x := some (3, 0)) fl_X11_30 dX11_answer_43 (hx := ry_11_5 _ _) (K := ?_)
    refine ev_aload_n 1 dX11_answer_46 (k := ?_)
    refine ev_iconst dX11_answer_47 (k := ?_)
    refine ev_aload_n 0 dX11_answer_48 (k := ?_)
    refine ev_getI (x := h2.1 11 0 10) fl_X11_177 dX11_answer_49 (K := ?_)
    obtain ⟨q4, hq, H4⟩ := bd_e H3
    clear H3
    refine ev_callV (mc := 0) (ms := 0) (st := []) (C3_charge hq) md_X3_charge im_X3_charge se_X3_charge ml_X11_520 dX11_answer_52 _ (by decide) (K := ?_)
    refine ev_ifeq 62 dX11_answer_55 (kt := fun hc => ?_) (kf := fun hc => ?_)
    · replace H4 := if_pe hc H4
      refine ev_iconst dX11_answer_62 (k := ?_)
      cases H4
      exact ev_ireturn dX11_answer_63
    · replace H4 := if_ne hc H4
      refine ev_iconst dX11_answer_58 (k := ?_)
      refine ev_goto 63 dX11_answer_59 (k := ?_)
      cases H4
      exact ev_ireturn dX11_answer_63
  · replace H3 := if_ne hc H3
    refine ev_aload_n 1 dX11_answer_18 (k := ?_)
    refine ev_getR (t := 1) (x := Option.map (Prod.mk 1) (h2.2.2 0 a3 0)) fl_X11_444 dX11_answer_19 (hx := ry_0_0 _ _) (K := ?_)
    obtain ⟨a5, ea5, H4⟩ := bd_e H3
    clear H3
    rw [ea5]
    refine ev_getR (t := 5) (x := some (5, a5)) fl_X11_261 dX11_answer_22 (hx := ry_1_7 _ _) (K := ?_)
    refine ev_iconst dX11_answer_25 (k := ?_)
    refine ev_aload_n 1 dX11_answer_26 (k := ?_)
    refine ev_getR (t := 8) (x := Option.map (Prod.mk 8) (h2.2.2 0 a3 2)) fl_X11_227 dX11_answer_27 (hx := ry_0_2 _ _) (K := ?_)
    obtain ⟨a6, ea6, H5⟩ := bd_e H4
    clear H4
    rw [ea6]
    refine ev_getI (x := h2.1 8 a6 0) fl_X11_320 dX11_answer_30 (K := ?_)
    refine ev_lconst (v := 0) dX11_answer_33 (k := ?_)
    obtain ⟨q7, hq, H6⟩ := bd_e H5
    clear H5
    refine ev_callS (mc := 0) (ms := 0) (st := [.inr (.inr (some (5, a5)))]) (C9_pack hq) md_X9_pack ss_X9_pack ml_X11_404 dX11_answer_34 _ (by decide) (K := ?_)
    obtain ⟨h8, hq, H7⟩ := bd_e H6
    clear H6
    refine ev_callV (mc := 0) (ms := 0) (st := []) (C5_post hq) md_X5_post im_X5_post se_X5_post ml_X11_408 dX11_answer_37 _ (by decide) (K := ?_)
    refine ev_iconst dX11_answer_40 (k := ?_)
    cases H7
    exact ev_ireturn dX11_answer_41
-- X11_byLaw0
abbrev T11_byLaw0 : JT := (RX11, cX11_byLaw0, 4, some .int, false)
set_option maxRecDepth 100000 in
set_option maxHeartbeats 4000000 in
theorem E11_byLaw0_63 (l2 : Int) (l3 : Int) (s0 : Int) (h : JM) (res : (Int × JM)) (H : F11_byLaw0_63 l2 l3 s0 h = some res) : Ev j_W1 1 0 0 T11_byLaw0 63 [(2, .inl (l2)), (3, .inl (l3))] [.inl (s0)] h (some (.inl res.1)) res.2 := by
  unfold F11_byLaw0_63 at H
  refine ev_bipush dX11_byLaw0_63 (k := ?_)
  refine ev_iload_n 0 dX11_byLaw0_65 (k := ?_)
  refine ev_imul dX11_byLaw0_66 (k := ?_)
  refine ev_iadd dX11_byLaw0_67 (k := ?_)
  refine ev_iload_n 1 dX11_byLaw0_68 (k := ?_)
  refine ev_iadd dX11_byLaw0_69 (k := ?_)
  refine ev_bipush dX11_byLaw0_70 (k := ?_)
  refine ev_ixor dX11_byLaw0_72 (k := ?_)
  cases H
  exact ev_ireturn dX11_byLaw0_73
set_option maxRecDepth 100000 in
set_option maxHeartbeats 4000000 in
theorem E11_byLaw0_51 (l0 : Int) (l2 : Int) (s0 : Int) (h : JM) (res : (Int × JM)) (H : F11_byLaw0_51 l0 l2 s0 h = some res) : Ev j_W1 1 0 0 T11_byLaw0 51 [(0, .inl (l0)), (2, .inl (l2))] [.inl (s0)] h (some (.inl res.1)) res.2 := by
  unfold F11_byLaw0_51 at H
  refine ev_istore_n [(3, .inl (s0)), (0, .inl (l0)), (2, .inl (l2))] dX11_byLaw0_51 (k := ?_)
  refine ev_iload_n 1 dX11_byLaw0_52 (k := ?_)
  refine ev_ifge 60 dX11_byLaw0_53 (kt := fun hc => ?_) (kf := fun hc => ?_)
  · replace H := if_pe hc H
    refine ev_sipush dX11_byLaw0_60 (k := ?_)
    refine ev_lv [2, 0] [(2, .inl (l2)), (3, .inl (s0))] (k := ?_)
    exact E11_byLaw0_63 l2 s0 128 h _ H
  · replace H := if_ne hc H
    refine ev_iconst dX11_byLaw0_56 (k := ?_)
    refine ev_goto 63 dX11_byLaw0_57 (k := ?_)
    refine ev_lv [2, 0] [(2, .inl (l2)), (3, .inl (s0))] (k := ?_)
    exact E11_byLaw0_63 l2 s0 0 h _ H
set_option maxRecDepth 100000 in
set_option maxHeartbeats 4000000 in
theorem E11_byLaw0_35 (l0 : Int) (l1 : Int) (l2 : Int) (h : JM) (res : (Int × JM)) (H : F11_byLaw0_35 l0 l1 l2 h = some res) : Ev j_W1 1 0 0 T11_byLaw0 35 [(0, .inl (l0)), (1, .inl (l1)), (2, .inl (l2))] [] h (some (.inl res.1)) res.2 := by
  unfold F11_byLaw0_35 at H
  refine ev_iload_n 2 dX11_byLaw0_35 (k := ?_)
  refine ev_ifne 45 dX11_byLaw0_36 (kt := fun hc => ?_) (kf := fun hc => ?_)
  · replace H := if_ne hc H
    refine ev_iload_n 1 dX11_byLaw0_45 (k := ?_)
    refine ev_iload_n 2 dX11_byLaw0_46 (k := ?_)
    refine ev_ishr dX11_byLaw0_47 (k := ?_)
    refine ev_bipush dX11_byLaw0_48 (k := ?_)
    refine ev_iand dX11_byLaw0_50 (k := ?_)
    refine ev_lv [0, 2] [(0, .inl (l0)), (2, .inl (l2))] (k := ?_)
    exact E11_byLaw0_51 l0 l2 (j_and (j_shr l1 l2) 15) h _ H
  · replace H := if_pe hc H
    refine ev_iload_n 1 dX11_byLaw0_39 (k := ?_)
    refine ev_iconst dX11_byLaw0_40 (k := ?_)
    refine ev_idiv dX11_byLaw0_41 (by decide) (k := ?_)
    refine ev_goto 51 dX11_byLaw0_42 (k := ?_)
    refine ev_lv [0, 2] [(0, .inl (l0)), (2, .inl (l2))] (k := ?_)
    exact E11_byLaw0_51 l0 l2 (j_div l1 2) h _ H
set_option maxRecDepth 100000 in
set_option maxHeartbeats 4000000 in
theorem E11_byLaw0_15b (k15 : Int → Int → Int → JM → Option (Int × JM)) (hk15 : ∀ (l0 : Int) (l1 : Int) (l2 : Int) (h : JM) (res : (Int × JM)), k15 l0 l1 l2 h = some res → Ev j_W1 1 0 0 T11_byLaw0 15 [(0, .inl (l0)), (1, .inl (l1)), (2, .inl (l2))] [] h (some (.inl res.1)) res.2) (l0 : Int) (l1 : Int) (l2 : Int) (h : JM) (res : (Int × JM)) (H : F11_byLaw0_15b k15 l0 l1 l2 h = some res) : Ev j_W1 1 0 0 T11_byLaw0 15 [(0, .inl (l0)), (1, .inl (l1)), (2, .inl (l2))] [] h (some (.inl res.1)) res.2 := by
  unfold F11_byLaw0_15b at H
  refine ev_iload_n 2 dX11_byLaw0_15 (k := ?_)
  refine ev_bipush dX11_byLaw0_16 (k := ?_)
  refine ev_icmpge 35 dX11_byLaw0_18 (kt := fun hc => ?_) (kf := fun hc => ?_)
  · replace H := if_pe hc H
    exact E11_byLaw0_35 l0 l1 l2 h _ H
  · replace H := if_ne hc H
    refine ev_iload_n 1 dX11_byLaw0_21 (k := ?_)
    refine ev_iload_n 2 dX11_byLaw0_22 (k := ?_)
    refine ev_iconst dX11_byLaw0_23 (k := ?_)
    refine ev_iadd dX11_byLaw0_24 (k := ?_)
    refine ev_ishr dX11_byLaw0_25 (k := ?_)
    refine ev_ifeq 35 dX11_byLaw0_26 (kt := fun hc => ?_) (kf := fun hc => ?_)
    · replace H := if_pe hc H
      exact E11_byLaw0_35 l0 l1 l2 h _ H
    · replace H := if_ne hc H
      refine ev_iinc 2 [(2, .inl (w32 (l2 + 1))), (0, .inl (l0)), (1, .inl (l1))] dX11_byLaw0_29 (k := ?_)
      refine ev_goto 15 dX11_byLaw0_32 (k := ?_)
      refine ev_lv [1, 2, 0] [(0, .inl (l0)), (1, .inl (l1)), (2, .inl (w32 (l2 + 1)))] (k := ?_)
      exact hk15 l0 l1 (w32 (l2 + 1)) h _ H
theorem E11_byLaw0_15 (n : Nat) : ∀ (l0 : Int) (l1 : Int) (l2 : Int) (h : JM) (res : (Int × JM)), F11_byLaw0_15 n l0 l1 l2 h = some res → Ev j_W1 1 0 0 T11_byLaw0 15 [(0, .inl (l0)), (1, .inl (l1)), (2, .inl (l2))] [] h (some (.inl res.1)) res.2 := by
  induction n with
  | zero =>
    intro l0 l1 l2 h res H
    cases H
  | succ n ih =>
    intro l0 l1 l2 h res H
    exact E11_byLaw0_15b (F11_byLaw0_15 n) ih l0 l1 l2 h res H
set_option maxRecDepth 100000 in
set_option maxHeartbeats 4000000 in
theorem E11_byLaw0_10 (l0 : Int) (s0 : Int) (h : JM) (res : (Int × JM)) (H : F11_byLaw0_10 l0 s0 h = some res) : Ev j_W1 1 0 0 T11_byLaw0 10 [(0, .inl (l0))] [.inl (s0)] h (some (.inl res.1)) res.2 := by
  unfold F11_byLaw0_10 at H
  refine ev_iconst dX11_byLaw0_10 (k := ?_)
  refine ev_idiv dX11_byLaw0_11 (by decide) (k := ?_)
  obtain ⟨x1, ex1, H1⟩ := lt_e H
  clear H
  refine ev_topI ex1 ?_
  refine ev_istore_n [(1, .inl (x1)), (0, .inl (l0))] dX11_byLaw0_12 (k := ?_)
  refine ev_iconst dX11_byLaw0_13 (k := ?_)
  refine ev_istore_n [(2, .inl (0)), (1, .inl (x1)), (0, .inl (l0))] dX11_byLaw0_14 (k := ?_)
  refine ev_lv [2, 1, 0] [(0, .inl (l0)), (1, .inl (x1)), (2, .inl (0))] (k := ?_)
  exact E11_byLaw0_15 j_fu l0 x1 0 h _ H1
set_option maxRecDepth 100000 in
set_option maxHeartbeats 4000000 in
theorem C11_byLaw0 {l0 : Int} {h : JM} {res : (Int × JM)} (H : F11_byLaw0 l0 h = some res) : Cn j_W1 1 0 0 yX11_byLaw0 cX11_byLaw0 4 (some .int) [.inl (l0)] h (some (.inl res.1)) res.2 := by
  refine Cn.by (own := RX11) (b := false) [(0, .inl (l0))] rfl (fun z => by cases z) (by decide +kernel) (K := ?_)
  unfold F11_byLaw0 at H
  refine ev_iload_n 0 dX11_byLaw0_0 (k := ?_)
  refine ev_ifge 9 dX11_byLaw0_1 (kt := fun hc => ?_) (kf := fun hc => ?_)
  · replace H := if_pe hc H
    refine ev_iload_n 0 dX11_byLaw0_9 (k := ?_)
    exact E11_byLaw0_10 l0 l0 h _ H
  · replace H := if_ne hc H
    refine ev_iload_n 0 dX11_byLaw0_4 (k := ?_)
    refine ev_ineg dX11_byLaw0_5 (k := ?_)
    refine ev_goto 10 dX11_byLaw0_6 (k := ?_)
    exact E11_byLaw0_10 l0 (w32 (-l0)) h _ H
-- X11_byLaw1
abbrev T11_byLaw1 : JT := (RX11, cX11_byLaw1, 4, some .int, false)
set_option maxRecDepth 100000 in
set_option maxHeartbeats 4000000 in
theorem E11_byLaw1_66 (l2 : Int) (l3 : Int) (s0 : Int) (s1 : Int) (h : JM) (res : (Int × JM)) (H : F11_byLaw1_66 l2 l3 s0 s1 h = some res) : Ev j_W1 1 0 0 T11_byLaw1 66 [(2, .inl (l2)), (3, .inl (l3))] [.inl (s1), .inl (s0)] h (some (.inl res.1)) res.2 := by
  unfold F11_byLaw1_66 at H
  refine ev_isub dX11_byLaw1_66 (k := ?_)
  refine ev_bipush dX11_byLaw1_67 (k := ?_)
  refine ev_iload_n 1 dX11_byLaw1_69 (k := ?_)
  refine ev_imul dX11_byLaw1_70 (k := ?_)
  refine ev_isub dX11_byLaw1_71 (k := ?_)
  refine ev_iload_n 0 dX11_byLaw1_72 (k := ?_)
  refine ev_iload_n 1 dX11_byLaw1_73 (k := ?_)
  refine ev_iconst dX11_byLaw1_74 (k := ?_)
  refine ev_iadd dX11_byLaw1_75 (k := ?_)
  refine ev_ishr dX11_byLaw1_76 (k := ?_)
  refine ev_bipush dX11_byLaw1_77 (k := ?_)
  refine ev_iand dX11_byLaw1_79 (k := ?_)
  refine ev_isub dX11_byLaw1_80 (k := ?_)
  cases H
  exact ev_ireturn dX11_byLaw1_81
set_option maxRecDepth 100000 in
set_option maxHeartbeats 4000000 in
theorem E11_byLaw1_52 (l0 : Int) (l2 : Int) (l3 : Int) (h : JM) (res : (Int × JM)) (H : F11_byLaw1_52 l0 l2 l3 h = some res) : Ev j_W1 1 0 0 T11_byLaw1 52 [(0, .inl (l0)), (2, .inl (l2)), (3, .inl (l3))] [] h (some (.inl res.1)) res.2 := by
  unfold F11_byLaw1_52 at H
  refine ev_sipush dX11_byLaw1_52 (k := ?_)
  refine ev_iload_n 0 dX11_byLaw1_55 (k := ?_)
  refine ev_ifge 65 dX11_byLaw1_56 (kt := fun hc => ?_) (kf := fun hc => ?_)
  · replace H := if_pe hc H
    refine ev_iconst dX11_byLaw1_65 (k := ?_)
    refine ev_lv [1, 2] [(2, .inl (l2)), (3, .inl (l3))] (k := ?_)
    exact E11_byLaw1_66 l2 l3 255 0 h _ H
  · replace H := if_ne hc H
    refine ev_sipush dX11_byLaw1_59 (k := ?_)
    refine ev_goto 66 dX11_byLaw1_62 (k := ?_)
    refine ev_lv [1, 2] [(2, .inl (l2)), (3, .inl (l3))] (k := ?_)
    exact E11_byLaw1_66 l2 l3 255 128 h _ H
set_option maxRecDepth 100000 in
set_option maxHeartbeats 4000000 in
theorem E11_byLaw1_31b (k31 : Int → Int → Int → JM → Option (Int × JM)) (hk31 : ∀ (l0 : Int) (l2 : Int) (l3 : Int) (h : JM) (res : (Int × JM)), k31 l0 l2 l3 h = some res → Ev j_W1 1 0 0 T11_byLaw1 31 [(0, .inl (l0)), (2, .inl (l2)), (3, .inl (l3))] [] h (some (.inl res.1)) res.2) (l0 : Int) (l2 : Int) (l3 : Int) (h : JM) (res : (Int × JM)) (H : F11_byLaw1_31b k31 l0 l2 l3 h = some res) : Ev j_W1 1 0 0 T11_byLaw1 31 [(0, .inl (l0)), (2, .inl (l2)), (3, .inl (l3))] [] h (some (.inl res.1)) res.2 := by
  unfold F11_byLaw1_31b at H
  refine ev_iload_n 2 dX11_byLaw1_31 (k := ?_)
  refine ev_bipush dX11_byLaw1_32 (k := ?_)
  refine ev_icmpge 52 dX11_byLaw1_34 (kt := fun hc => ?_) (kf := fun hc => ?_)
  · replace H := if_pe hc H
    exact E11_byLaw1_52 l0 l2 l3 h _ H
  · replace H := if_ne hc H
    refine ev_iload_n 1 dX11_byLaw1_37 (k := ?_)
    refine ev_iload_n 2 dX11_byLaw1_38 (k := ?_)
    refine ev_bipush dX11_byLaw1_39 (k := ?_)
    refine ev_iadd dX11_byLaw1_41 (k := ?_)
    refine ev_ishr dX11_byLaw1_42 (k := ?_)
    refine ev_ifeq 52 dX11_byLaw1_43 (kt := fun hc => ?_) (kf := fun hc => ?_)
    · replace H := if_pe hc H
      exact E11_byLaw1_52 l0 l2 l3 h _ H
    · replace H := if_ne hc H
      refine ev_iinc 2 [(3, .inl (w32 (l3 + 1))), (0, .inl (l0)), (2, .inl (l2))] dX11_byLaw1_46 (k := ?_)
      refine ev_goto 31 dX11_byLaw1_49 (k := ?_)
      refine ev_lv [1, 2, 0] [(0, .inl (l0)), (2, .inl (l2)), (3, .inl (w32 (l3 + 1)))] (k := ?_)
      exact hk31 l0 l2 (w32 (l3 + 1)) h _ H
theorem E11_byLaw1_31 (n : Nat) : ∀ (l0 : Int) (l2 : Int) (l3 : Int) (h : JM) (res : (Int × JM)), F11_byLaw1_31 n l0 l2 l3 h = some res → Ev j_W1 1 0 0 T11_byLaw1 31 [(0, .inl (l0)), (2, .inl (l2)), (3, .inl (l3))] [] h (some (.inl res.1)) res.2 := by
  induction n with
  | zero =>
    intro l0 l2 l3 h res H
    cases H
  | succ n ih =>
    intro l0 l2 l3 h res H
    exact E11_byLaw1_31b (F11_byLaw1_31 n) ih l0 l2 l3 h res H
set_option maxRecDepth 100000 in
set_option maxHeartbeats 4000000 in
theorem E11_byLaw1_25 (l0 : Int) (s0 : Int) (h : JM) (res : (Int × JM)) (H : F11_byLaw1_25 l0 s0 h = some res) : Ev j_W1 1 0 0 T11_byLaw1 25 [(0, .inl (l0))] [.inl (s0)] h (some (.inl res.1)) res.2 := by
  unfold F11_byLaw1_25 at H
  refine ev_bipush dX11_byLaw1_25 (k := ?_)
  refine ev_iadd dX11_byLaw1_27 (k := ?_)
  obtain ⟨x1, ex1, H1⟩ := lt_e H
  clear H
  refine ev_topI ex1 ?_
  refine ev_istore_n [(2, .inl (x1)), (0, .inl (l0))] dX11_byLaw1_28 (k := ?_)
  refine ev_iconst dX11_byLaw1_29 (k := ?_)
  refine ev_istore_n [(3, .inl (0)), (2, .inl (x1)), (0, .inl (l0))] dX11_byLaw1_30 (k := ?_)
  refine ev_lv [2, 1, 0] [(0, .inl (l0)), (2, .inl (x1)), (3, .inl (0))] (k := ?_)
  exact E11_byLaw1_31 j_fu l0 x1 0 h _ H1
set_option maxRecDepth 100000 in
set_option maxHeartbeats 4000000 in
theorem E11_byLaw1_10 (l0 : Int) (s0 : Int) (h : JM) (res : (Int × JM)) (H : F11_byLaw1_10 l0 s0 h = some res) : Ev j_W1 1 0 0 T11_byLaw1 10 [(0, .inl (l0))] [.inl (s0)] h (some (.inl res.1)) res.2 := by
  unfold F11_byLaw1_10 at H
  refine ev_istore_n [(1, .inl (s0)), (0, .inl (l0))] dX11_byLaw1_10 (k := ?_)
  refine ev_iload_n 0 dX11_byLaw1_11 (k := ?_)
  refine ev_sipush dX11_byLaw1_12 (k := ?_)
  refine ev_icmpge 22 dX11_byLaw1_15 (kt := fun hc => ?_) (kf := fun hc => ?_)
  · replace H := if_pe hc H
    refine ev_sipush dX11_byLaw1_22 (k := ?_)
    refine ev_lv [1] [(0, .inl (l0))] (k := ?_)
    exact E11_byLaw1_25 l0 8158 h _ H
  · replace H := if_ne hc H
    refine ev_iload_n 0 dX11_byLaw1_18 (k := ?_)
    refine ev_goto 25 dX11_byLaw1_19 (k := ?_)
    refine ev_lv [1] [(0, .inl (l0))] (k := ?_)
    exact E11_byLaw1_25 l0 s0 h _ H
set_option maxRecDepth 100000 in
set_option maxHeartbeats 4000000 in
theorem C11_byLaw1 {l0 : Int} {h : JM} {res : (Int × JM)} (H : F11_byLaw1 l0 h = some res) : Cn j_W1 1 0 0 yX11_byLaw1 cX11_byLaw1 4 (some .int) [.inl (l0)] h (some (.inl res.1)) res.2 := by
  refine Cn.by (own := RX11) (b := false) [(0, .inl (l0))] rfl (fun z => by cases z) (by decide +kernel) (K := ?_)
  unfold F11_byLaw1 at H
  refine ev_iload_n 0 dX11_byLaw1_0 (k := ?_)
  refine ev_ifge 9 dX11_byLaw1_1 (kt := fun hc => ?_) (kf := fun hc => ?_)
  · replace H := if_pe hc H
    refine ev_iload_n 0 dX11_byLaw1_9 (k := ?_)
    exact E11_byLaw1_10 l0 l0 h _ H
  · replace H := if_ne hc H
    refine ev_iload_n 0 dX11_byLaw1_4 (k := ?_)
    refine ev_ineg dX11_byLaw1_5 (k := ?_)
    refine ev_goto 10 dX11_byLaw1_6 (k := ?_)
    exact E11_byLaw1_10 l0 (w32 (-l0)) h _ H
-- X11_fromLaw0
abbrev T11_fromLaw0 : JT := (RX11, cX11_fromLaw0, 5, some .int, false)
set_option maxRecDepth 100000 in
set_option maxHeartbeats 4000000 in
theorem E11_fromLaw0_44 (l1 : Int) (s0 : Int) (h : JM) (res : (Int × JM)) (H : F11_fromLaw0_44 l1 s0 h = some res) : Ev j_W1 1 0 0 T11_fromLaw0 44 [(1, .inl (l1))] [.inl (s0)] h (some (.inl res.1)) res.2 := by
  unfold F11_fromLaw0_44 at H
  refine ev_istore [(4, .inl (s0)), (1, .inl (l1))] dX11_fromLaw0_44 (k := ?_)
  refine ev_iload_n 1 dX11_fromLaw0_46 (k := ?_)
  refine ev_sipush dX11_fromLaw0_47 (k := ?_)
  refine ev_icmpge 59 dX11_fromLaw0_50 (kt := fun hc => ?_) (kf := fun hc => ?_)
  · replace H := if_pe hc H
    refine ev_iload 0 dX11_fromLaw0_59 (k := ?_)
    cases H
    exact ev_ireturn dX11_fromLaw0_61
  · replace H := if_ne hc H
    refine ev_iload 0 dX11_fromLaw0_53 (k := ?_)
    refine ev_ineg dX11_fromLaw0_55 (k := ?_)
    refine ev_goto 61 dX11_fromLaw0_56 (k := ?_)
    cases H
    exact ev_ireturn dX11_fromLaw0_61
set_option maxRecDepth 100000 in
set_option maxHeartbeats 4000000 in
theorem C11_fromLaw0 {l0 : Int} {h : JM} {res : (Int × JM)} (H : F11_fromLaw0 l0 h = some res) : Cn j_W1 1 0 0 yX11_fromLaw0 cX11_fromLaw0 5 (some .int) [.inl (l0)] h (some (.inl res.1)) res.2 := by
  refine Cn.by (own := RX11) (b := false) [(0, .inl (l0))] rfl (fun z => by cases z) (by decide +kernel) (K := ?_)
  unfold F11_fromLaw0 at H
  refine ev_iload_n 0 dX11_fromLaw0_0 (k := ?_)
  refine ev_bipush dX11_fromLaw0_1 (k := ?_)
  refine ev_ixor dX11_fromLaw0_3 (k := ?_)
  obtain ⟨x1, ex1, H1⟩ := lt_e H
  clear H
  refine ev_topI ex1 ?_
  refine ev_istore_n [(1, .inl (x1)), (0, .inl (l0))] dX11_fromLaw0_4 (k := ?_)
  refine ev_iload_n 0 dX11_fromLaw0_5 (k := ?_)
  refine ev_bipush dX11_fromLaw0_6 (k := ?_)
  refine ev_idiv dX11_fromLaw0_8 (by decide) (k := ?_)
  refine ev_bipush dX11_fromLaw0_9 (k := ?_)
  refine ev_iand dX11_fromLaw0_11 (k := ?_)
  obtain ⟨x2, ex2, H2⟩ := lt_e H1
  clear H1
  refine ev_topI ex2 ?_
  refine ev_istore_n [(2, .inl (x2)), (1, .inl (x1)), (0, .inl (l0))] dX11_fromLaw0_12 (k := ?_)
  refine ev_iload_n 1 dX11_fromLaw0_13 (k := ?_)
  refine ev_bipush dX11_fromLaw0_14 (k := ?_)
  refine ev_iand dX11_fromLaw0_16 (k := ?_)
  obtain ⟨x3, ex3, H3⟩ := lt_e H2
  clear H2
  refine ev_topI ex3 ?_
  refine ev_istore_n [(3, .inl (x3)), (2, .inl (x2)), (1, .inl (x1)), (0, .inl (l0))] dX11_fromLaw0_17 (k := ?_)
  refine ev_iload_n 1 dX11_fromLaw0_18 (k := ?_)
  refine ev_ifne 32 dX11_fromLaw0_19 (kt := fun hc => ?_) (kf := fun hc => ?_)
  · replace H3 := if_ne hc H3
    refine ev_iconst dX11_fromLaw0_32 (k := ?_)
    refine ev_iconst dX11_fromLaw0_33 (k := ?_)
    refine ev_iload_n 0 dX11_fromLaw0_34 (k := ?_)
    refine ev_imul dX11_fromLaw0_35 (k := ?_)
    refine ev_bipush dX11_fromLaw0_36 (k := ?_)
    refine ev_iadd dX11_fromLaw0_38 (k := ?_)
    refine ev_iload_n 1 dX11_fromLaw0_39 (k := ?_)
    refine ev_iconst dX11_fromLaw0_40 (k := ?_)
    refine ev_isub dX11_fromLaw0_41 (k := ?_)
    refine ev_ishl dX11_fromLaw0_42 (k := ?_)
    refine ev_imul dX11_fromLaw0_43 (k := ?_)
    refine ev_lv [2] [(1, .inl (x1))] (k := ?_)
    exact E11_fromLaw0_44 x1 (w32 (2 * (j_shl (w32 ((w32 (2 * x3)) + 33)) (w32 (x2 - 1))))) h _ H3
  · replace H3 := if_pe hc H3
    refine ev_iconst dX11_fromLaw0_22 (k := ?_)
    refine ev_iconst dX11_fromLaw0_23 (k := ?_)
    refine ev_iload_n 0 dX11_fromLaw0_24 (k := ?_)
    refine ev_imul dX11_fromLaw0_25 (k := ?_)
    refine ev_iconst dX11_fromLaw0_26 (k := ?_)
    refine ev_iadd dX11_fromLaw0_27 (k := ?_)
    refine ev_imul dX11_fromLaw0_28 (k := ?_)
    refine ev_goto 44 dX11_fromLaw0_29 (k := ?_)
    refine ev_lv [2] [(1, .inl (x1))] (k := ?_)
    exact E11_fromLaw0_44 x1 (w32 (2 * (w32 ((w32 (2 * x3)) + 1)))) h _ H3
