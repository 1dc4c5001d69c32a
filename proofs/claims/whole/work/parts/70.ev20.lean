-- X12_member
abbrev T12_member : JT := (RX12, cX12_member, 5, some .int, false)
set_option maxRecDepth 100000 in
set_option maxHeartbeats 4000000 in
theorem E12_member_34b (k34 : Int → Int → Int → JM → Option (Int × JM)) (hk34 : ∀ (l2 : Int) (l3 : Int) (l4 : Int) (h : JM) (res : (Int × JM)), k34 l2 l3 l4 h = some res → Ev j_W1 3 0 0 T12_member 34 [(0, .inr (.inr (some (12, 0)))), (2, .inl (l2)), (3, .inl (l3)), (4, .inl (l4))] [] h (some (.inl res.1)) res.2) (l2 : Int) (l3 : Int) (l4 : Int) (h : JM) (res : (Int × JM)) (H : F12_member_34b k34 l2 l3 l4 h = some res) : Ev j_W1 3 0 0 T12_member 34 [(0, .inr (.inr (some (12, 0)))), (2, .inl (l2)), (3, .inl (l3)), (4, .inl (l4))] [] h (some (.inl res.1)) res.2 := by
  unfold F12_member_34b at H
  refine ev_iload 3 dX12_member_34 (k := ?_)
  refine ev_aload_n 0 dX12_member_36 (k := ?_)
  refine ev_getR (t := 150) (x := some (150, 0)) fl_X12_146 dX12_member_37 (hx := ry_12_50 _ _) (K := ?_)
  refine ev_iload_n 2 dX12_member_40 (k := ?_)
  obtain ⟨⟨hi0, hi1⟩, H1⟩ := g_e H
  clear H
  refine ev_iaload (k := 150) hi0 hi1 dX12_member_41 (hc := ac_150) (hlen := ln_150 _ _) (K := ?_)
  refine ev_icmpge 70 dX12_member_42 (kt := fun hc => ?_) (kf := fun hc => ?_)
  · replace H1 := if_pe hc H1
    refine ev_aload_n 0 dX12_member_70 (k := ?_)
    refine ev_getR (t := 149) (x := some (149, 0)) fl_X12_143 dX12_member_71 (hx := ry_12_49 _ _) (K := ?_)
    refine ev_bipush dX12_member_74 (k := ?_)
    refine ev_iload_n 2 dX12_member_76 (k := ?_)
    refine ev_imul dX12_member_77 (k := ?_)
    refine ev_aload_n 0 dX12_member_78 (k := ?_)
    refine ev_getR (t := 150) (x := some (150, 0)) fl_X12_146 dX12_member_79 (hx := ry_12_50 _ _) (K := ?_)
    refine ev_iload_n 2 dX12_member_82 (k := ?_)
    refine ev_dup2 dX12_member_83 (k := ?_)
    obtain ⟨⟨hi0, hi1⟩, H2⟩ := g_e H1
    clear H1
    refine ev_iaload (k := 150) hi0 hi1 dX12_member_84 (hc := ac_150) (hlen := ln_150 _ _) (K := ?_)
    refine ev_dup_x2 dX12_member_85 (k := ?_)
    refine ev_iconst dX12_member_86 (k := ?_)
    refine ev_iadd dX12_member_87 (k := ?_)
    obtain ⟨⟨hi0, hi1⟩, H3⟩ := g_e H2
    clear H2
    obtain ⟨h1, eh1, H4⟩ := lt_e H3
    clear H3
    refine ev_iastore (k := 150) j_ok1 hi0 hi1 eh1 dX12_member_88 (hc := ac_150) (hlen := ln_150 _ _) (K := ?_)
    refine ev_iadd dX12_member_89 (k := ?_)
    refine ev_iload_n 1 dX12_member_90 (k := ?_)
    obtain ⟨⟨hi0, hi1⟩, H5⟩ := g_e H4
    clear H4
    obtain ⟨h2, eh2, H6⟩ := lt_e H5
    clear H5
    refine ev_iastore (k := 149) j_ok1 hi0 hi1 eh2 dX12_member_91 (hc := ac_149) (hlen := ln_149 _ _) (K := ?_)
    refine ev_aload_n 0 dX12_member_92 (k := ?_)
    refine ev_getR (t := 150) (x := some (150, 0)) fl_X12_146 dX12_member_93 (hx := ry_12_50 _ _) (K := ?_)
    refine ev_iload_n 2 dX12_member_96 (k := ?_)
    obtain ⟨⟨hi0, hi1⟩, H7⟩ := g_e H6
    clear H6
    refine ev_iaload (k := 150) hi0 hi1 dX12_member_97 (hc := ac_150) (hlen := ln_150 _ _) (K := ?_)
    cases H7
    exact ev_ireturn dX12_member_98
  · replace H1 := if_ne hc H1
    refine ev_aload_n 0 dX12_member_45 (k := ?_)
    refine ev_getR (t := 149) (x := some (149, 0)) fl_X12_143 dX12_member_46 (hx := ry_12_49 _ _) (K := ?_)
    refine ev_bipush dX12_member_49 (k := ?_)
    refine ev_iload_n 2 dX12_member_51 (k := ?_)
    refine ev_imul dX12_member_52 (k := ?_)
    refine ev_iload 3 dX12_member_53 (k := ?_)
    refine ev_iadd dX12_member_55 (k := ?_)
    obtain ⟨⟨hi0, hi1⟩, H2⟩ := g_e H1
    clear H1
    refine ev_iaload (k := 149) hi0 hi1 dX12_member_56 (hc := ac_149) (hlen := ln_149 _ _) (K := ?_)
    refine ev_iload_n 1 dX12_member_57 (k := ?_)
    refine ev_icmpne 64 dX12_member_58 (kt := fun hc => ?_) (kf := fun hc => ?_)
    · replace H2 := if_ne hc H2
      refine ev_iinc 3 [(4, .inl (w32 (l4 + 1))), (0, .inr (.inr (some (12, 0)))), (2, .inl (l2)), (3, .inl (l3))] dX12_member_64 (k := ?_)
      refine ev_goto 34 dX12_member_67 (k := ?_)
      refine ev_lv [1, 2, 3, 0] [(0, .inr (.inr (some (12, 0)))), (2, .inl (l2)), (3, .inl (l3)), (4, .inl (w32 (l4 + 1)))] (k := ?_)
      exact hk34 l2 l3 (w32 (l4 + 1)) h _ H2
    · replace H2 := if_pe hc H2
      refine ev_bipush dX12_member_61 (k := ?_)
      cases H2
      exact ev_ireturn dX12_member_63
theorem E12_member_34 (n : Nat) : ∀ (l2 : Int) (l3 : Int) (l4 : Int) (h : JM) (res : (Int × JM)), F12_member_34 n l2 l3 l4 h = some res → Ev j_W1 3 0 0 T12_member 34 [(0, .inr (.inr (some (12, 0)))), (2, .inl (l2)), (3, .inl (l3)), (4, .inl (l4))] [] h (some (.inl res.1)) res.2 := by
  induction n with
  | zero =>
    intro l2 l3 l4 h res H
    cases H
  | succ n ih =>
    intro l2 l3 l4 h res H
    exact E12_member_34b (F12_member_34 n) ih l2 l3 l4 h res H
set_option maxRecDepth 100000 in
set_option maxHeartbeats 4000000 in
theorem E12_member_19 (h : JM) (res : (Int × JM)) (H : F12_member_19 h = some res) : Ev j_W1 3 0 0 T12_member 19 [] [] h (some (.inl res.1)) res.2 := by
  unfold F12_member_19 at H
  refine ev_bipush dX12_member_19 (k := ?_)
  cases H
  exact ev_ireturn dX12_member_21
set_option maxRecDepth 100000 in
set_option maxHeartbeats 4000000 in
theorem C12_member {l1 : Int} {l2 : Int} {h : JM} {res : (Int × JM)} (H : F12_member l1 l2 h = some res) : Cn j_W1 3 0 0 yX12_member cX12_member 5 (some .int) [.inr (.inr (some (12, 0))), .inl (l1), .inl (l2)] h (some (.inl res.1)) res.2 := by
  refine Cn.by (own := RX12) (b := false) [(0, .inr (.inr (some (12, 0)))), (1, .inl (l1)), (2, .inl (l2))] rfl (fun z => by cases z) (by decide +kernel) (K := ?_)
  unfold F12_member at H
  refine ev_iload_n 1 dX12_member_0 (k := ?_)
  refine ev_i2l dX12_member_1 (k := ?_)
  refine ev_lconst (v := 0) dX12_member_2 (k := ?_)
  refine ev_ldc2 (n := 2) cl_X12_281 dX12_member_3 (k := ?_)
  obtain ⟨q3, hq, H1⟩ := bd_e H
  clear H
  refine ev_callS (mc := 0) (ms := 0) (st := []) (C12_in hq) md_X12_in ss_X12_in ml_X12_268 dX12_member_6 _ (by decide) (K := ?_)
  refine ev_ifeq 19 dX12_member_9 (kt := fun hc => ?_) (kf := fun hc => ?_)
  · replace H1 := if_pe hc H1
    refine ev_lv [] [] (k := ?_)
    exact E12_member_19 q3.2 _ H1
  · replace H1 := if_ne hc H1
    refine ev_iload_n 2 dX12_member_12 (k := ?_)
    obtain ⟨q4, hq, H2⟩ := bd_e H1
    clear H1
    refine ev_callS (mc := 0) (ms := 0) (st := []) (C12_isLine hq) md_X12_isLine ss_X12_isLine ml_X12_288 dX12_member_13 _ (by decide) (K := ?_)
    refine ev_ifne 22 dX12_member_16 (kt := fun hc => ?_) (kf := fun hc => ?_)
    · replace H2 := if_ne hc H2
      refine ev_iconst dX12_member_22 (k := ?_)
      refine ev_iload_n 2 dX12_member_23 (k := ?_)
      refine ev_bipush dX12_member_24 (k := ?_)
      refine ev_idiv dX12_member_26 (by decide) (k := ?_)
      refine ev_imul dX12_member_27 (k := ?_)
      refine ev_iload_n 1 dX12_member_28 (k := ?_)
      refine ev_iadd dX12_member_29 (k := ?_)
      obtain ⟨x5, ex5, H3⟩ := lt_e H2
      clear H2
      refine ev_topI ex5 ?_
      refine ev_istore_n [(3, .inl (x5)), (0, .inr (.inr (some (12, 0)))), (1, .inl (l1)), (2, .inl (l2))] dX12_member_30 (k := ?_)
      refine ev_iconst dX12_member_31 (k := ?_)
      refine ev_istore [(4, .inl (0)), (3, .inl (x5)), (0, .inr (.inr (some (12, 0)))), (1, .inl (l1)), (2, .inl (l2))] dX12_member_32 (k := ?_)
      refine ev_lv [2, 4, 1, 0] [(0, .inr (.inr (some (12, 0)))), (2, .inl (l2)), (3, .inl (x5)), (4, .inl (0))] (k := ?_)
      exact E12_member_34 j_fu l2 x5 0 q4.2 _ H3
    · replace H2 := if_pe hc H2
      refine ev_lv [] [] (k := ?_)
      exact E12_member_19 q4.2 _ H2
-- X12_modulo
abbrev T12_modulo : JT := (RX12, cX12_modulo, 1, some .int, false)
set_option maxRecDepth 100000 in
set_option maxHeartbeats 4000000 in
theorem C12_modulo {l0 : Int} {h : JM} {res : (Int × JM)} (H : F12_modulo l0 h = some res) : Cn j_W1 1 0 0 yX12_modulo cX12_modulo 1 (some .int) [.inl (l0)] h (some (.inl res.1)) res.2 := by
  refine Cn.by (own := RX12) (b := false) [(0, .inl (l0))] rfl (fun z => by cases z) (by decide +kernel) (K := ?_)
  unfold F12_modulo at H
  refine ev_iload_n 0 dX12_modulo_0 (k := ?_)
  refine ev_sipush dX12_modulo_1 (k := ?_)
  refine ev_irem dX12_modulo_4 (by decide) (k := ?_)
  refine ev_sipush dX12_modulo_5 (k := ?_)
  refine ev_iadd dX12_modulo_8 (k := ?_)
  refine ev_sipush dX12_modulo_9 (k := ?_)
  refine ev_irem dX12_modulo_12 (by decide) (k := ?_)
  cases H
  exact ev_ireturn dX12_modulo_13
-- X12_number
abbrev T12_number : JT := (RX12, cX12_number, 4, none, false)
set_option maxRecDepth 100000 in
set_option maxHeartbeats 4000000 in
theorem E12_number_2b (k2 : Int → Int → Int → JM → Option JM) (hk2 : ∀ (l1 : Int) (l2 : Int) (l3 : Int) (h : JM) (res : JM), k2 l1 l2 l3 h = some res → Ev j_W1 1 0 0 T12_number 2 [(0, .inr (.inr (some (12, 0)))), (1, .inl (l1)), (2, .inl (l2)), (3, .inl (l3))] [] h none res) (l1 : Int) (l2 : Int) (l3 : Int) (h : JM) (res : JM) (H : F12_number_2b k2 l1 l2 l3 h = some res) : Ev j_W1 1 0 0 T12_number 2 [(0, .inr (.inr (some (12, 0)))), (1, .inl (l1)), (2, .inl (l2)), (3, .inl (l3))] [] h none res := by
  unfold F12_number_2b at H
  refine ev_iload_n 3 dX12_number_2 (k := ?_)
  refine ev_iload_n 2 dX12_number_3 (k := ?_)
  refine ev_icmpge 34 dX12_number_4 (kt := fun hc => ?_) (kf := fun hc => ?_)
  · replace H := if_pe hc H
    cases H
    exact ev_return dX12_number_34
  · replace H := if_ne hc H
    refine ev_aload_n 0 dX12_number_7 (k := ?_)
    refine ev_getR (t := 182) (x := some (182, 0)) fl_X12_231 dX12_number_8 (hx := ry_12_82 _ _) (K := ?_)
    refine ev_aload_n 0 dX12_number_11 (k := ?_)
    refine ev_dup dX12_number_12 (k := ?_)
    refine ev_getI (x := h.1 12 0 83) fl_X12_428 dX12_number_13 (K := ?_)
    refine ev_dup_x1 dX12_number_16 (k := ?_)
    refine ev_iconst dX12_number_17 (k := ?_)
    refine ev_iadd dX12_number_18 (k := ?_)
    obtain ⟨h1, eh1, H1⟩ := lt_e H
    clear H
    refine ev_putI j_ok1 fl_X12_428 eh1 dX12_number_19 (K := ?_)
    refine ev_iload_n 1 dX12_number_22 (k := ?_)
    refine ev_iload_n 3 dX12_number_23 (k := ?_)
    refine ev_ishr dX12_number_24 (k := ?_)
    refine ev_iconst dX12_number_25 (k := ?_)
    refine ev_iand dX12_number_26 (k := ?_)
    obtain ⟨⟨hi0, hi1⟩, H2⟩ := g_e H1
    clear H1
    obtain ⟨h2, eh2, H3⟩ := lt_e H2
    clear H2
    refine ev_iastore (k := 182) j_ok1 hi0 hi1 eh2 dX12_number_27 (hc := ac_182) (hlen := ln_182 _ _) (K := ?_)
    refine ev_iinc 3 [(3, .inl (w32 (l3 + 1))), (0, .inr (.inr (some (12, 0)))), (1, .inl (l1)), (2, .inl (l2))] dX12_number_28 (k := ?_)
    refine ev_goto 2 dX12_number_31 (k := ?_)
    refine ev_lv [1, 2, 3, 0] [(0, .inr (.inr (some (12, 0)))), (1, .inl (l1)), (2, .inl (l2)), (3, .inl (w32 (l3 + 1)))] (k := ?_)
    exact hk2 l1 l2 (w32 (l3 + 1)) h2 _ H3
theorem E12_number_2 (n : Nat) : ∀ (l1 : Int) (l2 : Int) (l3 : Int) (h : JM) (res : JM), F12_number_2 n l1 l2 l3 h = some res → Ev j_W1 1 0 0 T12_number 2 [(0, .inr (.inr (some (12, 0)))), (1, .inl (l1)), (2, .inl (l2)), (3, .inl (l3))] [] h none res := by
  induction n with
  | zero =>
    intro l1 l2 l3 h res H
    cases H
  | succ n ih =>
    intro l1 l2 l3 h res H
    exact E12_number_2b (F12_number_2 n) ih l1 l2 l3 h res H
set_option maxRecDepth 100000 in
set_option maxHeartbeats 4000000 in
theorem C12_number {l1 : Int} {l2 : Int} {h : JM} {res : JM} (H : F12_number l1 l2 h = some res) : Cn j_W1 1 0 0 yX12_number cX12_number 4 none [.inr (.inr (some (12, 0))), .inl (l1), .inl (l2)] h none res := by
  refine Cn.by (own := RX12) (b := false) [(0, .inr (.inr (some (12, 0)))), (1, .inl (l1)), (2, .inl (l2))] rfl (fun z => by cases z) (by decide +kernel) (K := ?_)
  unfold F12_number at H
  refine ev_iconst dX12_number_0 (k := ?_)
  refine ev_istore_n [(3, .inl (0)), (0, .inr (.inr (some (12, 0)))), (1, .inl (l1)), (2, .inl (l2))] dX12_number_1 (k := ?_)
  refine ev_lv [1, 2, 3, 0] [(0, .inr (.inr (some (12, 0)))), (1, .inl (l1)), (2, .inl (l2)), (3, .inl (0))] (k := ?_)
  exact E12_number_2 j_fu l1 l2 0 h _ H
-- X12_partner
abbrev T12_partner : JT := (RX12, cX12_partner, 3, some .int, false)
set_option maxRecDepth 100000 in
set_option maxHeartbeats 4000000 in
theorem E12_partner_32 (h : JM) (res : (Int × JM)) (H : F12_partner_32 h = some res) : Ev j_W1 3 0 0 T12_partner 32 [] [] h (some (.inl res.1)) res.2 := by
  unfold F12_partner_32 at H
  refine ev_iconst dX12_partner_32 (k := ?_)
  refine ev_goto 61 dX12_partner_33 (k := ?_)
  cases H
  exact ev_ireturn dX12_partner_61
set_option maxRecDepth 100000 in
set_option maxHeartbeats 4000000 in
theorem C12_partner {l1 : Int} {h : JM} {res : (Int × JM)} (H : F12_partner l1 h = some res) : Cn j_W1 3 0 0 yX12_partner cX12_partner 3 (some .int) [.inr (.inr (some (12, 0))), .inl (l1)] h (some (.inl res.1)) res.2 := by
  refine Cn.by (own := RX12) (b := false) [(0, .inr (.inr (some (12, 0)))), (1, .inl (l1))] rfl (fun z => by cases z) (by decide +kernel) (K := ?_)
  unfold F12_partner at H
  refine ev_iload_n 1 dX12_partner_0 (k := ?_)
  obtain ⟨q1, hq, H1⟩ := bd_e H
  clear H
  refine ev_callS (mc := 0) (ms := 0) (st := []) (C12_isLine hq) md_X12_isLine ss_X12_isLine ml_X12_288 dX12_partner_1 _ (by decide) (K := ?_)
  refine ev_ifne 10 dX12_partner_4 (kt := fun hc => ?_) (kf := fun hc => ?_)
  · replace H1 := if_ne hc H1
    refine ev_aload_n 0 dX12_partner_10 (k := ?_)
    refine ev_getR (t := 119) (x := some (119, 0)) fl_X12_56 dX12_partner_11 (hx := ry_12_19 _ _) (K := ?_)
    refine ev_iload_n 1 dX12_partner_14 (k := ?_)
    obtain ⟨⟨hi0, hi1⟩, H2⟩ := g_e H1
    clear H1
    refine ev_iaload (k := 119) hi0 hi1 dX12_partner_15 (hc := ac_119) (hlen := ln_119 _ _) (K := ?_)
    obtain ⟨x2, ex2, H3⟩ := lt_e H2
    clear H2
    refine ev_topI ex2 ?_
    refine ev_istore_n [(2, .inl (x2)), (0, .inr (.inr (some (12, 0)))), (1, .inl (l1))] dX12_partner_16 (k := ?_)
    refine ev_iload_n 0 dX12_partner_17 (k := ?_)
    refine ev_iconst dX12_partner_18 (k := ?_)
    refine ev_icmpeq 32 dX12_partner_19 (kt := fun hc => ?_) (kf := fun hc => ?_)
    · replace H3 := if_pe hc H3
      refine ev_lv [] [] (k := ?_)
      exact E12_partner_32 q1.2 _ H3
    · replace H3 := if_ne hc H3
      refine ev_aload_n 1 dX12_partner_22 (k := ?_)
      refine ev_getR (t := 133) (x := some (133, 0)) fl_X12_95 dX12_partner_23 (hx := ry_12_33 _ _) (K := ?_)
      refine ev_iload_n 0 dX12_partner_26 (k := ?_)
      obtain ⟨⟨hi0, hi1⟩, H4⟩ := g_e H3
      clear H3
      refine ev_iaload (k := 133) hi0 hi1 dX12_partner_27 (hc := ac_133) (hlen := ln_133 _ _) (K := ?_)
      refine ev_iconst dX12_partner_28 (k := ?_)
      refine ev_icmpeq 36 dX12_partner_29 (kt := fun hc => ?_) (kf := fun hc => ?_)
      · replace H4 := if_pe hc H4
        refine ev_aload_n 1 dX12_partner_36 (k := ?_)
        refine ev_getR (t := 136) (x := some (136, 0)) fl_X12_104 dX12_partner_37 (hx := ry_12_36 _ _) (K := ?_)
        refine ev_iload_n 0 dX12_partner_40 (k := ?_)
        obtain ⟨⟨hi0, hi1⟩, H5⟩ := g_e H4
        clear H4
        refine ev_iaload (k := 136) hi0 hi1 dX12_partner_41 (hc := ac_136) (hlen := ln_136 _ _) (K := ?_)
        refine ev_iload_n 2 dX12_partner_42 (k := ?_)
        refine ev_icmpne 55 dX12_partner_43 (kt := fun hc => ?_) (kf := fun hc => ?_)
        · replace H5 := if_ne hc H5
          refine ev_aload_n 1 dX12_partner_55 (k := ?_)
          refine ev_getR (t := 136) (x := some (136, 0)) fl_X12_104 dX12_partner_56 (hx := ry_12_36 _ _) (K := ?_)
          refine ev_iload_n 0 dX12_partner_59 (k := ?_)
          obtain ⟨⟨hi0, hi1⟩, H6⟩ := g_e H5
          clear H5
          refine ev_iaload (k := 136) hi0 hi1 dX12_partner_60 (hc := ac_136) (hlen := ln_136 _ _) (K := ?_)
          cases H6
          exact ev_ireturn dX12_partner_61
        · replace H5 := if_pe hc H5
          refine ev_aload_n 1 dX12_partner_46 (k := ?_)
          refine ev_getR (t := 137) (x := some (137, 0)) fl_X12_107 dX12_partner_47 (hx := ry_12_37 _ _) (K := ?_)
          refine ev_iload_n 0 dX12_partner_50 (k := ?_)
          obtain ⟨⟨hi0, hi1⟩, H6⟩ := g_e H5
          clear H5
          refine ev_iaload (k := 137) hi0 hi1 dX12_partner_51 (hc := ac_137) (hlen := ln_137 _ _) (K := ?_)
          refine ev_goto 61 dX12_partner_52 (k := ?_)
          cases H6
          exact ev_ireturn dX12_partner_61
      · replace H4 := if_ne hc H4
        refine ev_lv [] [] (k := ?_)
        exact E12_partner_32 q1.2 _ H4
  · replace H1 := if_pe hc H1
    refine ev_bipush dX12_partner_7 (k := ?_)
    cases H1
    exact ev_ireturn dX12_partner_9
-- X12_plan
abbrev T12_plan : JT := (RX12, cX12_plan, 11, some .int, false)
set_option maxRecDepth 100000 in
set_option maxHeartbeats 4000000 in
theorem E12_plan_281b (k281 : Int → Int → Int → Int → Int → Int → Int → JM → Option (Int × JM)) (hk281 : ∀ (l1 : Int) (l2 : Int) (l3 : Int) (l4 : Int) (l5 : Int) (l7 : Int) (l8 : Int) (h : JM) (res : (Int × JM)), k281 l1 l2 l3 l4 l5 l7 l8 h = some res → Ev j_W1 2 0 0 T12_plan 281 [(0, .inr (.inr (some (12, 0)))), (1, .inl (l1)), (2, .inl (l2)), (3, .inl (l3)), (4, .inl (l4)), (5, .inl (l5)), (7, .inl (l7)), (8, .inl (l8))] [] h (some (.inl res.1)) res.2) (l1 : Int) (l2 : Int) (l3 : Int) (l4 : Int) (l5 : Int) (l7 : Int) (l8 : Int) (h : JM) (res : (Int × JM)) (H : F12_plan_281b k281 l1 l2 l3 l4 l5 l7 l8 h = some res) : Ev j_W1 2 0 0 T12_plan 281 [(0, .inr (.inr (some (12, 0)))), (1, .inl (l1)), (2, .inl (l2)), (3, .inl (l3)), (4, .inl (l4)), (5, .inl (l5)), (7, .inl (l7)), (8, .inl (l8))] [] h (some (.inl res.1)) res.2 := by
  unfold F12_plan_281b at H
  refine ev_iload 7 dX12_plan_281 (k := ?_)
  refine ev_aload_n 0 dX12_plan_283 (k := ?_)
  refine ev_getI (x := h.1 12 0 4) fl_X12_272 dX12_plan_284 (K := ?_)
  refine ev_icmpge 316 dX12_plan_287 (kt := fun hc => ?_) (kf := fun hc => ?_)
  · replace H := if_pe hc H
    refine ev_aload_n 0 dX12_plan_316 (k := ?_)
    refine ev_getR (t := 107) (x := some (107, 0)) fl_X12_19 dX12_plan_317 (hx := ry_12_7 _ _) (K := ?_)
    refine ev_iload 6 dX12_plan_320 (k := ?_)
    refine ev_aload_n 0 dX12_plan_322 (k := ?_)
    refine ev_getI (x := h.1 12 0 4) fl_X12_272 dX12_plan_323 (K := ?_)
    obtain ⟨⟨hi0, hi1⟩, H1⟩ := g_e H
    clear H
    obtain ⟨h1, eh1, H2⟩ := lt_e H1
    clear H1
    refine ev_iastore (k := 107) j_ok1 hi0 hi1 eh1 dX12_plan_326 (hc := ac_107) (hlen := ln_107 _ _) (K := ?_)
    refine ev_aload_n 0 dX12_plan_327 (k := ?_)
    refine ev_getR (t := 108) (x := some (108, 0)) fl_X12_22 dX12_plan_328 (hx := ry_12_8 _ _) (K := ?_)
    refine ev_iload 6 dX12_plan_331 (k := ?_)
    refine ev_iload_n 2 dX12_plan_333 (k := ?_)
    obtain ⟨⟨hi0, hi1⟩, H3⟩ := g_e H2
    clear H2
    obtain ⟨h2, eh2, H4⟩ := lt_e H3
    clear H3
    refine ev_iastore (k := 108) j_ok1 hi0 hi1 eh2 dX12_plan_334 (hc := ac_108) (hlen := ln_108 _ _) (K := ?_)
    refine ev_aload_n 0 dX12_plan_335 (k := ?_)
    refine ev_getR (t := 109) (x := some (109, 0)) fl_X12_25 dX12_plan_336 (hx := ry_12_9 _ _) (K := ?_)
    refine ev_iload 6 dX12_plan_339 (k := ?_)
    refine ev_iload_n 3 dX12_plan_341 (k := ?_)
    obtain ⟨⟨hi0, hi1⟩, H5⟩ := g_e H4
    clear H4
    obtain ⟨h3, eh3, H6⟩ := lt_e H5
    clear H5
    refine ev_iastore (k := 109) j_ok1 hi0 hi1 eh3 dX12_plan_342 (hc := ac_109) (hlen := ln_109 _ _) (K := ?_)
    refine ev_aload_n 0 dX12_plan_343 (k := ?_)
    refine ev_getR (t := 110) (x := some (110, 0)) fl_X12_28 dX12_plan_344 (hx := ry_12_10 _ _) (K := ?_)
    refine ev_iload 6 dX12_plan_347 (k := ?_)
    refine ev_iload 4 dX12_plan_349 (k := ?_)
    obtain ⟨⟨hi0, hi1⟩, H7⟩ := g_e H6
    clear H6
    obtain ⟨h4, eh4, H8⟩ := lt_e H7
    clear H7
    refine ev_iastore (k := 110) j_ok1 hi0 hi1 eh4 dX12_plan_351 (hc := ac_110) (hlen := ln_110 _ _) (K := ?_)
    refine ev_aload_n 0 dX12_plan_352 (k := ?_)
    refine ev_getR (t := 111) (x := some (111, 0)) fl_X12_31 dX12_plan_353 (hx := ry_12_11 _ _) (K := ?_)
    refine ev_iload 6 dX12_plan_356 (k := ?_)
    refine ev_iload 5 dX12_plan_358 (k := ?_)
    obtain ⟨⟨hi0, hi1⟩, H9⟩ := g_e H8
    clear H8
    obtain ⟨h5, eh5, H10⟩ := lt_e H9
    clear H9
    refine ev_iastore (k := 111) j_ok1 hi0 hi1 eh5 dX12_plan_360 (hc := ac_111) (hlen := ln_111 _ _) (K := ?_)
    refine ev_aload_n 0 dX12_plan_361 (k := ?_)
    refine ev_iconst dX12_plan_362 (k := ?_)
    obtain ⟨h6, eh6, H11⟩ := lt_e H10
    clear H10
    refine ev_putI j_ok1 fl_X12_272 eh6 dX12_plan_363 (K := ?_)
    refine ev_aload_n 0 dX12_plan_366 (k := ?_)
    refine ev_getR (t := 105) (x := some (105, 0)) fl_X12_13 dX12_plan_367 (hx := ry_12_5 _ _) (K := ?_)
    refine ev_iload_n 1 dX12_plan_370 (k := ?_)
    refine ev_dup2 dX12_plan_371 (k := ?_)
    obtain ⟨⟨hi0, hi1⟩, H12⟩ := g_e H11
    clear H11
    refine ev_iaload (k := 105) hi0 hi1 dX12_plan_372 (hc := ac_105) (hlen := ln_105 _ _) (K := ?_)
    refine ev_dup_x2 dX12_plan_373 (k := ?_)
    refine ev_iconst dX12_plan_374 (k := ?_)
    refine ev_iadd dX12_plan_375 (k := ?_)
    obtain ⟨⟨hi0, hi1⟩, H13⟩ := g_e H12
    clear H12
    obtain ⟨h7, eh7, H14⟩ := lt_e H13
    clear H13
    refine ev_iastore (k := 105) j_ok1 hi0 hi1 eh7 dX12_plan_376 (hc := ac_105) (hlen := ln_105 _ _) (K := ?_)
    cases H14
    exact ev_ireturn dX12_plan_377
  · replace H := if_ne hc H
    refine ev_aload_n 0 dX12_plan_290 (k := ?_)
    refine ev_getR (t := 106) (x := some (106, 0)) fl_X12_16 dX12_plan_291 (hx := ry_12_6 _ _) (K := ?_)
    refine ev_bipush dX12_plan_294 (k := ?_)
    refine ev_iload 6 dX12_plan_296 (k := ?_)
    refine ev_imul dX12_plan_298 (k := ?_)
    refine ev_iload 7 dX12_plan_299 (k := ?_)
    refine ev_iadd dX12_plan_301 (k := ?_)
    refine ev_aload_n 0 dX12_plan_302 (k := ?_)
    refine ev_getR (t := 103) (x := some (103, 0)) fl_X12_9 dX12_plan_303 (hx := ry_12_3 _ _) (K := ?_)
    refine ev_iload 7 dX12_plan_306 (k := ?_)
    obtain ⟨⟨hi0, hi1⟩, H1⟩ := g_e H
    clear H
    refine ev_iaload (k := 103) hi0 hi1 dX12_plan_308 (hc := ac_103) (hlen := ln_103 _ _) (K := ?_)
    obtain ⟨⟨hi0, hi1⟩, H2⟩ := g_e H1
    clear H1
    obtain ⟨h8, eh8, H3⟩ := lt_e H2
    clear H2
    refine ev_iastore (k := 106) j_ok1 hi0 hi1 eh8 dX12_plan_309 (hc := ac_106) (hlen := ln_106 _ _) (K := ?_)
    refine ev_iinc 7 [(8, .inl (w32 (l8 + 1))), (0, .inr (.inr (some (12, 0)))), (1, .inl (l1)), (2, .inl (l2)), (3, .inl (l3)), (4, .inl (l4)), (5, .inl (l5)), (7, .inl (l7))] dX12_plan_310 (k := ?_)
    refine ev_goto 281 dX12_plan_313 (k := ?_)
    refine ev_lv [1, 2, 3, 4, 5, 6, 7, 0] [(0, .inr (.inr (some (12, 0)))), (1, .inl (l1)), (2, .inl (l2)), (3, .inl (l3)), (4, .inl (l4)), (5, .inl (l5)), (7, .inl (l7)), (8, .inl (w32 (l8 + 1)))] (k := ?_)
    exact hk281 l1 l2 l3 l4 l5 l7 (w32 (l8 + 1)) h8 _ H3
theorem E12_plan_281 (n : Nat) : ∀ (l1 : Int) (l2 : Int) (l3 : Int) (l4 : Int) (l5 : Int) (l7 : Int) (l8 : Int) (h : JM) (res : (Int × JM)), F12_plan_281 n l1 l2 l3 l4 l5 l7 l8 h = some res → Ev j_W1 2 0 0 T12_plan 281 [(0, .inr (.inr (some (12, 0)))), (1, .inl (l1)), (2, .inl (l2)), (3, .inl (l3)), (4, .inl (l4)), (5, .inl (l5)), (7, .inl (l7)), (8, .inl (l8))] [] h (some (.inl res.1)) res.2 := by
  induction n with
  | zero =>
    intro l1 l2 l3 l4 l5 l7 l8 h res H
    cases H
  | succ n ih =>
    intro l1 l2 l3 l4 l5 l7 l8 h res H
    exact E12_plan_281b (F12_plan_281 n) ih l1 l2 l3 l4 l5 l7 l8 h res H
set_option maxRecDepth 100000 in
set_option maxHeartbeats 4000000 in
theorem E12_plan_237 (k143 : Int → Int → Int → Int → Int → Int → JM → Option (Int × JM)) (hk143 : ∀ (l1 : Int) (l2 : Int) (l3 : Int) (l4 : Int) (l5 : Int) (l7 : Int) (h : JM) (res : (Int × JM)), k143 l1 l2 l3 l4 l5 l7 h = some res → Ev j_W1 2 0 0 T12_plan 143 [(0, .inr (.inr (some (12, 0)))), (1, .inl (l1)), (2, .inl (l2)), (3, .inl (l3)), (4, .inl (l4)), (5, .inl (l5)), (7, .inl (l7))] [] h (some (.inl res.1)) res.2) (l1 : Int) (l2 : Int) (l3 : Int) (l4 : Int) (l5 : Int) (l7 : Int) (l9 : Int) (h : JM) (res : (Int × JM)) (H : F12_plan_237 k143 l1 l2 l3 l4 l5 l7 l9 h = some res) : Ev j_W1 2 0 0 T12_plan 237 [(0, .inr (.inr (some (12, 0)))), (1, .inl (l1)), (2, .inl (l2)), (3, .inl (l3)), (4, .inl (l4)), (5, .inl (l5)), (7, .inl (l7)), (9, .inl (l9))] [] h (some (.inl res.1)) res.2 := by
  unfold F12_plan_237 at H
  refine ev_iload 7 dX12_plan_237 (k := ?_)
  refine ev_ifeq 245 dX12_plan_239 (kt := fun hc => ?_) (kf := fun hc => ?_)
  · replace H := if_pe hc H
    refine ev_iinc 6 [(7, .inl (w32 (l7 + 1))), (0, .inr (.inr (some (12, 0)))), (1, .inl (l1)), (2, .inl (l2)), (3, .inl (l3)), (4, .inl (l4)), (5, .inl (l5)), (9, .inl (l9))] dX12_plan_245 (k := ?_)
    refine ev_goto 143 dX12_plan_248 (k := ?_)
    refine ev_lv [1, 2, 3, 4, 5, 6, 0] [(0, .inr (.inr (some (12, 0)))), (1, .inl (l1)), (2, .inl (l2)), (3, .inl (l3)), (4, .inl (l4)), (5, .inl (l5)), (7, .inl (w32 (l7 + 1)))] (k := ?_)
    exact hk143 l1 l2 l3 l4 l5 (w32 (l7 + 1)) h _ H
  · replace H := if_ne hc H
    refine ev_bipush dX12_plan_242 (k := ?_)
    cases H
    exact ev_ireturn dX12_plan_244
set_option maxRecDepth 100000 in
set_option maxHeartbeats 4000000 in
theorem E12_plan_229 (k143 : Int → Int → Int → Int → Int → Int → JM → Option (Int × JM)) (hk143 : ∀ (l1 : Int) (l2 : Int) (l3 : Int) (l4 : Int) (l5 : Int) (l7 : Int) (h : JM) (res : (Int × JM)), k143 l1 l2 l3 l4 l5 l7 h = some res → Ev j_W1 2 0 0 T12_plan 143 [(0, .inr (.inr (some (12, 0)))), (1, .inl (l1)), (2, .inl (l2)), (3, .inl (l3)), (4, .inl (l4)), (5, .inl (l5)), (7, .inl (l7))] [] h (some (.inl res.1)) res.2) (k187 : Int → Int → Int → Int → Int → Int → Int → Int → Int → JM → Option (Int × JM)) (hk187 : ∀ (l1 : Int) (l2 : Int) (l3 : Int) (l4 : Int) (l5 : Int) (l7 : Int) (l8 : Int) (l9 : Int) (l10 : Int) (h : JM) (res : (Int × JM)), k187 l1 l2 l3 l4 l5 l7 l8 l9 l10 h = some res → Ev j_W1 2 0 0 T12_plan 187 [(0, .inr (.inr (some (12, 0)))), (1, .inl (l1)), (2, .inl (l2)), (3, .inl (l3)), (4, .inl (l4)), (5, .inl (l5)), (7, .inl (l7)), (8, .inl (l8)), (9, .inl (l9)), (10, .inl (l10))] [] h (some (.inl res.1)) res.2) (l1 : Int) (l2 : Int) (l3 : Int) (l4 : Int) (l5 : Int) (l7 : Int) (l8 : Int) (l10 : Int) (s0 : Int) (h : JM) (res : (Int × JM)) (H : F12_plan_229 k143 k187 l1 l2 l3 l4 l5 l7 l8 l10 s0 h = some res) : Ev j_W1 2 0 0 T12_plan 229 [(0, .inr (.inr (some (12, 0)))), (1, .inl (l1)), (2, .inl (l2)), (3, .inl (l3)), (4, .inl (l4)), (5, .inl (l5)), (7, .inl (l7)), (8, .inl (l8)), (10, .inl (l10))] [.inl (s0)] h (some (.inl res.1)) res.2 := by
  unfold F12_plan_229 at H
  refine ev_istore [(9, .inl (s0)), (0, .inr (.inr (some (12, 0)))), (1, .inl (l1)), (2, .inl (l2)), (3, .inl (l3)), (4, .inl (l4)), (5, .inl (l5)), (7, .inl (l7)), (8, .inl (l8)), (10, .inl (l10))] dX12_plan_229 (k := ?_)
  refine ev_iinc 9 [(10, .inl (w32 (l10 + 1))), (9, .inl (s0)), (0, .inr (.inr (some (12, 0)))), (1, .inl (l1)), (2, .inl (l2)), (3, .inl (l3)), (4, .inl (l4)), (5, .inl (l5)), (7, .inl (l7)), (8, .inl (l8))] dX12_plan_231 (k := ?_)
  refine ev_goto 187 dX12_plan_234 (k := ?_)
  refine ev_lv [2, 3, 4, 5, 6, 7, 8, 9, 1, 0] [(0, .inr (.inr (some (12, 0)))), (1, .inl (l1)), (2, .inl (l2)), (3, .inl (l3)), (4, .inl (l4)), (5, .inl (l5)), (7, .inl (l7)), (8, .inl (l8)), (9, .inl (s0)), (10, .inl (w32 (l10 + 1)))] (k := ?_)
  exact hk187 l1 l2 l3 l4 l5 l7 l8 s0 (w32 (l10 + 1)) h _ H
set_option maxRecDepth 100000 in
set_option maxHeartbeats 4000000 in
theorem E12_plan_187b (k143 : Int → Int → Int → Int → Int → Int → JM → Option (Int × JM)) (hk143 : ∀ (l1 : Int) (l2 : Int) (l3 : Int) (l4 : Int) (l5 : Int) (l7 : Int) (h : JM) (res : (Int × JM)), k143 l1 l2 l3 l4 l5 l7 h = some res → Ev j_W1 2 0 0 T12_plan 143 [(0, .inr (.inr (some (12, 0)))), (1, .inl (l1)), (2, .inl (l2)), (3, .inl (l3)), (4, .inl (l4)), (5, .inl (l5)), (7, .inl (l7))] [] h (some (.inl res.1)) res.2) (k187 : Int → Int → Int → Int → Int → Int → Int → Int → Int → JM → Option (Int × JM)) (hk187 : ∀ (l1 : Int) (l2 : Int) (l3 : Int) (l4 : Int) (l5 : Int) (l7 : Int) (l8 : Int) (l9 : Int) (l10 : Int) (h : JM) (res : (Int × JM)), k187 l1 l2 l3 l4 l5 l7 l8 l9 l10 h = some res → Ev j_W1 2 0 0 T12_plan 187 [(0, .inr (.inr (some (12, 0)))), (1, .inl (l1)), (2, .inl (l2)), (3, .inl (l3)), (4, .inl (l4)), (5, .inl (l5)), (7, .inl (l7)), (8, .inl (l8)), (9, .inl (l9)), (10, .inl (l10))] [] h (some (.inl res.1)) res.2) (l1 : Int) (l2 : Int) (l3 : Int) (l4 : Int) (l5 : Int) (l7 : Int) (l8 : Int) (l9 : Int) (l10 : Int) (h : JM) (res : (Int × JM)) (H : F12_plan_187b k143 k187 l1 l2 l3 l4 l5 l7 l8 l9 l10 h = some res) : Ev j_W1 2 0 0 T12_plan 187 [(0, .inr (.inr (some (12, 0)))), (1, .inl (l1)), (2, .inl (l2)), (3, .inl (l3)), (4, .inl (l4)), (5, .inl (l5)), (7, .inl (l7)), (8, .inl (l8)), (9, .inl (l9)), (10, .inl (l10))] [] h (some (.inl res.1)) res.2 := by
  unfold F12_plan_187b at H
  refine ev_iload 9 dX12_plan_187 (k := ?_)
  refine ev_aload_n 0 dX12_plan_189 (k := ?_)
  refine ev_getI (x := h.1 12 0 4) fl_X12_272 dX12_plan_190 (K := ?_)
  refine ev_icmpge 237 dX12_plan_193 (kt := fun hc => ?_) (kf := fun hc => ?_)
  · replace H := if_pe hc H
    refine ev_lv [0, 1, 2, 3, 4, 5, 6, 8] [(0, .inr (.inr (some (12, 0)))), (1, .inl (l1)), (2, .inl (l2)), (3, .inl (l3)), (4, .inl (l4)), (5, .inl (l5)), (7, .inl (l7)), (9, .inl (l9))] (k := ?_)
    exact E12_plan_237 k143 hk143 l1 l2 l3 l4 l5 l7 l9 h _ H
  · replace H := if_ne hc H
    refine ev_iload 8 dX12_plan_196 (k := ?_)
    refine ev_ifeq 237 dX12_plan_198 (kt := fun hc => ?_) (kf := fun hc => ?_)
    · replace H := if_pe hc H
      refine ev_lv [0, 1, 2, 3, 4, 5, 6, 8] [(0, .inr (.inr (some (12, 0)))), (1, .inl (l1)), (2, .inl (l2)), (3, .inl (l3)), (4, .inl (l4)), (5, .inl (l5)), (7, .inl (l7)), (9, .inl (l9))] (k := ?_)
      exact E12_plan_237 k143 hk143 l1 l2 l3 l4 l5 l7 l9 h _ H
    · replace H := if_ne hc H
      refine ev_aload_n 0 dX12_plan_201 (k := ?_)
      refine ev_getR (t := 106) (x := some (106, 0)) fl_X12_16 dX12_plan_202 (hx := ry_12_6 _ _) (K := ?_)
      refine ev_bipush dX12_plan_205 (k := ?_)
      refine ev_iload 7 dX12_plan_207 (k := ?_)
      refine ev_imul dX12_plan_209 (k := ?_)
      refine ev_iload 9 dX12_plan_210 (k := ?_)
      refine ev_iadd dX12_plan_212 (k := ?_)
      obtain ⟨⟨hi0, hi1⟩, H1⟩ := g_e H
      clear H
      refine ev_iaload (k := 106) hi0 hi1 dX12_plan_213 (hc := ac_106) (hlen := ln_106 _ _) (K := ?_)
      refine ev_aload_n 0 dX12_plan_214 (k := ?_)
      refine ev_getR (t := 103) (x := some (103, 0)) fl_X12_9 dX12_plan_215 (hx := ry_12_3 _ _) (K := ?_)
      refine ev_iload 9 dX12_plan_218 (k := ?_)
      obtain ⟨⟨hi0, hi1⟩, H2⟩ := g_e H1
      clear H1
      refine ev_iaload (k := 103) hi0 hi1 dX12_plan_220 (hc := ac_103) (hlen := ln_103 _ _) (K := ?_)
      refine ev_icmpne 228 dX12_plan_221 (kt := fun hc => ?_) (kf := fun hc => ?_)
      · replace H2 := if_ne hc H2
        refine ev_iconst dX12_plan_228 (k := ?_)
        refine ev_lv [0, 1, 2, 3, 4, 5, 6, 7, 9] [(0, .inr (.inr (some (12, 0)))), (1, .inl (l1)), (2, .inl (l2)), (3, .inl (l3)), (4, .inl (l4)), (5, .inl (l5)), (7, .inl (l7)), (8, .inl (l8)), (10, .inl (l10))] (k := ?_)
        exact E12_plan_229 k143 hk143 k187 hk187 l1 l2 l3 l4 l5 l7 l8 l10 0 h _ H2
      · replace H2 := if_pe hc H2
        refine ev_iconst dX12_plan_224 (k := ?_)
        refine ev_goto 229 dX12_plan_225 (k := ?_)
        refine ev_lv [0, 1, 2, 3, 4, 5, 6, 7, 9] [(0, .inr (.inr (some (12, 0)))), (1, .inl (l1)), (2, .inl (l2)), (3, .inl (l3)), (4, .inl (l4)), (5, .inl (l5)), (7, .inl (l7)), (8, .inl (l8)), (10, .inl (l10))] (k := ?_)
        exact E12_plan_229 k143 hk143 k187 hk187 l1 l2 l3 l4 l5 l7 l8 l10 1 h _ H2
theorem E12_plan_187 (k143 : Int → Int → Int → Int → Int → Int → JM → Option (Int × JM)) (hk143 : ∀ (l1 : Int) (l2 : Int) (l3 : Int) (l4 : Int) (l5 : Int) (l7 : Int) (h : JM) (res : (Int × JM)), k143 l1 l2 l3 l4 l5 l7 h = some res → Ev j_W1 2 0 0 T12_plan 143 [(0, .inr (.inr (some (12, 0)))), (1, .inl (l1)), (2, .inl (l2)), (3, .inl (l3)), (4, .inl (l4)), (5, .inl (l5)), (7, .inl (l7))] [] h (some (.inl res.1)) res.2) (n : Nat) : ∀ (l1 : Int) (l2 : Int) (l3 : Int) (l4 : Int) (l5 : Int) (l7 : Int) (l8 : Int) (l9 : Int) (l10 : Int) (h : JM) (res : (Int × JM)), F12_plan_187 k143 n l1 l2 l3 l4 l5 l7 l8 l9 l10 h = some res → Ev j_W1 2 0 0 T12_plan 187 [(0, .inr (.inr (some (12, 0)))), (1, .inl (l1)), (2, .inl (l2)), (3, .inl (l3)), (4, .inl (l4)), (5, .inl (l5)), (7, .inl (l7)), (8, .inl (l8)), (9, .inl (l9)), (10, .inl (l10))] [] h (some (.inl res.1)) res.2 := by
  induction n with
  | zero =>
    intro l1 l2 l3 l4 l5 l7 l8 l9 l10 h res H
    cases H
  | succ n ih =>
    intro l1 l2 l3 l4 l5 l7 l8 l9 l10 h res H
    exact E12_plan_187b k143 hk143 (F12_plan_187 k143 n) ih l1 l2 l3 l4 l5 l7 l8 l9 l10 h res H
set_option maxRecDepth 100000 in
set_option maxHeartbeats 4000000 in
theorem E12_plan_182 (k143 : Int → Int → Int → Int → Int → Int → JM → Option (Int × JM)) (hk143 : ∀ (l1 : Int) (l2 : Int) (l3 : Int) (l4 : Int) (l5 : Int) (l7 : Int) (h : JM) (res : (Int × JM)), k143 l1 l2 l3 l4 l5 l7 h = some res → Ev j_W1 2 0 0 T12_plan 143 [(0, .inr (.inr (some (12, 0)))), (1, .inl (l1)), (2, .inl (l2)), (3, .inl (l3)), (4, .inl (l4)), (5, .inl (l5)), (7, .inl (l7))] [] h (some (.inl res.1)) res.2) (l1 : Int) (l2 : Int) (l3 : Int) (l4 : Int) (l5 : Int) (l7 : Int) (l8 : Int) (s0 : Int) (h : JM) (res : (Int × JM)) (H : F12_plan_182 k143 l1 l2 l3 l4 l5 l7 l8 s0 h = some res) : Ev j_W1 2 0 0 T12_plan 182 [(0, .inr (.inr (some (12, 0)))), (1, .inl (l1)), (2, .inl (l2)), (3, .inl (l3)), (4, .inl (l4)), (5, .inl (l5)), (7, .inl (l7)), (8, .inl (l8))] [.inl (s0)] h (some (.inl res.1)) res.2 := by
  unfold F12_plan_182 at H
  refine ev_istore [(9, .inl (s0)), (0, .inr (.inr (some (12, 0)))), (1, .inl (l1)), (2, .inl (l2)), (3, .inl (l3)), (4, .inl (l4)), (5, .inl (l5)), (7, .inl (l7)), (8, .inl (l8))] dX12_plan_182 (k := ?_)
  refine ev_iconst dX12_plan_184 (k := ?_)
  refine ev_istore [(10, .inl (0)), (9, .inl (s0)), (0, .inr (.inr (some (12, 0)))), (1, .inl (l1)), (2, .inl (l2)), (3, .inl (l3)), (4, .inl (l4)), (5, .inl (l5)), (7, .inl (l7)), (8, .inl (l8))] dX12_plan_185 (k := ?_)
  refine ev_lv [2, 3, 4, 5, 6, 7, 8, 9, 1, 0] [(0, .inr (.inr (some (12, 0)))), (1, .inl (l1)), (2, .inl (l2)), (3, .inl (l3)), (4, .inl (l4)), (5, .inl (l5)), (7, .inl (l7)), (8, .inl (l8)), (9, .inl (s0)), (10, .inl (0))] (k := ?_)
  exact E12_plan_187 k143 hk143 j_fu l1 l2 l3 l4 l5 l7 l8 s0 0 h _ H
set_option maxRecDepth 100000 in
set_option maxHeartbeats 4000000 in
theorem E12_plan_143b (k143 : Int → Int → Int → Int → Int → Int → JM → Option (Int × JM)) (hk143 : ∀ (l1 : Int) (l2 : Int) (l3 : Int) (l4 : Int) (l5 : Int) (l7 : Int) (h : JM) (res : (Int × JM)), k143 l1 l2 l3 l4 l5 l7 h = some res → Ev j_W1 2 0 0 T12_plan 143 [(0, .inr (.inr (some (12, 0)))), (1, .inl (l1)), (2, .inl (l2)), (3, .inl (l3)), (4, .inl (l4)), (5, .inl (l5)), (7, .inl (l7))] [] h (some (.inl res.1)) res.2) (l1 : Int) (l2 : Int) (l3 : Int) (l4 : Int) (l5 : Int) (l7 : Int) (h : JM) (res : (Int × JM)) (H : F12_plan_143b k143 l1 l2 l3 l4 l5 l7 h = some res) : Ev j_W1 2 0 0 T12_plan 143 [(0, .inr (.inr (some (12, 0)))), (1, .inl (l1)), (2, .inl (l2)), (3, .inl (l3)), (4, .inl (l4)), (5, .inl (l5)), (7, .inl (l7))] [] h (some (.inl res.1)) res.2 := by
  unfold F12_plan_143b at H
  refine ev_iload 6 dX12_plan_143 (k := ?_)
  refine ev_aload_n 0 dX12_plan_145 (k := ?_)
  refine ev_getR (t := 105) (x := some (105, 0)) fl_X12_13 dX12_plan_146 (hx := ry_12_5 _ _) (K := ?_)
  refine ev_iload_n 1 dX12_plan_149 (k := ?_)
  obtain ⟨⟨hi0, hi1⟩, H1⟩ := g_e H
  clear H
  refine ev_iaload (k := 105) hi0 hi1 dX12_plan_150 (hc := ac_105) (hlen := ln_105 _ _) (K := ?_)
  refine ev_icmpge 251 dX12_plan_151 (kt := fun hc => ?_) (kf := fun hc => ?_)
  · replace H1 := if_pe hc H1
    refine ev_aload_n 0 dX12_plan_251 (k := ?_)
    refine ev_getR (t := 105) (x := some (105, 0)) fl_X12_13 dX12_plan_252 (hx := ry_12_5 _ _) (K := ?_)
    refine ev_iload_n 1 dX12_plan_255 (k := ?_)
    obtain ⟨⟨hi0, hi1⟩, H2⟩ := g_e H1
    clear H1
    refine ev_iaload (k := 105) hi0 hi1 dX12_plan_256 (hc := ac_105) (hlen := ln_105 _ _) (K := ?_)
    refine ev_bipush dX12_plan_257 (k := ?_)
    refine ev_icmpne 265 dX12_plan_259 (kt := fun hc => ?_) (kf := fun hc => ?_)
    · replace H2 := if_ne hc H2
      refine ev_bipush dX12_plan_265 (k := ?_)
      refine ev_iload_n 1 dX12_plan_267 (k := ?_)
      refine ev_imul dX12_plan_268 (k := ?_)
      refine ev_aload_n 0 dX12_plan_269 (k := ?_)
      refine ev_getR (t := 105) (x := some (105, 0)) fl_X12_13 dX12_plan_270 (hx := ry_12_5 _ _) (K := ?_)
      refine ev_iload_n 1 dX12_plan_273 (k := ?_)
      obtain ⟨⟨hi0, hi1⟩, H3⟩ := g_e H2
      clear H2
      refine ev_iaload (k := 105) hi0 hi1 dX12_plan_274 (hc := ac_105) (hlen := ln_105 _ _) (K := ?_)
      refine ev_iadd dX12_plan_275 (k := ?_)
      obtain ⟨x9, ex9, H4⟩ := lt_e H3
      clear H3
      refine ev_topI ex9 ?_
      refine ev_istore [(7, .inl (x9)), (0, .inr (.inr (some (12, 0)))), (1, .inl (l1)), (2, .inl (l2)), (3, .inl (l3)), (4, .inl (l4)), (5, .inl (l5))] dX12_plan_276 (k := ?_)
      refine ev_iconst dX12_plan_278 (k := ?_)
      refine ev_istore [(8, .inl (0)), (7, .inl (x9)), (0, .inr (.inr (some (12, 0)))), (1, .inl (l1)), (2, .inl (l2)), (3, .inl (l3)), (4, .inl (l4)), (5, .inl (l5))] dX12_plan_279 (k := ?_)
      refine ev_lv [2, 3, 4, 5, 6, 7, 1, 0] [(0, .inr (.inr (some (12, 0)))), (1, .inl (l1)), (2, .inl (l2)), (3, .inl (l3)), (4, .inl (l4)), (5, .inl (l5)), (7, .inl (x9)), (8, .inl (0))] (k := ?_)
      exact E12_plan_281 j_fu l1 l2 l3 l4 l5 x9 0 h _ H4
    · replace H2 := if_pe hc H2
      refine ev_bipush dX12_plan_262 (k := ?_)
      cases H2
      exact ev_ireturn dX12_plan_264
  · replace H1 := if_ne hc H1
    refine ev_bipush dX12_plan_154 (k := ?_)
    refine ev_iload_n 1 dX12_plan_156 (k := ?_)
    refine ev_imul dX12_plan_157 (k := ?_)
    refine ev_iload 6 dX12_plan_158 (k := ?_)
    refine ev_iadd dX12_plan_160 (k := ?_)
    obtain ⟨x10, ex10, H2⟩ := lt_e H1
    clear H1
    refine ev_topI ex10 ?_
    refine ev_istore [(8, .inl (x10)), (0, .inr (.inr (some (12, 0)))), (1, .inl (l1)), (2, .inl (l2)), (3, .inl (l3)), (4, .inl (l4)), (5, .inl (l5)), (7, .inl (l7))] dX12_plan_161 (k := ?_)
    refine ev_aload_n 1 dX12_plan_163 (k := ?_)
    refine ev_getR (t := 107) (x := some (107, 0)) fl_X12_19 dX12_plan_164 (hx := ry_12_7 _ _) (K := ?_)
    refine ev_iload 0 dX12_plan_167 (k := ?_)
    obtain ⟨⟨hi0, hi1⟩, H3⟩ := g_e H2
    clear H2
    refine ev_iaload (k := 107) hi0 hi1 dX12_plan_169 (hc := ac_107) (hlen := ln_107 _ _) (K := ?_)
    refine ev_aload_n 1 dX12_plan_170 (k := ?_)
    refine ev_getI (x := h.1 12 0 4) fl_X12_272 dX12_plan_171 (K := ?_)
    refine ev_icmpne 181 dX12_plan_174 (kt := fun hc => ?_) (kf := fun hc => ?_)
    · replace H3 := if_ne hc H3
      refine ev_iconst dX12_plan_181 (k := ?_)
      refine ev_lv [1, 2, 3, 4, 5, 6, 7, 0] [(0, .inr (.inr (some (12, 0)))), (1, .inl (l1)), (2, .inl (l2)), (3, .inl (l3)), (4, .inl (l4)), (5, .inl (l5)), (7, .inl (l7)), (8, .inl (x10))] (k := ?_)
      exact E12_plan_182 k143 hk143 l1 l2 l3 l4 l5 l7 x10 0 h _ H3
    · replace H3 := if_pe hc H3
      refine ev_iconst dX12_plan_177 (k := ?_)
      refine ev_goto 182 dX12_plan_178 (k := ?_)
      refine ev_lv [1, 2, 3, 4, 5, 6, 7, 0] [(0, .inr (.inr (some (12, 0)))), (1, .inl (l1)), (2, .inl (l2)), (3, .inl (l3)), (4, .inl (l4)), (5, .inl (l5)), (7, .inl (l7)), (8, .inl (x10))] (k := ?_)
      exact E12_plan_182 k143 hk143 l1 l2 l3 l4 l5 l7 x10 1 h _ H3
theorem E12_plan_143 (n : Nat) : ∀ (l1 : Int) (l2 : Int) (l3 : Int) (l4 : Int) (l5 : Int) (l7 : Int) (h : JM) (res : (Int × JM)), F12_plan_143 n l1 l2 l3 l4 l5 l7 h = some res → Ev j_W1 2 0 0 T12_plan 143 [(0, .inr (.inr (some (12, 0)))), (1, .inl (l1)), (2, .inl (l2)), (3, .inl (l3)), (4, .inl (l4)), (5, .inl (l5)), (7, .inl (l7))] [] h (some (.inl res.1)) res.2 := by
  induction n with
  | zero =>
    intro l1 l2 l3 l4 l5 l7 h res H
    cases H
  | succ n ih =>
    intro l1 l2 l3 l4 l5 l7 h res H
    exact E12_plan_143b (F12_plan_143 n) ih l1 l2 l3 l4 l5 l7 h res H
set_option maxRecDepth 100000 in
set_option maxHeartbeats 4000000 in
theorem E12_plan_130 (l1 : Int) (l2 : Int) (l3 : Int) (l4 : Int) (l5 : Int) (s0 : Int) (h : JM) (res : (Int × JM)) (H : F12_plan_130 l1 l2 l3 l4 l5 s0 h = some res) : Ev j_W1 2 0 0 T12_plan 130 [(0, .inr (.inr (some (12, 0)))), (1, .inl (l1)), (2, .inl (l2)), (3, .inl (l3)), (4, .inl (l4)), (5, .inl (l5))] [.inl (s0)] h (some (.inl res.1)) res.2 := by
  unfold F12_plan_130 at H
  refine ev_istore [(6, .inl (s0)), (0, .inr (.inr (some (12, 0)))), (1, .inl (l1)), (2, .inl (l2)), (3, .inl (l3)), (4, .inl (l4)), (5, .inl (l5))] dX12_plan_130 (k := ?_)
  refine ev_iload 0 dX12_plan_132 (k := ?_)
  refine ev_ifne 140 dX12_plan_134 (kt := fun hc => ?_) (kf := fun hc => ?_)
  · replace H := if_ne hc H
    refine ev_iconst dX12_plan_140 (k := ?_)
    refine ev_istore [(7, .inl (0)), (6, .inl (s0)), (0, .inr (.inr (some (12, 0)))), (1, .inl (l1)), (2, .inl (l2)), (3, .inl (l3)), (4, .inl (l4)), (5, .inl (l5))] dX12_plan_141 (k := ?_)
    refine ev_lv [2, 3, 4, 5, 6, 7, 0] [(0, .inr (.inr (some (12, 0)))), (1, .inl (l1)), (2, .inl (l2)), (3, .inl (l3)), (4, .inl (l4)), (5, .inl (l5)), (7, .inl (0))] (k := ?_)
    exact E12_plan_143 j_fu l1 l2 l3 l4 l5 0 h _ H
  · replace H := if_pe hc H
    refine ev_bipush dX12_plan_137 (k := ?_)
    cases H
    exact ev_ireturn dX12_plan_139
set_option maxRecDepth 100000 in
set_option maxHeartbeats 4000000 in
theorem E12_plan_58 (h : JM) (res : (Int × JM)) (H : F12_plan_58 h = some res) : Ev j_W1 2 0 0 T12_plan 58 [] [] h (some (.inl res.1)) res.2 := by
  unfold F12_plan_58 at H
  refine ev_bipush dX12_plan_58 (k := ?_)
  cases H
  exact ev_ireturn dX12_plan_60
set_option maxRecDepth 100000 in
set_option maxHeartbeats 4000000 in
theorem C12_plan {l1 : Int} {l2 : Int} {l3 : Int} {l4 : Int} {l5 : Int} {h : JM} {res : (Int × JM)} (H : F12_plan l1 l2 l3 l4 l5 h = some res) : Cn j_W1 2 0 0 yX12_plan cX12_plan 11 (some .int) [.inr (.inr (some (12, 0))), .inl (l1), .inl (l2), .inl (l3), .inl (l4), .inl (l5)] h (some (.inl res.1)) res.2 := by
  refine Cn.by (own := RX12) (b := false) [(0, .inr (.inr (some (12, 0)))), (1, .inl (l1)), (2, .inl (l2)), (3, .inl (l3)), (4, .inl (l4)), (5, .inl (l5))] rfl (fun z => by cases z) (by decide +kernel) (K := ?_)
  unfold F12_plan at H
  refine ev_iload_n 1 dX12_plan_0 (k := ?_)
  refine ev_i2l dX12_plan_1 (k := ?_)
  refine ev_lconst (v := 0) dX12_plan_2 (k := ?_)
  refine ev_lconst (v := 1) dX12_plan_3 (k := ?_)
  obtain ⟨q11, hq, H1⟩ := bd_e H
  clear H
  refine ev_callS (mc := 0) (ms := 0) (st := []) (C12_in hq) md_X12_in ss_X12_in ml_X12_268 dX12_plan_4 _ (by decide) (K := ?_)
  refine ev_ifeq 58 dX12_plan_7 (kt := fun hc => ?_) (kf := fun hc => ?_)
  · replace H1 := if_pe hc H1
    refine ev_lv [] [] (k := ?_)
    exact E12_plan_58 q11.2 _ H1
  · replace H1 := if_ne hc H1
    refine ev_aload_n 0 dX12_plan_10 (k := ?_)
    refine ev_getI (x := q11.2.1 12 0 4) fl_X12_272 dX12_plan_11 (K := ?_)
    refine ev_ifeq 58 dX12_plan_14 (kt := fun hc => ?_) (kf := fun hc => ?_)
    · replace H1 := if_pe hc H1
      refine ev_lv [] [] (k := ?_)
      exact E12_plan_58 q11.2 _ H1
    · replace H1 := if_ne hc H1
      refine ev_iload_n 2 dX12_plan_17 (k := ?_)
      refine ev_i2l dX12_plan_18 (k := ?_)
      refine ev_aload_n 0 dX12_plan_19 (k := ?_)
      refine ev_getI (x := q11.2.1 12 0 4) fl_X12_272 dX12_plan_20 (K := ?_)
      refine ev_i2l dX12_plan_23 (k := ?_)
      refine ev_ldc2 (n := 12) cl_X12_275 dX12_plan_24 (k := ?_)
      obtain ⟨q12, hq, H2⟩ := bd_e H1
      clear H1
      refine ev_callS (mc := 0) (ms := 0) (st := []) (C12_in hq) md_X12_in ss_X12_in ml_X12_268 dX12_plan_27 _ (by decide) (K := ?_)
      refine ev_ifeq 58 dX12_plan_30 (kt := fun hc => ?_) (kf := fun hc => ?_)
      · replace H2 := if_pe hc H2
        refine ev_lv [] [] (k := ?_)
        exact E12_plan_58 q12.2 _ H2
      · replace H2 := if_ne hc H2
        refine ev_iload_n 3 dX12_plan_33 (k := ?_)
        refine ev_i2l dX12_plan_34 (k := ?_)
        refine ev_lconst (v := 0) dX12_plan_35 (k := ?_)
        refine ev_ldc2 (n := 4) cl_X12_277 dX12_plan_36 (k := ?_)
        obtain ⟨q13, hq, H3⟩ := bd_e H2
        clear H2
        refine ev_callS (mc := 0) (ms := 0) (st := []) (C12_in hq) md_X12_in ss_X12_in ml_X12_268 dX12_plan_39 _ (by decide) (K := ?_)
        refine ev_ifeq 58 dX12_plan_42 (kt := fun hc => ?_) (kf := fun hc => ?_)
        · replace H3 := if_pe hc H3
          refine ev_lv [] [] (k := ?_)
          exact E12_plan_58 q13.2 _ H3
        · replace H3 := if_ne hc H3
          refine ev_iload 5 dX12_plan_45 (k := ?_)
          refine ev_i2l dX12_plan_47 (k := ?_)
          refine ev_lconst (v := 0) dX12_plan_48 (k := ?_)
          refine ev_ldc2 (n := 3) cl_X12_279 dX12_plan_49 (k := ?_)
          obtain ⟨q14, hq, H4⟩ := bd_e H3
          clear H3
          refine ev_callS (mc := 0) (ms := 0) (st := []) (C12_in hq) md_X12_in ss_X12_in ml_X12_268 dX12_plan_52 _ (by decide) (K := ?_)
          refine ev_ifne 61 dX12_plan_55 (kt := fun hc => ?_) (kf := fun hc => ?_)
          · replace H4 := if_ne hc H4
            refine ev_iload_n 3 dX12_plan_61 (k := ?_)
            refine ev_ifne 87 dX12_plan_62 (kt := fun hc => ?_) (kf := fun hc => ?_)
            · replace H4 := if_ne hc H4
              refine ev_iload_n 3 dX12_plan_87 (k := ?_)
              refine ev_iconst dX12_plan_88 (k := ?_)
              refine ev_icmpge 104 dX12_plan_89 (kt := fun hc => ?_) (kf := fun hc => ?_)
              · replace H4 := if_pe hc H4
                refine ev_iload_n 3 dX12_plan_104 (k := ?_)
                refine ev_iconst dX12_plan_105 (k := ?_)
                refine ev_icmpne 122 dX12_plan_106 (kt := fun hc => ?_) (kf := fun hc => ?_)
                · replace H4 := if_ne hc H4
                  refine ev_iload 4 dX12_plan_122 (k := ?_)
                  refine ev_i2l dX12_plan_124 (k := ?_)
                  refine ev_lconst (v := 0) dX12_plan_125 (k := ?_)
                  refine ev_lconst (v := 1) dX12_plan_126 (k := ?_)
                  obtain ⟨q15, hq, H5⟩ := bd_e H4
                  clear H4
                  refine ev_callS (mc := 0) (ms := 0) (st := []) (C12_in hq) md_X12_in ss_X12_in ml_X12_268 dX12_plan_127 _ (by decide) (K := ?_)
                  exact E12_plan_130 l1 l2 l3 l4 l5 q15.1 q15.2 _ H5
                · replace H4 := if_pe hc H4
                  refine ev_iload 4 dX12_plan_109 (k := ?_)
                  refine ev_i2l dX12_plan_111 (k := ?_)
                  refine ev_lconst (v := 0) dX12_plan_112 (k := ?_)
                  refine ev_ldc2 (n := 2) cl_X12_281 dX12_plan_113 (k := ?_)
                  obtain ⟨q16, hq, H5⟩ := bd_e H4
                  clear H4
                  refine ev_callS (mc := 0) (ms := 0) (st := []) (C12_in hq) md_X12_in ss_X12_in ml_X12_268 dX12_plan_116 _ (by decide) (K := ?_)
                  refine ev_goto 130 dX12_plan_119 (k := ?_)
                  exact E12_plan_130 l1 l2 l3 l4 l5 q16.1 q16.2 _ H5
              · replace H4 := if_ne hc H4
                refine ev_iload 4 dX12_plan_92 (k := ?_)
                refine ev_i2l dX12_plan_94 (k := ?_)
                refine ev_lconst (v := 0) dX12_plan_95 (k := ?_)
                refine ev_iload_n 2 dX12_plan_96 (k := ?_)
                refine ev_i2l dX12_plan_97 (k := ?_)
                obtain ⟨q17, hq, H5⟩ := bd_e H4
                clear H4
                refine ev_callS (mc := 0) (ms := 0) (st := []) (C12_in hq) md_X12_in ss_X12_in ml_X12_268 dX12_plan_98 _ (by decide) (K := ?_)
                refine ev_goto 130 dX12_plan_101 (k := ?_)
                exact E12_plan_130 l1 l2 l3 l4 l5 q17.1 q17.2 _ H5
            · replace H4 := if_pe hc H4
              refine ev_iload 4 dX12_plan_65 (k := ?_)
              refine ev_i2l dX12_plan_67 (k := ?_)
              refine ev_bipush dX12_plan_68 (k := ?_)
              refine ev_iload_n 1 dX12_plan_70 (k := ?_)
              refine ev_imul dX12_plan_71 (k := ?_)
              refine ev_i2l dX12_plan_72 (k := ?_)
              refine ev_bipush dX12_plan_73 (k := ?_)
              refine ev_iload_n 1 dX12_plan_75 (k := ?_)
              refine ev_imul dX12_plan_76 (k := ?_)
              refine ev_bipush dX12_plan_77 (k := ?_)
              refine ev_iadd dX12_plan_79 (k := ?_)
              refine ev_i2l dX12_plan_80 (k := ?_)
              obtain ⟨q18, hq, H5⟩ := bd_e H4
              clear H4
              refine ev_callS (mc := 0) (ms := 0) (st := []) (C12_in hq) md_X12_in ss_X12_in ml_X12_268 dX12_plan_81 _ (by decide) (K := ?_)
              refine ev_goto 130 dX12_plan_84 (k := ?_)
              exact E12_plan_130 l1 l2 l3 l4 l5 q18.1 q18.2 _ H5
          · replace H4 := if_pe hc H4
            refine ev_lv [] [] (k := ?_)
            exact E12_plan_58 q14.2 _ H4
-- X12_record
abbrev T12_record : JT := (RX12, cX12_record, 3, some .int, false)
set_option maxRecDepth 100000 in
set_option maxHeartbeats 4000000 in
theorem E12_record_40 (l1 : Int) (l2 : Int) (s0 : Int) (s1 : Int) (h : JM) (res : (Int × JM)) (H : F12_record_40 l1 l2 s0 s1 h = some res) : Ev j_W1 2 0 0 T12_record 40 [(0, .inr (.inr (some (12, 0)))), (1, .inl (l1)), (2, .inl (l2))] [.inr (.inl (s1)), .inr (.inl (s0))] h (some (.inl res.1)) res.2 := by
  unfold F12_record_40 at H
  refine ev_aload_n 0 dX12_record_40 (k := ?_)
  refine ev_getI (x := h.1 12 0 90) fl_X12_486 dX12_record_41 (K := ?_)
  refine ev_iconst dX12_record_44 (k := ?_)
  refine ev_isub dX12_record_45 (k := ?_)
  refine ev_i2l dX12_record_46 (k := ?_)
  obtain ⟨q1, hq, H1⟩ := bd_e H
  clear H
  refine ev_callS (mc := 0) (ms := 0) (st := []) (C12_in hq) md_X12_in ss_X12_in ml_X12_268 dX12_record_47 _ (by decide) (K := ?_)
  refine ev_ifeq 70 dX12_record_50 (kt := fun hc => ?_) (kf := fun hc => ?_)
  · replace H1 := if_pe hc H1
    refine ev_iconst dX12_record_70 (k := ?_)
    cases H1
    exact ev_ireturn dX12_record_71
  · replace H1 := if_ne hc H1
    refine ev_aload_n 0 dX12_record_53 (k := ?_)
    refine ev_getR (t := 191) (x := some (191, 0)) fl_X12_252 dX12_record_54 (hx := ry_12_91 _ _) (K := ?_)
    refine ev_iconst dX12_record_57 (k := ?_)
    refine ev_iload_n 1 dX12_record_58 (k := ?_)
    refine ev_sipush dX12_record_59 (k := ?_)
    refine ev_irem dX12_record_62 (by decide) (k := ?_)
    refine ev_imul dX12_record_63 (k := ?_)
    refine ev_iload_n 2 dX12_record_64 (k := ?_)
    refine ev_iadd dX12_record_65 (k := ?_)
    obtain ⟨⟨hi0, hi1⟩, H2⟩ := g_e H1
    clear H1
    refine ev_iaload (k := 191) hi0 hi1 dX12_record_66 (hc := ac_191) (hlen := ln_191 _ _) (K := ?_)
    refine ev_goto 71 dX12_record_67 (k := ?_)
    cases H2
    exact ev_ireturn dX12_record_71
set_option maxRecDepth 100000 in
set_option maxHeartbeats 4000000 in
theorem C12_record {l1 : Int} {l2 : Int} {h : JM} {res : (Int × JM)} (H : F12_record l1 l2 h = some res) : Cn j_W1 2 0 0 yX12_record cX12_record 3 (some .int) [.inr (.inr (some (12, 0))), .inl (l1), .inl (l2)] h (some (.inl res.1)) res.2 := by
  refine Cn.by (own := RX12) (b := false) [(0, .inr (.inr (some (12, 0)))), (1, .inl (l1)), (2, .inl (l2))] rfl (fun z => by cases z) (by decide +kernel) (K := ?_)
  unfold F12_record at H
  refine ev_iload_n 2 dX12_record_0 (k := ?_)
  refine ev_i2l dX12_record_1 (k := ?_)
  refine ev_lconst (v := 0) dX12_record_2 (k := ?_)
  refine ev_ldc2 (n := 4) cl_X12_277 dX12_record_3 (k := ?_)
  obtain ⟨q2, hq, H1⟩ := bd_e H
  clear H
  refine ev_callS (mc := 0) (ms := 0) (st := []) (C12_in hq) md_X12_in ss_X12_in ml_X12_268 dX12_record_6 _ (by decide) (K := ?_)
  refine ev_ifne 15 dX12_record_9 (kt := fun hc => ?_) (kf := fun hc => ?_)
  · replace H1 := if_ne hc H1
    refine ev_iload_n 1 dX12_record_15 (k := ?_)
    refine ev_i2l dX12_record_16 (k := ?_)
    refine ev_aload_n 0 dX12_record_17 (k := ?_)
    refine ev_getI (x := q2.2.1 12 0 90) fl_X12_486 dX12_record_18 (K := ?_)
    refine ev_sipush dX12_record_21 (k := ?_)
    refine ev_icmpge 31 dX12_record_24 (kt := fun hc => ?_) (kf := fun hc => ?_)
    · replace H1 := if_pe hc H1
      refine ev_aload_n 0 dX12_record_31 (k := ?_)
      refine ev_getI (x := q2.2.1 12 0 90) fl_X12_486 dX12_record_32 (K := ?_)
      refine ev_sipush dX12_record_35 (k := ?_)
      refine ev_isub dX12_record_38 (k := ?_)
      refine ev_i2l dX12_record_39 (k := ?_)
      exact E12_record_40 l1 l2 l1 (w32 ((q2.2.1 12 0 90) - 300)) q2.2 _ H1
    · replace H1 := if_ne hc H1
      refine ev_lconst (v := 0) dX12_record_27 (k := ?_)
      refine ev_goto 40 dX12_record_28 (k := ?_)
      exact E12_record_40 l1 l2 l1 0 q2.2 _ H1
  · replace H1 := if_pe hc H1
    refine ev_bipush dX12_record_12 (k := ?_)
    cases H1
    exact ev_ireturn dX12_record_14
