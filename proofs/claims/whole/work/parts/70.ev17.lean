-- X12_feature
abbrev T12_feature : JT := (RX12, cX12_feature, 5, some .int, false)
set_option maxRecDepth 100000 in
set_option maxHeartbeats 4000000 in
theorem E12_feature_19 (h : JM) (res : (Int × JM)) (H : F12_feature_19 h = some res) : Ev j_W1 3 0 0 T12_feature 19 [] [] h (some (.inl res.1)) res.2 := by
  unfold F12_feature_19 at H
  refine ev_bipush dX12_feature_19 (k := ?_)
  cases H
  exact ev_ireturn dX12_feature_21
set_option maxRecDepth 100000 in
set_option maxHeartbeats 4000000 in
theorem C12_feature {l1 : Int} {l2 : Int} {l3 : Int} {h : JM} {res : (Int × JM)} (H : F12_feature l1 l2 l3 h = some res) : Cn j_W1 3 0 0 yX12_feature cX12_feature 5 (some .int) [.inr (.inr (some (12, 0))), .inl (l1), .inl (l2), .inl (l3)] h (some (.inl res.1)) res.2 := by
  refine Cn.by (own := RX12) (b := false) [(0, .inr (.inr (some (12, 0)))), (1, .inl (l1)), (2, .inl (l2)), (3, .inl (l3))] rfl (fun z => by cases z) (by decide +kernel) (K := ?_)
  unfold F12_feature at H
  refine ev_iload_n 1 dX12_feature_0 (k := ?_)
  obtain ⟨q1, hq, H1⟩ := bd_e H
  clear H
  refine ev_callS (mc := 0) (ms := 0) (st := []) (C12_isLine hq) md_X12_isLine ss_X12_isLine ml_X12_288 dX12_feature_1 _ (by decide) (K := ?_)
  refine ev_ifeq 19 dX12_feature_4 (kt := fun hc => ?_) (kf := fun hc => ?_)
  · replace H1 := if_pe hc H1
    refine ev_lv [] [] (k := ?_)
    exact E12_feature_19 q1.2 _ H1
  · replace H1 := if_ne hc H1
    refine ev_iload_n 2 dX12_feature_7 (k := ?_)
    refine ev_i2l dX12_feature_8 (k := ?_)
    refine ev_lconst (v := 0) dX12_feature_9 (k := ?_)
    refine ev_ldc2 (n := 2) cl_X12_281 dX12_feature_10 (k := ?_)
    obtain ⟨q2, hq, H2⟩ := bd_e H1
    clear H1
    refine ev_callS (mc := 0) (ms := 0) (st := []) (C12_in hq) md_X12_in ss_X12_in ml_X12_268 dX12_feature_13 _ (by decide) (K := ?_)
    refine ev_ifne 22 dX12_feature_16 (kt := fun hc => ?_) (kf := fun hc => ?_)
    · replace H2 := if_ne hc H2
      refine ev_aload_n 0 dX12_feature_22 (k := ?_)
      refine ev_getR (t := 127) (x := some (127, 0)) fl_X12_80 dX12_feature_23 (hx := ry_12_27 _ _) (K := ?_)
      refine ev_iconst dX12_feature_26 (k := ?_)
      refine ev_iload_n 1 dX12_feature_27 (k := ?_)
      refine ev_imul dX12_feature_28 (k := ?_)
      refine ev_iload_n 2 dX12_feature_29 (k := ?_)
      refine ev_iadd dX12_feature_30 (k := ?_)
      obtain ⟨⟨hi0, hi1⟩, H3⟩ := g_e H2
      clear H2
      refine ev_zaload (k := 127) hi0 hi1 dX12_feature_31 (hc := ac_127) (hlen := ln_127 _ _) (K := ?_)
      obtain ⟨x3, ex3, H4⟩ := lt_e H3
      clear H3
      refine ev_topI ex3 ?_
      refine ev_istore [(4, .inl (x3)), (0, .inr (.inr (some (12, 0)))), (1, .inl (l1)), (2, .inl (l2)), (3, .inl (l3))] dX12_feature_32 (k := ?_)
      refine ev_aload_n 1 dX12_feature_34 (k := ?_)
      refine ev_getR (t := 127) (x := some (127, 0)) fl_X12_80 dX12_feature_35 (hx := ry_12_27 _ _) (K := ?_)
      refine ev_iconst dX12_feature_38 (k := ?_)
      refine ev_iload_n 2 dX12_feature_39 (k := ?_)
      refine ev_imul dX12_feature_40 (k := ?_)
      refine ev_iload_n 3 dX12_feature_41 (k := ?_)
      refine ev_iadd dX12_feature_42 (k := ?_)
      refine ev_iload_n 4 dX12_feature_43 (k := ?_)
      obtain ⟨⟨hi0, hi1⟩, H5⟩ := g_e H4
      clear H4
      obtain ⟨hz, H6⟩ := g_e H5
      clear H5
      obtain ⟨h4, eh4, H7⟩ := lt_e H6
      clear H6
      refine ev_zastore (k := 127) j_ok1 hi0 hi1 hz eh4 dX12_feature_44 (hc := ac_127) (hlen := ln_127 _ _) (K := ?_)
      refine ev_iload 0 dX12_feature_45 (k := ?_)
      refine ev_ifeq 54 dX12_feature_47 (kt := fun hc => ?_) (kf := fun hc => ?_)
      · replace H7 := if_pe hc H7
        refine ev_iconst dX12_feature_54 (k := ?_)
        cases H7
        exact ev_ireturn dX12_feature_55
      · replace H7 := if_ne hc H7
        refine ev_iconst dX12_feature_50 (k := ?_)
        refine ev_goto 55 dX12_feature_51 (k := ?_)
        cases H7
        exact ev_ireturn dX12_feature_55
    · replace H2 := if_pe hc H2
      refine ev_lv [] [] (k := ?_)
      exact E12_feature_19 q2.2 _ H2
-- X12_flag
abbrev T12_flag : JT := (RX12, cX12_flag, 2, none, false)
set_option maxRecDepth 100000 in
set_option maxHeartbeats 4000000 in
theorem E12_flag_38 (k2 : Int → JM → Option JM) (hk2 : ∀ (l1 : Int) (h : JM) (res : JM), k2 l1 h = some res → Ev j_W1 1 0 0 T12_flag 2 [(0, .inr (.inr (some (12, 0)))), (1, .inl (l1))] [] h none res) (l1 : Int) (s0 : Option Int) (s1 : Int) (s2 : Int) (h : JM) (res : JM) (H : F12_flag_38 k2 l1 s0 s1 s2 h = some res) : Ev j_W1 1 0 0 T12_flag 38 [(0, .inr (.inr (some (12, 0)))), (1, .inl (l1))] [.inl (s2), .inl (s1), .inr (.inr (Option.map (Prod.mk 169) (s0)))] h none res := by
  unfold F12_flag_38 at H
  obtain ⟨a1, ea1, H1⟩ := bd_e H
  clear H
  rw [ea1]
  obtain ⟨⟨hi0, hi1⟩, H2⟩ := g_e H1
  clear H1
  obtain ⟨h2, eh2, H3⟩ := lt_e H2
  clear H2
  refine ev_iastore (k := 169) j_ok1 hi0 hi1 eh2 dX12_flag_38 (hc := ac_169) (hlen := ln_169 _ _) (K := ?_)
  refine ev_iinc 1 [(1, .inl (w32 (l1 + 1))), (0, .inr (.inr (some (12, 0))))] dX12_flag_39 (k := ?_)
  refine ev_goto 2 dX12_flag_42 (k := ?_)
  refine ev_lv [1, 0] [(0, .inr (.inr (some (12, 0)))), (1, .inl (w32 (l1 + 1)))] (k := ?_)
  exact hk2 (w32 (l1 + 1)) h2 _ H3
set_option maxRecDepth 100000 in
set_option maxHeartbeats 4000000 in
theorem E12_flag_33 (k2 : Int → JM → Option JM) (hk2 : ∀ (l1 : Int) (h : JM) (res : JM), k2 l1 h = some res → Ev j_W1 1 0 0 T12_flag 2 [(0, .inr (.inr (some (12, 0)))), (1, .inl (l1))] [] h none res) (l1 : Int) (s0 : Option Int) (s1 : Int) (h : JM) (res : JM) (H : F12_flag_33 k2 l1 s0 s1 h = some res) : Ev j_W1 1 0 0 T12_flag 33 [(0, .inr (.inr (some (12, 0)))), (1, .inl (l1))] [.inl (s1), .inr (.inr (Option.map (Prod.mk 169) (s0)))] h none res := by
  unfold F12_flag_33 at H
  refine ev_iconst dX12_flag_33 (k := ?_)
  refine ev_goto 38 dX12_flag_34 (k := ?_)
  exact E12_flag_38 k2 hk2 l1 s0 s1 0 h _ H
set_option maxRecDepth 100000 in
set_option maxHeartbeats 4000000 in
theorem E12_flag_2b (k2 : Int → JM → Option JM) (hk2 : ∀ (l1 : Int) (h : JM) (res : JM), k2 l1 h = some res → Ev j_W1 1 0 0 T12_flag 2 [(0, .inr (.inr (some (12, 0)))), (1, .inl (l1))] [] h none res) (l1 : Int) (h : JM) (res : JM) (H : F12_flag_2b k2 l1 h = some res) : Ev j_W1 1 0 0 T12_flag 2 [(0, .inr (.inr (some (12, 0)))), (1, .inl (l1))] [] h none res := by
  unfold F12_flag_2b at H
  refine ev_iload_n 1 dX12_flag_2 (k := ?_)
  refine ev_bipush dX12_flag_3 (k := ?_)
  refine ev_icmpge 45 dX12_flag_5 (kt := fun hc => ?_) (kf := fun hc => ?_)
  · replace H := if_pe hc H
    cases H
    exact ev_return dX12_flag_45
  · replace H := if_ne hc H
    refine ev_aload_n 0 dX12_flag_8 (k := ?_)
    refine ev_getR (t := 169) (x := some (169, 0)) fl_X12_200 dX12_flag_9 (hx := ry_12_69 _ _) (K := ?_)
    refine ev_aload_n 0 dX12_flag_12 (k := ?_)
    refine ev_dup dX12_flag_13 (k := ?_)
    refine ev_getI (x := h.1 12 0 70) fl_X12_433 dX12_flag_14 (K := ?_)
    refine ev_dup_x1 dX12_flag_17 (k := ?_)
    refine ev_iconst dX12_flag_18 (k := ?_)
    refine ev_iadd dX12_flag_19 (k := ?_)
    obtain ⟨h3, eh3, H1⟩ := lt_e H
    clear H
    refine ev_putI j_ok1 fl_X12_433 eh3 dX12_flag_20 (K := ?_)
    refine ev_iload_n 1 dX12_flag_23 (k := ?_)
    refine ev_ifeq 33 dX12_flag_24 (kt := fun hc => ?_) (kf := fun hc => ?_)
    · replace H1 := if_pe hc H1
      exact E12_flag_33 k2 hk2 l1 (some 0) (h.1 12 0 70) h3 _ H1
    · replace H1 := if_ne hc H1
      refine ev_iload_n 1 dX12_flag_27 (k := ?_)
      refine ev_bipush dX12_flag_28 (k := ?_)
      refine ev_icmpne 37 dX12_flag_30 (kt := fun hc => ?_) (kf := fun hc => ?_)
      · replace H1 := if_ne hc H1
        refine ev_iconst dX12_flag_37 (k := ?_)
        exact E12_flag_38 k2 hk2 l1 (some 0) (h.1 12 0 70) 1 h3 _ H1
      · replace H1 := if_pe hc H1
        exact E12_flag_33 k2 hk2 l1 (some 0) (h.1 12 0 70) h3 _ H1
theorem E12_flag_2 (n : Nat) : ∀ (l1 : Int) (h : JM) (res : JM), F12_flag_2 n l1 h = some res → Ev j_W1 1 0 0 T12_flag 2 [(0, .inr (.inr (some (12, 0)))), (1, .inl (l1))] [] h none res := by
  induction n with
  | zero =>
    intro l1 h res H
    cases H
  | succ n ih =>
    intro l1 h res H
    exact E12_flag_2b (F12_flag_2 n) ih l1 h res H
set_option maxRecDepth 100000 in
set_option maxHeartbeats 4000000 in
theorem C12_flag {h : JM} {res : JM} (H : F12_flag h = some res) : Cn j_W1 1 0 0 yX12_flag cX12_flag 2 none [.inr (.inr (some (12, 0)))] h none res := by
  refine Cn.by (own := RX12) (b := false) [(0, .inr (.inr (some (12, 0))))] rfl (fun z => by cases z) (by decide +kernel) (K := ?_)
  unfold F12_flag at H
  refine ev_iconst dX12_flag_0 (k := ?_)
  refine ev_istore_n [(1, .inl (0)), (0, .inr (.inr (some (12, 0))))] dX12_flag_1 (k := ?_)
  refine ev_lv [1, 0] [(0, .inr (.inr (some (12, 0)))), (1, .inl (0))] (k := ?_)
  exact E12_flag_2 j_fu 0 h _ H
-- X12_flashes
abbrev T12_flashes : JT := (RX12, cX12_flashes, 3, none, false)
set_option maxRecDepth 100000 in
set_option maxHeartbeats 4000000 in
theorem C12_flashes {l1 : Int} {h : JM} {res : JM} (H : F12_flashes l1 h = some res) : Cn j_W1 6 0 0 yX12_flashes cX12_flashes 3 none [.inr (.inr (some (12, 0))), .inl (l1)] h none res := by
  refine Cn.by (own := RX12) (b := false) [(0, .inr (.inr (some (12, 0)))), (1, .inl (l1))] rfl (fun z => by cases z) (by decide +kernel) (K := ?_)
  unfold F12_flashes at H
  refine ev_aload_n 0 dX12_flashes_0 (k := ?_)
  refine ev_getR (t := 120) (x := some (120, 0)) fl_X12_59 dX12_flashes_1 (hx := ry_12_20 _ _) (K := ?_)
  refine ev_iload_n 1 dX12_flashes_4 (k := ?_)
  obtain ⟨⟨hi0, hi1⟩, H1⟩ := g_e H
  clear H
  refine ev_iaload (k := 120) hi0 hi1 dX12_flashes_5 (hc := ac_120) (hlen := ln_120 _ _) (K := ?_)
  refine ev_iconst dX12_flashes_6 (k := ?_)
  refine ev_icmpne 11 dX12_flashes_7 (kt := fun hc => ?_) (kf := fun hc => ?_)
  · replace H1 := if_ne hc H1
    refine ev_aload_n 0 dX12_flashes_11 (k := ?_)
    refine ev_getR (t := 120) (x := some (120, 0)) fl_X12_59 dX12_flashes_12 (hx := ry_12_20 _ _) (K := ?_)
    refine ev_iload_n 1 dX12_flashes_15 (k := ?_)
    obtain ⟨⟨hi0, hi1⟩, H2⟩ := g_e H1
    clear H1
    refine ev_iaload (k := 120) hi0 hi1 dX12_flashes_16 (hc := ac_120) (hlen := ln_120 _ _) (K := ?_)
    obtain ⟨x1, ex1, H3⟩ := lt_e H2
    clear H2
    refine ev_topI ex1 ?_
    refine ev_istore_n [(2, .inl (x1)), (0, .inr (.inr (some (12, 0)))), (1, .inl (l1))] dX12_flashes_17 (k := ?_)
    refine ev_aload_n 1 dX12_flashes_18 (k := ?_)
    refine ev_getR (t := 120) (x := some (120, 0)) fl_X12_59 dX12_flashes_19 (hx := ry_12_20 _ _) (K := ?_)
    refine ev_iload_n 2 dX12_flashes_22 (k := ?_)
    refine ev_aload_n 1 dX12_flashes_23 (k := ?_)
    refine ev_getR (t := 119) (x := some (119, 0)) fl_X12_56 dX12_flashes_24 (hx := ry_12_19 _ _) (K := ?_)
    refine ev_iload_n 2 dX12_flashes_27 (k := ?_)
    obtain ⟨⟨hi0, hi1⟩, H4⟩ := g_e H3
    clear H3
    refine ev_iaload (k := 119) hi0 hi1 dX12_flashes_28 (hc := ac_119) (hlen := ln_119 _ _) (K := ?_)
    obtain ⟨⟨hi0, hi1⟩, H5⟩ := g_e H4
    clear H4
    obtain ⟨h2, eh2, H6⟩ := lt_e H5
    clear H5
    refine ev_iastore (k := 120) j_ok1 hi0 hi1 eh2 dX12_flashes_29 (hc := ac_120) (hlen := ln_120 _ _) (K := ?_)
    refine ev_aload_n 1 dX12_flashes_30 (k := ?_)
    refine ev_getR (t := 119) (x := some (119, 0)) fl_X12_56 dX12_flashes_31 (hx := ry_12_19 _ _) (K := ?_)
    refine ev_iload_n 2 dX12_flashes_34 (k := ?_)
    refine ev_iload_n 0 dX12_flashes_35 (k := ?_)
    obtain ⟨⟨hi0, hi1⟩, H7⟩ := g_e H6
    clear H6
    obtain ⟨h3, eh3, H8⟩ := lt_e H7
    clear H7
    refine ev_iastore (k := 119) j_ok1 hi0 hi1 eh3 dX12_flashes_36 (hc := ac_119) (hlen := ln_119 _ _) (K := ?_)
    refine ev_aload_n 1 dX12_flashes_37 (k := ?_)
    refine ev_getR (t := 133) (x := some (133, 0)) fl_X12_95 dX12_flashes_38 (hx := ry_12_33 _ _) (K := ?_)
    refine ev_iload_n 0 dX12_flashes_41 (k := ?_)
    obtain ⟨⟨hi0, hi1⟩, H9⟩ := g_e H8
    clear H8
    refine ev_iaload (k := 133) hi0 hi1 dX12_flashes_42 (hc := ac_133) (hlen := ln_133 _ _) (K := ?_)
    refine ev_iconst dX12_flashes_43 (k := ?_)
    refine ev_icmpne 52 dX12_flashes_44 (kt := fun hc => ?_) (kf := fun hc => ?_)
    · replace H9 := if_ne hc H9
      cases H9
      exact ev_return dX12_flashes_52
    · replace H9 := if_pe hc H9
      refine ev_aload_n 1 dX12_flashes_47 (k := ?_)
      refine ev_iload_n 0 dX12_flashes_48 (k := ?_)
      obtain ⟨h4, hq, H10⟩ := bd_e H9
      clear H9
      refine ev_callV (mc := 0) (ms := 0) (st := []) (C12_answered hq) md_X12_answered im_X12_answered se_X12_answered ml_X12_320 dX12_flashes_49 _ (by decide) (K := ?_)
      cases H10
      exact ev_return dX12_flashes_52
  · replace H1 := if_pe hc H1
    cases H1
    exact ev_return dX12_flashes_10
-- X12_forward
abbrev T12_forward : JT := (RX12, cX12_forward, 5, some .int, false)
set_option maxRecDepth 100000 in
set_option maxHeartbeats 4000000 in
theorem E12_forward_31b (k31 : Int → Int → JM → Option (Int × JM)) (hk31 : ∀ (l3 : Int) (l4 : Int) (h : JM) (res : (Int × JM)), k31 l3 l4 h = some res → Ev j_W1 3 0 0 T12_forward 31 [(0, .inr (.inr (some (12, 0)))), (3, .inl (l3)), (4, .inl (l4))] [] h (some (.inl res.1)) res.2) (l3 : Int) (l4 : Int) (h : JM) (res : (Int × JM)) (H : F12_forward_31b k31 l3 l4 h = some res) : Ev j_W1 3 0 0 T12_forward 31 [(0, .inr (.inr (some (12, 0)))), (3, .inl (l3)), (4, .inl (l4))] [] h (some (.inl res.1)) res.2 := by
  unfold F12_forward_31b at H
  refine ev_iload 2 dX12_forward_31 (k := ?_)
  refine ev_aload_n 0 dX12_forward_33 (k := ?_)
  refine ev_getI (x := h.1 12 0 4) fl_X12_272 dX12_forward_34 (K := ?_)
  refine ev_icmpge 65 dX12_forward_37 (kt := fun hc => ?_) (kf := fun hc => ?_)
  · replace H := if_pe hc H
    refine ev_aload_n 0 dX12_forward_65 (k := ?_)
    refine ev_getR (t := 129) (x := some (129, 0)) fl_X12_86 dX12_forward_66 (hx := ry_12_29 _ _) (K := ?_)
    refine ev_iload_n 1 dX12_forward_69 (k := ?_)
    refine ev_aload_n 0 dX12_forward_70 (k := ?_)
    refine ev_getI (x := h.1 12 0 4) fl_X12_272 dX12_forward_71 (K := ?_)
    obtain ⟨⟨hi0, hi1⟩, H1⟩ := g_e H
    clear H
    obtain ⟨h1, eh1, H2⟩ := lt_e H1
    clear H1
    refine ev_iastore (k := 129) j_ok1 hi0 hi1 eh1 dX12_forward_74 (hc := ac_129) (hlen := ln_129 _ _) (K := ?_)
    refine ev_aload_n 0 dX12_forward_75 (k := ?_)
    refine ev_iconst dX12_forward_76 (k := ?_)
    obtain ⟨h2, eh2, H3⟩ := lt_e H2
    clear H2
    refine ev_putI j_ok1 fl_X12_272 eh2 dX12_forward_77 (K := ?_)
    refine ev_iconst dX12_forward_80 (k := ?_)
    cases H3
    exact ev_ireturn dX12_forward_81
  · replace H := if_ne hc H
    refine ev_aload_n 0 dX12_forward_40 (k := ?_)
    refine ev_getR (t := 128) (x := some (128, 0)) fl_X12_83 dX12_forward_41 (hx := ry_12_28 _ _) (K := ?_)
    refine ev_bipush dX12_forward_44 (k := ?_)
    refine ev_iload_n 1 dX12_forward_46 (k := ?_)
    refine ev_imul dX12_forward_47 (k := ?_)
    refine ev_iload 2 dX12_forward_48 (k := ?_)
    refine ev_iadd dX12_forward_50 (k := ?_)
    refine ev_aload_n 0 dX12_forward_51 (k := ?_)
    refine ev_getR (t := 103) (x := some (103, 0)) fl_X12_9 dX12_forward_52 (hx := ry_12_3 _ _) (K := ?_)
    refine ev_iload 2 dX12_forward_55 (k := ?_)
    obtain ⟨⟨hi0, hi1⟩, H1⟩ := g_e H
    clear H
    refine ev_iaload (k := 103) hi0 hi1 dX12_forward_57 (hc := ac_103) (hlen := ln_103 _ _) (K := ?_)
    obtain ⟨⟨hi0, hi1⟩, H2⟩ := g_e H1
    clear H1
    obtain ⟨h3, eh3, H3⟩ := lt_e H2
    clear H2
    refine ev_iastore (k := 128) j_ok1 hi0 hi1 eh3 dX12_forward_58 (hc := ac_128) (hlen := ln_128 _ _) (K := ?_)
    refine ev_iinc 2 [(4, .inl (w32 (l4 + 1))), (0, .inr (.inr (some (12, 0)))), (3, .inl (l3))] dX12_forward_59 (k := ?_)
    refine ev_goto 31 dX12_forward_62 (k := ?_)
    refine ev_lv [1, 2, 0] [(0, .inr (.inr (some (12, 0)))), (3, .inl (l3)), (4, .inl (w32 (l4 + 1)))] (k := ?_)
    exact hk31 l3 (w32 (l4 + 1)) h3 _ H3
theorem E12_forward_31 (n : Nat) : ∀ (l3 : Int) (l4 : Int) (h : JM) (res : (Int × JM)), F12_forward_31 n l3 l4 h = some res → Ev j_W1 3 0 0 T12_forward 31 [(0, .inr (.inr (some (12, 0)))), (3, .inl (l3)), (4, .inl (l4))] [] h (some (.inl res.1)) res.2 := by
  induction n with
  | zero =>
    intro l3 l4 h res H
    cases H
  | succ n ih =>
    intro l3 l4 h res H
    exact E12_forward_31b (F12_forward_31 n) ih l3 l4 h res H
set_option maxRecDepth 100000 in
set_option maxHeartbeats 4000000 in
theorem E12_forward_19 (h : JM) (res : (Int × JM)) (H : F12_forward_19 h = some res) : Ev j_W1 3 0 0 T12_forward 19 [] [] h (some (.inl res.1)) res.2 := by
  unfold F12_forward_19 at H
  refine ev_bipush dX12_forward_19 (k := ?_)
  cases H
  exact ev_ireturn dX12_forward_21
set_option maxRecDepth 100000 in
set_option maxHeartbeats 4000000 in
theorem C12_forward {l1 : Int} {l2 : Int} {h : JM} {res : (Int × JM)} (H : F12_forward l1 l2 h = some res) : Cn j_W1 3 0 0 yX12_forward cX12_forward 5 (some .int) [.inr (.inr (some (12, 0))), .inl (l1), .inl (l2)] h (some (.inl res.1)) res.2 := by
  refine Cn.by (own := RX12) (b := false) [(0, .inr (.inr (some (12, 0)))), (1, .inl (l1)), (2, .inl (l2))] rfl (fun z => by cases z) (by decide +kernel) (K := ?_)
  unfold F12_forward at H
  refine ev_iload_n 1 dX12_forward_0 (k := ?_)
  obtain ⟨q4, hq, H1⟩ := bd_e H
  clear H
  refine ev_callS (mc := 0) (ms := 0) (st := []) (C12_isLine hq) md_X12_isLine ss_X12_isLine ml_X12_288 dX12_forward_1 _ (by decide) (K := ?_)
  refine ev_ifeq 19 dX12_forward_4 (kt := fun hc => ?_) (kf := fun hc => ?_)
  · replace H1 := if_pe hc H1
    refine ev_lv [] [] (k := ?_)
    exact E12_forward_19 q4.2 _ H1
  · replace H1 := if_ne hc H1
    refine ev_iload_n 2 dX12_forward_7 (k := ?_)
    refine ev_i2l dX12_forward_8 (k := ?_)
    refine ev_lconst (v := 0) dX12_forward_9 (k := ?_)
    refine ev_ldc2 (n := 2) cl_X12_281 dX12_forward_10 (k := ?_)
    obtain ⟨q5, hq, H2⟩ := bd_e H1
    clear H1
    refine ev_callS (mc := 0) (ms := 0) (st := []) (C12_in hq) md_X12_in ss_X12_in ml_X12_268 dX12_forward_13 _ (by decide) (K := ?_)
    refine ev_ifne 22 dX12_forward_16 (kt := fun hc => ?_) (kf := fun hc => ?_)
    · replace H2 := if_ne hc H2
      refine ev_iconst dX12_forward_22 (k := ?_)
      refine ev_iload_n 1 dX12_forward_23 (k := ?_)
      refine ev_imul dX12_forward_24 (k := ?_)
      refine ev_iload_n 2 dX12_forward_25 (k := ?_)
      refine ev_iadd dX12_forward_26 (k := ?_)
      obtain ⟨x6, ex6, H3⟩ := lt_e H2
      clear H2
      refine ev_topI ex6 ?_
      refine ev_istore_n [(3, .inl (x6)), (0, .inr (.inr (some (12, 0)))), (1, .inl (l1)), (2, .inl (l2))] dX12_forward_27 (k := ?_)
      refine ev_iconst dX12_forward_28 (k := ?_)
      refine ev_istore [(4, .inl (0)), (3, .inl (x6)), (0, .inr (.inr (some (12, 0)))), (1, .inl (l1)), (2, .inl (l2))] dX12_forward_29 (k := ?_)
      refine ev_lv [2, 1, 0] [(0, .inr (.inr (some (12, 0)))), (3, .inl (x6)), (4, .inl (0))] (k := ?_)
      exact E12_forward_31 j_fu x6 0 q5.2 _ H3
    · replace H2 := if_pe hc H2
      refine ev_lv [] [] (k := ?_)
      exact E12_forward_19 q5.2 _ H2
-- X12_heardOf
abbrev T12_heardOf : JT := (RX12, cX12_heardOf, 2, some .int, false)
set_option maxRecDepth 100000 in
set_option maxHeartbeats 4000000 in
theorem C12_heardOf {l0 : Int} {l1 : Int} {h : JM} {res : (Int × JM)} (H : F12_heardOf l0 l1 h = some res) : Cn j_W1 3 0 0 yX12_heardOf cX12_heardOf 2 (some .int) [.inl (l0), .inl (l1)] h (some (.inl res.1)) res.2 := by
  refine Cn.by (own := RX12) (b := false) [(0, .inl (l0)), (1, .inl (l1))] rfl (fun z => by cases z) (by decide +kernel) (K := ?_)
  unfold F12_heardOf at H
  refine ev_iload_n 0 dX12_heardOf_0 (k := ?_)
  refine ev_iload_n 0 dX12_heardOf_1 (k := ?_)
  refine ev_iload_n 1 dX12_heardOf_2 (k := ?_)
  obtain ⟨q1, hq, H1⟩ := bd_e H
  clear H
  refine ev_callS (mc := 0) (ms := 0) (st := [.inl (l0)]) (C12_codeOf hq) md_X12_codeOf ss_X12_codeOf ml_X12_262 dX12_heardOf_3 _ (by decide) (K := ?_)
  obtain ⟨q2, hq, H2⟩ := bd_e H1
  clear H1
  refine ev_callS (mc := 0) (ms := 0) (st := []) (C12_back hq) md_X12_back ss_X12_back ml_X12_465 dX12_heardOf_6 _ (by decide) (K := ?_)
  cases H2
  exact ev_ireturn dX12_heardOf_9
-- X12_gets
abbrev T12_gets : JT := (RX12, cX12_gets, 5, none, false)
set_option maxRecDepth 100000 in
set_option maxHeartbeats 4000000 in
theorem C12_gets {l1 : Int} {l2 : Int} {l3 : Int} {h : JM} {res : JM} (H : F12_gets l1 l2 l3 h = some res) : Cn j_W1 4 0 0 yX12_gets cX12_gets 5 none [.inr (.inr (some (12, 0))), .inl (l1), .inl (l2), .inl (l3)] h none res := by
  refine Cn.by (own := RX12) (b := false) [(0, .inr (.inr (some (12, 0)))), (1, .inl (l1)), (2, .inl (l2)), (3, .inl (l3))] rfl (fun z => by cases z) (by decide +kernel) (K := ?_)
  unfold F12_gets at H
  refine ev_aload_n 0 dX12_gets_0 (k := ?_)
  refine ev_getR (t := 135) (x := some (135, 0)) fl_X12_101 dX12_gets_1 (hx := ry_12_35 _ _) (K := ?_)
  refine ev_iload_n 1 dX12_gets_4 (k := ?_)
  obtain ⟨⟨hi0, hi1⟩, H1⟩ := g_e H
  clear H
  refine ev_iaload (k := 135) hi0 hi1 dX12_gets_5 (hc := ac_135) (hlen := ln_135 _ _) (K := ?_)
  obtain ⟨x1, ex1, H2⟩ := lt_e H1
  clear H1
  refine ev_topI ex1 ?_
  refine ev_istore [(4, .inl (x1)), (0, .inr (.inr (some (12, 0)))), (1, .inl (l1)), (2, .inl (l2)), (3, .inl (l3))] dX12_gets_6 (k := ?_)
  refine ev_iload_n 3 dX12_gets_8 (k := ?_)
  obtain ⟨q2, hq, H3⟩ := bd_e H2
  clear H2
  refine ev_callS (mc := 0) (ms := 0) (st := []) (C12_isCircuit hq) md_X12_isCircuit ss_X12_isCircuit ml_X12_379 dX12_gets_9 _ (by decide) (K := ?_)
  refine ev_ifeq 38 dX12_gets_12 (kt := fun hc => ?_) (kf := fun hc => ?_)
  · replace H3 := if_pe hc H3
    refine ev_aload_n 1 dX12_gets_38 (k := ?_)
    refine ev_getR (t := 119) (x := some (119, 0)) fl_X12_56 dX12_gets_39 (hx := ry_12_19 _ _) (K := ?_)
    refine ev_iload_n 3 dX12_gets_42 (k := ?_)
    obtain ⟨⟨hi0, hi1⟩, H4⟩ := g_e H3
    clear H3
    refine ev_iaload (k := 119) hi0 hi1 dX12_gets_43 (hc := ac_119) (hlen := ln_119 _ _) (K := ?_)
    refine ev_iload_n 2 dX12_gets_44 (k := ?_)
    refine ev_icmpne 60 dX12_gets_45 (kt := fun hc => ?_) (kf := fun hc => ?_)
    · replace H4 := if_ne hc H4
      cases H4
      exact ev_return dX12_gets_60
    · replace H4 := if_pe hc H4
      refine ev_aload_n 1 dX12_gets_48 (k := ?_)
      refine ev_getR (t := 131) (x := some (131, 0)) fl_X12_92 dX12_gets_49 (hx := ry_12_31 _ _) (K := ?_)
      refine ev_iload_n 3 dX12_gets_52 (k := ?_)
      refine ev_iload 0 dX12_gets_53 (k := ?_)
      refine ev_iload_n 4 dX12_gets_55 (k := ?_)
      obtain ⟨q3, hq, H5⟩ := bd_e H4
      clear H4
      refine ev_callS (mc := 0) (ms := 0) (st := [.inl (l2), .inr (.inr (some (131, 0)))]) (C12_heardOf hq) md_X12_heardOf ss_X12_heardOf ml_X12_468 dX12_gets_56 _ (by decide) (K := ?_)
      obtain ⟨⟨hi0, hi1⟩, H6⟩ := g_e H5
      clear H5
      obtain ⟨h4, eh4, H7⟩ := lt_e H6
      clear H6
      refine ev_iastore (k := 131) j_ok1 hi0 hi1 eh4 dX12_gets_59 (hc := ac_131) (hlen := ln_131 _ _) (K := ?_)
      cases H7
      exact ev_return dX12_gets_60
  · replace H3 := if_ne hc H3
    refine ev_aload_n 1 dX12_gets_15 (k := ?_)
    refine ev_getR (t := 185) (x := some (185, 0)) fl_X12_237 dX12_gets_16 (hx := ry_12_85 _ _) (K := ?_)
    refine ev_bipush dX12_gets_19 (k := ?_)
    refine ev_iload 0 dX12_gets_21 (k := ?_)
    refine ev_imul dX12_gets_23 (k := ?_)
    refine ev_iload_n 3 dX12_gets_24 (k := ?_)
    refine ev_iadd dX12_gets_25 (k := ?_)
    refine ev_bipush dX12_gets_26 (k := ?_)
    refine ev_isub dX12_gets_28 (k := ?_)
    refine ev_iconst dX12_gets_29 (k := ?_)
    refine ev_iload_n 4 dX12_gets_30 (k := ?_)
    obtain ⟨q5, hq, H4⟩ := bd_e H3
    clear H3
    refine ev_callS (mc := 0) (ms := 0) (st := [.inl (w32 ((w32 ((w32 (16 * x1)) + l2)) - 100)), .inr (.inr (some (185, 0)))]) (C12_codeOf hq) md_X12_codeOf ss_X12_codeOf ml_X12_262 dX12_gets_31 _ (by decide) (K := ?_)
    obtain ⟨⟨hi0, hi1⟩, H5⟩ := g_e H4
    clear H4
    obtain ⟨h6, eh6, H6⟩ := lt_e H5
    clear H5
    refine ev_iastore (k := 185) j_ok1 hi0 hi1 eh6 dX12_gets_34 (hc := ac_185) (hlen := ln_185 _ _) (K := ?_)
    refine ev_goto 60 dX12_gets_35 (k := ?_)
    cases H6
    exact ev_return dX12_gets_60
-- X12_given
abbrev T12_given : JT := (RX12, cX12_given, 4, some .int, false)
set_option maxRecDepth 100000 in
set_option maxHeartbeats 4000000 in
theorem C12_given {l1 : Int} {l2 : Int} {h : JM} {res : (Int × JM)} (H : F12_given l1 l2 h = some res) : Cn j_W1 4 0 0 yX12_given cX12_given 4 (some .int) [.inr (.inr (some (12, 0))), .inl (l1), .inl (l2)] h (some (.inl res.1)) res.2 := by
  refine Cn.by (own := RX12) (b := false) [(0, .inr (.inr (some (12, 0)))), (1, .inl (l1)), (2, .inl (l2))] rfl (fun z => by cases z) (by decide +kernel) (K := ?_)
  unfold F12_given at H
  refine ev_aload_n 0 dX12_given_0 (k := ?_)
  refine ev_getR (t := 135) (x := some (135, 0)) fl_X12_101 dX12_given_1 (hx := ry_12_35 _ _) (K := ?_)
  refine ev_iload_n 1 dX12_given_4 (k := ?_)
  obtain ⟨⟨hi0, hi1⟩, H1⟩ := g_e H
  clear H
  refine ev_iaload (k := 135) hi0 hi1 dX12_given_5 (hc := ac_135) (hlen := ln_135 _ _) (K := ?_)
  obtain ⟨x1, ex1, H2⟩ := lt_e H1
  clear H1
  refine ev_topI ex1 ?_
  refine ev_istore_n [(3, .inl (x1)), (0, .inr (.inr (some (12, 0)))), (1, .inl (l1)), (2, .inl (l2))] dX12_given_6 (k := ?_)
  refine ev_iload_n 3 dX12_given_7 (k := ?_)
  obtain ⟨q2, hq, H3⟩ := bd_e H2
  clear H2
  refine ev_callS (mc := 0) (ms := 0) (st := []) (C12_isCircuit hq) md_X12_isCircuit ss_X12_isCircuit ml_X12_379 dX12_given_8 _ (by decide) (K := ?_)
  refine ev_ifeq 35 dX12_given_11 (kt := fun hc => ?_) (kf := fun hc => ?_)
  · replace H3 := if_pe hc H3
    refine ev_aload_n 1 dX12_given_35 (k := ?_)
    refine ev_getR (t := 119) (x := some (119, 0)) fl_X12_56 dX12_given_36 (hx := ry_12_19 _ _) (K := ?_)
    refine ev_iload_n 3 dX12_given_39 (k := ?_)
    obtain ⟨⟨hi0, hi1⟩, H4⟩ := g_e H3
    clear H3
    refine ev_iaload (k := 119) hi0 hi1 dX12_given_40 (hc := ac_119) (hlen := ln_119 _ _) (K := ?_)
    refine ev_iload_n 2 dX12_given_41 (k := ?_)
    refine ev_icmpne 58 dX12_given_42 (kt := fun hc => ?_) (kf := fun hc => ?_)
    · replace H4 := if_ne hc H4
      refine ev_iconst dX12_given_58 (k := ?_)
      cases H4
      exact ev_ireturn dX12_given_59
    · replace H4 := if_pe hc H4
      refine ev_iload_n 0 dX12_given_45 (k := ?_)
      refine ev_aload_n 1 dX12_given_46 (k := ?_)
      refine ev_getR (t := 130) (x := some (130, 0)) fl_X12_89 dX12_given_47 (hx := ry_12_30 _ _) (K := ?_)
      refine ev_iload_n 3 dX12_given_50 (k := ?_)
      obtain ⟨⟨hi0, hi1⟩, H5⟩ := g_e H4
      clear H4
      refine ev_iaload (k := 130) hi0 hi1 dX12_given_51 (hc := ac_130) (hlen := ln_130 _ _) (K := ?_)
      obtain ⟨q3, hq, H6⟩ := bd_e H5
      clear H5
      refine ev_callS (mc := 0) (ms := 0) (st := []) (C12_heardOf hq) md_X12_heardOf ss_X12_heardOf ml_X12_468 dX12_given_52 _ (by decide) (K := ?_)
      refine ev_goto 59 dX12_given_55 (k := ?_)
      cases H6
      exact ev_ireturn dX12_given_59
  · replace H3 := if_ne hc H3
    refine ev_iconst dX12_given_14 (k := ?_)
    refine ev_aload_n 1 dX12_given_15 (k := ?_)
    refine ev_getR (t := 184) (x := some (184, 0)) fl_X12_234 dX12_given_16 (hx := ry_12_84 _ _) (K := ?_)
    refine ev_bipush dX12_given_19 (k := ?_)
    refine ev_iconst dX12_given_21 (k := ?_)
    refine ev_iload_n 0 dX12_given_22 (k := ?_)
    refine ev_isub dX12_given_23 (k := ?_)
    refine ev_imul dX12_given_24 (k := ?_)
    refine ev_iload_n 3 dX12_given_25 (k := ?_)
    refine ev_iadd dX12_given_26 (k := ?_)
    refine ev_bipush dX12_given_27 (k := ?_)
    refine ev_isub dX12_given_29 (k := ?_)
    obtain ⟨⟨hi0, hi1⟩, H4⟩ := g_e H3
    clear H3
    refine ev_iaload (k := 184) hi0 hi1 dX12_given_30 (hc := ac_184) (hlen := ln_184 _ _) (K := ?_)
    obtain ⟨q4, hq, H5⟩ := bd_e H4
    clear H4
    refine ev_callS (mc := 0) (ms := 0) (st := []) (C12_back hq) md_X12_back ss_X12_back ml_X12_465 dX12_given_31 _ (by decide) (K := ?_)
    cases H5
    exact ev_ireturn dX12_given_34
-- X12_group
abbrev T12_group : JT := (RX12, cX12_group, 4, some .int, false)
set_option maxRecDepth 100000 in
set_option maxHeartbeats 4000000 in
theorem E12_group_32 (h : JM) (res : (Int × JM)) (H : F12_group_32 h = some res) : Ev j_W1 2 0 0 T12_group 32 [] [] h (some (.inl res.1)) res.2 := by
  unfold F12_group_32 at H
  refine ev_bipush dX12_group_32 (k := ?_)
  cases H
  exact ev_ireturn dX12_group_34
set_option maxRecDepth 100000 in
set_option maxHeartbeats 4000000 in
theorem C12_group {l1 : Int} {l2 : Int} {l3 : Int} {h : JM} {res : (Int × JM)} (H : F12_group l1 l2 l3 h = some res) : Cn j_W1 2 0 0 yX12_group cX12_group 4 (some .int) [.inr (.inr (some (12, 0))), .inl (l1), .inl (l2), .inl (l3)] h (some (.inl res.1)) res.2 := by
  refine Cn.by (own := RX12) (b := false) [(0, .inr (.inr (some (12, 0)))), (1, .inl (l1)), (2, .inl (l2)), (3, .inl (l3))] rfl (fun z => by cases z) (by decide +kernel) (K := ?_)
  unfold F12_group at H
  refine ev_iload_n 1 dX12_group_0 (k := ?_)
  refine ev_i2l dX12_group_1 (k := ?_)
  refine ev_lconst (v := 0) dX12_group_2 (k := ?_)
  refine ev_lconst (v := 1) dX12_group_3 (k := ?_)
  obtain ⟨q1, hq, H1⟩ := bd_e H
  clear H
  refine ev_callS (mc := 0) (ms := 0) (st := []) (C12_in hq) md_X12_in ss_X12_in ml_X12_268 dX12_group_4 _ (by decide) (K := ?_)
  refine ev_ifeq 32 dX12_group_7 (kt := fun hc => ?_) (kf := fun hc => ?_)
  · replace H1 := if_pe hc H1
    refine ev_lv [] [] (k := ?_)
    exact E12_group_32 q1.2 _ H1
  · replace H1 := if_ne hc H1
    refine ev_iload_n 2 dX12_group_10 (k := ?_)
    refine ev_i2l dX12_group_11 (k := ?_)
    refine ev_lconst (v := 0) dX12_group_12 (k := ?_)
    refine ev_ldc2 (n := 2) cl_X12_281 dX12_group_13 (k := ?_)
    obtain ⟨q2, hq, H2⟩ := bd_e H1
    clear H1
    refine ev_callS (mc := 0) (ms := 0) (st := []) (C12_in hq) md_X12_in ss_X12_in ml_X12_268 dX12_group_16 _ (by decide) (K := ?_)
    refine ev_ifeq 32 dX12_group_19 (kt := fun hc => ?_) (kf := fun hc => ?_)
    · replace H2 := if_pe hc H2
      refine ev_lv [] [] (k := ?_)
      exact E12_group_32 q2.2 _ H2
    · replace H2 := if_ne hc H2
      refine ev_iload_n 3 dX12_group_22 (k := ?_)
      refine ev_i2l dX12_group_23 (k := ?_)
      refine ev_lconst (v := 0) dX12_group_24 (k := ?_)
      refine ev_lconst (v := 1) dX12_group_25 (k := ?_)
      obtain ⟨q3, hq, H3⟩ := bd_e H2
      clear H2
      refine ev_callS (mc := 0) (ms := 0) (st := []) (C12_in hq) md_X12_in ss_X12_in ml_X12_268 dX12_group_26 _ (by decide) (K := ?_)
      refine ev_ifne 35 dX12_group_29 (kt := fun hc => ?_) (kf := fun hc => ?_)
      · replace H3 := if_ne hc H3
        refine ev_iload_n 3 dX12_group_35 (k := ?_)
        refine ev_ifne 52 dX12_group_36 (kt := fun hc => ?_) (kf := fun hc => ?_)
        · replace H3 := if_ne hc H3
          refine ev_aload_n 0 dX12_group_52 (k := ?_)
          refine ev_getR (t := 150) (x := some (150, 0)) fl_X12_146 dX12_group_53 (hx := ry_12_50 _ _) (K := ?_)
          refine ev_iconst dX12_group_56 (k := ?_)
          refine ev_iload_n 1 dX12_group_57 (k := ?_)
          refine ev_imul dX12_group_58 (k := ?_)
          refine ev_iload_n 2 dX12_group_59 (k := ?_)
          refine ev_iadd dX12_group_60 (k := ?_)
          obtain ⟨⟨hi0, hi1⟩, H4⟩ := g_e H3
          clear H3
          refine ev_iaload (k := 150) hi0 hi1 dX12_group_61 (hc := ac_150) (hlen := ln_150 _ _) (K := ?_)
          cases H4
          exact ev_ireturn dX12_group_62
        · replace H3 := if_pe hc H3
          refine ev_aload_n 0 dX12_group_39 (k := ?_)
          refine ev_getR (t := 153) (x := some (153, 0)) fl_X12_155 dX12_group_40 (hx := ry_12_53 _ _) (K := ?_)
          refine ev_iconst dX12_group_43 (k := ?_)
          refine ev_iload_n 1 dX12_group_44 (k := ?_)
          refine ev_imul dX12_group_45 (k := ?_)
          refine ev_iload_n 2 dX12_group_46 (k := ?_)
          refine ev_iadd dX12_group_47 (k := ?_)
          obtain ⟨⟨hi0, hi1⟩, H4⟩ := g_e H3
          clear H3
          refine ev_iaload (k := 153) hi0 hi1 dX12_group_48 (hc := ac_153) (hlen := ln_153 _ _) (K := ?_)
          refine ev_goto 62 dX12_group_49 (k := ?_)
          cases H4
          exact ev_ireturn dX12_group_62
      · replace H3 := if_pe hc H3
        refine ev_lv [] [] (k := ?_)
        exact E12_group_32 q3.2 _ H3
-- X12_hangs
abbrev T12_hangs : JT := (RX12, cX12_hangs, 4, none, false)
set_option maxRecDepth 100000 in
set_option maxHeartbeats 4000000 in
theorem E12_hangs_76 (l1 : Int) (h : JM) (res : JM) (H : F12_hangs_76 l1 h = some res) : Ev j_W1 4 0 0 T12_hangs 76 [(0, .inr (.inr (some (12, 0)))), (1, .inl (l1))] [] h none res := by
  unfold F12_hangs_76 at H
  refine ev_aload_n 0 dX12_hangs_76 (k := ?_)
  refine ev_getR (t := 123) (x := some (123, 0)) fl_X12_68 dX12_hangs_77 (hx := ry_12_23 _ _) (K := ?_)
  refine ev_iload_n 1 dX12_hangs_80 (k := ?_)
  refine ev_iconst dX12_hangs_81 (k := ?_)
  obtain ⟨⟨hi0, hi1⟩, H1⟩ := g_e H
  clear H
  obtain ⟨h1, eh1, H2⟩ := lt_e H1
  clear H1
  refine ev_iastore (k := 123) j_ok1 hi0 hi1 eh1 dX12_hangs_82 (hc := ac_123) (hlen := ln_123 _ _) (K := ?_)
  cases H2
  exact ev_return dX12_hangs_83
set_option maxRecDepth 100000 in
set_option maxHeartbeats 4000000 in
theorem E12_hangs_49 (l1 : Int) (h : JM) (res : JM) (H : F12_hangs_49 l1 h = some res) : Ev j_W1 4 0 0 T12_hangs 49 [(0, .inr (.inr (some (12, 0)))), (1, .inl (l1))] [] h none res := by
  unfold F12_hangs_49 at H
  refine ev_aload_n 0 dX12_hangs_49 (k := ?_)
  refine ev_getR (t := 120) (x := some (120, 0)) fl_X12_59 dX12_hangs_50 (hx := ry_12_20 _ _) (K := ?_)
  refine ev_iload_n 1 dX12_hangs_53 (k := ?_)
  obtain ⟨⟨hi0, hi1⟩, H1⟩ := g_e H
  clear H
  refine ev_iaload (k := 120) hi0 hi1 dX12_hangs_54 (hc := ac_120) (hlen := ln_120 _ _) (K := ?_)
  obtain ⟨x2, ex2, H2⟩ := lt_e H1
  clear H1
  refine ev_topI ex2 ?_
  refine ev_istore_n [(3, .inl (x2)), (0, .inr (.inr (some (12, 0)))), (1, .inl (l1))] dX12_hangs_55 (k := ?_)
  refine ev_aload_n 1 dX12_hangs_56 (k := ?_)
  refine ev_getR (t := 120) (x := some (120, 0)) fl_X12_59 dX12_hangs_57 (hx := ry_12_20 _ _) (K := ?_)
  refine ev_iload_n 2 dX12_hangs_60 (k := ?_)
  refine ev_iconst dX12_hangs_61 (k := ?_)
  obtain ⟨⟨hi0, hi1⟩, H3⟩ := g_e H2
  clear H2
  obtain ⟨h3, eh3, H4⟩ := lt_e H3
  clear H3
  refine ev_iastore (k := 120) j_ok1 hi0 hi1 eh3 dX12_hangs_62 (hc := ac_120) (hlen := ln_120 _ _) (K := ?_)
  refine ev_iload_n 0 dX12_hangs_63 (k := ?_)
  refine ev_iconst dX12_hangs_64 (k := ?_)
  refine ev_icmpeq 76 dX12_hangs_65 (kt := fun hc => ?_) (kf := fun hc => ?_)
  · replace H4 := if_pe hc H4
    refine ev_lv [1, 2] [(0, .inr (.inr (some (12, 0)))), (1, .inl (l1))] (k := ?_)
    exact E12_hangs_76 l1 h3 _ H4
  · replace H4 := if_ne hc H4
    refine ev_aload_n 1 dX12_hangs_68 (k := ?_)
    refine ev_iload_n 0 dX12_hangs_69 (k := ?_)
    refine ev_bipush dX12_hangs_70 (k := ?_)
    refine ev_iload_n 2 dX12_hangs_72 (k := ?_)
    obtain ⟨h4, hq, H5⟩ := bd_e H4
    clear H4
    refine ev_callV (mc := 0) (ms := 0) (st := []) (C12_over hq) md_X12_over im_X12_over se_X12_over ml_X12_323 dX12_hangs_73 _ (by decide) (K := ?_)
    refine ev_lv [1, 2] [(0, .inr (.inr (some (12, 0)))), (1, .inl (l1))] (k := ?_)
    exact E12_hangs_76 l1 h4 _ H5
set_option maxRecDepth 100000 in
set_option maxHeartbeats 4000000 in
theorem C12_hangs {l1 : Int} {h : JM} {res : JM} (H : F12_hangs l1 h = some res) : Cn j_W1 4 0 0 yX12_hangs cX12_hangs 4 none [.inr (.inr (some (12, 0))), .inl (l1)] h none res := by
  refine Cn.by (own := RX12) (b := false) [(0, .inr (.inr (some (12, 0)))), (1, .inl (l1))] rfl (fun z => by cases z) (by decide +kernel) (K := ?_)
  unfold F12_hangs at H
  refine ev_aload_n 0 dX12_hangs_0 (k := ?_)
  refine ev_getR (t := 112) (x := some (112, 0)) fl_X12_34 dX12_hangs_1 (hx := ry_12_12 _ _) (K := ?_)
  refine ev_iload_n 1 dX12_hangs_4 (k := ?_)
  refine ev_iconst dX12_hangs_5 (k := ?_)
  obtain ⟨⟨hi0, hi1⟩, H1⟩ := g_e H
  clear H
  obtain ⟨h5, eh5, H2⟩ := lt_e H1
  clear H1
  refine ev_zastore (k := 112) j_ok1 hi0 hi1 (Or.inl rfl) eh5 dX12_hangs_6 (hc := ac_112) (hlen := ln_112 _ _) (K := ?_)
  refine ev_aload_n 0 dX12_hangs_7 (k := ?_)
  refine ev_iload_n 1 dX12_hangs_8 (k := ?_)
  obtain ⟨h6, hq, H3⟩ := bd_e H2
  clear H2
  refine ev_callV (mc := 0) (ms := 0) (st := []) (C12_clears hq) md_X12_clears im_X12_clears se_X12_clears ml_X12_314 dX12_hangs_9 _ (by decide) (K := ?_)
  refine ev_aload_n 0 dX12_hangs_12 (k := ?_)
  refine ev_getR (t := 125) (x := some (125, 0)) fl_X12_74 dX12_hangs_13 (hx := ry_12_25 _ _) (K := ?_)
  refine ev_iload_n 1 dX12_hangs_16 (k := ?_)
  refine ev_aload_n 0 dX12_hangs_17 (k := ?_)
  refine ev_getI (x := h6.1 12 0 2) fl_X12_285 dX12_hangs_18 (K := ?_)
  obtain ⟨⟨hi0, hi1⟩, H4⟩ := g_e H3
  clear H3
  obtain ⟨h7, eh7, H5⟩ := lt_e H4
  clear H4
  refine ev_iastore (k := 125) j_ok1 hi0 hi1 eh7 dX12_hangs_21 (hc := ac_125) (hlen := ln_125 _ _) (K := ?_)
  refine ev_aload_n 0 dX12_hangs_22 (k := ?_)
  refine ev_getR (t := 119) (x := some (119, 0)) fl_X12_56 dX12_hangs_23 (hx := ry_12_19 _ _) (K := ?_)
  refine ev_iload_n 1 dX12_hangs_26 (k := ?_)
  obtain ⟨⟨hi0, hi1⟩, H6⟩ := g_e H5
  clear H5
  refine ev_iaload (k := 119) hi0 hi1 dX12_hangs_27 (hc := ac_119) (hlen := ln_119 _ _) (K := ?_)
  obtain ⟨x8, ex8, H7⟩ := lt_e H6
  clear H6
  refine ev_topI ex8 ?_
  refine ev_istore_n [(2, .inl (x8)), (0, .inr (.inr (some (12, 0)))), (1, .inl (l1))] dX12_hangs_28 (k := ?_)
  refine ev_aload_n 1 dX12_hangs_29 (k := ?_)
  refine ev_getR (t := 119) (x := some (119, 0)) fl_X12_56 dX12_hangs_30 (hx := ry_12_19 _ _) (K := ?_)
  refine ev_iload_n 2 dX12_hangs_33 (k := ?_)
  refine ev_iconst dX12_hangs_34 (k := ?_)
  obtain ⟨⟨hi0, hi1⟩, H8⟩ := g_e H7
  clear H7
  obtain ⟨h9, eh9, H9⟩ := lt_e H8
  clear H8
  refine ev_iastore (k := 119) j_ok1 hi0 hi1 eh9 dX12_hangs_35 (hc := ac_119) (hlen := ln_119 _ _) (K := ?_)
  refine ev_iload_n 0 dX12_hangs_36 (k := ?_)
  refine ev_iconst dX12_hangs_37 (k := ?_)
  refine ev_icmpeq 49 dX12_hangs_38 (kt := fun hc => ?_) (kf := fun hc => ?_)
  · replace H9 := if_pe hc H9
    refine ev_lv [1, 2] [(0, .inr (.inr (some (12, 0)))), (1, .inl (l1))] (k := ?_)
    exact E12_hangs_49 l1 h9 _ H9
  · replace H9 := if_ne hc H9
    refine ev_aload_n 1 dX12_hangs_41 (k := ?_)
    refine ev_iload_n 0 dX12_hangs_42 (k := ?_)
    refine ev_bipush dX12_hangs_43 (k := ?_)
    refine ev_iload_n 2 dX12_hangs_45 (k := ?_)
    obtain ⟨h10, hq, H10⟩ := bd_e H9
    clear H9
    refine ev_callV (mc := 0) (ms := 0) (st := []) (C12_over hq) md_X12_over im_X12_over se_X12_over ml_X12_323 dX12_hangs_46 _ (by decide) (K := ?_)
    refine ev_lv [1, 2] [(0, .inr (.inr (some (12, 0)))), (1, .inl (l1))] (k := ?_)
    exact E12_hangs_49 l1 h10 _ H10
-- X12_heard
abbrev T12_heard : JT := (RX12, cX12_heard, 2, some .int, false)
set_option maxRecDepth 100000 in
set_option maxHeartbeats 4000000 in
theorem C12_heard {l1 : Int} {h : JM} {res : (Int × JM)} (H : F12_heard l1 h = some res) : Cn j_W1 3 0 0 yX12_heard cX12_heard 2 (some .int) [.inr (.inr (some (12, 0))), .inl (l1)] h (some (.inl res.1)) res.2 := by
  refine Cn.by (own := RX12) (b := false) [(0, .inr (.inr (some (12, 0)))), (1, .inl (l1))] rfl (fun z => by cases z) (by decide +kernel) (K := ?_)
  unfold F12_heard at H
  refine ev_iload_n 1 dX12_heard_0 (k := ?_)
  obtain ⟨q1, hq, H1⟩ := bd_e H
  clear H
  refine ev_callS (mc := 0) (ms := 0) (st := []) (C12_isLine hq) md_X12_isLine ss_X12_isLine ml_X12_288 dX12_heard_1 _ (by decide) (K := ?_)
  refine ev_ifeq 16 dX12_heard_4 (kt := fun hc => ?_) (kf := fun hc => ?_)
  · replace H1 := if_pe hc H1
    refine ev_bipush dX12_heard_16 (k := ?_)
    cases H1
    exact ev_ireturn dX12_heard_18
  · replace H1 := if_ne hc H1
    refine ev_aload_n 0 dX12_heard_7 (k := ?_)
    refine ev_getR (t := 131) (x := some (131, 0)) fl_X12_92 dX12_heard_8 (hx := ry_12_31 _ _) (K := ?_)
    refine ev_iload_n 1 dX12_heard_11 (k := ?_)
    obtain ⟨⟨hi0, hi1⟩, H2⟩ := g_e H1
    clear H1
    refine ev_iaload (k := 131) hi0 hi1 dX12_heard_12 (hc := ac_131) (hlen := ln_131 _ _) (K := ?_)
    refine ev_goto 18 dX12_heard_13 (k := ?_)
    cases H2
    exact ev_ireturn dX12_heard_18
-- X12_hook
abbrev T12_hook : JT := (RX12, cX12_hook, 4, some .int, false)
set_option maxRecDepth 100000 in
set_option maxHeartbeats 4000000 in
theorem E12_hook_24 (l1 : Int) (l2 : Int) (s0 : Int) (h : JM) (res : (Int × JM)) (H : F12_hook_24 l1 l2 s0 h = some res) : Ev j_W1 3 0 0 T12_hook 24 [(0, .inr (.inr (some (12, 0)))), (1, .inl (l1)), (2, .inl (l2))] [.inl (s0)] h (some (.inl res.1)) res.2 := by
  unfold F12_hook_24 at H
  refine ev_istore_n [(3, .inl (s0)), (0, .inr (.inr (some (12, 0)))), (1, .inl (l1)), (2, .inl (l2))] dX12_hook_24 (k := ?_)
  refine ev_aload_n 1 dX12_hook_25 (k := ?_)
  refine ev_getR (t := 113) (x := some (113, 0)) fl_X12_38 dX12_hook_26 (hx := ry_12_13 _ _) (K := ?_)
  refine ev_iload_n 2 dX12_hook_29 (k := ?_)
  refine ev_iload_n 3 dX12_hook_30 (k := ?_)
  obtain ⟨⟨hi0, hi1⟩, H1⟩ := g_e H
  clear H
  obtain ⟨hz, H2⟩ := g_e H1
  clear H1
  obtain ⟨h1, eh1, H3⟩ := lt_e H2
  clear H2
  refine ev_zastore (k := 113) j_ok1 hi0 hi1 hz eh1 dX12_hook_31 (hc := ac_113) (hlen := ln_113 _ _) (K := ?_)
  refine ev_iload_n 0 dX12_hook_32 (k := ?_)
  cases H3
  exact ev_ireturn dX12_hook_33
set_option maxRecDepth 100000 in
set_option maxHeartbeats 4000000 in
theorem C12_hook {l1 : Int} {l2 : Int} {h : JM} {res : (Int × JM)} (H : F12_hook l1 l2 h = some res) : Cn j_W1 3 0 0 yX12_hook cX12_hook 4 (some .int) [.inr (.inr (some (12, 0))), .inl (l1), .inl (l2)] h (some (.inl res.1)) res.2 := by
  refine Cn.by (own := RX12) (b := false) [(0, .inr (.inr (some (12, 0)))), (1, .inl (l1)), (2, .inl (l2))] rfl (fun z => by cases z) (by decide +kernel) (K := ?_)
  unfold F12_hook at H
  refine ev_iload_n 1 dX12_hook_0 (k := ?_)
  obtain ⟨q2, hq, H1⟩ := bd_e H
  clear H
  refine ev_callS (mc := 0) (ms := 0) (st := []) (C12_isLine hq) md_X12_isLine ss_X12_isLine ml_X12_288 dX12_hook_1 _ (by decide) (K := ?_)
  refine ev_ifne 10 dX12_hook_4 (kt := fun hc => ?_) (kf := fun hc => ?_)
  · replace H1 := if_ne hc H1
    refine ev_aload_n 0 dX12_hook_10 (k := ?_)
    refine ev_getR (t := 113) (x := some (113, 0)) fl_X12_38 dX12_hook_11 (hx := ry_12_13 _ _) (K := ?_)
    refine ev_iload_n 1 dX12_hook_14 (k := ?_)
    obtain ⟨⟨hi0, hi1⟩, H2⟩ := g_e H1
    clear H1
    refine ev_zaload (k := 113) hi0 hi1 dX12_hook_15 (hc := ac_113) (hlen := ln_113 _ _) (K := ?_)
    refine ev_ifeq 23 dX12_hook_16 (kt := fun hc => ?_) (kf := fun hc => ?_)
    · replace H2 := if_pe hc H2
      refine ev_iconst dX12_hook_23 (k := ?_)
      exact E12_hook_24 l1 l2 0 q2.2 _ H2
    · replace H2 := if_ne hc H2
      refine ev_iconst dX12_hook_19 (k := ?_)
      refine ev_goto 24 dX12_hook_20 (k := ?_)
      exact E12_hook_24 l1 l2 1 q2.2 _ H2
  · replace H1 := if_pe hc H1
    refine ev_bipush dX12_hook_7 (k := ?_)
    cases H1
    exact ev_ireturn dX12_hook_9
-- X12_inRoomOthers
abbrev T12_inRoomOthers : JT := (RX12, cX12_inRoomOthers, 4, some .int, false)
set_option maxRecDepth 100000 in
set_option maxHeartbeats 4000000 in
theorem E12_inRoomOthers_69 (k4 : Int → Int → Int → JM → Option (Int × JM)) (hk4 : ∀ (l1 : Int) (l2 : Int) (l3 : Int) (h : JM) (res : (Int × JM)), k4 l1 l2 l3 h = some res → Ev j_W1 5 0 0 T12_inRoomOthers 4 [(0, .inr (.inr (some (12, 0)))), (1, .inl (l1)), (2, .inl (l2)), (3, .inl (l3))] [] h (some (.inl res.1)) res.2) (l1 : Int) (l2 : Int) (l3 : Int) (h : JM) (res : (Int × JM)) (H : F12_inRoomOthers_69 k4 l1 l2 l3 h = some res) : Ev j_W1 5 0 0 T12_inRoomOthers 69 [(0, .inr (.inr (some (12, 0)))), (1, .inl (l1)), (2, .inl (l2)), (3, .inl (l3))] [] h (some (.inl res.1)) res.2 := by
  unfold F12_inRoomOthers_69 at H
  refine ev_iinc 3 [(3, .inl (w32 (l3 + 1))), (0, .inr (.inr (some (12, 0)))), (1, .inl (l1)), (2, .inl (l2))] dX12_inRoomOthers_69 (k := ?_)
  refine ev_goto 4 dX12_inRoomOthers_72 (k := ?_)
  refine ev_lv [1, 2, 3, 0] [(0, .inr (.inr (some (12, 0)))), (1, .inl (l1)), (2, .inl (l2)), (3, .inl (w32 (l3 + 1)))] (k := ?_)
  exact hk4 l1 l2 (w32 (l3 + 1)) h _ H
set_option maxRecDepth 100000 in
set_option maxHeartbeats 4000000 in
theorem E12_inRoomOthers_4b (k4 : Int → Int → Int → JM → Option (Int × JM)) (hk4 : ∀ (l1 : Int) (l2 : Int) (l3 : Int) (h : JM) (res : (Int × JM)), k4 l1 l2 l3 h = some res → Ev j_W1 5 0 0 T12_inRoomOthers 4 [(0, .inr (.inr (some (12, 0)))), (1, .inl (l1)), (2, .inl (l2)), (3, .inl (l3))] [] h (some (.inl res.1)) res.2) (l1 : Int) (l2 : Int) (l3 : Int) (h : JM) (res : (Int × JM)) (H : F12_inRoomOthers_4b k4 l1 l2 l3 h = some res) : Ev j_W1 5 0 0 T12_inRoomOthers 4 [(0, .inr (.inr (some (12, 0)))), (1, .inl (l1)), (2, .inl (l2)), (3, .inl (l3))] [] h (some (.inl res.1)) res.2 := by
  unfold F12_inRoomOthers_4b at H
  refine ev_iload_n 3 dX12_inRoomOthers_4 (k := ?_)
  refine ev_bipush dX12_inRoomOthers_5 (k := ?_)
  refine ev_icmpge 75 dX12_inRoomOthers_7 (kt := fun hc => ?_) (kf := fun hc => ?_)
  · replace H := if_pe hc H
    refine ev_iload_n 2 dX12_inRoomOthers_75 (k := ?_)
    refine ev_sipush dX12_inRoomOthers_76 (k := ?_)
    refine ev_icmple 88 dX12_inRoomOthers_79 (kt := fun hc => ?_) (kf := fun hc => ?_)
    · replace H := if_pe hc H
      refine ev_iload_n 2 dX12_inRoomOthers_88 (k := ?_)
      refine ev_sipush dX12_inRoomOthers_89 (k := ?_)
      refine ev_icmpge 101 dX12_inRoomOthers_92 (kt := fun hc => ?_) (kf := fun hc => ?_)
      · replace H := if_pe hc H
        refine ev_iload_n 2 dX12_inRoomOthers_101 (k := ?_)
        cases H
        exact ev_ireturn dX12_inRoomOthers_102
      · replace H := if_ne hc H
        refine ev_sipush dX12_inRoomOthers_95 (k := ?_)
        refine ev_goto 102 dX12_inRoomOthers_98 (k := ?_)
        cases H
        exact ev_ireturn dX12_inRoomOthers_102
    · replace H := if_ne hc H
      refine ev_sipush dX12_inRoomOthers_82 (k := ?_)
      refine ev_goto 102 dX12_inRoomOthers_85 (k := ?_)
      cases H
      exact ev_ireturn dX12_inRoomOthers_102
  · replace H := if_ne hc H
    refine ev_iload_n 3 dX12_inRoomOthers_10 (k := ?_)
    refine ev_iload_n 1 dX12_inRoomOthers_11 (k := ?_)
    refine ev_icmpeq 69 dX12_inRoomOthers_12 (kt := fun hc => ?_) (kf := fun hc => ?_)
    · replace H := if_pe hc H
      exact E12_inRoomOthers_69 k4 hk4 l1 l2 l3 h _ H
    · replace H := if_ne hc H
      refine ev_aload_n 0 dX12_inRoomOthers_15 (k := ?_)
      refine ev_getR (t := 133) (x := some (133, 0)) fl_X12_95 dX12_inRoomOthers_16 (hx := ry_12_33 _ _) (K := ?_)
      refine ev_iload_n 3 dX12_inRoomOthers_19 (k := ?_)
      obtain ⟨⟨hi0, hi1⟩, H1⟩ := g_e H
      clear H
      refine ev_iaload (k := 133) hi0 hi1 dX12_inRoomOthers_20 (hc := ac_133) (hlen := ln_133 _ _) (K := ?_)
      refine ev_iconst dX12_inRoomOthers_21 (k := ?_)
      refine ev_icmpne 69 dX12_inRoomOthers_22 (kt := fun hc => ?_) (kf := fun hc => ?_)
      · replace H1 := if_ne hc H1
        exact E12_inRoomOthers_69 k4 hk4 l1 l2 l3 h _ H1
      · replace H1 := if_pe hc H1
        refine ev_aload_n 0 dX12_inRoomOthers_25 (k := ?_)
        refine ev_getR (t := 135) (x := some (135, 0)) fl_X12_101 dX12_inRoomOthers_26 (hx := ry_12_35 _ _) (K := ?_)
        refine ev_iload_n 3 dX12_inRoomOthers_29 (k := ?_)
        obtain ⟨⟨hi0, hi1⟩, H2⟩ := g_e H1
        clear H1
        refine ev_iaload (k := 135) hi0 hi1 dX12_inRoomOthers_30 (hc := ac_135) (hlen := ln_135 _ _) (K := ?_)
        refine ev_aload_n 0 dX12_inRoomOthers_31 (k := ?_)
        refine ev_getR (t := 135) (x := some (135, 0)) fl_X12_101 dX12_inRoomOthers_32 (hx := ry_12_35 _ _) (K := ?_)
        refine ev_iload_n 1 dX12_inRoomOthers_35 (k := ?_)
        obtain ⟨⟨hi0, hi1⟩, H3⟩ := g_e H2
        clear H2
        refine ev_iaload (k := 135) hi0 hi1 dX12_inRoomOthers_36 (hc := ac_135) (hlen := ln_135 _ _) (K := ?_)
        refine ev_icmpne 69 dX12_inRoomOthers_37 (kt := fun hc => ?_) (kf := fun hc => ?_)
        · replace H3 := if_ne hc H3
          exact E12_inRoomOthers_69 k4 hk4 l1 l2 l3 h _ H3
        · replace H3 := if_pe hc H3
          refine ev_aload_n 0 dX12_inRoomOthers_40 (k := ?_)
          refine ev_getR (t := 137) (x := some (137, 0)) fl_X12_107 dX12_inRoomOthers_41 (hx := ry_12_37 _ _) (K := ?_)
          refine ev_iload_n 3 dX12_inRoomOthers_44 (k := ?_)
          obtain ⟨⟨hi0, hi1⟩, H4⟩ := g_e H3
          clear H3
          refine ev_iaload (k := 137) hi0 hi1 dX12_inRoomOthers_45 (hc := ac_137) (hlen := ln_137 _ _) (K := ?_)
          refine ev_aload_n 0 dX12_inRoomOthers_46 (k := ?_)
          refine ev_getR (t := 137) (x := some (137, 0)) fl_X12_107 dX12_inRoomOthers_47 (hx := ry_12_37 _ _) (K := ?_)
          refine ev_iload_n 1 dX12_inRoomOthers_50 (k := ?_)
          obtain ⟨⟨hi0, hi1⟩, H5⟩ := g_e H4
          clear H4
          refine ev_iaload (k := 137) hi0 hi1 dX12_inRoomOthers_51 (hc := ac_137) (hlen := ln_137 _ _) (K := ?_)
          refine ev_icmpne 69 dX12_inRoomOthers_52 (kt := fun hc => ?_) (kf := fun hc => ?_)
          · replace H5 := if_ne hc H5
            exact E12_inRoomOthers_69 k4 hk4 l1 l2 l3 h _ H5
          · replace H5 := if_pe hc H5
            refine ev_iload_n 2 dX12_inRoomOthers_55 (k := ?_)
            refine ev_aload_n 0 dX12_inRoomOthers_56 (k := ?_)
            refine ev_iload_n 3 dX12_inRoomOthers_57 (k := ?_)
            refine ev_aload_n 0 dX12_inRoomOthers_58 (k := ?_)
            refine ev_getR (t := 136) (x := some (136, 0)) fl_X12_104 dX12_inRoomOthers_59 (hx := ry_12_36 _ _) (K := ?_)
            refine ev_iload_n 3 dX12_inRoomOthers_62 (k := ?_)
            obtain ⟨⟨hi0, hi1⟩, H6⟩ := g_e H5
            clear H5
            refine ev_iaload (k := 136) hi0 hi1 dX12_inRoomOthers_63 (hc := ac_136) (hlen := ln_136 _ _) (K := ?_)
            obtain ⟨q1, hq, H7⟩ := bd_e H6
            clear H6
            refine ev_callV (mc := 0) (ms := 0) (st := [.inl (l2)]) (C12_given hq) md_X12_given im_X12_given se_X12_given ml_X12_471 dX12_inRoomOthers_64 _ (by decide) (K := ?_)
            refine ev_iadd dX12_inRoomOthers_67 (k := ?_)
            obtain ⟨x2, ex2, H8⟩ := lt_e H7
            clear H7
            refine ev_topI ex2 ?_
            refine ev_istore_n [(2, .inl (x2)), (0, .inr (.inr (some (12, 0)))), (1, .inl (l1)), (3, .inl (l3))] dX12_inRoomOthers_68 (k := ?_)
            refine ev_lv [1, 2, 0, 3] [(0, .inr (.inr (some (12, 0)))), (1, .inl (l1)), (2, .inl (x2)), (3, .inl (l3))] (k := ?_)
            exact E12_inRoomOthers_69 k4 hk4 l1 x2 l3 q1.2 _ H8
theorem E12_inRoomOthers_4 (n : Nat) : ∀ (l1 : Int) (l2 : Int) (l3 : Int) (h : JM) (res : (Int × JM)), F12_inRoomOthers_4 n l1 l2 l3 h = some res → Ev j_W1 5 0 0 T12_inRoomOthers 4 [(0, .inr (.inr (some (12, 0)))), (1, .inl (l1)), (2, .inl (l2)), (3, .inl (l3))] [] h (some (.inl res.1)) res.2 := by
  induction n with
  | zero =>
    intro l1 l2 l3 h res H
    cases H
  | succ n ih =>
    intro l1 l2 l3 h res H
    exact E12_inRoomOthers_4b (F12_inRoomOthers_4 n) ih l1 l2 l3 h res H
set_option maxRecDepth 100000 in
set_option maxHeartbeats 4000000 in
theorem C12_inRoomOthers {l1 : Int} {h : JM} {res : (Int × JM)} (H : F12_inRoomOthers l1 h = some res) : Cn j_W1 5 0 0 yX12_inRoomOthers cX12_inRoomOthers 4 (some .int) [.inr (.inr (some (12, 0))), .inl (l1)] h (some (.inl res.1)) res.2 := by
  refine Cn.by (own := RX12) (b := false) [(0, .inr (.inr (some (12, 0)))), (1, .inl (l1))] rfl (fun z => by cases z) (by decide +kernel) (K := ?_)
  unfold F12_inRoomOthers at H
  refine ev_iconst dX12_inRoomOthers_0 (k := ?_)
  refine ev_istore_n [(2, .inl (0)), (0, .inr (.inr (some (12, 0)))), (1, .inl (l1))] dX12_inRoomOthers_1 (k := ?_)
  refine ev_iconst dX12_inRoomOthers_2 (k := ?_)
  refine ev_istore_n [(3, .inl (0)), (2, .inl (0)), (0, .inr (.inr (some (12, 0)))), (1, .inl (l1))] dX12_inRoomOthers_3 (k := ?_)
  refine ev_lv [2, 3, 1, 0] [(0, .inr (.inr (some (12, 0)))), (1, .inl (l1)), (2, .inl (0)), (3, .inl (0))] (k := ?_)
  exact E12_inRoomOthers_4 j_fu l1 0 0 h _ H
