-- X12_acm
abbrev T12_acm : JT := (RX12, cX12_acm, 2, none, false)
set_option maxRecDepth 100000 in
set_option maxHeartbeats 4000000 in
theorem C12_acm {l1 : Int} {h : JM} {res : JM} (H : F12_acm l1 h = some res) : Cn j_W1 2 0 0 yX12_acm cX12_acm 2 none [.inr (.inr (some (12, 0))), .inl (l1)] h none res := by
  refine Cn.by (own := RX12) (b := false) [(0, .inr (.inr (some (12, 0)))), (1, .inl (l1))] rfl (fun z => by cases z) (by decide +kernel) (K := ?_)
  unfold F12_acm at H
  refine ev_aload_n 0 dX12_acm_0 (k := ?_)
  refine ev_getR (t := 136) (x := some (136, 0)) fl_X12_104 dX12_acm_1 (hx := ry_12_36 _ _) (K := ?_)
  refine ev_iload_n 1 dX12_acm_4 (k := ?_)
  obtain ⟨⟨hi0, hi1⟩, H1⟩ := g_e H
  clear H
  refine ev_iaload (k := 136) hi0 hi1 dX12_acm_5 (hc := ac_136) (hlen := ln_136 _ _) (K := ?_)
  obtain ⟨q1, hq, H2⟩ := bd_e H1
  clear H1
  refine ev_callS (mc := 0) (ms := 0) (st := []) (C12_isCircuit hq) md_X12_isCircuit ss_X12_isCircuit ml_X12_379 dX12_acm_6 _ (by decide) (K := ?_)
  refine ev_ifeq 21 dX12_acm_9 (kt := fun hc => ?_) (kf := fun hc => ?_)
  · replace H2 := if_pe hc H2
    cases H2
    exact ev_return dX12_acm_21
  · replace H2 := if_ne hc H2
    refine ev_aload_n 0 dX12_acm_12 (k := ?_)
    refine ev_getR (t := 148) (x := some (148, 0)) fl_X12_140 dX12_acm_13 (hx := ry_12_48 _ _) (K := ?_)
    refine ev_iload_n 1 dX12_acm_16 (k := ?_)
    obtain ⟨⟨hi0, hi1⟩, H3⟩ := g_e H2
    clear H2
    refine ev_zaload (k := 148) hi0 hi1 dX12_acm_17 (hc := ac_148) (hlen := ln_148 _ _) (K := ?_)
    refine ev_ifeq 22 dX12_acm_18 (kt := fun hc => ?_) (kf := fun hc => ?_)
    · replace H3 := if_pe hc H3
      refine ev_aload_n 0 dX12_acm_22 (k := ?_)
      refine ev_getR (t := 148) (x := some (148, 0)) fl_X12_140 dX12_acm_23 (hx := ry_12_48 _ _) (K := ?_)
      refine ev_iload_n 1 dX12_acm_26 (k := ?_)
      refine ev_iconst dX12_acm_27 (k := ?_)
      obtain ⟨⟨hi0, hi1⟩, H4⟩ := g_e H3
      clear H3
      obtain ⟨h2, eh2, H5⟩ := lt_e H4
      clear H4
      refine ev_zastore (k := 148) j_ok1 hi0 hi1 (Or.inr rfl) eh2 dX12_acm_28 (hc := ac_148) (hlen := ln_148 _ _) (K := ?_)
      refine ev_aload_n 0 dX12_acm_29 (k := ?_)
      refine ev_aload_n 0 dX12_acm_30 (k := ?_)
      refine ev_getR (t := 136) (x := some (136, 0)) fl_X12_104 dX12_acm_31 (hx := ry_12_36 _ _) (K := ?_)
      refine ev_iload_n 1 dX12_acm_34 (k := ?_)
      obtain ⟨⟨hi0, hi1⟩, H6⟩ := g_e H5
      clear H5
      refine ev_iaload (k := 136) hi0 hi1 dX12_acm_35 (hc := ac_136) (hlen := ln_136 _ _) (K := ?_)
      refine ev_bipush dX12_acm_36 (k := ?_)
      refine ev_isub dX12_acm_38 (k := ?_)
      refine ev_iconst dX12_acm_39 (k := ?_)
      obtain ⟨h3, hq, H7⟩ := bd_e H6
      clear H6
      refine ev_callV (mc := 0) (ms := 0) (st := []) (C12_begins hq) md_X12_begins im_X12_begins se_X12_begins ml_X12_352 dX12_acm_40 _ (by decide) (K := ?_)
      refine ev_aload_n 0 dX12_acm_43 (k := ?_)
      refine ev_aload_n 0 dX12_acm_44 (k := ?_)
      refine ev_getR (t := 135) (x := some (135, 0)) fl_X12_101 dX12_acm_45 (hx := ry_12_35 _ _) (K := ?_)
      refine ev_iload_n 1 dX12_acm_48 (k := ?_)
      obtain ⟨⟨hi0, hi1⟩, H8⟩ := g_e H7
      clear H7
      refine ev_iaload (k := 135) hi0 hi1 dX12_acm_49 (hc := ac_135) (hlen := ln_135 _ _) (K := ?_)
      obtain ⟨h4, hq, H9⟩ := bd_e H8
      clear H8
      refine ev_callV (mc := 0) (ms := 0) (st := []) (C12_goes hq) md_X12_goes im_X12_goes se_X12_goes ml_X12_358 dX12_acm_50 _ (by decide) (K := ?_)
      cases H9
      exact ev_return dX12_acm_53
    · replace H3 := if_ne hc H3
      cases H3
      exact ev_return dX12_acm_21
-- X12_analysis
abbrev T12_analysis : JT := (RX12, cX12_analysis, 9, some .int, false)
set_option maxRecDepth 100000 in
set_option maxHeartbeats 4000000 in
theorem E12_analysis_158 (k21 : Int → Int → Int → Int → Int → JM → Option (Int × JM)) (hk21 : ∀ (l1 : Int) (l2 : Int) (l3 : Int) (l4 : Int) (l5 : Int) (h : JM) (res : (Int × JM)), k21 l1 l2 l3 l4 l5 h = some res → Ev j_W1 1 0 0 T12_analysis 21 [(0, .inr (.inr (some (12, 0)))), (1, .inl (l1)), (2, .inl (l2)), (3, .inl (l3)), (4, .inl (l4)), (5, .inl (l5))] [] h (some (.inl res.1)) res.2) (l1 : Int) (l2 : Int) (l3 : Int) (l4 : Int) (l5 : Int) (h : JM) (res : (Int × JM)) (H : F12_analysis_158 k21 l1 l2 l3 l4 l5 h = some res) : Ev j_W1 1 0 0 T12_analysis 158 [(0, .inr (.inr (some (12, 0)))), (1, .inl (l1)), (2, .inl (l2)), (3, .inl (l3)), (4, .inl (l4)), (5, .inl (l5))] [] h (some (.inl res.1)) res.2 := by
  unfold F12_analysis_158 at H
  refine ev_iinc 5 [(5, .inl (w32 (l5 + 1))), (0, .inr (.inr (some (12, 0)))), (1, .inl (l1)), (2, .inl (l2)), (3, .inl (l3)), (4, .inl (l4))] dX12_analysis_158 (k := ?_)
  refine ev_goto 21 dX12_analysis_161 (k := ?_)
  refine ev_lv [1, 2, 3, 4, 5, 0] [(0, .inr (.inr (some (12, 0)))), (1, .inl (l1)), (2, .inl (l2)), (3, .inl (l3)), (4, .inl (l4)), (5, .inl (w32 (l5 + 1)))] (k := ?_)
  exact hk21 l1 l2 l3 l4 (w32 (l5 + 1)) h _ H
set_option maxRecDepth 100000 in
set_option maxHeartbeats 4000000 in
theorem E12_analysis_154 (k21 : Int → Int → Int → Int → Int → JM → Option (Int × JM)) (hk21 : ∀ (l1 : Int) (l2 : Int) (l3 : Int) (l4 : Int) (l5 : Int) (h : JM) (res : (Int × JM)), k21 l1 l2 l3 l4 l5 h = some res → Ev j_W1 1 0 0 T12_analysis 21 [(0, .inr (.inr (some (12, 0)))), (1, .inl (l1)), (2, .inl (l2)), (3, .inl (l3)), (4, .inl (l4)), (5, .inl (l5))] [] h (some (.inl res.1)) res.2) (l1 : Int) (l2 : Int) (l3 : Int) (l5 : Int) (l6 : Int) (h : JM) (res : (Int × JM)) (H : F12_analysis_154 k21 l1 l2 l3 l5 l6 h = some res) : Ev j_W1 1 0 0 T12_analysis 154 [(0, .inr (.inr (some (12, 0)))), (1, .inl (l1)), (2, .inl (l2)), (3, .inl (l3)), (5, .inl (l5)), (6, .inl (l6))] [] h (some (.inl res.1)) res.2 := by
  unfold F12_analysis_154 at H
  refine ev_iload 5 dX12_analysis_154 (k := ?_)
  refine ev_istore [(4, .inl (l6)), (0, .inr (.inr (some (12, 0)))), (1, .inl (l1)), (2, .inl (l2)), (3, .inl (l3)), (5, .inl (l5)), (6, .inl (l6))] dX12_analysis_156 (k := ?_)
  refine ev_lv [1, 2, 3, 4, 0, 5] [(0, .inr (.inr (some (12, 0)))), (1, .inl (l1)), (2, .inl (l2)), (3, .inl (l3)), (4, .inl (l6)), (5, .inl (l5))] (k := ?_)
  exact E12_analysis_158 k21 hk21 l1 l2 l3 l6 l5 h _ H
set_option maxRecDepth 100000 in
set_option maxHeartbeats 4000000 in
theorem E12_analysis_109 (k21 : Int → Int → Int → Int → Int → JM → Option (Int × JM)) (hk21 : ∀ (l1 : Int) (l2 : Int) (l3 : Int) (l4 : Int) (l5 : Int) (h : JM) (res : (Int × JM)), k21 l1 l2 l3 l4 l5 h = some res → Ev j_W1 1 0 0 T12_analysis 21 [(0, .inr (.inr (some (12, 0)))), (1, .inl (l1)), (2, .inl (l2)), (3, .inl (l3)), (4, .inl (l4)), (5, .inl (l5))] [] h (some (.inl res.1)) res.2) (l1 : Int) (l2 : Int) (l3 : Int) (l4 : Int) (l5 : Int) (l6 : Int) (l7 : Int) (h : JM) (res : (Int × JM)) (H : F12_analysis_109 k21 l1 l2 l3 l4 l5 l6 l7 h = some res) : Ev j_W1 1 0 0 T12_analysis 109 [(0, .inr (.inr (some (12, 0)))), (1, .inl (l1)), (2, .inl (l2)), (3, .inl (l3)), (4, .inl (l4)), (5, .inl (l5)), (6, .inl (l6)), (7, .inl (l7))] [] h (some (.inl res.1)) res.2 := by
  unfold F12_analysis_109 at H
  refine ev_iload 7 dX12_analysis_109 (k := ?_)
  refine ev_ifne 117 dX12_analysis_111 (kt := fun hc => ?_) (kf := fun hc => ?_)
  · replace H := if_ne hc H
    refine ev_aload_n 0 dX12_analysis_117 (k := ?_)
    refine ev_getR (t := 107) (x := some (107, 0)) fl_X12_19 dX12_analysis_118 (hx := ry_12_7 _ _) (K := ?_)
    refine ev_iload 6 dX12_analysis_121 (k := ?_)
    obtain ⟨⟨hi0, hi1⟩, H1⟩ := g_e H
    clear H
    refine ev_iaload (k := 107) hi0 hi1 dX12_analysis_123 (hc := ac_107) (hlen := ln_107 _ _) (K := ?_)
    refine ev_iload_n 3 dX12_analysis_124 (k := ?_)
    refine ev_icmple 130 dX12_analysis_125 (kt := fun hc => ?_) (kf := fun hc => ?_)
    · replace H1 := if_pe hc H1
      refine ev_iload 4 dX12_analysis_130 (k := ?_)
      refine ev_bipush dX12_analysis_132 (k := ?_)
      refine ev_icmpeq 154 dX12_analysis_134 (kt := fun hc => ?_) (kf := fun hc => ?_)
      · replace H1 := if_pe hc H1
        refine ev_lv [0, 1, 2, 3, 5, 6] [(0, .inr (.inr (some (12, 0)))), (1, .inl (l1)), (2, .inl (l2)), (3, .inl (l3)), (5, .inl (l5)), (6, .inl (l6))] (k := ?_)
        exact E12_analysis_154 k21 hk21 l1 l2 l3 l5 l6 h _ H1
      · replace H1 := if_ne hc H1
        refine ev_aload_n 0 dX12_analysis_137 (k := ?_)
        refine ev_getR (t := 107) (x := some (107, 0)) fl_X12_19 dX12_analysis_138 (hx := ry_12_7 _ _) (K := ?_)
        refine ev_iload 6 dX12_analysis_141 (k := ?_)
        obtain ⟨⟨hi0, hi1⟩, H2⟩ := g_e H1
        clear H1
        refine ev_iaload (k := 107) hi0 hi1 dX12_analysis_143 (hc := ac_107) (hlen := ln_107 _ _) (K := ?_)
        refine ev_aload_n 0 dX12_analysis_144 (k := ?_)
        refine ev_getR (t := 107) (x := some (107, 0)) fl_X12_19 dX12_analysis_145 (hx := ry_12_7 _ _) (K := ?_)
        refine ev_iload 4 dX12_analysis_148 (k := ?_)
        obtain ⟨⟨hi0, hi1⟩, H3⟩ := g_e H2
        clear H2
        refine ev_iaload (k := 107) hi0 hi1 dX12_analysis_150 (hc := ac_107) (hlen := ln_107 _ _) (K := ?_)
        refine ev_icmple 158 dX12_analysis_151 (kt := fun hc => ?_) (kf := fun hc => ?_)
        · replace H3 := if_pe hc H3
          refine ev_lv [0, 1, 2, 3, 4, 5] [(0, .inr (.inr (some (12, 0)))), (1, .inl (l1)), (2, .inl (l2)), (3, .inl (l3)), (4, .inl (l4)), (5, .inl (l5))] (k := ?_)
          exact E12_analysis_158 k21 hk21 l1 l2 l3 l4 l5 h _ H3
        · replace H3 := if_ne hc H3
          refine ev_lv [0, 1, 2, 3, 5, 6] [(0, .inr (.inr (some (12, 0)))), (1, .inl (l1)), (2, .inl (l2)), (3, .inl (l3)), (5, .inl (l5)), (6, .inl (l6))] (k := ?_)
          exact E12_analysis_154 k21 hk21 l1 l2 l3 l5 l6 h _ H3
    · replace H1 := if_ne hc H1
      refine ev_iconst dX12_analysis_128 (k := ?_)
      cases H1
      exact ev_ireturn dX12_analysis_129
  · replace H := if_pe hc H
    refine ev_goto 158 dX12_analysis_114 (k := ?_)
    refine ev_lv [0, 1, 2, 3, 4, 5] [(0, .inr (.inr (some (12, 0)))), (1, .inl (l1)), (2, .inl (l2)), (3, .inl (l3)), (4, .inl (l4)), (5, .inl (l5))] (k := ?_)
    exact E12_analysis_158 k21 hk21 l1 l2 l3 l4 l5 h _ H
set_option maxRecDepth 100000 in
set_option maxHeartbeats 4000000 in
theorem E12_analysis_100 (k21 : Int → Int → Int → Int → Int → JM → Option (Int × JM)) (hk21 : ∀ (l1 : Int) (l2 : Int) (l3 : Int) (l4 : Int) (l5 : Int) (h : JM) (res : (Int × JM)), k21 l1 l2 l3 l4 l5 h = some res → Ev j_W1 1 0 0 T12_analysis 21 [(0, .inr (.inr (some (12, 0)))), (1, .inl (l1)), (2, .inl (l2)), (3, .inl (l3)), (4, .inl (l4)), (5, .inl (l5))] [] h (some (.inl res.1)) res.2) (k47 : Int → Int → Int → Int → Int → Int → Int → Int → JM → Option (Int × JM)) (hk47 : ∀ (l1 : Int) (l2 : Int) (l3 : Int) (l4 : Int) (l5 : Int) (l6 : Int) (l7 : Int) (l8 : Int) (h : JM) (res : (Int × JM)), k47 l1 l2 l3 l4 l5 l6 l7 l8 h = some res → Ev j_W1 1 0 0 T12_analysis 47 [(0, .inr (.inr (some (12, 0)))), (1, .inl (l1)), (2, .inl (l2)), (3, .inl (l3)), (4, .inl (l4)), (5, .inl (l5)), (6, .inl (l6)), (7, .inl (l7)), (8, .inl (l8))] [] h (some (.inl res.1)) res.2) (l1 : Int) (l2 : Int) (l3 : Int) (l4 : Int) (l5 : Int) (l6 : Int) (l8 : Int) (s0 : Int) (s1 : Int) (h : JM) (res : (Int × JM)) (H : F12_analysis_100 k21 k47 l1 l2 l3 l4 l5 l6 l8 s0 s1 h = some res) : Ev j_W1 1 0 0 T12_analysis 100 [(0, .inr (.inr (some (12, 0)))), (1, .inl (l1)), (2, .inl (l2)), (3, .inl (l3)), (4, .inl (l4)), (5, .inl (l5)), (6, .inl (l6)), (8, .inl (l8))] [.inl (s1), .inl (s0)] h (some (.inl res.1)) res.2 := by
  unfold F12_analysis_100 at H
  refine ev_iand dX12_analysis_100 (k := ?_)
  obtain ⟨x1, ex1, H1⟩ := lt_e H
  clear H
  refine ev_topI ex1 ?_
  refine ev_istore [(7, .inl (x1)), (0, .inr (.inr (some (12, 0)))), (1, .inl (l1)), (2, .inl (l2)), (3, .inl (l3)), (4, .inl (l4)), (5, .inl (l5)), (6, .inl (l6)), (8, .inl (l8))] dX12_analysis_101 (k := ?_)
  refine ev_iinc 8 [(8, .inl (w32 (l8 + 1))), (7, .inl (x1)), (0, .inr (.inr (some (12, 0)))), (1, .inl (l1)), (2, .inl (l2)), (3, .inl (l3)), (4, .inl (l4)), (5, .inl (l5)), (6, .inl (l6))] dX12_analysis_103 (k := ?_)
  refine ev_goto 47 dX12_analysis_106 (k := ?_)
  refine ev_lv [2, 3, 4, 5, 6, 7, 8, 1, 0] [(0, .inr (.inr (some (12, 0)))), (1, .inl (l1)), (2, .inl (l2)), (3, .inl (l3)), (4, .inl (l4)), (5, .inl (l5)), (6, .inl (l6)), (7, .inl (x1)), (8, .inl (w32 (l8 + 1)))] (k := ?_)
  exact hk47 l1 l2 l3 l4 l5 l6 x1 (w32 (l8 + 1)) h _ H1
set_option maxRecDepth 100000 in
set_option maxHeartbeats 4000000 in
theorem E12_analysis_47b (k21 : Int → Int → Int → Int → Int → JM → Option (Int × JM)) (hk21 : ∀ (l1 : Int) (l2 : Int) (l3 : Int) (l4 : Int) (l5 : Int) (h : JM) (res : (Int × JM)), k21 l1 l2 l3 l4 l5 h = some res → Ev j_W1 1 0 0 T12_analysis 21 [(0, .inr (.inr (some (12, 0)))), (1, .inl (l1)), (2, .inl (l2)), (3, .inl (l3)), (4, .inl (l4)), (5, .inl (l5))] [] h (some (.inl res.1)) res.2) (k47 : Int → Int → Int → Int → Int → Int → Int → Int → JM → Option (Int × JM)) (hk47 : ∀ (l1 : Int) (l2 : Int) (l3 : Int) (l4 : Int) (l5 : Int) (l6 : Int) (l7 : Int) (l8 : Int) (h : JM) (res : (Int × JM)), k47 l1 l2 l3 l4 l5 l6 l7 l8 h = some res → Ev j_W1 1 0 0 T12_analysis 47 [(0, .inr (.inr (some (12, 0)))), (1, .inl (l1)), (2, .inl (l2)), (3, .inl (l3)), (4, .inl (l4)), (5, .inl (l5)), (6, .inl (l6)), (7, .inl (l7)), (8, .inl (l8))] [] h (some (.inl res.1)) res.2) (l1 : Int) (l2 : Int) (l3 : Int) (l4 : Int) (l5 : Int) (l6 : Int) (l7 : Int) (l8 : Int) (h : JM) (res : (Int × JM)) (H : F12_analysis_47b k21 k47 l1 l2 l3 l4 l5 l6 l7 l8 h = some res) : Ev j_W1 1 0 0 T12_analysis 47 [(0, .inr (.inr (some (12, 0)))), (1, .inl (l1)), (2, .inl (l2)), (3, .inl (l3)), (4, .inl (l4)), (5, .inl (l5)), (6, .inl (l6)), (7, .inl (l7)), (8, .inl (l8))] [] h (some (.inl res.1)) res.2 := by
  unfold F12_analysis_47b at H
  refine ev_iload 8 dX12_analysis_47 (k := ?_)
  refine ev_iload_n 3 dX12_analysis_49 (k := ?_)
  refine ev_icmpge 109 dX12_analysis_50 (kt := fun hc => ?_) (kf := fun hc => ?_)
  · replace H := if_pe hc H
    refine ev_lv [0, 1, 2, 3, 4, 5, 6, 7] [(0, .inr (.inr (some (12, 0)))), (1, .inl (l1)), (2, .inl (l2)), (3, .inl (l3)), (4, .inl (l4)), (5, .inl (l5)), (6, .inl (l6)), (7, .inl (l7))] (k := ?_)
    exact E12_analysis_109 k21 hk21 l1 l2 l3 l4 l5 l6 l7 h _ H
  · replace H := if_ne hc H
    refine ev_iload 8 dX12_analysis_53 (k := ?_)
    refine ev_aload_n 0 dX12_analysis_55 (k := ?_)
    refine ev_getR (t := 107) (x := some (107, 0)) fl_X12_19 dX12_analysis_56 (hx := ry_12_7 _ _) (K := ?_)
    refine ev_iload 6 dX12_analysis_59 (k := ?_)
    obtain ⟨⟨hi0, hi1⟩, H1⟩ := g_e H
    clear H
    refine ev_iaload (k := 107) hi0 hi1 dX12_analysis_61 (hc := ac_107) (hlen := ln_107 _ _) (K := ?_)
    refine ev_icmpge 109 dX12_analysis_62 (kt := fun hc => ?_) (kf := fun hc => ?_)
    · replace H1 := if_pe hc H1
      refine ev_lv [0, 1, 2, 3, 4, 5, 6, 7] [(0, .inr (.inr (some (12, 0)))), (1, .inl (l1)), (2, .inl (l2)), (3, .inl (l3)), (4, .inl (l4)), (5, .inl (l5)), (6, .inl (l6)), (7, .inl (l7))] (k := ?_)
      exact E12_analysis_109 k21 hk21 l1 l2 l3 l4 l5 l6 l7 h _ H1
    · replace H1 := if_ne hc H1
      refine ev_iload 7 dX12_analysis_65 (k := ?_)
      refine ev_aload_n 0 dX12_analysis_67 (k := ?_)
      refine ev_getR (t := 106) (x := some (106, 0)) fl_X12_16 dX12_analysis_68 (hx := ry_12_6 _ _) (K := ?_)
      refine ev_bipush dX12_analysis_71 (k := ?_)
      refine ev_iload 6 dX12_analysis_73 (k := ?_)
      refine ev_imul dX12_analysis_75 (k := ?_)
      refine ev_iload 8 dX12_analysis_76 (k := ?_)
      refine ev_iadd dX12_analysis_78 (k := ?_)
      obtain ⟨⟨hi0, hi1⟩, H2⟩ := g_e H1
      clear H1
      refine ev_iaload (k := 106) hi0 hi1 dX12_analysis_79 (hc := ac_106) (hlen := ln_106 _ _) (K := ?_)
      refine ev_aload_n 0 dX12_analysis_80 (k := ?_)
      refine ev_getR (t := 139) (x := some (139, 0)) fl_X12_113 dX12_analysis_81 (hx := ry_12_39 _ _) (K := ?_)
      refine ev_bipush dX12_analysis_84 (k := ?_)
      refine ev_iload_n 1 dX12_analysis_86 (k := ?_)
      refine ev_imul dX12_analysis_87 (k := ?_)
      refine ev_iload 8 dX12_analysis_88 (k := ?_)
      refine ev_iadd dX12_analysis_90 (k := ?_)
      obtain ⟨⟨hi0, hi1⟩, H3⟩ := g_e H2
      clear H2
      refine ev_iaload (k := 139) hi0 hi1 dX12_analysis_91 (hc := ac_139) (hlen := ln_139 _ _) (K := ?_)
      refine ev_icmpne 99 dX12_analysis_92 (kt := fun hc => ?_) (kf := fun hc => ?_)
      · replace H3 := if_ne hc H3
        refine ev_iconst dX12_analysis_99 (k := ?_)
        refine ev_lv [0, 1, 2, 3, 4, 5, 6, 8] [(0, .inr (.inr (some (12, 0)))), (1, .inl (l1)), (2, .inl (l2)), (3, .inl (l3)), (4, .inl (l4)), (5, .inl (l5)), (6, .inl (l6)), (8, .inl (l8))] (k := ?_)
        exact E12_analysis_100 k21 hk21 k47 hk47 l1 l2 l3 l4 l5 l6 l8 l7 0 h _ H3
      · replace H3 := if_pe hc H3
        refine ev_iconst dX12_analysis_95 (k := ?_)
        refine ev_goto 100 dX12_analysis_96 (k := ?_)
        refine ev_lv [0, 1, 2, 3, 4, 5, 6, 8] [(0, .inr (.inr (some (12, 0)))), (1, .inl (l1)), (2, .inl (l2)), (3, .inl (l3)), (4, .inl (l4)), (5, .inl (l5)), (6, .inl (l6)), (8, .inl (l8))] (k := ?_)
        exact E12_analysis_100 k21 hk21 k47 hk47 l1 l2 l3 l4 l5 l6 l8 l7 1 h _ H3
theorem E12_analysis_47 (k21 : Int → Int → Int → Int → Int → JM → Option (Int × JM)) (hk21 : ∀ (l1 : Int) (l2 : Int) (l3 : Int) (l4 : Int) (l5 : Int) (h : JM) (res : (Int × JM)), k21 l1 l2 l3 l4 l5 h = some res → Ev j_W1 1 0 0 T12_analysis 21 [(0, .inr (.inr (some (12, 0)))), (1, .inl (l1)), (2, .inl (l2)), (3, .inl (l3)), (4, .inl (l4)), (5, .inl (l5))] [] h (some (.inl res.1)) res.2) (n : Nat) : ∀ (l1 : Int) (l2 : Int) (l3 : Int) (l4 : Int) (l5 : Int) (l6 : Int) (l7 : Int) (l8 : Int) (h : JM) (res : (Int × JM)), F12_analysis_47 k21 n l1 l2 l3 l4 l5 l6 l7 l8 h = some res → Ev j_W1 1 0 0 T12_analysis 47 [(0, .inr (.inr (some (12, 0)))), (1, .inl (l1)), (2, .inl (l2)), (3, .inl (l3)), (4, .inl (l4)), (5, .inl (l5)), (6, .inl (l6)), (7, .inl (l7)), (8, .inl (l8))] [] h (some (.inl res.1)) res.2 := by
  induction n with
  | zero =>
    intro l1 l2 l3 l4 l5 l6 l7 l8 h res H
    cases H
  | succ n ih =>
    intro l1 l2 l3 l4 l5 l6 l7 l8 h res H
    exact E12_analysis_47b k21 hk21 (F12_analysis_47 k21 n) ih l1 l2 l3 l4 l5 l6 l7 l8 h res H
set_option maxRecDepth 100000 in
set_option maxHeartbeats 4000000 in
theorem E12_analysis_21b (k21 : Int → Int → Int → Int → Int → JM → Option (Int × JM)) (hk21 : ∀ (l1 : Int) (l2 : Int) (l3 : Int) (l4 : Int) (l5 : Int) (h : JM) (res : (Int × JM)), k21 l1 l2 l3 l4 l5 h = some res → Ev j_W1 1 0 0 T12_analysis 21 [(0, .inr (.inr (some (12, 0)))), (1, .inl (l1)), (2, .inl (l2)), (3, .inl (l3)), (4, .inl (l4)), (5, .inl (l5))] [] h (some (.inl res.1)) res.2) (l1 : Int) (l2 : Int) (l3 : Int) (l4 : Int) (l5 : Int) (h : JM) (res : (Int × JM)) (H : F12_analysis_21b k21 l1 l2 l3 l4 l5 h = some res) : Ev j_W1 1 0 0 T12_analysis 21 [(0, .inr (.inr (some (12, 0)))), (1, .inl (l1)), (2, .inl (l2)), (3, .inl (l3)), (4, .inl (l4)), (5, .inl (l5))] [] h (some (.inl res.1)) res.2 := by
  unfold F12_analysis_21b at H
  refine ev_iload 5 dX12_analysis_21 (k := ?_)
  refine ev_aload_n 0 dX12_analysis_23 (k := ?_)
  refine ev_getR (t := 105) (x := some (105, 0)) fl_X12_13 dX12_analysis_24 (hx := ry_12_5 _ _) (K := ?_)
  refine ev_iload_n 2 dX12_analysis_27 (k := ?_)
  obtain ⟨⟨hi0, hi1⟩, H1⟩ := g_e H
  clear H
  refine ev_iaload (k := 105) hi0 hi1 dX12_analysis_28 (hc := ac_105) (hlen := ln_105 _ _) (K := ?_)
  refine ev_icmpge 164 dX12_analysis_29 (kt := fun hc => ?_) (kf := fun hc => ?_)
  · replace H1 := if_pe hc H1
    refine ev_iload 4 dX12_analysis_164 (k := ?_)
    refine ev_bipush dX12_analysis_166 (k := ?_)
    refine ev_icmpne 174 dX12_analysis_168 (kt := fun hc => ?_) (kf := fun hc => ?_)
    · replace H1 := if_ne hc H1
      refine ev_aload_n 0 dX12_analysis_174 (k := ?_)
      refine ev_getR (t := 108) (x := some (108, 0)) fl_X12_22 dX12_analysis_175 (hx := ry_12_8 _ _) (K := ?_)
      refine ev_iload 4 dX12_analysis_178 (k := ?_)
      obtain ⟨⟨hi0, hi1⟩, H2⟩ := g_e H1
      clear H1
      refine ev_iaload (k := 108) hi0 hi1 dX12_analysis_180 (hc := ac_108) (hlen := ln_108 _ _) (K := ?_)
      refine ev_iload_n 3 dX12_analysis_181 (k := ?_)
      refine ev_icmple 189 dX12_analysis_182 (kt := fun hc => ?_) (kf := fun hc => ?_)
      · replace H2 := if_pe hc H2
        refine ev_aload_n 0 dX12_analysis_189 (k := ?_)
        refine ev_getR (t := 108) (x := some (108, 0)) fl_X12_22 dX12_analysis_190 (hx := ry_12_8 _ _) (K := ?_)
        refine ev_iload 4 dX12_analysis_193 (k := ?_)
        obtain ⟨⟨hi0, hi1⟩, H3⟩ := g_e H2
        clear H2
        refine ev_iaload (k := 108) hi0 hi1 dX12_analysis_195 (hc := ac_108) (hlen := ln_108 _ _) (K := ?_)
        refine ev_iload_n 3 dX12_analysis_196 (k := ?_)
        refine ev_icmpge 205 dX12_analysis_197 (kt := fun hc => ?_) (kf := fun hc => ?_)
        · replace H3 := if_pe hc H3
          refine ev_iload 4 dX12_analysis_205 (k := ?_)
          cases H3
          exact ev_ireturn dX12_analysis_207
        · replace H3 := if_ne hc H3
          refine ev_bipush dX12_analysis_200 (k := ?_)
          refine ev_goto 207 dX12_analysis_202 (k := ?_)
          cases H3
          exact ev_ireturn dX12_analysis_207
      · replace H2 := if_ne hc H2
        refine ev_iconst dX12_analysis_185 (k := ?_)
        refine ev_goto 207 dX12_analysis_186 (k := ?_)
        cases H2
        exact ev_ireturn dX12_analysis_207
    · replace H1 := if_pe hc H1
      refine ev_bipush dX12_analysis_171 (k := ?_)
      cases H1
      exact ev_ireturn dX12_analysis_173
  · replace H1 := if_ne hc H1
    refine ev_bipush dX12_analysis_32 (k := ?_)
    refine ev_iload_n 2 dX12_analysis_34 (k := ?_)
    refine ev_imul dX12_analysis_35 (k := ?_)
    refine ev_iload 5 dX12_analysis_36 (k := ?_)
    refine ev_iadd dX12_analysis_38 (k := ?_)
    obtain ⟨x2, ex2, H2⟩ := lt_e H1
    clear H1
    refine ev_topI ex2 ?_
    refine ev_istore [(6, .inl (x2)), (0, .inr (.inr (some (12, 0)))), (1, .inl (l1)), (2, .inl (l2)), (3, .inl (l3)), (4, .inl (l4)), (5, .inl (l5))] dX12_analysis_39 (k := ?_)
    refine ev_iconst dX12_analysis_41 (k := ?_)
    refine ev_istore [(7, .inl (1)), (6, .inl (x2)), (0, .inr (.inr (some (12, 0)))), (1, .inl (l1)), (2, .inl (l2)), (3, .inl (l3)), (4, .inl (l4)), (5, .inl (l5))] dX12_analysis_42 (k := ?_)
    refine ev_iconst dX12_analysis_44 (k := ?_)
    refine ev_istore [(8, .inl (0)), (7, .inl (1)), (6, .inl (x2)), (0, .inr (.inr (some (12, 0)))), (1, .inl (l1)), (2, .inl (l2)), (3, .inl (l3)), (4, .inl (l4)), (5, .inl (l5))] dX12_analysis_45 (k := ?_)
    refine ev_lv [3, 4, 5, 6, 7, 8, 2, 1, 0] [(0, .inr (.inr (some (12, 0)))), (1, .inl (l1)), (2, .inl (l2)), (3, .inl (l3)), (4, .inl (l4)), (5, .inl (l5)), (6, .inl (x2)), (7, .inl (1)), (8, .inl (0))] (k := ?_)
    exact E12_analysis_47 k21 hk21 j_fu l1 l2 l3 l4 l5 x2 1 0 h _ H2
theorem E12_analysis_21 (n : Nat) : ∀ (l1 : Int) (l2 : Int) (l3 : Int) (l4 : Int) (l5 : Int) (h : JM) (res : (Int × JM)), F12_analysis_21 n l1 l2 l3 l4 l5 h = some res → Ev j_W1 1 0 0 T12_analysis 21 [(0, .inr (.inr (some (12, 0)))), (1, .inl (l1)), (2, .inl (l2)), (3, .inl (l3)), (4, .inl (l4)), (5, .inl (l5))] [] h (some (.inl res.1)) res.2 := by
  induction n with
  | zero =>
    intro l1 l2 l3 l4 l5 h res H
    cases H
  | succ n ih =>
    intro l1 l2 l3 l4 l5 h res H
    exact E12_analysis_21b (F12_analysis_21 n) ih l1 l2 l3 l4 l5 h res H
set_option maxRecDepth 100000 in
set_option maxHeartbeats 4000000 in
theorem C12_analysis {l1 : Int} {h : JM} {res : (Int × JM)} (H : F12_analysis l1 h = some res) : Cn j_W1 1 0 0 yX12_analysis cX12_analysis 9 (some .int) [.inr (.inr (some (12, 0))), .inl (l1)] h (some (.inl res.1)) res.2 := by
  refine Cn.by (own := RX12) (b := false) [(0, .inr (.inr (some (12, 0)))), (1, .inl (l1))] rfl (fun z => by cases z) (by decide +kernel) (K := ?_)
  unfold F12_analysis at H
  refine ev_aload_n 0 dX12_analysis_0 (k := ?_)
  refine ev_getR (t := 135) (x := some (135, 0)) fl_X12_101 dX12_analysis_1 (hx := ry_12_35 _ _) (K := ?_)
  refine ev_iload_n 1 dX12_analysis_4 (k := ?_)
  obtain ⟨⟨hi0, hi1⟩, H1⟩ := g_e H
  clear H
  refine ev_iaload (k := 135) hi0 hi1 dX12_analysis_5 (hc := ac_135) (hlen := ln_135 _ _) (K := ?_)
  obtain ⟨x3, ex3, H2⟩ := lt_e H1
  clear H1
  refine ev_topI ex3 ?_
  refine ev_istore_n [(2, .inl (x3)), (0, .inr (.inr (some (12, 0)))), (1, .inl (l1))] dX12_analysis_6 (k := ?_)
  refine ev_aload_n 1 dX12_analysis_7 (k := ?_)
  refine ev_getR (t := 140) (x := some (140, 0)) fl_X12_116 dX12_analysis_8 (hx := ry_12_40 _ _) (K := ?_)
  refine ev_iload_n 2 dX12_analysis_11 (k := ?_)
  obtain ⟨⟨hi0, hi1⟩, H3⟩ := g_e H2
  clear H2
  refine ev_iaload (k := 140) hi0 hi1 dX12_analysis_12 (hc := ac_140) (hlen := ln_140 _ _) (K := ?_)
  obtain ⟨x4, ex4, H4⟩ := lt_e H3
  clear H3
  refine ev_topI ex4 ?_
  refine ev_istore_n [(3, .inl (x4)), (2, .inl (x3)), (0, .inr (.inr (some (12, 0)))), (1, .inl (l1))] dX12_analysis_13 (k := ?_)
  refine ev_bipush dX12_analysis_14 (k := ?_)
  refine ev_istore [(4, .inl ((-2))), (3, .inl (x4)), (2, .inl (x3)), (0, .inr (.inr (some (12, 0)))), (1, .inl (l1))] dX12_analysis_16 (k := ?_)
  refine ev_iconst dX12_analysis_18 (k := ?_)
  refine ev_istore [(5, .inl (0)), (4, .inl ((-2))), (3, .inl (x4)), (2, .inl (x3)), (0, .inr (.inr (some (12, 0)))), (1, .inl (l1))] dX12_analysis_19 (k := ?_)
  refine ev_lv [4, 5, 3, 2, 1, 0] [(0, .inr (.inr (some (12, 0)))), (1, .inl (l1)), (2, .inl (x3)), (3, .inl (x4)), (4, .inl ((-2))), (5, .inl (0))] (k := ?_)
  exact E12_analysis_21 j_fu l1 x3 x4 (-2) 0 h _ H4
-- X12_becomes
abbrev T12_becomes : JT := (RX12, cX12_becomes, 3, none, false)
set_option maxRecDepth 100000 in
set_option maxHeartbeats 4000000 in
theorem C12_becomes {l1 : Int} {l2 : Int} {h : JM} {res : JM} (H : F12_becomes l1 l2 h = some res) : Cn j_W1 1 0 0 yX12_becomes cX12_becomes 3 none [.inr (.inr (some (12, 0))), .inl (l1), .inl (l2)] h none res := by
  refine Cn.by (own := RX12) (b := false) [(0, .inr (.inr (some (12, 0)))), (1, .inl (l1)), (2, .inl (l2))] rfl (fun z => by cases z) (by decide +kernel) (K := ?_)
  unfold F12_becomes at H
  refine ev_aload_n 0 dX12_becomes_0 (k := ?_)
  refine ev_getR (t := 133) (x := some (133, 0)) fl_X12_95 dX12_becomes_1 (hx := ry_12_33 _ _) (K := ?_)
  refine ev_iload_n 1 dX12_becomes_4 (k := ?_)
  refine ev_iload_n 2 dX12_becomes_5 (k := ?_)
  obtain ⟨⟨hi0, hi1⟩, H1⟩ := g_e H
  clear H
  obtain ⟨h1, eh1, H2⟩ := lt_e H1
  clear H1
  refine ev_iastore (k := 133) j_ok1 hi0 hi1 eh1 dX12_becomes_6 (hc := ac_133) (hlen := ln_133 _ _) (K := ?_)
  refine ev_aload_n 0 dX12_becomes_7 (k := ?_)
  refine ev_getR (t := 145) (x := some (145, 0)) fl_X12_131 dX12_becomes_8 (hx := ry_12_45 _ _) (K := ?_)
  refine ev_iload_n 1 dX12_becomes_11 (k := ?_)
  refine ev_aload_n 0 dX12_becomes_12 (k := ?_)
  refine ev_getI (x := h1.1 12 0 2) fl_X12_285 dX12_becomes_13 (K := ?_)
  obtain ⟨⟨hi0, hi1⟩, H3⟩ := g_e H2
  clear H2
  obtain ⟨h2, eh2, H4⟩ := lt_e H3
  clear H3
  refine ev_iastore (k := 145) j_ok1 hi0 hi1 eh2 dX12_becomes_16 (hc := ac_145) (hlen := ln_145 _ _) (K := ?_)
  cases H4
  exact ev_return dX12_becomes_17
-- X12_isLineSide
abbrev T12_isLineSide : JT := (RX12, cX12_isLineSide, 1, some .boolean, false)
set_option maxRecDepth 100000 in
set_option maxHeartbeats 4000000 in
theorem E12_isLineSide_14 (h : JM) (res : (Int × JM)) (H : F12_isLineSide_14 h = some res) : Ev j_W1 1 0 0 T12_isLineSide 14 [] [] h (some (.inl res.1)) res.2 := by
  unfold F12_isLineSide_14 at H
  refine ev_iconst dX12_isLineSide_14 (k := ?_)
  cases H
  exact ev_zreturn (Or.inl rfl) dX12_isLineSide_15
set_option maxRecDepth 100000 in
set_option maxHeartbeats 4000000 in
theorem C12_isLineSide {l0 : Int} {h : JM} {res : (Int × JM)} (H : F12_isLineSide l0 h = some res) : Cn j_W1 1 0 0 yX12_isLineSide cX12_isLineSide 1 (some .boolean) [.inl (l0)] h (some (.inl res.1)) res.2 := by
  refine Cn.by (own := RX12) (b := false) [(0, .inl (l0))] rfl (fun z => by cases z) (by decide +kernel) (K := ?_)
  unfold F12_isLineSide at H
  refine ev_iload_n 0 dX12_isLineSide_0 (k := ?_)
  refine ev_iflt 14 dX12_isLineSide_1 (kt := fun hc => ?_) (kf := fun hc => ?_)
  · replace H := if_pe hc H
    refine ev_lv [] [] (k := ?_)
    exact E12_isLineSide_14 h _ H
  · replace H := if_ne hc H
    refine ev_iload_n 0 dX12_isLineSide_4 (k := ?_)
    refine ev_bipush dX12_isLineSide_5 (k := ?_)
    refine ev_icmpge 14 dX12_isLineSide_7 (kt := fun hc => ?_) (kf := fun hc => ?_)
    · replace H := if_pe hc H
      refine ev_lv [] [] (k := ?_)
      exact E12_isLineSide_14 h _ H
    · replace H := if_ne hc H
      refine ev_iconst dX12_isLineSide_10 (k := ?_)
      refine ev_goto 15 dX12_isLineSide_11 (k := ?_)
      cases H
      exact ev_zreturn (Or.inr rfl) dX12_isLineSide_15
-- X12_leaves
abbrev T12_leaves : JT := (RX12, cX12_leaves, 5, none, false)
set_option maxRecDepth 100000 in
set_option maxHeartbeats 4000000 in
theorem E12_leaves_78 (k25 : Int → Int → Int → Int → JM → Option JM) (hk25 : ∀ (l1 : Int) (l2 : Int) (l3 : Int) (l4 : Int) (h : JM) (res : JM), k25 l1 l2 l3 l4 h = some res → Ev j_W1 1 0 0 T12_leaves 25 [(0, .inr (.inr (some (12, 0)))), (1, .inl (l1)), (2, .inl (l2)), (3, .inl (l3)), (4, .inl (l4))] [] h none res) (l1 : Int) (l2 : Int) (l3 : Int) (l4 : Int) (h : JM) (res : JM) (H : F12_leaves_78 k25 l1 l2 l3 l4 h = some res) : Ev j_W1 1 0 0 T12_leaves 78 [(0, .inr (.inr (some (12, 0)))), (1, .inl (l1)), (2, .inl (l2)), (3, .inl (l3)), (4, .inl (l4))] [] h none res := by
  unfold F12_leaves_78 at H
  refine ev_iinc 4 [(4, .inl (w32 (l4 + 1))), (0, .inr (.inr (some (12, 0)))), (1, .inl (l1)), (2, .inl (l2)), (3, .inl (l3))] dX12_leaves_78 (k := ?_)
  refine ev_goto 25 dX12_leaves_81 (k := ?_)
  refine ev_lv [1, 2, 3, 4, 0] [(0, .inr (.inr (some (12, 0)))), (1, .inl (l1)), (2, .inl (l2)), (3, .inl (l3)), (4, .inl (w32 (l4 + 1)))] (k := ?_)
  exact hk25 l1 l2 l3 (w32 (l4 + 1)) h _ H
set_option maxRecDepth 100000 in
set_option maxHeartbeats 4000000 in
theorem E12_leaves_25b (k25 : Int → Int → Int → Int → JM → Option JM) (hk25 : ∀ (l1 : Int) (l2 : Int) (l3 : Int) (l4 : Int) (h : JM) (res : JM), k25 l1 l2 l3 l4 h = some res → Ev j_W1 1 0 0 T12_leaves 25 [(0, .inr (.inr (some (12, 0)))), (1, .inl (l1)), (2, .inl (l2)), (3, .inl (l3)), (4, .inl (l4))] [] h none res) (l1 : Int) (l2 : Int) (l3 : Int) (l4 : Int) (h : JM) (res : JM) (H : F12_leaves_25b k25 l1 l2 l3 l4 h = some res) : Ev j_W1 1 0 0 T12_leaves 25 [(0, .inr (.inr (some (12, 0)))), (1, .inl (l1)), (2, .inl (l2)), (3, .inl (l3)), (4, .inl (l4))] [] h none res := by
  unfold F12_leaves_25b at H
  refine ev_iload 4 dX12_leaves_25 (k := ?_)
  refine ev_aload_n 0 dX12_leaves_27 (k := ?_)
  refine ev_getR (t := 153) (x := some (153, 0)) fl_X12_155 dX12_leaves_28 (hx := ry_12_53 _ _) (K := ?_)
  refine ev_iload_n 2 dX12_leaves_31 (k := ?_)
  obtain ⟨⟨hi0, hi1⟩, H1⟩ := g_e H
  clear H
  refine ev_iaload (k := 153) hi0 hi1 dX12_leaves_32 (hc := ac_153) (hlen := ln_153 _ _) (K := ?_)
  refine ev_icmpge 84 dX12_leaves_33 (kt := fun hc => ?_) (kf := fun hc => ?_)
  · replace H1 := if_pe hc H1
    refine ev_aload_n 0 dX12_leaves_84 (k := ?_)
    refine ev_getR (t := 153) (x := some (153, 0)) fl_X12_155 dX12_leaves_85 (hx := ry_12_53 _ _) (K := ?_)
    refine ev_iload_n 2 dX12_leaves_88 (k := ?_)
    refine ev_iload_n 3 dX12_leaves_89 (k := ?_)
    obtain ⟨⟨hi0, hi1⟩, H2⟩ := g_e H1
    clear H1
    obtain ⟨h1, eh1, H3⟩ := lt_e H2
    clear H2
    refine ev_iastore (k := 153) j_ok1 hi0 hi1 eh1 dX12_leaves_90 (hc := ac_153) (hlen := ln_153 _ _) (K := ?_)
    cases H3
    exact ev_return dX12_leaves_91
  · replace H1 := if_ne hc H1
    refine ev_aload_n 0 dX12_leaves_36 (k := ?_)
    refine ev_getR (t := 152) (x := some (152, 0)) fl_X12_152 dX12_leaves_37 (hx := ry_12_52 _ _) (K := ?_)
    refine ev_bipush dX12_leaves_40 (k := ?_)
    refine ev_iload_n 2 dX12_leaves_42 (k := ?_)
    refine ev_imul dX12_leaves_43 (k := ?_)
    refine ev_iload 4 dX12_leaves_44 (k := ?_)
    refine ev_iadd dX12_leaves_46 (k := ?_)
    obtain ⟨⟨hi0, hi1⟩, H2⟩ := g_e H1
    clear H1
    refine ev_iaload (k := 152) hi0 hi1 dX12_leaves_47 (hc := ac_152) (hlen := ln_152 _ _) (K := ?_)
    refine ev_iload_n 1 dX12_leaves_48 (k := ?_)
    refine ev_icmpeq 78 dX12_leaves_49 (kt := fun hc => ?_) (kf := fun hc => ?_)
    · replace H2 := if_pe hc H2
      exact E12_leaves_78 k25 hk25 l1 l2 l3 l4 h _ H2
    · replace H2 := if_ne hc H2
      refine ev_aload_n 0 dX12_leaves_52 (k := ?_)
      refine ev_getR (t := 152) (x := some (152, 0)) fl_X12_152 dX12_leaves_53 (hx := ry_12_52 _ _) (K := ?_)
      refine ev_bipush dX12_leaves_56 (k := ?_)
      refine ev_iload_n 2 dX12_leaves_58 (k := ?_)
      refine ev_imul dX12_leaves_59 (k := ?_)
      refine ev_iload_n 3 dX12_leaves_60 (k := ?_)
      refine ev_iinc 3 [(3, .inl (w32 (l3 + 1))), (0, .inr (.inr (some (12, 0)))), (1, .inl (l1)), (2, .inl (l2)), (4, .inl (l4))] dX12_leaves_61 (k := ?_)
      refine ev_iadd dX12_leaves_64 (k := ?_)
      refine ev_aload_n 1 dX12_leaves_65 (k := ?_)
      refine ev_getR (t := 152) (x := some (152, 0)) fl_X12_152 dX12_leaves_66 (hx := ry_12_52 _ _) (K := ?_)
      refine ev_bipush dX12_leaves_69 (k := ?_)
      refine ev_iload_n 3 dX12_leaves_71 (k := ?_)
      refine ev_imul dX12_leaves_72 (k := ?_)
      refine ev_iload 4 dX12_leaves_73 (k := ?_)
      refine ev_iadd dX12_leaves_75 (k := ?_)
      obtain ⟨⟨hi0, hi1⟩, H3⟩ := g_e H2
      clear H2
      refine ev_iaload (k := 152) hi0 hi1 dX12_leaves_76 (hc := ac_152) (hlen := ln_152 _ _) (K := ?_)
      obtain ⟨⟨hi0, hi1⟩, H4⟩ := g_e H3
      clear H3
      obtain ⟨h2, eh2, H5⟩ := lt_e H4
      clear H4
      refine ev_iastore (k := 152) j_ok1 hi0 hi1 eh2 dX12_leaves_77 (hc := ac_152) (hlen := ln_152 _ _) (K := ?_)
      refine ev_lv [1, 2, 3, 0, 4] [(0, .inr (.inr (some (12, 0)))), (1, .inl (l1)), (2, .inl (l2)), (3, .inl (w32 (l3 + 1))), (4, .inl (l4))] (k := ?_)
      exact E12_leaves_78 k25 hk25 l1 l2 (w32 (l3 + 1)) l4 h2 _ H5
theorem E12_leaves_25 (n : Nat) : ∀ (l1 : Int) (l2 : Int) (l3 : Int) (l4 : Int) (h : JM) (res : JM), F12_leaves_25 n l1 l2 l3 l4 h = some res → Ev j_W1 1 0 0 T12_leaves 25 [(0, .inr (.inr (some (12, 0)))), (1, .inl (l1)), (2, .inl (l2)), (3, .inl (l3)), (4, .inl (l4))] [] h none res := by
  induction n with
  | zero =>
    intro l1 l2 l3 l4 h res H
    cases H
  | succ n ih =>
    intro l1 l2 l3 l4 h res H
    exact E12_leaves_25b (F12_leaves_25 n) ih l1 l2 l3 l4 h res H
set_option maxRecDepth 100000 in
set_option maxHeartbeats 4000000 in
theorem C12_leaves {l1 : Int} {h : JM} {res : JM} (H : F12_leaves l1 h = some res) : Cn j_W1 1 0 0 yX12_leaves cX12_leaves 5 none [.inr (.inr (some (12, 0))), .inl (l1)] h none res := by
  refine Cn.by (own := RX12) (b := false) [(0, .inr (.inr (some (12, 0)))), (1, .inl (l1))] rfl (fun z => by cases z) (by decide +kernel) (K := ?_)
  unfold F12_leaves at H
  refine ev_iconst dX12_leaves_0 (k := ?_)
  refine ev_aload_n 0 dX12_leaves_1 (k := ?_)
  refine ev_getR (t := 135) (x := some (135, 0)) fl_X12_101 dX12_leaves_2 (hx := ry_12_35 _ _) (K := ?_)
  refine ev_iload_n 1 dX12_leaves_5 (k := ?_)
  obtain ⟨⟨hi0, hi1⟩, H1⟩ := g_e H
  clear H
  refine ev_iaload (k := 135) hi0 hi1 dX12_leaves_6 (hc := ac_135) (hlen := ln_135 _ _) (K := ?_)
  refine ev_imul dX12_leaves_7 (k := ?_)
  refine ev_aload_n 0 dX12_leaves_8 (k := ?_)
  refine ev_getR (t := 137) (x := some (137, 0)) fl_X12_107 dX12_leaves_9 (hx := ry_12_37 _ _) (K := ?_)
  refine ev_iload_n 1 dX12_leaves_12 (k := ?_)
  obtain ⟨⟨hi0, hi1⟩, H2⟩ := g_e H1
  clear H1
  refine ev_iaload (k := 137) hi0 hi1 dX12_leaves_13 (hc := ac_137) (hlen := ln_137 _ _) (K := ?_)
  refine ev_iadd dX12_leaves_14 (k := ?_)
  refine ev_sipush dX12_leaves_15 (k := ?_)
  refine ev_isub dX12_leaves_18 (k := ?_)
  obtain ⟨x3, ex3, H3⟩ := lt_e H2
  clear H2
  refine ev_topI ex3 ?_
  refine ev_istore_n [(2, .inl (x3)), (0, .inr (.inr (some (12, 0)))), (1, .inl (l1))] dX12_leaves_19 (k := ?_)
  refine ev_iconst dX12_leaves_20 (k := ?_)
  refine ev_istore_n [(3, .inl (0)), (2, .inl (x3)), (0, .inr (.inr (some (12, 0)))), (1, .inl (l1))] dX12_leaves_21 (k := ?_)
  refine ev_iconst dX12_leaves_22 (k := ?_)
  refine ev_istore [(4, .inl (0)), (3, .inl (0)), (2, .inl (x3)), (0, .inr (.inr (some (12, 0)))), (1, .inl (l1))] dX12_leaves_23 (k := ?_)
  refine ev_lv [3, 4, 2, 1, 0] [(0, .inr (.inr (some (12, 0)))), (1, .inl (l1)), (2, .inl (x3)), (3, .inl (0)), (4, .inl (0))] (k := ?_)
  exact E12_leaves_25 j_fu l1 x3 0 0 h _ H3
-- X12_records
abbrev T12_records : JT := (RX12, cX12_records, 3, none, false)
set_option maxRecDepth 100000 in
set_option maxHeartbeats 4000000 in
theorem C12_records {l1 : Int} {h : JM} {res : JM} (H : F12_records l1 h = some res) : Cn j_W1 1 0 0 yX12_records cX12_records 3 none [.inr (.inr (some (12, 0))), .inl (l1)] h none res := by
  refine Cn.by (own := RX12) (b := false) [(0, .inr (.inr (some (12, 0)))), (1, .inl (l1))] rfl (fun z => by cases z) (by decide +kernel) (K := ?_)
  unfold F12_records at H
  refine ev_iconst dX12_records_0 (k := ?_)
  refine ev_aload_n 0 dX12_records_1 (k := ?_)
  refine ev_getI (x := h.1 12 0 90) fl_X12_486 dX12_records_2 (K := ?_)
  refine ev_sipush dX12_records_5 (k := ?_)
  refine ev_irem dX12_records_8 (by decide) (k := ?_)
  refine ev_imul dX12_records_9 (k := ?_)
  obtain ⟨x1, ex1, H1⟩ := lt_e H
  clear H
  refine ev_topI ex1 ?_
  refine ev_istore_n [(2, .inl (x1)), (0, .inr (.inr (some (12, 0)))), (1, .inl (l1))] dX12_records_10 (k := ?_)
  refine ev_aload_n 1 dX12_records_11 (k := ?_)
  refine ev_getR (t := 191) (x := some (191, 0)) fl_X12_252 dX12_records_12 (hx := ry_12_91 _ _) (K := ?_)
  refine ev_iload_n 0 dX12_records_15 (k := ?_)
  refine ev_aload_n 1 dX12_records_16 (k := ?_)
  refine ev_getR (t := 136) (x := some (136, 0)) fl_X12_104 dX12_records_17 (hx := ry_12_36 _ _) (K := ?_)
  refine ev_iload_n 2 dX12_records_20 (k := ?_)
  obtain ⟨⟨hi0, hi1⟩, H2⟩ := g_e H1
  clear H1
  refine ev_iaload (k := 136) hi0 hi1 dX12_records_21 (hc := ac_136) (hlen := ln_136 _ _) (K := ?_)
  obtain ⟨⟨hi0, hi1⟩, H3⟩ := g_e H2
  clear H2
  obtain ⟨h2, eh2, H4⟩ := lt_e H3
  clear H3
  refine ev_iastore (k := 191) j_ok1 hi0 hi1 eh2 dX12_records_22 (hc := ac_191) (hlen := ln_191 _ _) (K := ?_)
  refine ev_aload_n 1 dX12_records_23 (k := ?_)
  refine ev_getR (t := 191) (x := some (191, 0)) fl_X12_252 dX12_records_24 (hx := ry_12_91 _ _) (K := ?_)
  refine ev_iload_n 0 dX12_records_27 (k := ?_)
  refine ev_iconst dX12_records_28 (k := ?_)
  refine ev_iadd dX12_records_29 (k := ?_)
  refine ev_aload_n 1 dX12_records_30 (k := ?_)
  refine ev_getR (t := 143) (x := some (143, 0)) fl_X12_125 dX12_records_31 (hx := ry_12_43 _ _) (K := ?_)
  refine ev_iload_n 2 dX12_records_34 (k := ?_)
  obtain ⟨⟨hi0, hi1⟩, H5⟩ := g_e H4
  clear H4
  refine ev_iaload (k := 143) hi0 hi1 dX12_records_35 (hc := ac_143) (hlen := ln_143 _ _) (K := ?_)
  obtain ⟨⟨hi0, hi1⟩, H6⟩ := g_e H5
  clear H5
  obtain ⟨h3, eh3, H7⟩ := lt_e H6
  clear H6
  refine ev_iastore (k := 191) j_ok1 hi0 hi1 eh3 dX12_records_36 (hc := ac_191) (hlen := ln_191 _ _) (K := ?_)
  refine ev_aload_n 1 dX12_records_37 (k := ?_)
  refine ev_getR (t := 191) (x := some (191, 0)) fl_X12_252 dX12_records_38 (hx := ry_12_91 _ _) (K := ?_)
  refine ev_iload_n 0 dX12_records_41 (k := ?_)
  refine ev_iconst dX12_records_42 (k := ?_)
  refine ev_iadd dX12_records_43 (k := ?_)
  refine ev_aload_n 1 dX12_records_44 (k := ?_)
  refine ev_getR (t := 146) (x := some (146, 0)) fl_X12_134 dX12_records_45 (hx := ry_12_46 _ _) (K := ?_)
  refine ev_iload_n 2 dX12_records_48 (k := ?_)
  obtain ⟨⟨hi0, hi1⟩, H8⟩ := g_e H7
  clear H7
  refine ev_iaload (k := 146) hi0 hi1 dX12_records_49 (hc := ac_146) (hlen := ln_146 _ _) (K := ?_)
  obtain ⟨⟨hi0, hi1⟩, H9⟩ := g_e H8
  clear H8
  obtain ⟨h4, eh4, H10⟩ := lt_e H9
  clear H9
  refine ev_iastore (k := 191) j_ok1 hi0 hi1 eh4 dX12_records_50 (hc := ac_191) (hlen := ln_191 _ _) (K := ?_)
  refine ev_aload_n 1 dX12_records_51 (k := ?_)
  refine ev_getR (t := 191) (x := some (191, 0)) fl_X12_252 dX12_records_52 (hx := ry_12_91 _ _) (K := ?_)
  refine ev_iload_n 0 dX12_records_55 (k := ?_)
  refine ev_iconst dX12_records_56 (k := ?_)
  refine ev_iadd dX12_records_57 (k := ?_)
  refine ev_aload_n 1 dX12_records_58 (k := ?_)
  refine ev_getI (x := h4.1 12 0 2) fl_X12_285 dX12_records_59 (K := ?_)
  obtain ⟨⟨hi0, hi1⟩, H11⟩ := g_e H10
  clear H10
  obtain ⟨h5, eh5, H12⟩ := lt_e H11
  clear H11
  refine ev_iastore (k := 191) j_ok1 hi0 hi1 eh5 dX12_records_62 (hc := ac_191) (hlen := ln_191 _ _) (K := ?_)
  refine ev_aload_n 1 dX12_records_63 (k := ?_)
  refine ev_getR (t := 191) (x := some (191, 0)) fl_X12_252 dX12_records_64 (hx := ry_12_91 _ _) (K := ?_)
  refine ev_iload_n 0 dX12_records_67 (k := ?_)
  refine ev_iconst dX12_records_68 (k := ?_)
  refine ev_iadd dX12_records_69 (k := ?_)
  refine ev_aload_n 1 dX12_records_70 (k := ?_)
  refine ev_getR (t := 147) (x := some (147, 0)) fl_X12_137 dX12_records_71 (hx := ry_12_47 _ _) (K := ?_)
  refine ev_iload_n 2 dX12_records_74 (k := ?_)
  obtain ⟨⟨hi0, hi1⟩, H13⟩ := g_e H12
  clear H12
  refine ev_iaload (k := 147) hi0 hi1 dX12_records_75 (hc := ac_147) (hlen := ln_147 _ _) (K := ?_)
  obtain ⟨⟨hi0, hi1⟩, H14⟩ := g_e H13
  clear H13
  obtain ⟨h6, eh6, H15⟩ := lt_e H14
  clear H14
  refine ev_iastore (k := 191) j_ok1 hi0 hi1 eh6 dX12_records_76 (hc := ac_191) (hlen := ln_191 _ _) (K := ?_)
  refine ev_aload_n 1 dX12_records_77 (k := ?_)
  refine ev_dup dX12_records_78 (k := ?_)
  refine ev_getI (x := h6.1 12 0 90) fl_X12_486 dX12_records_79 (K := ?_)
  refine ev_iconst dX12_records_82 (k := ?_)
  refine ev_iadd dX12_records_83 (k := ?_)
  obtain ⟨h7, eh7, H16⟩ := lt_e H15
  clear H15
  refine ev_putI j_ok1 fl_X12_486 eh7 dX12_records_84 (K := ?_)
  cases H16
  exact ev_return dX12_records_87
-- X12_unring
abbrev T12_unring : JT := (RX12, cX12_unring, 2, none, false)
set_option maxRecDepth 100000 in
set_option maxHeartbeats 4000000 in
theorem C12_unring {l1 : Int} {h : JM} {res : JM} (H : F12_unring l1 h = some res) : Cn j_W1 1 0 0 yX12_unring cX12_unring 2 none [.inr (.inr (some (12, 0))), .inl (l1)] h none res := by
  refine Cn.by (own := RX12) (b := false) [(0, .inr (.inr (some (12, 0)))), (1, .inl (l1))] rfl (fun z => by cases z) (by decide +kernel) (K := ?_)
  unfold F12_unring at H
  refine ev_aload_n 0 dX12_unring_0 (k := ?_)
  refine ev_getR (t := 121) (x := some (121, 0)) fl_X12_62 dX12_unring_1 (hx := ry_12_21 _ _) (K := ?_)
  refine ev_iload_n 1 dX12_unring_4 (k := ?_)
  refine ev_iconst dX12_unring_5 (k := ?_)
  obtain ⟨⟨hi0, hi1⟩, H1⟩ := g_e H
  clear H
  obtain ⟨h1, eh1, H2⟩ := lt_e H1
  clear H1
  refine ev_iastore (k := 121) j_ok1 hi0 hi1 eh1 dX12_unring_6 (hc := ac_121) (hlen := ln_121 _ _) (K := ?_)
  refine ev_aload_n 0 dX12_unring_7 (k := ?_)
  refine ev_getR (t := 112) (x := some (112, 0)) fl_X12_34 dX12_unring_8 (hx := ry_12_12 _ _) (K := ?_)
  refine ev_iload_n 1 dX12_unring_11 (k := ?_)
  obtain ⟨⟨hi0, hi1⟩, H3⟩ := g_e H2
  clear H2
  refine ev_zaload (k := 112) hi0 hi1 dX12_unring_12 (hc := ac_112) (hlen := ln_112 _ _) (K := ?_)
  refine ev_ifne 26 dX12_unring_13 (kt := fun hc => ?_) (kf := fun hc => ?_)
  · replace H3 := if_ne hc H3
    cases H3
    exact ev_return dX12_unring_26
  · replace H3 := if_pe hc H3
    refine ev_aload_n 0 dX12_unring_16 (k := ?_)
    refine ev_getR (t := 125) (x := some (125, 0)) fl_X12_74 dX12_unring_17 (hx := ry_12_25 _ _) (K := ?_)
    refine ev_iload_n 1 dX12_unring_20 (k := ?_)
    refine ev_aload_n 0 dX12_unring_21 (k := ?_)
    refine ev_getI (x := h1.1 12 0 2) fl_X12_285 dX12_unring_22 (K := ?_)
    obtain ⟨⟨hi0, hi1⟩, H4⟩ := g_e H3
    clear H3
    obtain ⟨h2, eh2, H5⟩ := lt_e H4
    clear H4
    refine ev_iastore (k := 125) j_ok1 hi0 hi1 eh2 dX12_unring_25 (hc := ac_125) (hlen := ln_125 _ _) (K := ?_)
    cases H5
    exact ev_return dX12_unring_26
-- X12_tells
abbrev T12_tells : JT := (RX12, cX12_tells, 5, none, false)
set_option maxRecDepth 100000 in
set_option maxHeartbeats 4000000 in
theorem E12_tells_140 (l1 : Int) (l2 : Int) (h : JM) (res : JM) (H : F12_tells_140 l1 l2 h = some res) : Ev j_W1 2 0 0 T12_tells 140 [(0, .inr (.inr (some (12, 0)))), (1, .inl (l1)), (2, .inl (l2))] [] h none res := by
  unfold F12_tells_140 at H
  refine ev_aload_n 0 dX12_tells_140 (k := ?_)
  refine ev_getR (t := 120) (x := some (120, 0)) fl_X12_59 dX12_tells_141 (hx := ry_12_20 _ _) (K := ?_)
  refine ev_iload_n 2 dX12_tells_144 (k := ?_)
  obtain ⟨⟨hi0, hi1⟩, H1⟩ := g_e H
  clear H
  refine ev_iaload (k := 120) hi0 hi1 dX12_tells_145 (hc := ac_120) (hlen := ln_120 _ _) (K := ?_)
  refine ev_iload_n 1 dX12_tells_146 (k := ?_)
  refine ev_icmpne 157 dX12_tells_147 (kt := fun hc => ?_) (kf := fun hc => ?_)
  · replace H1 := if_ne hc H1
    cases H1
    exact ev_return dX12_tells_157
  · replace H1 := if_pe hc H1
    refine ev_aload_n 0 dX12_tells_150 (k := ?_)
    refine ev_getR (t := 120) (x := some (120, 0)) fl_X12_59 dX12_tells_151 (hx := ry_12_20 _ _) (K := ?_)
    refine ev_iload_n 2 dX12_tells_154 (k := ?_)
    refine ev_iconst dX12_tells_155 (k := ?_)
    obtain ⟨⟨hi0, hi1⟩, H2⟩ := g_e H1
    clear H1
    obtain ⟨h1, eh1, H3⟩ := lt_e H2
    clear H2
    refine ev_iastore (k := 120) j_ok1 hi0 hi1 eh1 dX12_tells_156 (hc := ac_120) (hlen := ln_120 _ _) (K := ?_)
    cases H3
    exact ev_return dX12_tells_157
set_option maxRecDepth 100000 in
set_option maxHeartbeats 4000000 in
theorem E12_tells_139 (l1 : Int) (l2 : Int) (s0 : Option Int) (s1 : Int) (s2 : Int) (h : JM) (res : JM) (H : F12_tells_139 l1 l2 s0 s1 s2 h = some res) : Ev j_W1 2 0 0 T12_tells 139 [(0, .inr (.inr (some (12, 0)))), (1, .inl (l1)), (2, .inl (l2))] [.inl (s2), .inl (s1), .inr (.inr (Option.map (Prod.mk 123) (s0)))] h none res := by
  unfold F12_tells_139 at H
  obtain ⟨a2, ea2, H1⟩ := bd_e H
  clear H
  rw [ea2]
  obtain ⟨⟨hi0, hi1⟩, H2⟩ := g_e H1
  clear H1
  obtain ⟨h3, eh3, H3⟩ := lt_e H2
  clear H2
  refine ev_iastore (k := 123) j_ok1 hi0 hi1 eh3 dX12_tells_139 (hc := ac_123) (hlen := ln_123 _ _) (K := ?_)
  exact E12_tells_140 l1 l2 h3 _ H3
set_option maxRecDepth 100000 in
set_option maxHeartbeats 4000000 in
theorem E12_tells_100 (l1 : Int) (l2 : Int) (l3 : Int) (h : JM) (res : JM) (H : F12_tells_100 l1 l2 l3 h = some res) : Ev j_W1 2 0 0 T12_tells 100 [(0, .inr (.inr (some (12, 0)))), (1, .inl (l1)), (2, .inl (l2)), (3, .inl (l3))] [] h none res := by
  unfold F12_tells_100 at H
  refine ev_aload_n 0 dX12_tells_100 (k := ?_)
  refine ev_getR (t := 119) (x := some (119, 0)) fl_X12_56 dX12_tells_101 (hx := ry_12_19 _ _) (K := ?_)
  refine ev_iload_n 2 dX12_tells_104 (k := ?_)
  obtain ⟨⟨hi0, hi1⟩, H1⟩ := g_e H
  clear H
  refine ev_iaload (k := 119) hi0 hi1 dX12_tells_105 (hc := ac_119) (hlen := ln_119 _ _) (K := ?_)
  refine ev_iload_n 1 dX12_tells_106 (k := ?_)
  refine ev_icmpne 140 dX12_tells_107 (kt := fun hc => ?_) (kf := fun hc => ?_)
  · replace H1 := if_ne hc H1
    refine ev_lv [0, 1, 2] [(0, .inr (.inr (some (12, 0)))), (1, .inl (l1)), (2, .inl (l2))] (k := ?_)
    exact E12_tells_140 l1 l2 h _ H1
  · replace H1 := if_pe hc H1
    refine ev_aload_n 0 dX12_tells_110 (k := ?_)
    refine ev_getR (t := 119) (x := some (119, 0)) fl_X12_56 dX12_tells_111 (hx := ry_12_19 _ _) (K := ?_)
    refine ev_iload_n 2 dX12_tells_114 (k := ?_)
    refine ev_iconst dX12_tells_115 (k := ?_)
    obtain ⟨⟨hi0, hi1⟩, H2⟩ := g_e H1
    clear H1
    obtain ⟨h4, eh4, H3⟩ := lt_e H2
    clear H2
    refine ev_iastore (k := 119) j_ok1 hi0 hi1 eh4 dX12_tells_116 (hc := ac_119) (hlen := ln_119 _ _) (K := ?_)
    refine ev_aload_n 0 dX12_tells_117 (k := ?_)
    refine ev_getR (t := 122) (x := some (122, 0)) fl_X12_65 dX12_tells_118 (hx := ry_12_22 _ _) (K := ?_)
    refine ev_iload_n 2 dX12_tells_121 (k := ?_)
    refine ev_iload_n 3 dX12_tells_122 (k := ?_)
    obtain ⟨⟨hi0, hi1⟩, H4⟩ := g_e H3
    clear H3
    obtain ⟨h5, eh5, H5⟩ := lt_e H4
    clear H4
    refine ev_iastore (k := 122) j_ok1 hi0 hi1 eh5 dX12_tells_123 (hc := ac_122) (hlen := ln_122 _ _) (K := ?_)
    refine ev_aload_n 0 dX12_tells_124 (k := ?_)
    refine ev_getR (t := 123) (x := some (123, 0)) fl_X12_68 dX12_tells_125 (hx := ry_12_23 _ _) (K := ?_)
    refine ev_iload_n 2 dX12_tells_128 (k := ?_)
    refine ev_iload_n 3 dX12_tells_129 (k := ?_)
    refine ev_iconst dX12_tells_130 (k := ?_)
    refine ev_icmpne 138 dX12_tells_131 (kt := fun hc => ?_) (kf := fun hc => ?_)
    · replace H5 := if_ne hc H5
      refine ev_iconst dX12_tells_138 (k := ?_)
      refine ev_lv [0, 1, 2] [(0, .inr (.inr (some (12, 0)))), (1, .inl (l1)), (2, .inl (l2))] (k := ?_)
      exact E12_tells_139 l1 l2 (some 0) l2 3 h5 _ H5
    · replace H5 := if_pe hc H5
      refine ev_iconst dX12_tells_134 (k := ?_)
      refine ev_goto 139 dX12_tells_135 (k := ?_)
      refine ev_lv [0, 1, 2] [(0, .inr (.inr (some (12, 0)))), (1, .inl (l1)), (2, .inl (l2))] (k := ?_)
      exact E12_tells_139 l1 l2 (some 0) l2 4 h5 _ H5
set_option maxRecDepth 100000 in
set_option maxHeartbeats 4000000 in
theorem C12_tells {l1 : Int} {l2 : Int} {l3 : Int} {h : JM} {res : JM} (H : F12_tells l1 l2 l3 h = some res) : Cn j_W1 2 0 0 yX12_tells cX12_tells 5 none [.inr (.inr (some (12, 0))), .inl (l1), .inl (l2), .inl (l3)] h none res := by
  refine Cn.by (own := RX12) (b := false) [(0, .inr (.inr (some (12, 0)))), (1, .inl (l1)), (2, .inl (l2)), (3, .inl (l3))] rfl (fun z => by cases z) (by decide +kernel) (K := ?_)
  unfold F12_tells at H
  refine ev_iload_n 2 dX12_tells_0 (k := ?_)
  obtain ⟨q6, hq, H1⟩ := bd_e H
  clear H
  refine ev_callS (mc := 0) (ms := 0) (st := []) (C12_isCircuit hq) md_X12_isCircuit ss_X12_isCircuit ml_X12_379 dX12_tells_1 _ (by decide) (K := ?_)
  refine ev_ifeq 78 dX12_tells_4 (kt := fun hc => ?_) (kf := fun hc => ?_)
  · replace H1 := if_pe hc H1
    refine ev_iload_n 2 dX12_tells_78 (k := ?_)
    obtain ⟨q7, hq, H2⟩ := bd_e H1
    clear H1
    refine ev_callS (mc := 0) (ms := 0) (st := []) (C12_isLineSide hq) md_X12_isLineSide ss_X12_isLineSide ml_X12_349 dX12_tells_79 _ (by decide) (K := ?_)
    refine ev_ifeq 157 dX12_tells_82 (kt := fun hc => ?_) (kf := fun hc => ?_)
    · replace H2 := if_pe hc H2
      cases H2
      exact ev_return dX12_tells_157
    · replace H2 := if_ne hc H2
      refine ev_aload_n 0 dX12_tells_85 (k := ?_)
      refine ev_getR (t := 121) (x := some (121, 0)) fl_X12_62 dX12_tells_86 (hx := ry_12_21 _ _) (K := ?_)
      refine ev_iload_n 2 dX12_tells_89 (k := ?_)
      obtain ⟨⟨hi0, hi1⟩, H3⟩ := g_e H2
      clear H2
      refine ev_iaload (k := 121) hi0 hi1 dX12_tells_90 (hc := ac_121) (hlen := ln_121 _ _) (K := ?_)
      refine ev_iload_n 1 dX12_tells_91 (k := ?_)
      refine ev_icmpne 100 dX12_tells_92 (kt := fun hc => ?_) (kf := fun hc => ?_)
      · replace H3 := if_ne hc H3
        exact E12_tells_100 l1 l2 l3 q7.2 _ H3
      · replace H3 := if_pe hc H3
        refine ev_aload_n 0 dX12_tells_95 (k := ?_)
        refine ev_iload_n 2 dX12_tells_96 (k := ?_)
        obtain ⟨h8, hq, H4⟩ := bd_e H3
        clear H3
        refine ev_callV (mc := 0) (ms := 0) (st := []) (C12_unring hq) md_X12_unring im_X12_unring se_X12_unring ml_X12_396 dX12_tells_97 _ (by decide) (K := ?_)
        exact E12_tells_100 l1 l2 l3 h8 _ H4
  · replace H1 := if_ne hc H1
    refine ev_bipush dX12_tells_7 (k := ?_)
    refine ev_aload_n 0 dX12_tells_9 (k := ?_)
    refine ev_getR (t := 135) (x := some (135, 0)) fl_X12_101 dX12_tells_10 (hx := ry_12_35 _ _) (K := ?_)
    refine ev_iload_n 1 dX12_tells_13 (k := ?_)
    obtain ⟨⟨hi0, hi1⟩, H2⟩ := g_e H1
    clear H1
    refine ev_iaload (k := 135) hi0 hi1 dX12_tells_14 (hc := ac_135) (hlen := ln_135 _ _) (K := ?_)
    refine ev_imul dX12_tells_15 (k := ?_)
    refine ev_iload_n 2 dX12_tells_16 (k := ?_)
    refine ev_iadd dX12_tells_17 (k := ?_)
    refine ev_bipush dX12_tells_18 (k := ?_)
    refine ev_isub dX12_tells_20 (k := ?_)
    obtain ⟨x9, ex9, H3⟩ := lt_e H2
    clear H2
    refine ev_topI ex9 ?_
    refine ev_istore [(4, .inl (x9)), (0, .inr (.inr (some (12, 0)))), (1, .inl (l1)), (2, .inl (l2)), (3, .inl (l3))] dX12_tells_21 (k := ?_)
    refine ev_aload_n 1 dX12_tells_23 (k := ?_)
    refine ev_iload_n 3 dX12_tells_24 (k := ?_)
    refine ev_bipush dX12_tells_25 (k := ?_)
    refine ev_isub dX12_tells_27 (k := ?_)
    refine ev_iconst dX12_tells_28 (k := ?_)
    obtain ⟨h10, hq, H4⟩ := bd_e H3
    clear H3
    refine ev_callV (mc := 0) (ms := 0) (st := []) (C12_begins hq) md_X12_begins im_X12_begins se_X12_begins ml_X12_352 dX12_tells_29 _ (by decide) (K := ?_)
    refine ev_aload_n 1 dX12_tells_32 (k := ?_)
    refine ev_getR (t := 156) (x := some (156, 0)) fl_X12_164 dX12_tells_33 (hx := ry_12_56 _ _) (K := ?_)
    refine ev_aload_n 1 dX12_tells_36 (k := ?_)
    refine ev_dup dX12_tells_37 (k := ?_)
    refine ev_getI (x := h10.1 12 0 57) fl_X12_355 dX12_tells_38 (K := ?_)
    refine ev_dup_x1 dX12_tells_41 (k := ?_)
    refine ev_iconst dX12_tells_42 (k := ?_)
    refine ev_iadd dX12_tells_43 (k := ?_)
    obtain ⟨h11, eh11, H5⟩ := lt_e H4
    clear H4
    refine ev_putI j_ok1 fl_X12_355 eh11 dX12_tells_44 (K := ?_)
    refine ev_iload_n 4 dX12_tells_47 (k := ?_)
    obtain ⟨⟨hi0, hi1⟩, H6⟩ := g_e H5
    clear H5
    obtain ⟨h12, eh12, H7⟩ := lt_e H6
    clear H6
    refine ev_iastore (k := 156) j_ok1 hi0 hi1 eh12 dX12_tells_48 (hc := ac_156) (hlen := ln_156 _ _) (K := ?_)
    refine ev_aload_n 1 dX12_tells_49 (k := ?_)
    refine ev_aload_n 1 dX12_tells_50 (k := ?_)
    refine ev_getR (t := 135) (x := some (135, 0)) fl_X12_101 dX12_tells_51 (hx := ry_12_35 _ _) (K := ?_)
    refine ev_iload_n 2 dX12_tells_54 (k := ?_)
    obtain ⟨⟨hi0, hi1⟩, H8⟩ := g_e H7
    clear H7
    refine ev_iaload (k := 135) hi0 hi1 dX12_tells_55 (hc := ac_135) (hlen := ln_135 _ _) (K := ?_)
    obtain ⟨h13, hq, H9⟩ := bd_e H8
    clear H8
    refine ev_callV (mc := 0) (ms := 0) (st := []) (C12_goes hq) md_X12_goes im_X12_goes se_X12_goes ml_X12_358 dX12_tells_56 _ (by decide) (K := ?_)
    refine ev_aload_n 1 dX12_tells_59 (k := ?_)
    refine ev_getR (t := 154) (x := some (154, 0)) fl_X12_158 dX12_tells_60 (hx := ry_12_54 _ _) (K := ?_)
    refine ev_iload 0 dX12_tells_63 (k := ?_)
    refine ev_iconst dX12_tells_65 (k := ?_)
    obtain ⟨⟨hi0, hi1⟩, H10⟩ := g_e H9
    clear H9
    obtain ⟨h14, eh14, H11⟩ := lt_e H10
    clear H10
    refine ev_iastore (k := 154) j_ok1 hi0 hi1 eh14 dX12_tells_66 (hc := ac_154) (hlen := ln_154 _ _) (K := ?_)
    refine ev_aload_n 1 dX12_tells_67 (k := ?_)
    refine ev_getR (t := 155) (x := some (155, 0)) fl_X12_161 dX12_tells_68 (hx := ry_12_55 _ _) (K := ?_)
    refine ev_iload 0 dX12_tells_71 (k := ?_)
    refine ev_iconst dX12_tells_73 (k := ?_)
    obtain ⟨⟨hi0, hi1⟩, H12⟩ := g_e H11
    clear H11
    obtain ⟨h15, eh15, H13⟩ := lt_e H12
    clear H12
    refine ev_iastore (k := 155) j_ok1 hi0 hi1 eh15 dX12_tells_74 (hc := ac_155) (hlen := ln_155 _ _) (K := ?_)
    refine ev_goto 157 dX12_tells_75 (k := ?_)
    cases H13
    exact ev_return dX12_tells_157
