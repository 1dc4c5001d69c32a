-- X12_becomes
abbrev T12_becomes : JT := (RX12, cX12_becomes, 3, none, false)
set_option maxRecDepth 100000 in
set_option maxHeartbeats 4000000 in
theorem C12_becomes {l1 : Int} {l2 : Int} {h : JM} {res : JM} (H : F12_becomes l1 l2 h = some res) : Cn j_W1 1 0 0 yX12_becomes cX12_becomes 3 none [.inr (.inr (some (12, 0))), .inl (l1), .inl (l2)] h none res := by
  refine Cn.by (own := RX12) (b := false) [(0, .inr (.inr (some (12, 0)))), (1, .inl (l1)), (2, .inl (l2))] rfl (fun z => by cases z) (by decide +kernel) (K := ?_)
  unfold F12_becomes at H
  refine ev_aload_n (M := T12_becomes) (pc := 0) 0 dX12_becomes_0 (k := ?_)
  refine ev_getR (M := T12_becomes) (pc := 1) (t := 133) (x := some (133, 0)) fl_X12_95 dX12_becomes_1 (hx := ry_12_33 _ _) (K := ?_)
  refine ev_iload_n (M := T12_becomes) (pc := 4) 1 dX12_becomes_4 (k := ?_)
  refine ev_iload_n (M := T12_becomes) (pc := 5) 2 dX12_becomes_5 (k := ?_)
  obtain ⟨⟨hi0, hi1⟩, H1⟩ := g_e H
  clear H
  obtain ⟨h1, eh1, H2⟩ := lt_e H1
  clear H1
  refine ev_iastore (M := T12_becomes) (pc := 6) (k := 133) j_ok1 hi0 hi1 eh1 dX12_becomes_6 (hc := ac_133) (hlen := ln_133 _ _) (K := ?_)
  refine ev_aload_n (M := T12_becomes) (pc := 7) 0 dX12_becomes_7 (k := ?_)
  refine ev_getR (M := T12_becomes) (pc := 8) (t := 145) (x := some (145, 0)) fl_X12_131 dX12_becomes_8 (hx := ry_12_45 _ _) (K := ?_)
  refine ev_iload_n (M := T12_becomes) (pc := 11) 1 dX12_becomes_11 (k := ?_)
  refine ev_aload_n (M := T12_becomes) (pc := 12) 0 dX12_becomes_12 (k := ?_)
  refine ev_getI (M := T12_becomes) (pc := 13) (x := h1.1 12 0 2) fl_X12_285 dX12_becomes_13 (K := ?_)
  obtain ⟨⟨hi0, hi1⟩, H3⟩ := g_e H2
  clear H2
  obtain ⟨h2, eh2, H4⟩ := lt_e H3
  clear H3
  refine ev_iastore (M := T12_becomes) (pc := 16) (k := 145) j_ok1 hi0 hi1 eh2 dX12_becomes_16 (hc := ac_145) (hlen := ln_145 _ _) (K := ?_)
  cases H4
  exact ev_return (M := T12_becomes) (pc := 17) dX12_becomes_17
-- X12_isLineSide
abbrev T12_isLineSide : JT := (RX12, cX12_isLineSide, 1, some .boolean, false)
set_option maxRecDepth 100000 in
set_option maxHeartbeats 4000000 in
theorem E12_isLineSide_14 (h : JM) (res : (Int × JM)) (H : F12_isLineSide_14 h = some res) : Ev j_W1 1 0 0 T12_isLineSide 14 [] [] h (some (.inl res.1)) res.2 := by
  unfold F12_isLineSide_14 at H
  refine ev_iconst (M := T12_isLineSide) (pc := 14) dX12_isLineSide_14 (k := ?_)
  cases H
  exact ev_zreturn (M := T12_isLineSide) (pc := 15) (Or.inl rfl) dX12_isLineSide_15
set_option maxRecDepth 100000 in
set_option maxHeartbeats 4000000 in
theorem C12_isLineSide {l0 : Int} {h : JM} {res : (Int × JM)} (H : F12_isLineSide l0 h = some res) : Cn j_W1 1 0 0 yX12_isLineSide cX12_isLineSide 1 (some .boolean) [.inl (l0)] h (some (.inl res.1)) res.2 := by
  refine Cn.by (own := RX12) (b := false) [(0, .inl (l0))] rfl (fun z => by cases z) (by decide +kernel) (K := ?_)
  unfold F12_isLineSide at H
  refine ev_iload_n (M := T12_isLineSide) (pc := 0) 0 dX12_isLineSide_0 (k := ?_)
  refine ev_iflt (M := T12_isLineSide) (pc := 1) 14 dX12_isLineSide_1 (kt := fun hc => ?_) (kf := fun hc => ?_)
  · replace H := if_pe hc H
    refine ev_lv [] [] (k := ?_)
    exact E12_isLineSide_14 h _ H
  · replace H := if_ne hc H
    refine ev_iload_n (M := T12_isLineSide) (pc := 4) 0 dX12_isLineSide_4 (k := ?_)
    refine ev_bipush (M := T12_isLineSide) (pc := 5) dX12_isLineSide_5 (k := ?_)
    refine ev_icmpge (M := T12_isLineSide) (pc := 7) 14 dX12_isLineSide_7 (kt := fun hc => ?_) (kf := fun hc => ?_)
    · replace H := if_pe hc H
      refine ev_lv [] [] (k := ?_)
      exact E12_isLineSide_14 h _ H
    · replace H := if_ne hc H
      refine ev_iconst (M := T12_isLineSide) (pc := 10) dX12_isLineSide_10 (k := ?_)
      refine ev_goto (M := T12_isLineSide) (pc := 11) 15 dX12_isLineSide_11 (k := ?_)
      cases H
      exact ev_zreturn (M := T12_isLineSide) (pc := 15) (Or.inr rfl) dX12_isLineSide_15
-- X12_leaves
abbrev T12_leaves : JT := (RX12, cX12_leaves, 5, none, false)
set_option maxRecDepth 100000 in
set_option maxHeartbeats 4000000 in
theorem E12_leaves_78 (k25 : Int → Int → Int → Int → JM → Option JM) (hk25 : ∀ (l1 : Int) (l2 : Int) (l3 : Int) (l4 : Int) (h : JM) (res : JM), k25 l1 l2 l3 l4 h = some res → Ev j_W1 1 0 0 T12_leaves 25 [(0, .inr (.inr (some (12, 0)))), (1, .inl (l1)), (2, .inl (l2)), (3, .inl (l3)), (4, .inl (l4))] [] h none res) (l1 : Int) (l2 : Int) (l3 : Int) (l4 : Int) (h : JM) (res : JM) (H : F12_leaves_78 k25 l1 l2 l3 l4 h = some res) : Ev j_W1 1 0 0 T12_leaves 78 [(0, .inr (.inr (some (12, 0)))), (1, .inl (l1)), (2, .inl (l2)), (3, .inl (l3)), (4, .inl (l4))] [] h none res := by
  unfold F12_leaves_78 at H
  refine ev_iinc (M := T12_leaves) (pc := 78) 4 [(4, .inl (w32 (l4 + 1))), (0, .inr (.inr (some (12, 0)))), (1, .inl (l1)), (2, .inl (l2)), (3, .inl (l3))] dX12_leaves_78 (k := ?_)
  refine ev_goto (M := T12_leaves) (pc := 81) 25 dX12_leaves_81 (k := ?_)
  refine ev_lv [1, 2, 3, 4, 0] [(0, .inr (.inr (some (12, 0)))), (1, .inl (l1)), (2, .inl (l2)), (3, .inl (l3)), (4, .inl (w32 (l4 + 1)))] (k := ?_)
  exact hk25 l1 l2 l3 (w32 (l4 + 1)) h _ H
set_option maxRecDepth 100000 in
set_option maxHeartbeats 4000000 in
theorem E12_leaves_25b (k25 : Int → Int → Int → Int → JM → Option JM) (hk25 : ∀ (l1 : Int) (l2 : Int) (l3 : Int) (l4 : Int) (h : JM) (res : JM), k25 l1 l2 l3 l4 h = some res → Ev j_W1 1 0 0 T12_leaves 25 [(0, .inr (.inr (some (12, 0)))), (1, .inl (l1)), (2, .inl (l2)), (3, .inl (l3)), (4, .inl (l4))] [] h none res) (l1 : Int) (l2 : Int) (l3 : Int) (l4 : Int) (h : JM) (res : JM) (H : F12_leaves_25b k25 l1 l2 l3 l4 h = some res) : Ev j_W1 1 0 0 T12_leaves 25 [(0, .inr (.inr (some (12, 0)))), (1, .inl (l1)), (2, .inl (l2)), (3, .inl (l3)), (4, .inl (l4))] [] h none res := by
  unfold F12_leaves_25b at H
  refine ev_iload (M := T12_leaves) (pc := 25) 4 dX12_leaves_25 (k := ?_)
  refine ev_aload_n (M := T12_leaves) (pc := 27) 0 dX12_leaves_27 (k := ?_)
  refine ev_getR (M := T12_leaves) (pc := 28) (t := 153) (x := some (153, 0)) fl_X12_155 dX12_leaves_28 (hx := ry_12_53 _ _) (K := ?_)
  refine ev_iload_n (M := T12_leaves) (pc := 31) 2 dX12_leaves_31 (k := ?_)
  obtain ⟨⟨hi0, hi1⟩, H1⟩ := g_e H
  clear H
  refine ev_iaload (M := T12_leaves) (pc := 32) (k := 153) hi0 hi1 dX12_leaves_32 (hc := ac_153) (hlen := ln_153 _ _) (K := ?_)
  refine ev_icmpge (M := T12_leaves) (pc := 33) 84 dX12_leaves_33 (kt := fun hc => ?_) (kf := fun hc => ?_)
  · replace H1 := if_pe hc H1
    refine ev_aload_n (M := T12_leaves) (pc := 84) 0 dX12_leaves_84 (k := ?_)
    refine ev_getR (M := T12_leaves) (pc := 85) (t := 153) (x := some (153, 0)) fl_X12_155 dX12_leaves_85 (hx := ry_12_53 _ _) (K := ?_)
    refine ev_iload_n (M := T12_leaves) (pc := 88) 2 dX12_leaves_88 (k := ?_)
    refine ev_iload_n (M := T12_leaves) (pc := 89) 3 dX12_leaves_89 (k := ?_)
    obtain ⟨⟨hi0, hi1⟩, H2⟩ := g_e H1
    clear H1
    obtain ⟨h1, eh1, H3⟩ := lt_e H2
    clear H2
    refine ev_iastore (M := T12_leaves) (pc := 90) (k := 153) j_ok1 hi0 hi1 eh1 dX12_leaves_90 (hc := ac_153) (hlen := ln_153 _ _) (K := ?_)
    cases H3
    exact ev_return (M := T12_leaves) (pc := 91) dX12_leaves_91
  · replace H1 := if_ne hc H1
    refine ev_aload_n (M := T12_leaves) (pc := 36) 0 dX12_leaves_36 (k := ?_)
    refine ev_getR (M := T12_leaves) (pc := 37) (t := 152) (x := some (152, 0)) fl_X12_152 dX12_leaves_37 (hx := ry_12_52 _ _) (K := ?_)
    refine ev_bipush (M := T12_leaves) (pc := 40) dX12_leaves_40 (k := ?_)
    refine ev_iload_n (M := T12_leaves) (pc := 42) 2 dX12_leaves_42 (k := ?_)
    refine ev_imul (M := T12_leaves) (pc := 43) dX12_leaves_43 (k := ?_)
    refine ev_iload (M := T12_leaves) (pc := 44) 4 dX12_leaves_44 (k := ?_)
    refine ev_iadd (M := T12_leaves) (pc := 46) dX12_leaves_46 (k := ?_)
    obtain ⟨⟨hi0, hi1⟩, H2⟩ := g_e H1
    clear H1
    refine ev_iaload (M := T12_leaves) (pc := 47) (k := 152) hi0 hi1 dX12_leaves_47 (hc := ac_152) (hlen := ln_152 _ _) (K := ?_)
    refine ev_iload_n (M := T12_leaves) (pc := 48) 1 dX12_leaves_48 (k := ?_)
    refine ev_icmpeq (M := T12_leaves) (pc := 49) 78 dX12_leaves_49 (kt := fun hc => ?_) (kf := fun hc => ?_)
    · replace H2 := if_pe hc H2
      exact E12_leaves_78 k25 hk25 l1 l2 l3 l4 h _ H2
    · replace H2 := if_ne hc H2
      refine ev_aload_n (M := T12_leaves) (pc := 52) 0 dX12_leaves_52 (k := ?_)
      refine ev_getR (M := T12_leaves) (pc := 53) (t := 152) (x := some (152, 0)) fl_X12_152 dX12_leaves_53 (hx := ry_12_52 _ _) (K := ?_)
      refine ev_bipush (M := T12_leaves) (pc := 56) dX12_leaves_56 (k := ?_)
      refine ev_iload_n (M := T12_leaves) (pc := 58) 2 dX12_leaves_58 (k := ?_)
      refine ev_imul (M := T12_leaves) (pc := 59) dX12_leaves_59 (k := ?_)
      refine ev_iload_n (M := T12_leaves) (pc := 60) 3 dX12_leaves_60 (k := ?_)
      refine ev_iinc (M := T12_leaves) (pc := 61) 3 [(3, .inl (w32 (l3 + 1))), (0, .inr (.inr (some (12, 0)))), (1, .inl (l1)), (2, .inl (l2)), (4, .inl (l4))] dX12_leaves_61 (k := ?_)
      refine ev_iadd (M := T12_leaves) (pc := 64) dX12_leaves_64 (k := ?_)
      refine ev_aload_n (M := T12_leaves) (pc := 65) 1 dX12_leaves_65 (k := ?_)
      refine ev_getR (M := T12_leaves) (pc := 66) (t := 152) (x := some (152, 0)) fl_X12_152 dX12_leaves_66 (hx := ry_12_52 _ _) (K := ?_)
      refine ev_bipush (M := T12_leaves) (pc := 69) dX12_leaves_69 (k := ?_)
      refine ev_iload_n (M := T12_leaves) (pc := 71) 3 dX12_leaves_71 (k := ?_)
      refine ev_imul (M := T12_leaves) (pc := 72) dX12_leaves_72 (k := ?_)
      refine ev_iload (M := T12_leaves) (pc := 73) 4 dX12_leaves_73 (k := ?_)
      refine ev_iadd (M := T12_leaves) (pc := 75) dX12_leaves_75 (k := ?_)
      obtain ⟨⟨hi0, hi1⟩, H3⟩ := g_e H2
      clear H2
      refine ev_iaload (M := T12_leaves) (pc := 76) (k := 152) hi0 hi1 dX12_leaves_76 (hc := ac_152) (hlen := ln_152 _ _) (K := ?_)
      obtain ⟨⟨hi0, hi1⟩, H4⟩ := g_e H3
      clear H3
      obtain ⟨h2, eh2, H5⟩ := lt_e H4
      clear H4
      refine ev_iastore (M := T12_leaves) (pc := 77) (k := 152) j_ok1 hi0 hi1 eh2 dX12_leaves_77 (hc := ac_152) (hlen := ln_152 _ _) (K := ?_)
      refine ev_lv [1, 2, 3, 0, 4] [(0, .inr (.inr (some (12, 0)))), (1, .inl (l1)), (2, .inl (l2)), (3, .inl (w32 (l3 + 1))), (4, .inl (l4))] (k := ?_)
      exact E12_leaves_78 k25 hk25 l1 l2 (w32 (l3 + 1)) l4 h2 _ H5
theorem E12_leaves_25 (n : Nat) : ∀ (l1 : Int) (l2 : Int) (l3 : Int) (l4 : Int) (h : JM) (res : JM), F12_leaves_25 n l1 l2 l3 l4 h = some res → Ev j_W1 1 0 0 T12_leaves 25 [(0, .inr (.inr (some (12, 0)))), (1, .inl (l1)), (2, .inl (l2)), (3, .inl (l3)), (4, .inl (l4))] [] h none res := by
  induction n with
  | zero =>
    intro l1 l2 l3 l4 h res H
    cases H
  | succ n ih =>
    intro l1 l2 l3 l4 h res H
    exact E12_leaves_25b (F12_leaves_25 n) ih l1 l2 l3 l4 h res H
set_option maxRecDepth 100000 in
set_option maxHeartbeats 4000000 in
theorem C12_leaves {l1 : Int} {h : JM} {res : JM} (H : F12_leaves l1 h = some res) : Cn j_W1 1 0 0 yX12_leaves cX12_leaves 5 none [.inr (.inr (some (12, 0))), .inl (l1)] h none res := by
  refine Cn.by (own := RX12) (b := false) [(0, .inr (.inr (some (12, 0)))), (1, .inl (l1))] rfl (fun z => by cases z) (by decide +kernel) (K := ?_)
  unfold F12_leaves at H
  refine ev_iconst (M := T12_leaves) (pc := 0) dX12_leaves_0 (k := ?_)
  refine ev_aload_n (M := T12_leaves) (pc := 1) 0 dX12_leaves_1 (k := ?_)
  refine ev_getR (M := T12_leaves) (pc := 2) (t := 135) (x := some (135, 0)) fl_X12_101 dX12_leaves_2 (hx := ry_12_35 _ _) (K := ?_)
  refine ev_iload_n (M := T12_leaves) (pc := 5) 1 dX12_leaves_5 (k := ?_)
  obtain ⟨⟨hi0, hi1⟩, H1⟩ := g_e H
  clear H
  refine ev_iaload (M := T12_leaves) (pc := 6) (k := 135) hi0 hi1 dX12_leaves_6 (hc := ac_135) (hlen := ln_135 _ _) (K := ?_)
  refine ev_imul (M := T12_leaves) (pc := 7) dX12_leaves_7 (k := ?_)
  refine ev_aload_n (M := T12_leaves) (pc := 8) 0 dX12_leaves_8 (k := ?_)
  refine ev_getR (M := T12_leaves) (pc := 9) (t := 137) (x := some (137, 0)) fl_X12_107 dX12_leaves_9 (hx := ry_12_37 _ _) (K := ?_)
  refine ev_iload_n (M := T12_leaves) (pc := 12) 1 dX12_leaves_12 (k := ?_)
  obtain ⟨⟨hi0, hi1⟩, H2⟩ := g_e H1
  clear H1
  refine ev_iaload (M := T12_leaves) (pc := 13) (k := 137) hi0 hi1 dX12_leaves_13 (hc := ac_137) (hlen := ln_137 _ _) (K := ?_)
  refine ev_iadd (M := T12_leaves) (pc := 14) dX12_leaves_14 (k := ?_)
  refine ev_sipush (M := T12_leaves) (pc := 15) dX12_leaves_15 (k := ?_)
  refine ev_isub (M := T12_leaves) (pc := 18) dX12_leaves_18 (k := ?_)
  obtain ⟨x3, ex3, H3⟩ := lt_e H2
  clear H2
  refine ev_topI ex3 ?_
  refine ev_istore_n (M := T12_leaves) (pc := 19) [(2, .inl (x3)), (0, .inr (.inr (some (12, 0)))), (1, .inl (l1))] dX12_leaves_19 (k := ?_)
  refine ev_iconst (M := T12_leaves) (pc := 20) dX12_leaves_20 (k := ?_)
  refine ev_istore_n (M := T12_leaves) (pc := 21) [(3, .inl (0)), (2, .inl (x3)), (0, .inr (.inr (some (12, 0)))), (1, .inl (l1))] dX12_leaves_21 (k := ?_)
  refine ev_iconst (M := T12_leaves) (pc := 22) dX12_leaves_22 (k := ?_)
  refine ev_istore (M := T12_leaves) (pc := 23) [(4, .inl (0)), (3, .inl (0)), (2, .inl (x3)), (0, .inr (.inr (some (12, 0)))), (1, .inl (l1))] dX12_leaves_23 (k := ?_)
  refine ev_lv [3, 4, 2, 1, 0] [(0, .inr (.inr (some (12, 0)))), (1, .inl (l1)), (2, .inl (x3)), (3, .inl (0)), (4, .inl (0))] (k := ?_)
  exact E12_leaves_25 j_fu l1 x3 0 0 h _ H3
-- X12_records
abbrev T12_records : JT := (RX12, cX12_records, 3, none, false)
set_option maxRecDepth 100000 in
set_option maxHeartbeats 4000000 in
theorem C12_records {l1 : Int} {h : JM} {res : JM} (H : F12_records l1 h = some res) : Cn j_W1 1 0 0 yX12_records cX12_records 3 none [.inr (.inr (some (12, 0))), .inl (l1)] h none res := by
  refine Cn.by (own := RX12) (b := false) [(0, .inr (.inr (some (12, 0)))), (1, .inl (l1))] rfl (fun z => by cases z) (by decide +kernel) (K := ?_)
  unfold F12_records at H
  refine ev_iconst (M := T12_records) (pc := 0) dX12_records_0 (k := ?_)
  refine ev_aload_n (M := T12_records) (pc := 1) 0 dX12_records_1 (k := ?_)
  refine ev_getI (M := T12_records) (pc := 2) (x := h.1 12 0 90) fl_X12_486 dX12_records_2 (K := ?_)
  refine ev_sipush (M := T12_records) (pc := 5) dX12_records_5 (k := ?_)
  refine ev_irem (M := T12_records) (pc := 8) dX12_records_8 (by decide) (k := ?_)
  refine ev_imul (M := T12_records) (pc := 9) dX12_records_9 (k := ?_)
  obtain ⟨x1, ex1, H1⟩ := lt_e H
  clear H
  refine ev_topI ex1 ?_
  refine ev_istore_n (M := T12_records) (pc := 10) [(2, .inl (x1)), (0, .inr (.inr (some (12, 0)))), (1, .inl (l1))] dX12_records_10 (k := ?_)
  refine ev_aload_n (M := T12_records) (pc := 11) 1 dX12_records_11 (k := ?_)
  refine ev_getR (M := T12_records) (pc := 12) (t := 191) (x := some (191, 0)) fl_X12_252 dX12_records_12 (hx := ry_12_91 _ _) (K := ?_)
  refine ev_iload_n (M := T12_records) (pc := 15) 0 dX12_records_15 (k := ?_)
  refine ev_aload_n (M := T12_records) (pc := 16) 1 dX12_records_16 (k := ?_)
  refine ev_getR (M := T12_records) (pc := 17) (t := 136) (x := some (136, 0)) fl_X12_104 dX12_records_17 (hx := ry_12_36 _ _) (K := ?_)
  refine ev_iload_n (M := T12_records) (pc := 20) 2 dX12_records_20 (k := ?_)
  obtain ⟨⟨hi0, hi1⟩, H2⟩ := g_e H1
  clear H1
  refine ev_iaload (M := T12_records) (pc := 21) (k := 136) hi0 hi1 dX12_records_21 (hc := ac_136) (hlen := ln_136 _ _) (K := ?_)
  obtain ⟨⟨hi0, hi1⟩, H3⟩ := g_e H2
  clear H2
  obtain ⟨h2, eh2, H4⟩ := lt_e H3
  clear H3
  refine ev_iastore (M := T12_records) (pc := 22) (k := 191) j_ok1 hi0 hi1 eh2 dX12_records_22 (hc := ac_191) (hlen := ln_191 _ _) (K := ?_)
  refine ev_aload_n (M := T12_records) (pc := 23) 1 dX12_records_23 (k := ?_)
  refine ev_getR (M := T12_records) (pc := 24) (t := 191) (x := some (191, 0)) fl_X12_252 dX12_records_24 (hx := ry_12_91 _ _) (K := ?_)
  refine ev_iload_n (M := T12_records) (pc := 27) 0 dX12_records_27 (k := ?_)
  refine ev_iconst (M := T12_records) (pc := 28) dX12_records_28 (k := ?_)
  refine ev_iadd (M := T12_records) (pc := 29) dX12_records_29 (k := ?_)
  refine ev_aload_n (M := T12_records) (pc := 30) 1 dX12_records_30 (k := ?_)
  refine ev_getR (M := T12_records) (pc := 31) (t := 143) (x := some (143, 0)) fl_X12_125 dX12_records_31 (hx := ry_12_43 _ _) (K := ?_)
  refine ev_iload_n (M := T12_records) (pc := 34) 2 dX12_records_34 (k := ?_)
  obtain ⟨⟨hi0, hi1⟩, H5⟩ := g_e H4
  clear H4
  refine ev_iaload (M := T12_records) (pc := 35) (k := 143) hi0 hi1 dX12_records_35 (hc := ac_143) (hlen := ln_143 _ _) (K := ?_)
  obtain ⟨⟨hi0, hi1⟩, H6⟩ := g_e H5
  clear H5
  obtain ⟨h3, eh3, H7⟩ := lt_e H6
  clear H6
  refine ev_iastore (M := T12_records) (pc := 36) (k := 191) j_ok1 hi0 hi1 eh3 dX12_records_36 (hc := ac_191) (hlen := ln_191 _ _) (K := ?_)
  refine ev_aload_n (M := T12_records) (pc := 37) 1 dX12_records_37 (k := ?_)
  refine ev_getR (M := T12_records) (pc := 38) (t := 191) (x := some (191, 0)) fl_X12_252 dX12_records_38 (hx := ry_12_91 _ _) (K := ?_)
  refine ev_iload_n (M := T12_records) (pc := 41) 0 dX12_records_41 (k := ?_)
  refine ev_iconst (M := T12_records) (pc := 42) dX12_records_42 (k := ?_)
  refine ev_iadd (M := T12_records) (pc := 43) dX12_records_43 (k := ?_)
  refine ev_aload_n (M := T12_records) (pc := 44) 1 dX12_records_44 (k := ?_)
  refine ev_getR (M := T12_records) (pc := 45) (t := 146) (x := some (146, 0)) fl_X12_134 dX12_records_45 (hx := ry_12_46 _ _) (K := ?_)
  refine ev_iload_n (M := T12_records) (pc := 48) 2 dX12_records_48 (k := ?_)
  obtain ⟨⟨hi0, hi1⟩, H8⟩ := g_e H7
  clear H7
  refine ev_iaload (M := T12_records) (pc := 49) (k := 146) hi0 hi1 dX12_records_49 (hc := ac_146) (hlen := ln_146 _ _) (K := ?_)
  obtain ⟨⟨hi0, hi1⟩, H9⟩ := g_e H8
  clear H8
  obtain ⟨h4, eh4, H10⟩ := lt_e H9
  clear H9
  refine ev_iastore (M := T12_records) (pc := 50) (k := 191) j_ok1 hi0 hi1 eh4 dX12_records_50 (hc := ac_191) (hlen := ln_191 _ _) (K := ?_)
  refine ev_aload_n (M := T12_records) (pc := 51) 1 dX12_records_51 (k := ?_)
  refine ev_getR (M := T12_records) (pc := 52) (t := 191) (x := some (191, 0)) fl_X12_252 dX12_records_52 (hx := ry_12_91 _ _) (K := ?_)
  refine ev_iload_n (M := T12_records) (pc := 55) 0 dX12_records_55 (k := ?_)
  refine ev_iconst (M := T12_records) (pc := 56) dX12_records_56 (k := ?_)
  refine ev_iadd (M := T12_records) (pc := 57) dX12_records_57 (k := ?_)
  refine ev_aload_n (M := T12_records) (pc := 58) 1 dX12_records_58 (k := ?_)
  refine ev_getI (M := T12_records) (pc := 59) (x := h4.1 12 0 2) fl_X12_285 dX12_records_59 (K := ?_)
  obtain ⟨⟨hi0, hi1⟩, H11⟩ := g_e H10
  clear H10
  obtain ⟨h5, eh5, H12⟩ := lt_e H11
  clear H11
  refine ev_iastore (M := T12_records) (pc := 62) (k := 191) j_ok1 hi0 hi1 eh5 dX12_records_62 (hc := ac_191) (hlen := ln_191 _ _) (K := ?_)
  refine ev_aload_n (M := T12_records) (pc := 63) 1 dX12_records_63 (k := ?_)
  refine ev_getR (M := T12_records) (pc := 64) (t := 191) (x := some (191, 0)) fl_X12_252 dX12_records_64 (hx := ry_12_91 _ _) (K := ?_)
  refine ev_iload_n (M := T12_records) (pc := 67) 0 dX12_records_67 (k := ?_)
  refine ev_iconst (M := T12_records) (pc := 68) dX12_records_68 (k := ?_)
  refine ev_iadd (M := T12_records) (pc := 69) dX12_records_69 (k := ?_)
  refine ev_aload_n (M := T12_records) (pc := 70) 1 dX12_records_70 (k := ?_)
  refine ev_getR (M := T12_records) (pc := 71) (t := 147) (x := some (147, 0)) fl_X12_137 dX12_records_71 (hx := ry_12_47 _ _) (K := ?_)
  refine ev_iload_n (M := T12_records) (pc := 74) 2 dX12_records_74 (k := ?_)
  obtain ⟨⟨hi0, hi1⟩, H13⟩ := g_e H12
  clear H12
  refine ev_iaload (M := T12_records) (pc := 75) (k := 147) hi0 hi1 dX12_records_75 (hc := ac_147) (hlen := ln_147 _ _) (K := ?_)
  obtain ⟨⟨hi0, hi1⟩, H14⟩ := g_e H13
  clear H13
  obtain ⟨h6, eh6, H15⟩ := lt_e H14
  clear H14
  refine ev_iastore (M := T12_records) (pc := 76) (k := 191) j_ok1 hi0 hi1 eh6 dX12_records_76 (hc := ac_191) (hlen := ln_191 _ _) (K := ?_)
  refine ev_aload_n (M := T12_records) (pc := 77) 1 dX12_records_77 (k := ?_)
  refine ev_dup (M := T12_records) (pc := 78) dX12_records_78 (k := ?_)
  refine ev_getI (M := T12_records) (pc := 79) (x := h6.1 12 0 90) fl_X12_486 dX12_records_79 (K := ?_)
  refine ev_iconst (M := T12_records) (pc := 82) dX12_records_82 (k := ?_)
  refine ev_iadd (M := T12_records) (pc := 83) dX12_records_83 (k := ?_)
  obtain ⟨h7, eh7, H16⟩ := lt_e H15
  clear H15
  refine ev_putI (M := T12_records) (pc := 84) j_ok1 fl_X12_486 eh7 dX12_records_84 (K := ?_)
  cases H16
  exact ev_return (M := T12_records) (pc := 87) dX12_records_87
-- X12_unring
abbrev T12_unring : JT := (RX12, cX12_unring, 2, none, false)
set_option maxRecDepth 100000 in
set_option maxHeartbeats 4000000 in
theorem C12_unring {l1 : Int} {h : JM} {res : JM} (H : F12_unring l1 h = some res) : Cn j_W1 1 0 0 yX12_unring cX12_unring 2 none [.inr (.inr (some (12, 0))), .inl (l1)] h none res := by
  refine Cn.by (own := RX12) (b := false) [(0, .inr (.inr (some (12, 0)))), (1, .inl (l1))] rfl (fun z => by cases z) (by decide +kernel) (K := ?_)
  unfold F12_unring at H
  refine ev_aload_n (M := T12_unring) (pc := 0) 0 dX12_unring_0 (k := ?_)
  refine ev_getR (M := T12_unring) (pc := 1) (t := 121) (x := some (121, 0)) fl_X12_62 dX12_unring_1 (hx := ry_12_21 _ _) (K := ?_)
  refine ev_iload_n (M := T12_unring) (pc := 4) 1 dX12_unring_4 (k := ?_)
  refine ev_iconst (M := T12_unring) (pc := 5) dX12_unring_5 (k := ?_)
  obtain ⟨⟨hi0, hi1⟩, H1⟩ := g_e H
  clear H
  obtain ⟨h1, eh1, H2⟩ := lt_e H1
  clear H1
  refine ev_iastore (M := T12_unring) (pc := 6) (k := 121) j_ok1 hi0 hi1 eh1 dX12_unring_6 (hc := ac_121) (hlen := ln_121 _ _) (K := ?_)
  refine ev_aload_n (M := T12_unring) (pc := 7) 0 dX12_unring_7 (k := ?_)
  refine ev_getR (M := T12_unring) (pc := 8) (t := 112) (x := some (112, 0)) fl_X12_34 dX12_unring_8 (hx := ry_12_12 _ _) (K := ?_)
  refine ev_iload_n (M := T12_unring) (pc := 11) 1 dX12_unring_11 (k := ?_)
  obtain ⟨⟨hi0, hi1⟩, H3⟩ := g_e H2
  clear H2
  refine ev_zaload (M := T12_unring) (pc := 12) (k := 112) hi0 hi1 dX12_unring_12 (hc := ac_112) (hlen := ln_112 _ _) (K := ?_)
  refine ev_ifne (M := T12_unring) (pc := 13) 26 dX12_unring_13 (kt := fun hc => ?_) (kf := fun hc => ?_)
  · replace H3 := if_ne hc H3
    cases H3
    exact ev_return (M := T12_unring) (pc := 26) dX12_unring_26
  · replace H3 := if_pe hc H3
    refine ev_aload_n (M := T12_unring) (pc := 16) 0 dX12_unring_16 (k := ?_)
    refine ev_getR (M := T12_unring) (pc := 17) (t := 125) (x := some (125, 0)) fl_X12_74 dX12_unring_17 (hx := ry_12_25 _ _) (K := ?_)
    refine ev_iload_n (M := T12_unring) (pc := 20) 1 dX12_unring_20 (k := ?_)
    refine ev_aload_n (M := T12_unring) (pc := 21) 0 dX12_unring_21 (k := ?_)
    refine ev_getI (M := T12_unring) (pc := 22) (x := h1.1 12 0 2) fl_X12_285 dX12_unring_22 (K := ?_)
    obtain ⟨⟨hi0, hi1⟩, H4⟩ := g_e H3
    clear H3
    obtain ⟨h2, eh2, H5⟩ := lt_e H4
    clear H4
    refine ev_iastore (M := T12_unring) (pc := 25) (k := 125) j_ok1 hi0 hi1 eh2 dX12_unring_25 (hc := ac_125) (hlen := ln_125 _ _) (K := ?_)
    cases H5
    exact ev_return (M := T12_unring) (pc := 26) dX12_unring_26
-- X12_tells
abbrev T12_tells : JT := (RX12, cX12_tells, 5, none, false)
set_option maxRecDepth 100000 in
set_option maxHeartbeats 4000000 in
theorem E12_tells_140 (l1 : Int) (l2 : Int) (h : JM) (res : JM) (H : F12_tells_140 l1 l2 h = some res) : Ev j_W1 2 0 0 T12_tells 140 [(0, .inr (.inr (some (12, 0)))), (1, .inl (l1)), (2, .inl (l2))] [] h none res := by
  unfold F12_tells_140 at H
  refine ev_aload_n (M := T12_tells) (pc := 140) 0 dX12_tells_140 (k := ?_)
  refine ev_getR (M := T12_tells) (pc := 141) (t := 120) (x := some (120, 0)) fl_X12_59 dX12_tells_141 (hx := ry_12_20 _ _) (K := ?_)
  refine ev_iload_n (M := T12_tells) (pc := 144) 2 dX12_tells_144 (k := ?_)
  obtain ⟨⟨hi0, hi1⟩, H1⟩ := g_e H
  clear H
  refine ev_iaload (M := T12_tells) (pc := 145) (k := 120) hi0 hi1 dX12_tells_145 (hc := ac_120) (hlen := ln_120 _ _) (K := ?_)
  refine ev_iload_n (M := T12_tells) (pc := 146) 1 dX12_tells_146 (k := ?_)
  refine ev_icmpne (M := T12_tells) (pc := 147) 157 dX12_tells_147 (kt := fun hc => ?_) (kf := fun hc => ?_)
  · replace H1 := if_ne hc H1
    cases H1
    exact ev_return (M := T12_tells) (pc := 157) dX12_tells_157
  · replace H1 := if_pe hc H1
    refine ev_aload_n (M := T12_tells) (pc := 150) 0 dX12_tells_150 (k := ?_)
    refine ev_getR (M := T12_tells) (pc := 151) (t := 120) (x := some (120, 0)) fl_X12_59 dX12_tells_151 (hx := ry_12_20 _ _) (K := ?_)
    refine ev_iload_n (M := T12_tells) (pc := 154) 2 dX12_tells_154 (k := ?_)
    refine ev_iconst (M := T12_tells) (pc := 155) dX12_tells_155 (k := ?_)
    obtain ⟨⟨hi0, hi1⟩, H2⟩ := g_e H1
    clear H1
    obtain ⟨h1, eh1, H3⟩ := lt_e H2
    clear H2
    refine ev_iastore (M := T12_tells) (pc := 156) (k := 120) j_ok1 hi0 hi1 eh1 dX12_tells_156 (hc := ac_120) (hlen := ln_120 _ _) (K := ?_)
    cases H3
    exact ev_return (M := T12_tells) (pc := 157) dX12_tells_157
set_option maxRecDepth 100000 in
set_option maxHeartbeats 4000000 in
theorem E12_tells_139 (l1 : Int) (l2 : Int) (s0 : Option Int) (s1 : Int) (s2 : Int) (h : JM) (res : JM) (H : F12_tells_139 l1 l2 s0 s1 s2 h = some res) : Ev j_W1 2 0 0 T12_tells 139 [(0, .inr (.inr (some (12, 0)))), (1, .inl (l1)), (2, .inl (l2))] [.inl (s2), .inl (s1), .inr (.inr (Option.map (Prod.mk 123) (s0)))] h none res := by
  unfold F12_tells_139 at H
  obtain ⟨a2, ea2, H1⟩ := bd_e H
  clear H
  rw [ea2]
  obtain ⟨⟨hi0, hi1⟩, H2⟩ := g_e H1
  clear H1
  obtain ⟨h3, eh3, H3⟩ := lt_e H2
  clear H2
  refine ev_iastore (M := T12_tells) (pc := 139) (k := 123) j_ok1 hi0 hi1 eh3 dX12_tells_139 (hc := ac_123) (hlen := ln_123 _ _) (K := ?_)
  exact E12_tells_140 l1 l2 h3 _ H3
set_option maxRecDepth 100000 in
set_option maxHeartbeats 4000000 in
theorem E12_tells_100 (l1 : Int) (l2 : Int) (l3 : Int) (h : JM) (res : JM) (H : F12_tells_100 l1 l2 l3 h = some res) : Ev j_W1 2 0 0 T12_tells 100 [(0, .inr (.inr (some (12, 0)))), (1, .inl (l1)), (2, .inl (l2)), (3, .inl (l3))] [] h none res := by
  unfold F12_tells_100 at H
  refine ev_aload_n (M := T12_tells) (pc := 100) 0 dX12_tells_100 (k := ?_)
  refine ev_getR (M := T12_tells) (pc := 101) (t := 119) (x := some (119, 0)) fl_X12_56 dX12_tells_101 (hx := ry_12_19 _ _) (K := ?_)
  refine ev_iload_n (M := T12_tells) (pc := 104) 2 dX12_tells_104 (k := ?_)
  obtain ⟨⟨hi0, hi1⟩, H1⟩ := g_e H
  clear H
  refine ev_iaload (M := T12_tells) (pc := 105) (k := 119) hi0 hi1 dX12_tells_105 (hc := ac_119) (hlen := ln_119 _ _) (K := ?_)
  refine ev_iload_n (M := T12_tells) (pc := 106) 1 dX12_tells_106 (k := ?_)
  refine ev_icmpne (M := T12_tells) (pc := 107) 140 dX12_tells_107 (kt := fun hc => ?_) (kf := fun hc => ?_)
  · replace H1 := if_ne hc H1
    refine ev_lv [0, 1, 2] [(0, .inr (.inr (some (12, 0)))), (1, .inl (l1)), (2, .inl (l2))] (k := ?_)
    exact E12_tells_140 l1 l2 h _ H1
  · replace H1 := if_pe hc H1
    refine ev_aload_n (M := T12_tells) (pc := 110) 0 dX12_tells_110 (k := ?_)
    refine ev_getR (M := T12_tells) (pc := 111) (t := 119) (x := some (119, 0)) fl_X12_56 dX12_tells_111 (hx := ry_12_19 _ _) (K := ?_)
    refine ev_iload_n (M := T12_tells) (pc := 114) 2 dX12_tells_114 (k := ?_)
    refine ev_iconst (M := T12_tells) (pc := 115) dX12_tells_115 (k := ?_)
    obtain ⟨⟨hi0, hi1⟩, H2⟩ := g_e H1
    clear H1
    obtain ⟨h4, eh4, H3⟩ := lt_e H2
    clear H2
    refine ev_iastore (M := T12_tells) (pc := 116) (k := 119) j_ok1 hi0 hi1 eh4 dX12_tells_116 (hc := ac_119) (hlen := ln_119 _ _) (K := ?_)
    refine ev_aload_n (M := T12_tells) (pc := 117) 0 dX12_tells_117 (k := ?_)
    refine ev_getR (M := T12_tells) (pc := 118) (t := 122) (x := some (122, 0)) fl_X12_65 dX12_tells_118 (hx := ry_12_22 _ _) (K := ?_)
    refine ev_iload_n (M := T12_tells) (pc := 121) 2 dX12_tells_121 (k := ?_)
    refine ev_iload_n (M := T12_tells) (pc := 122) 3 dX12_tells_122 (k := ?_)
    obtain ⟨⟨hi0, hi1⟩, H4⟩ := g_e H3
    clear H3
    obtain ⟨h5, eh5, H5⟩ := lt_e H4
    clear H4
    refine ev_iastore (M := T12_tells) (pc := 123) (k := 122) j_ok1 hi0 hi1 eh5 dX12_tells_123 (hc := ac_122) (hlen := ln_122 _ _) (K := ?_)
    refine ev_aload_n (M := T12_tells) (pc := 124) 0 dX12_tells_124 (k := ?_)
    refine ev_getR (M := T12_tells) (pc := 125) (t := 123) (x := some (123, 0)) fl_X12_68 dX12_tells_125 (hx := ry_12_23 _ _) (K := ?_)
    refine ev_iload_n (M := T12_tells) (pc := 128) 2 dX12_tells_128 (k := ?_)
    refine ev_iload_n (M := T12_tells) (pc := 129) 3 dX12_tells_129 (k := ?_)
    refine ev_iconst (M := T12_tells) (pc := 130) dX12_tells_130 (k := ?_)
    refine ev_icmpne (M := T12_tells) (pc := 131) 138 dX12_tells_131 (kt := fun hc => ?_) (kf := fun hc => ?_)
    · replace H5 := if_ne hc H5
      refine ev_iconst (M := T12_tells) (pc := 138) dX12_tells_138 (k := ?_)
      refine ev_lv [0, 1, 2] [(0, .inr (.inr (some (12, 0)))), (1, .inl (l1)), (2, .inl (l2))] (k := ?_)
      exact E12_tells_139 l1 l2 (some 0) l2 3 h5 _ H5
    · replace H5 := if_pe hc H5
      refine ev_iconst (M := T12_tells) (pc := 134) dX12_tells_134 (k := ?_)
      refine ev_goto (M := T12_tells) (pc := 135) 139 dX12_tells_135 (k := ?_)
      refine ev_lv [0, 1, 2] [(0, .inr (.inr (some (12, 0)))), (1, .inl (l1)), (2, .inl (l2))] (k := ?_)
      exact E12_tells_139 l1 l2 (some 0) l2 4 h5 _ H5
set_option maxRecDepth 100000 in
set_option maxHeartbeats 4000000 in
theorem C12_tells {l1 : Int} {l2 : Int} {l3 : Int} {h : JM} {res : JM} (H : F12_tells l1 l2 l3 h = some res) : Cn j_W1 2 0 0 yX12_tells cX12_tells 5 none [.inr (.inr (some (12, 0))), .inl (l1), .inl (l2), .inl (l3)] h none res := by
  refine Cn.by (own := RX12) (b := false) [(0, .inr (.inr (some (12, 0)))), (1, .inl (l1)), (2, .inl (l2)), (3, .inl (l3))] rfl (fun z => by cases z) (by decide +kernel) (K := ?_)
  unfold F12_tells at H
  refine ev_iload_n (M := T12_tells) (pc := 0) 2 dX12_tells_0 (k := ?_)
  obtain ⟨q6, hq, H1⟩ := bd_e H
  clear H
  refine ev_callS (M := T12_tells) (pc := 1) (mc := 0) (ms := 0) (st := []) (C12_isCircuit hq) md_X12_isCircuit ss_X12_isCircuit ml_X12_379 dX12_tells_1 _ (by decide) (K := ?_)
  refine ev_ifeq (M := T12_tells) (pc := 4) 78 dX12_tells_4 (kt := fun hc => ?_) (kf := fun hc => ?_)
  · replace H1 := if_pe hc H1
    refine ev_iload_n (M := T12_tells) (pc := 78) 2 dX12_tells_78 (k := ?_)
    obtain ⟨q7, hq, H2⟩ := bd_e H1
    clear H1
    refine ev_callS (M := T12_tells) (pc := 79) (mc := 0) (ms := 0) (st := []) (C12_isLineSide hq) md_X12_isLineSide ss_X12_isLineSide ml_X12_349 dX12_tells_79 _ (by decide) (K := ?_)
    refine ev_ifeq (M := T12_tells) (pc := 82) 157 dX12_tells_82 (kt := fun hc => ?_) (kf := fun hc => ?_)
    · replace H2 := if_pe hc H2
      cases H2
      exact ev_return (M := T12_tells) (pc := 157) dX12_tells_157
    · replace H2 := if_ne hc H2
      refine ev_aload_n (M := T12_tells) (pc := 85) 0 dX12_tells_85 (k := ?_)
      refine ev_getR (M := T12_tells) (pc := 86) (t := 121) (x := some (121, 0)) fl_X12_62 dX12_tells_86 (hx := ry_12_21 _ _) (K := ?_)
      refine ev_iload_n (M := T12_tells) (pc := 89) 2 dX12_tells_89 (k := ?_)
      obtain ⟨⟨hi0, hi1⟩, H3⟩ := g_e H2
      clear H2
      refine ev_iaload (M := T12_tells) (pc := 90) (k := 121) hi0 hi1 dX12_tells_90 (hc := ac_121) (hlen := ln_121 _ _) (K := ?_)
      refine ev_iload_n (M := T12_tells) (pc := 91) 1 dX12_tells_91 (k := ?_)
      refine ev_icmpne (M := T12_tells) (pc := 92) 100 dX12_tells_92 (kt := fun hc => ?_) (kf := fun hc => ?_)
      · replace H3 := if_ne hc H3
        exact E12_tells_100 l1 l2 l3 q7.2 _ H3
      · replace H3 := if_pe hc H3
        refine ev_aload_n (M := T12_tells) (pc := 95) 0 dX12_tells_95 (k := ?_)
        refine ev_iload_n (M := T12_tells) (pc := 96) 2 dX12_tells_96 (k := ?_)
        obtain ⟨h8, hq, H4⟩ := bd_e H3
        clear H3
        refine ev_callV (M := T12_tells) (pc := 97) (mc := 0) (ms := 0) (st := []) (C12_unring hq) md_X12_unring im_X12_unring se_X12_unring ml_X12_396 dX12_tells_97 _ (by decide) (K := ?_)
        exact E12_tells_100 l1 l2 l3 h8 _ H4
  · replace H1 := if_ne hc H1
    refine ev_bipush (M := T12_tells) (pc := 7) dX12_tells_7 (k := ?_)
    refine ev_aload_n (M := T12_tells) (pc := 9) 0 dX12_tells_9 (k := ?_)
    refine ev_getR (M := T12_tells) (pc := 10) (t := 135) (x := some (135, 0)) fl_X12_101 dX12_tells_10 (hx := ry_12_35 _ _) (K := ?_)
    refine ev_iload_n (M := T12_tells) (pc := 13) 1 dX12_tells_13 (k := ?_)
    obtain ⟨⟨hi0, hi1⟩, H2⟩ := g_e H1
    clear H1
    refine ev_iaload (M := T12_tells) (pc := 14) (k := 135) hi0 hi1 dX12_tells_14 (hc := ac_135) (hlen := ln_135 _ _) (K := ?_)
    refine ev_imul (M := T12_tells) (pc := 15) dX12_tells_15 (k := ?_)
    refine ev_iload_n (M := T12_tells) (pc := 16) 2 dX12_tells_16 (k := ?_)
    refine ev_iadd (M := T12_tells) (pc := 17) dX12_tells_17 (k := ?_)
    refine ev_bipush (M := T12_tells) (pc := 18) dX12_tells_18 (k := ?_)
    refine ev_isub (M := T12_tells) (pc := 20) dX12_tells_20 (k := ?_)
    obtain ⟨x9, ex9, H3⟩ := lt_e H2
    clear H2
    refine ev_topI ex9 ?_
    refine ev_istore (M := T12_tells) (pc := 21) [(4, .inl (x9)), (0, .inr (.inr (some (12, 0)))), (1, .inl (l1)), (2, .inl (l2)), (3, .inl (l3))] dX12_tells_21 (k := ?_)
    refine ev_aload_n (M := T12_tells) (pc := 23) 1 dX12_tells_23 (k := ?_)
    refine ev_iload_n (M := T12_tells) (pc := 24) 3 dX12_tells_24 (k := ?_)
    refine ev_bipush (M := T12_tells) (pc := 25) dX12_tells_25 (k := ?_)
    refine ev_isub (M := T12_tells) (pc := 27) dX12_tells_27 (k := ?_)
    refine ev_iconst (M := T12_tells) (pc := 28) dX12_tells_28 (k := ?_)
    obtain ⟨h10, hq, H4⟩ := bd_e H3
    clear H3
    refine ev_callV (M := T12_tells) (pc := 29) (mc := 0) (ms := 0) (st := []) (C12_begins hq) md_X12_begins im_X12_begins se_X12_begins ml_X12_352 dX12_tells_29 _ (by decide) (K := ?_)
    refine ev_aload_n (M := T12_tells) (pc := 32) 1 dX12_tells_32 (k := ?_)
    refine ev_getR (M := T12_tells) (pc := 33) (t := 156) (x := some (156, 0)) fl_X12_164 dX12_tells_33 (hx := ry_12_56 _ _) (K := ?_)
    refine ev_aload_n (M := T12_tells) (pc := 36) 1 dX12_tells_36 (k := ?_)
    refine ev_dup (M := T12_tells) (pc := 37) dX12_tells_37 (k := ?_)
    refine ev_getI (M := T12_tells) (pc := 38) (x := h10.1 12 0 57) fl_X12_355 dX12_tells_38 (K := ?_)
    refine ev_dup_x1 (M := T12_tells) (pc := 41) dX12_tells_41 (k := ?_)
    refine ev_iconst (M := T12_tells) (pc := 42) dX12_tells_42 (k := ?_)
    refine ev_iadd (M := T12_tells) (pc := 43) dX12_tells_43 (k := ?_)
    obtain ⟨h11, eh11, H5⟩ := lt_e H4
    clear H4
    refine ev_putI (M := T12_tells) (pc := 44) j_ok1 fl_X12_355 eh11 dX12_tells_44 (K := ?_)
    refine ev_iload_n (M := T12_tells) (pc := 47) 4 dX12_tells_47 (k := ?_)
    obtain ⟨⟨hi0, hi1⟩, H6⟩ := g_e H5
    clear H5
    obtain ⟨h12, eh12, H7⟩ := lt_e H6
    clear H6
    refine ev_iastore (M := T12_tells) (pc := 48) (k := 156) j_ok1 hi0 hi1 eh12 dX12_tells_48 (hc := ac_156) (hlen := ln_156 _ _) (K := ?_)
    refine ev_aload_n (M := T12_tells) (pc := 49) 1 dX12_tells_49 (k := ?_)
    refine ev_aload_n (M := T12_tells) (pc := 50) 1 dX12_tells_50 (k := ?_)
    refine ev_getR (M := T12_tells) (pc := 51) (t := 135) (x := some (135, 0)) fl_X12_101 dX12_tells_51 (hx := ry_12_35 _ _) (K := ?_)
    refine ev_iload_n (M := T12_tells) (pc := 54) 2 dX12_tells_54 (k := ?_)
    obtain ⟨⟨hi0, hi1⟩, H8⟩ := g_e H7
    clear H7
    refine ev_iaload (M := T12_tells) (pc := 55) (k := 135) hi0 hi1 dX12_tells_55 (hc := ac_135) (hlen := ln_135 _ _) (K := ?_)
    obtain ⟨h13, hq, H9⟩ := bd_e H8
    clear H8
    refine ev_callV (M := T12_tells) (pc := 56) (mc := 0) (ms := 0) (st := []) (C12_goes hq) md_X12_goes im_X12_goes se_X12_goes ml_X12_358 dX12_tells_56 _ (by decide) (K := ?_)
    refine ev_aload_n (M := T12_tells) (pc := 59) 1 dX12_tells_59 (k := ?_)
    refine ev_getR (M := T12_tells) (pc := 60) (t := 154) (x := some (154, 0)) fl_X12_158 dX12_tells_60 (hx := ry_12_54 _ _) (K := ?_)
    refine ev_iload (M := T12_tells) (pc := 63) 0 dX12_tells_63 (k := ?_)
    refine ev_iconst (M := T12_tells) (pc := 65) dX12_tells_65 (k := ?_)
    obtain ⟨⟨hi0, hi1⟩, H10⟩ := g_e H9
    clear H9
    obtain ⟨h14, eh14, H11⟩ := lt_e H10
    clear H10
    refine ev_iastore (M := T12_tells) (pc := 66) (k := 154) j_ok1 hi0 hi1 eh14 dX12_tells_66 (hc := ac_154) (hlen := ln_154 _ _) (K := ?_)
    refine ev_aload_n (M := T12_tells) (pc := 67) 1 dX12_tells_67 (k := ?_)
    refine ev_getR (M := T12_tells) (pc := 68) (t := 155) (x := some (155, 0)) fl_X12_161 dX12_tells_68 (hx := ry_12_55 _ _) (K := ?_)
    refine ev_iload (M := T12_tells) (pc := 71) 0 dX12_tells_71 (k := ?_)
    refine ev_iconst (M := T12_tells) (pc := 73) dX12_tells_73 (k := ?_)
    obtain ⟨⟨hi0, hi1⟩, H12⟩ := g_e H11
    clear H11
    obtain ⟨h15, eh15, H13⟩ := lt_e H12
    clear H12
    refine ev_iastore (M := T12_tells) (pc := 74) (k := 155) j_ok1 hi0 hi1 eh15 dX12_tells_74 (hc := ac_155) (hlen := ln_155 _ _) (K := ?_)
    refine ev_goto (M := T12_tells) (pc := 75) 157 dX12_tells_75 (k := ?_)
    cases H13
    exact ev_return (M := T12_tells) (pc := 157) dX12_tells_157
-- X12_over
abbrev T12_over : JT := (RX12, cX12_over, 6, none, false)
set_option maxRecDepth 100000 in
set_option maxHeartbeats 4000000 in
theorem E12_over_92 (l1 : Int) (h : JM) (res : JM) (H : F12_over_92 l1 h = some res) : Ev j_W1 3 0 0 T12_over 92 [(0, .inr (.inr (some (12, 0)))), (1, .inl (l1))] [] h none res := by
  unfold F12_over_92 at H
  refine ev_aload_n (M := T12_over) (pc := 92) 0 dX12_over_92 (k := ?_)
  refine ev_getR (M := T12_over) (pc := 93) (t := 133) (x := some (133, 0)) fl_X12_95 dX12_over_93 (hx := ry_12_33 _ _) (K := ?_)
  refine ev_iload_n (M := T12_over) (pc := 96) 1 dX12_over_96 (k := ?_)
  refine ev_iconst (M := T12_over) (pc := 97) dX12_over_97 (k := ?_)
  obtain ⟨⟨hi0, hi1⟩, H1⟩ := g_e H
  clear H
  obtain ⟨h1, eh1, H2⟩ := lt_e H1
  clear H1
  refine ev_iastore (M := T12_over) (pc := 98) (k := 133) j_ok1 hi0 hi1 eh1 dX12_over_98 (hc := ac_133) (hlen := ln_133 _ _) (K := ?_)
  cases H2
  exact ev_return (M := T12_over) (pc := 99) dX12_over_99
set_option maxRecDepth 100000 in
set_option maxHeartbeats 4000000 in
theorem E12_over_72 (l1 : Int) (l2 : Int) (l3 : Int) (l5 : Int) (h : JM) (res : JM) (H : F12_over_72 l1 l2 l3 l5 h = some res) : Ev j_W1 3 0 0 T12_over 72 [(0, .inr (.inr (some (12, 0)))), (1, .inl (l1)), (2, .inl (l2)), (3, .inl (l3)), (5, .inl (l5))] [] h none res := by
  unfold F12_over_72 at H
  refine ev_iload (M := T12_over) (pc := 72) 4 dX12_over_72 (k := ?_)
  refine ev_iconst (M := T12_over) (pc := 74) dX12_over_74 (k := ?_)
  refine ev_icmpeq (M := T12_over) (pc := 75) 92 dX12_over_75 (kt := fun hc => ?_) (kf := fun hc => ?_)
  · replace H := if_pe hc H
    refine ev_lv [0, 1] [(0, .inr (.inr (some (12, 0)))), (1, .inl (l1))] (k := ?_)
    exact E12_over_92 l1 h _ H
  · replace H := if_ne hc H
    refine ev_iload (M := T12_over) (pc := 78) 4 dX12_over_78 (k := ?_)
    refine ev_iload_n (M := T12_over) (pc := 80) 3 dX12_over_80 (k := ?_)
    refine ev_icmpeq (M := T12_over) (pc := 81) 92 dX12_over_81 (kt := fun hc => ?_) (kf := fun hc => ?_)
    · replace H := if_pe hc H
      refine ev_lv [0, 1] [(0, .inr (.inr (some (12, 0)))), (1, .inl (l1))] (k := ?_)
      exact E12_over_92 l1 h _ H
    · replace H := if_ne hc H
      refine ev_aload_n (M := T12_over) (pc := 84) 0 dX12_over_84 (k := ?_)
      refine ev_iload_n (M := T12_over) (pc := 85) 1 dX12_over_85 (k := ?_)
      refine ev_iload (M := T12_over) (pc := 86) 4 dX12_over_86 (k := ?_)
      refine ev_iload_n (M := T12_over) (pc := 88) 2 dX12_over_88 (k := ?_)
      obtain ⟨h2, hq, H1⟩ := bd_e H
      clear H
      refine ev_callV (M := T12_over) (pc := 89) (mc := 0) (ms := 0) (st := []) (C12_tells hq) md_X12_tells im_X12_tells se_X12_tells ml_X12_393 dX12_over_89 _ (by decide) (K := ?_)
      refine ev_lv [0, 1] [(0, .inr (.inr (some (12, 0)))), (1, .inl (l1))] (k := ?_)
      exact E12_over_92 l1 h2 _ H1
set_option maxRecDepth 100000 in
set_option maxHeartbeats 4000000 in
theorem E12_over_42 (l1 : Int) (l2 : Int) (l3 : Int) (h : JM) (res : JM) (H : F12_over_42 l1 l2 l3 h = some res) : Ev j_W1 3 0 0 T12_over 42 [(0, .inr (.inr (some (12, 0)))), (1, .inl (l1)), (2, .inl (l2)), (3, .inl (l3))] [] h none res := by
  unfold F12_over_42 at H
  refine ev_aload_n (M := T12_over) (pc := 42) 0 dX12_over_42 (k := ?_)
  refine ev_getR (M := T12_over) (pc := 43) (t := 136) (x := some (136, 0)) fl_X12_104 dX12_over_43 (hx := ry_12_36 _ _) (K := ?_)
  refine ev_iload_n (M := T12_over) (pc := 46) 1 dX12_over_46 (k := ?_)
  obtain ⟨⟨hi0, hi1⟩, H1⟩ := g_e H
  clear H
  refine ev_iaload (M := T12_over) (pc := 47) (k := 136) hi0 hi1 dX12_over_47 (hc := ac_136) (hlen := ln_136 _ _) (K := ?_)
  obtain ⟨x3, ex3, H2⟩ := lt_e H1
  clear H1
  refine ev_topI ex3 ?_
  refine ev_istore (M := T12_over) (pc := 48) [(4, .inl (x3)), (0, .inr (.inr (some (12, 0)))), (1, .inl (l1)), (2, .inl (l2)), (3, .inl (l3))] dX12_over_48 (k := ?_)
  refine ev_aload_n (M := T12_over) (pc := 50) 1 dX12_over_50 (k := ?_)
  refine ev_getR (M := T12_over) (pc := 51) (t := 137) (x := some (137, 0)) fl_X12_107 dX12_over_51 (hx := ry_12_37 _ _) (K := ?_)
  refine ev_iload_n (M := T12_over) (pc := 54) 2 dX12_over_54 (k := ?_)
  obtain ⟨⟨hi0, hi1⟩, H3⟩ := g_e H2
  clear H2
  refine ev_iaload (M := T12_over) (pc := 55) (k := 137) hi0 hi1 dX12_over_55 (hc := ac_137) (hlen := ln_137 _ _) (K := ?_)
  obtain ⟨x4, ex4, H4⟩ := lt_e H3
  clear H3
  refine ev_topI ex4 ?_
  refine ev_istore (M := T12_over) (pc := 56) [(5, .inl (x4)), (4, .inl (x3)), (0, .inr (.inr (some (12, 0)))), (1, .inl (l1)), (2, .inl (l2)), (3, .inl (l3))] dX12_over_56 (k := ?_)
  refine ev_iload (M := T12_over) (pc := 58) 1 dX12_over_58 (k := ?_)
  refine ev_iload_n (M := T12_over) (pc := 60) 5 dX12_over_60 (k := ?_)
  refine ev_icmpeq (M := T12_over) (pc := 61) 72 dX12_over_61 (kt := fun hc => ?_) (kf := fun hc => ?_)
  · replace H4 := if_pe hc H4
    refine ev_lv [2, 3, 4, 5, 0] [(0, .inr (.inr (some (12, 0)))), (1, .inl (l1)), (2, .inl (l2)), (3, .inl (l3)), (5, .inl (x4))] (k := ?_)
    exact E12_over_72 l1 l2 l3 x4 h _ H4
  · replace H4 := if_ne hc H4
    refine ev_aload_n (M := T12_over) (pc := 64) 2 dX12_over_64 (k := ?_)
    refine ev_iload_n (M := T12_over) (pc := 65) 3 dX12_over_65 (k := ?_)
    refine ev_iload (M := T12_over) (pc := 66) 1 dX12_over_66 (k := ?_)
    refine ev_iload_n (M := T12_over) (pc := 68) 4 dX12_over_68 (k := ?_)
    obtain ⟨h5, hq, H5⟩ := bd_e H4
    clear H4
    refine ev_callV (M := T12_over) (pc := 69) (mc := 0) (ms := 0) (st := []) (C12_tells hq) md_X12_tells im_X12_tells se_X12_tells ml_X12_393 dX12_over_69 _ (by decide) (K := ?_)
    refine ev_lv [2, 3, 4, 5, 0] [(0, .inr (.inr (some (12, 0)))), (1, .inl (l1)), (2, .inl (l2)), (3, .inl (l3)), (5, .inl (x4))] (k := ?_)
    exact E12_over_72 l1 l2 l3 x4 h5 _ H5
set_option maxRecDepth 100000 in
set_option maxHeartbeats 4000000 in
theorem E12_over_27 (l1 : Int) (l2 : Int) (l3 : Int) (h : JM) (res : JM) (H : F12_over_27 l1 l2 l3 h = some res) : Ev j_W1 3 0 0 T12_over 27 [(0, .inr (.inr (some (12, 0)))), (1, .inl (l1)), (2, .inl (l2)), (3, .inl (l3))] [] h none res := by
  unfold F12_over_27 at H
  refine ev_aload_n (M := T12_over) (pc := 27) 0 dX12_over_27 (k := ?_)
  refine ev_getR (M := T12_over) (pc := 28) (t := 133) (x := some (133, 0)) fl_X12_95 dX12_over_28 (hx := ry_12_33 _ _) (K := ?_)
  refine ev_iload_n (M := T12_over) (pc := 31) 1 dX12_over_31 (k := ?_)
  obtain ⟨⟨hi0, hi1⟩, H1⟩ := g_e H
  clear H
  refine ev_iaload (M := T12_over) (pc := 32) (k := 133) hi0 hi1 dX12_over_32 (hc := ac_133) (hlen := ln_133 _ _) (K := ?_)
  refine ev_iconst (M := T12_over) (pc := 33) dX12_over_33 (k := ?_)
  refine ev_icmpne (M := T12_over) (pc := 34) 42 dX12_over_34 (kt := fun hc => ?_) (kf := fun hc => ?_)
  · replace H1 := if_ne hc H1
    exact E12_over_42 l1 l2 l3 h _ H1
  · replace H1 := if_pe hc H1
    refine ev_aload_n (M := T12_over) (pc := 37) 0 dX12_over_37 (k := ?_)
    refine ev_iload_n (M := T12_over) (pc := 38) 1 dX12_over_38 (k := ?_)
    obtain ⟨h6, hq, H2⟩ := bd_e H1
    clear H1
    refine ev_callV (M := T12_over) (pc := 39) (mc := 0) (ms := 0) (st := []) (C12_leaves hq) md_X12_leaves im_X12_leaves se_X12_leaves ml_X12_390 dX12_over_39 _ (by decide) (K := ?_)
    exact E12_over_42 l1 l2 l3 h6 _ H2
set_option maxRecDepth 100000 in
set_option maxHeartbeats 4000000 in
theorem C12_over {l1 : Int} {l2 : Int} {l3 : Int} {h : JM} {res : JM} (H : F12_over l1 l2 l3 h = some res) : Cn j_W1 3 0 0 yX12_over cX12_over 6 none [.inr (.inr (some (12, 0))), .inl (l1), .inl (l2), .inl (l3)] h none res := by
  refine Cn.by (own := RX12) (b := false) [(0, .inr (.inr (some (12, 0)))), (1, .inl (l1)), (2, .inl (l2)), (3, .inl (l3))] rfl (fun z => by cases z) (by decide +kernel) (K := ?_)
  unfold F12_over at H
  refine ev_aload_n (M := T12_over) (pc := 0) 0 dX12_over_0 (k := ?_)
  refine ev_getR (M := T12_over) (pc := 1) (t := 133) (x := some (133, 0)) fl_X12_95 dX12_over_1 (hx := ry_12_33 _ _) (K := ?_)
  refine ev_iload_n (M := T12_over) (pc := 4) 1 dX12_over_4 (k := ?_)
  obtain ⟨⟨hi0, hi1⟩, H1⟩ := g_e H
  clear H
  refine ev_iaload (M := T12_over) (pc := 5) (k := 133) hi0 hi1 dX12_over_5 (hc := ac_133) (hlen := ln_133 _ _) (K := ?_)
  refine ev_iconst (M := T12_over) (pc := 6) dX12_over_6 (k := ?_)
  refine ev_icmpne (M := T12_over) (pc := 7) 27 dX12_over_7 (kt := fun hc => ?_) (kf := fun hc => ?_)
  · replace H1 := if_ne hc H1
    exact E12_over_27 l1 l2 l3 h _ H1
  · replace H1 := if_pe hc H1
    refine ev_aload_n (M := T12_over) (pc := 10) 0 dX12_over_10 (k := ?_)
    refine ev_getR (M := T12_over) (pc := 11) (t := 136) (x := some (136, 0)) fl_X12_104 dX12_over_11 (hx := ry_12_36 _ _) (K := ?_)
    refine ev_iload_n (M := T12_over) (pc := 14) 1 dX12_over_14 (k := ?_)
    obtain ⟨⟨hi0, hi1⟩, H2⟩ := g_e H1
    clear H1
    refine ev_iaload (M := T12_over) (pc := 15) (k := 136) hi0 hi1 dX12_over_15 (hc := ac_136) (hlen := ln_136 _ _) (K := ?_)
    obtain ⟨q7, hq, H3⟩ := bd_e H2
    clear H2
    refine ev_callS (M := T12_over) (pc := 16) (mc := 0) (ms := 0) (st := []) (C12_isLineSide hq) md_X12_isLineSide ss_X12_isLineSide ml_X12_349 dX12_over_16 _ (by decide) (K := ?_)
    refine ev_ifeq (M := T12_over) (pc := 19) 27 dX12_over_19 (kt := fun hc => ?_) (kf := fun hc => ?_)
    · replace H3 := if_pe hc H3
      exact E12_over_27 l1 l2 l3 q7.2 _ H3
    · replace H3 := if_ne hc H3
      refine ev_aload_n (M := T12_over) (pc := 22) 0 dX12_over_22 (k := ?_)
      refine ev_iload_n (M := T12_over) (pc := 23) 1 dX12_over_23 (k := ?_)
      obtain ⟨h8, hq, H4⟩ := bd_e H3
      clear H3
      refine ev_callV (M := T12_over) (pc := 24) (mc := 0) (ms := 0) (st := []) (C12_records hq) md_X12_records im_X12_records se_X12_records ml_X12_388 dX12_over_24 _ (by decide) (K := ?_)
      exact E12_over_27 l1 l2 l3 h8 _ H4
