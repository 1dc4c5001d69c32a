-- X12_isFree
abbrev T12_isFree : JT := (RX12, cX12_isFree, 2, some .boolean, false)
set_option maxRecDepth 100000 in
set_option maxHeartbeats 4000000 in
theorem E12_isFree_23 (h : JM) (res : (Int × JM)) (H : F12_isFree_23 h = some res) : Ev j_W1 1 0 0 T12_isFree 23 [] [] h (some (.inl res.1)) res.2 := by
  unfold F12_isFree_23 at H
  refine ev_iconst (M := T12_isFree) (pc := 23) dX12_isFree_23 (k := ?_)
  cases H
  exact ev_zreturn (M := T12_isFree) (pc := 24) (Or.inl rfl) dX12_isFree_24
set_option maxRecDepth 100000 in
set_option maxHeartbeats 4000000 in
theorem C12_isFree {l1 : Int} {h : JM} {res : (Int × JM)} (H : F12_isFree l1 h = some res) : Cn j_W1 1 0 0 yX12_isFree cX12_isFree 2 (some .boolean) [.inr (.inr (some (12, 0))), .inl (l1)] h (some (.inl res.1)) res.2 := by
  refine Cn.by (own := RX12) (b := false) [(0, .inr (.inr (some (12, 0)))), (1, .inl (l1))] rfl (fun z => by cases z) (by decide +kernel) (K := ?_)
  unfold F12_isFree at H
  refine ev_aload_n (M := T12_isFree) (pc := 0) 0 dX12_isFree_0 (k := ?_)
  refine ev_getR (M := T12_isFree) (pc := 1) (t := 112) (x := some (112, 0)) fl_X12_34 dX12_isFree_1 (hx := ry_12_12 _ _) (K := ?_)
  refine ev_iload_n (M := T12_isFree) (pc := 4) 1 dX12_isFree_4 (k := ?_)
  obtain ⟨⟨hi0, hi1⟩, H1⟩ := g_e H
  clear H
  refine ev_zaload (M := T12_isFree) (pc := 5) (k := 112) hi0 hi1 dX12_isFree_5 (hc := ac_112) (hlen := ln_112 _ _) (K := ?_)
  refine ev_ifne (M := T12_isFree) (pc := 6) 23 dX12_isFree_6 (kt := fun hc => ?_) (kf := fun hc => ?_)
  · replace H1 := if_ne hc H1
    refine ev_lv [] [] (k := ?_)
    exact E12_isFree_23 h _ H1
  · replace H1 := if_pe hc H1
    refine ev_aload_n (M := T12_isFree) (pc := 9) 0 dX12_isFree_9 (k := ?_)
    refine ev_getR (M := T12_isFree) (pc := 10) (t := 121) (x := some (121, 0)) fl_X12_62 dX12_isFree_10 (hx := ry_12_21 _ _) (K := ?_)
    refine ev_iload_n (M := T12_isFree) (pc := 13) 1 dX12_isFree_13 (k := ?_)
    obtain ⟨⟨hi0, hi1⟩, H2⟩ := g_e H1
    clear H1
    refine ev_iaload (M := T12_isFree) (pc := 14) (k := 121) hi0 hi1 dX12_isFree_14 (hc := ac_121) (hlen := ln_121 _ _) (K := ?_)
    refine ev_iconst (M := T12_isFree) (pc := 15) dX12_isFree_15 (k := ?_)
    refine ev_icmpne (M := T12_isFree) (pc := 16) 23 dX12_isFree_16 (kt := fun hc => ?_) (kf := fun hc => ?_)
    · replace H2 := if_ne hc H2
      refine ev_lv [] [] (k := ?_)
      exact E12_isFree_23 h _ H2
    · replace H2 := if_pe hc H2
      refine ev_iconst (M := T12_isFree) (pc := 19) dX12_isFree_19 (k := ?_)
      refine ev_goto (M := T12_isFree) (pc := 20) 24 dX12_isFree_20 (k := ?_)
      cases H2
      exact ev_zreturn (M := T12_isFree) (pc := 24) (Or.inr rfl) dX12_isFree_24
-- X12_ready
abbrev T12_ready : JT := (RX12, cX12_ready, 5, some .int, false)
set_option maxRecDepth 100000 in
set_option maxHeartbeats 4000000 in
theorem E12_ready_70 (k4 : Int → Int → Int → JM → Option (Int × JM)) (hk4 : ∀ (l1 : Int) (l2 : Int) (l3 : Int) (h : JM) (res : (Int × JM)), k4 l1 l2 l3 h = some res → Ev j_W1 2 0 0 T12_ready 4 [(0, .inr (.inr (some (12, 0)))), (1, .inl (l1)), (2, .inl (l2)), (3, .inl (l3))] [] h (some (.inl res.1)) res.2) (l1 : Int) (l2 : Int) (l3 : Int) (h : JM) (res : (Int × JM)) (H : F12_ready_70 k4 l1 l2 l3 h = some res) : Ev j_W1 2 0 0 T12_ready 70 [(0, .inr (.inr (some (12, 0)))), (1, .inl (l1)), (2, .inl (l2)), (3, .inl (l3))] [] h (some (.inl res.1)) res.2 := by
  unfold F12_ready_70 at H
  refine ev_iinc (M := T12_ready) (pc := 70) 3 [(3, .inl (w32 (l3 + 1))), (0, .inr (.inr (some (12, 0)))), (1, .inl (l1)), (2, .inl (l2))] dX12_ready_70 (k := ?_)
  refine ev_goto (M := T12_ready) (pc := 73) 4 dX12_ready_73 (k := ?_)
  refine ev_lv [1, 2, 3, 0] [(0, .inr (.inr (some (12, 0)))), (1, .inl (l1)), (2, .inl (l2)), (3, .inl (w32 (l3 + 1)))] (k := ?_)
  exact hk4 l1 l2 (w32 (l3 + 1)) h _ H
set_option maxRecDepth 100000 in
set_option maxHeartbeats 4000000 in
theorem E12_ready_67 (k4 : Int → Int → Int → JM → Option (Int × JM)) (hk4 : ∀ (l1 : Int) (l2 : Int) (l3 : Int) (h : JM) (res : (Int × JM)), k4 l1 l2 l3 h = some res → Ev j_W1 2 0 0 T12_ready 4 [(0, .inr (.inr (some (12, 0)))), (1, .inl (l1)), (2, .inl (l2)), (3, .inl (l3))] [] h (some (.inl res.1)) res.2) (l1 : Int) (l3 : Int) (l4 : Int) (h : JM) (res : (Int × JM)) (H : F12_ready_67 k4 l1 l3 l4 h = some res) : Ev j_W1 2 0 0 T12_ready 67 [(0, .inr (.inr (some (12, 0)))), (1, .inl (l1)), (3, .inl (l3)), (4, .inl (l4))] [] h (some (.inl res.1)) res.2 := by
  unfold F12_ready_67 at H
  refine ev_iload (M := T12_ready) (pc := 67) 3 dX12_ready_67 (k := ?_)
  refine ev_istore_n (M := T12_ready) (pc := 69) [(2, .inl (l4)), (0, .inr (.inr (some (12, 0)))), (1, .inl (l1)), (3, .inl (l3)), (4, .inl (l4))] dX12_ready_69 (k := ?_)
  refine ev_lv [1, 2, 0, 3] [(0, .inr (.inr (some (12, 0)))), (1, .inl (l1)), (2, .inl (l4)), (3, .inl (l3))] (k := ?_)
  exact E12_ready_70 k4 hk4 l1 l4 l3 h _ H
set_option maxRecDepth 100000 in
set_option maxHeartbeats 4000000 in
theorem E12_ready_4b (k4 : Int → Int → Int → JM → Option (Int × JM)) (hk4 : ∀ (l1 : Int) (l2 : Int) (l3 : Int) (h : JM) (res : (Int × JM)), k4 l1 l2 l3 h = some res → Ev j_W1 2 0 0 T12_ready 4 [(0, .inr (.inr (some (12, 0)))), (1, .inl (l1)), (2, .inl (l2)), (3, .inl (l3))] [] h (some (.inl res.1)) res.2) (l1 : Int) (l2 : Int) (l3 : Int) (h : JM) (res : (Int × JM)) (H : F12_ready_4b k4 l1 l2 l3 h = some res) : Ev j_W1 2 0 0 T12_ready 4 [(0, .inr (.inr (some (12, 0)))), (1, .inl (l1)), (2, .inl (l2)), (3, .inl (l3))] [] h (some (.inl res.1)) res.2 := by
  unfold F12_ready_4b at H
  refine ev_iload_n (M := T12_ready) (pc := 4) 3 dX12_ready_4 (k := ?_)
  refine ev_aload_n (M := T12_ready) (pc := 5) 0 dX12_ready_5 (k := ?_)
  refine ev_getR (M := T12_ready) (pc := 6) (t := 150) (x := some (150, 0)) fl_X12_146 dX12_ready_6 (hx := ry_12_50 _ _) (K := ?_)
  refine ev_iload_n (M := T12_ready) (pc := 9) 1 dX12_ready_9 (k := ?_)
  obtain ⟨⟨hi0, hi1⟩, H1⟩ := g_e H
  clear H
  refine ev_iaload (M := T12_ready) (pc := 10) (k := 150) hi0 hi1 dX12_ready_10 (hc := ac_150) (hlen := ln_150 _ _) (K := ?_)
  refine ev_icmpge (M := T12_ready) (pc := 11) 76 dX12_ready_11 (kt := fun hc => ?_) (kf := fun hc => ?_)
  · replace H1 := if_pe hc H1
    refine ev_iload_n (M := T12_ready) (pc := 76) 2 dX12_ready_76 (k := ?_)
    cases H1
    exact ev_ireturn (M := T12_ready) (pc := 77) dX12_ready_77
  · replace H1 := if_ne hc H1
    refine ev_aload_n (M := T12_ready) (pc := 14) 0 dX12_ready_14 (k := ?_)
    refine ev_getR (M := T12_ready) (pc := 15) (t := 149) (x := some (149, 0)) fl_X12_143 dX12_ready_15 (hx := ry_12_49 _ _) (K := ?_)
    refine ev_bipush (M := T12_ready) (pc := 18) dX12_ready_18 (k := ?_)
    refine ev_iload_n (M := T12_ready) (pc := 20) 1 dX12_ready_20 (k := ?_)
    refine ev_imul (M := T12_ready) (pc := 21) dX12_ready_21 (k := ?_)
    refine ev_iload_n (M := T12_ready) (pc := 22) 3 dX12_ready_22 (k := ?_)
    refine ev_iadd (M := T12_ready) (pc := 23) dX12_ready_23 (k := ?_)
    obtain ⟨⟨hi0, hi1⟩, H2⟩ := g_e H1
    clear H1
    refine ev_iaload (M := T12_ready) (pc := 24) (k := 149) hi0 hi1 dX12_ready_24 (hc := ac_149) (hlen := ln_149 _ _) (K := ?_)
    obtain ⟨x1, ex1, H3⟩ := lt_e H2
    clear H2
    refine ev_topI ex1 ?_
    refine ev_istore (M := T12_ready) (pc := 25) [(4, .inl (x1)), (0, .inr (.inr (some (12, 0)))), (1, .inl (l1)), (2, .inl (l2)), (3, .inl (l3))] dX12_ready_25 (k := ?_)
    refine ev_aload_n (M := T12_ready) (pc := 27) 1 dX12_ready_27 (k := ?_)
    refine ev_iload (M := T12_ready) (pc := 28) 0 dX12_ready_28 (k := ?_)
    obtain ⟨q2, hq, H4⟩ := bd_e H3
    clear H3
    refine ev_callV (M := T12_ready) (pc := 30) (mc := 0) (ms := 0) (st := []) (C12_isFree hq) md_X12_isFree im_X12_isFree se_X12_isFree ml_X12_370 dX12_ready_30 _ (by decide) (K := ?_)
    refine ev_ifeq (M := T12_ready) (pc := 33) 70 dX12_ready_33 (kt := fun hc => ?_) (kf := fun hc => ?_)
    · replace H4 := if_pe hc H4
      refine ev_lv [1, 2, 3, 4] [(0, .inr (.inr (some (12, 0)))), (1, .inl (l1)), (2, .inl (l2)), (3, .inl (l3))] (k := ?_)
      exact E12_ready_70 k4 hk4 l1 l2 l3 q2.2 _ H4
    · replace H4 := if_ne hc H4
      refine ev_aload_n (M := T12_ready) (pc := 36) 1 dX12_ready_36 (k := ?_)
      refine ev_getR (M := T12_ready) (pc := 37) (t := 124) (x := some (124, 0)) fl_X12_71 dX12_ready_37 (hx := ry_12_24 _ _) (K := ?_)
      refine ev_iload (M := T12_ready) (pc := 40) 0 dX12_ready_40 (k := ?_)
      obtain ⟨⟨hi0, hi1⟩, H5⟩ := g_e H4
      clear H4
      refine ev_zaload (M := T12_ready) (pc := 42) (k := 124) hi0 hi1 dX12_ready_42 (hc := ac_124) (hlen := ln_124 _ _) (K := ?_)
      refine ev_ifne (M := T12_ready) (pc := 43) 70 dX12_ready_43 (kt := fun hc => ?_) (kf := fun hc => ?_)
      · replace H5 := if_ne hc H5
        refine ev_lv [1, 2, 3, 4] [(0, .inr (.inr (some (12, 0)))), (1, .inl (l1)), (2, .inl (l2)), (3, .inl (l3))] (k := ?_)
        exact E12_ready_70 k4 hk4 l1 l2 l3 q2.2 _ H5
      · replace H5 := if_pe hc H5
        refine ev_iload_n (M := T12_ready) (pc := 46) 3 dX12_ready_46 (k := ?_)
        refine ev_iconst (M := T12_ready) (pc := 47) dX12_ready_47 (k := ?_)
        refine ev_icmpeq (M := T12_ready) (pc := 48) 67 dX12_ready_48 (kt := fun hc => ?_) (kf := fun hc => ?_)
        · replace H5 := if_pe hc H5
          refine ev_lv [1, 2, 4, 0] [(0, .inr (.inr (some (12, 0)))), (1, .inl (l1)), (3, .inl (l3)), (4, .inl (x1))] (k := ?_)
          exact E12_ready_67 k4 hk4 l1 l3 x1 q2.2 _ H5
        · replace H5 := if_ne hc H5
          refine ev_aload_n (M := T12_ready) (pc := 51) 1 dX12_ready_51 (k := ?_)
          refine ev_getR (M := T12_ready) (pc := 52) (t := 125) (x := some (125, 0)) fl_X12_74 dX12_ready_52 (hx := ry_12_25 _ _) (K := ?_)
          refine ev_iload (M := T12_ready) (pc := 55) 0 dX12_ready_55 (k := ?_)
          obtain ⟨⟨hi0, hi1⟩, H6⟩ := g_e H5
          clear H5
          refine ev_iaload (M := T12_ready) (pc := 57) (k := 125) hi0 hi1 dX12_ready_57 (hc := ac_125) (hlen := ln_125 _ _) (K := ?_)
          refine ev_aload_n (M := T12_ready) (pc := 58) 1 dX12_ready_58 (k := ?_)
          refine ev_getR (M := T12_ready) (pc := 59) (t := 125) (x := some (125, 0)) fl_X12_74 dX12_ready_59 (hx := ry_12_25 _ _) (K := ?_)
          refine ev_iload_n (M := T12_ready) (pc := 62) 3 dX12_ready_62 (k := ?_)
          obtain ⟨⟨hi0, hi1⟩, H7⟩ := g_e H6
          clear H6
          refine ev_iaload (M := T12_ready) (pc := 63) (k := 125) hi0 hi1 dX12_ready_63 (hc := ac_125) (hlen := ln_125 _ _) (K := ?_)
          refine ev_icmpge (M := T12_ready) (pc := 64) 70 dX12_ready_64 (kt := fun hc => ?_) (kf := fun hc => ?_)
          · replace H7 := if_pe hc H7
            refine ev_lv [1, 2, 3, 4] [(0, .inr (.inr (some (12, 0)))), (1, .inl (l1)), (2, .inl (l2)), (3, .inl (l3))] (k := ?_)
            exact E12_ready_70 k4 hk4 l1 l2 l3 q2.2 _ H7
          · replace H7 := if_ne hc H7
            refine ev_lv [1, 2, 4, 0] [(0, .inr (.inr (some (12, 0)))), (1, .inl (l1)), (3, .inl (l3)), (4, .inl (x1))] (k := ?_)
            exact E12_ready_67 k4 hk4 l1 l3 x1 q2.2 _ H7
theorem E12_ready_4 (n : Nat) : ∀ (l1 : Int) (l2 : Int) (l3 : Int) (h : JM) (res : (Int × JM)), F12_ready_4 n l1 l2 l3 h = some res → Ev j_W1 2 0 0 T12_ready 4 [(0, .inr (.inr (some (12, 0)))), (1, .inl (l1)), (2, .inl (l2)), (3, .inl (l3))] [] h (some (.inl res.1)) res.2 := by
  induction n with
  | zero =>
    intro l1 l2 l3 h res H
    cases H
  | succ n ih =>
    intro l1 l2 l3 h res H
    exact E12_ready_4b (F12_ready_4 n) ih l1 l2 l3 h res H
set_option maxRecDepth 100000 in
set_option maxHeartbeats 4000000 in
theorem C12_ready {l1 : Int} {h : JM} {res : (Int × JM)} (H : F12_ready l1 h = some res) : Cn j_W1 2 0 0 yX12_ready cX12_ready 5 (some .int) [.inr (.inr (some (12, 0))), .inl (l1)] h (some (.inl res.1)) res.2 := by
  refine Cn.by (own := RX12) (b := false) [(0, .inr (.inr (some (12, 0)))), (1, .inl (l1))] rfl (fun z => by cases z) (by decide +kernel) (K := ?_)
  unfold F12_ready at H
  refine ev_iconst (M := T12_ready) (pc := 0) dX12_ready_0 (k := ?_)
  refine ev_istore_n (M := T12_ready) (pc := 1) [(2, .inl ((-1))), (0, .inr (.inr (some (12, 0)))), (1, .inl (l1))] dX12_ready_1 (k := ?_)
  refine ev_iconst (M := T12_ready) (pc := 2) dX12_ready_2 (k := ?_)
  refine ev_istore_n (M := T12_ready) (pc := 3) [(3, .inl (0)), (2, .inl ((-1))), (0, .inr (.inr (some (12, 0)))), (1, .inl (l1))] dX12_ready_3 (k := ?_)
  refine ev_lv [2, 3, 1, 0] [(0, .inr (.inr (some (12, 0)))), (1, .inl (l1)), (2, .inl ((-1))), (3, .inl (0))] (k := ?_)
  exact E12_ready_4 j_fu l1 (-1) 0 h _ H
-- X12_rings
abbrev T12_rings : JT := (RX12, cX12_rings, 4, none, false)
set_option maxRecDepth 100000 in
set_option maxHeartbeats 4000000 in
theorem C12_rings {l1 : Int} {l2 : Int} {l3 : Int} {h : JM} {res : JM} (H : F12_rings l1 l2 l3 h = some res) : Cn j_W1 3 0 0 yX12_rings cX12_rings 4 none [.inr (.inr (some (12, 0))), .inl (l1), .inl (l2), .inl (l3)] h none res := by
  refine Cn.by (own := RX12) (b := false) [(0, .inr (.inr (some (12, 0)))), (1, .inl (l1)), (2, .inl (l2)), (3, .inl (l3))] rfl (fun z => by cases z) (by decide +kernel) (K := ?_)
  unfold F12_rings at H
  refine ev_aload_n (M := T12_rings) (pc := 0) 0 dX12_rings_0 (k := ?_)
  refine ev_getR (M := T12_rings) (pc := 1) (t := 137) (x := some (137, 0)) fl_X12_107 dX12_rings_1 (hx := ry_12_37 _ _) (K := ?_)
  refine ev_iload_n (M := T12_rings) (pc := 4) 1 dX12_rings_4 (k := ?_)
  refine ev_iload_n (M := T12_rings) (pc := 5) 2 dX12_rings_5 (k := ?_)
  obtain ⟨⟨hi0, hi1⟩, H1⟩ := g_e H
  clear H
  obtain ⟨h1, eh1, H2⟩ := lt_e H1
  clear H1
  refine ev_iastore (M := T12_rings) (pc := 6) (k := 137) j_ok1 hi0 hi1 eh1 dX12_rings_6 (hc := ac_137) (hlen := ln_137 _ _) (K := ?_)
  refine ev_aload_n (M := T12_rings) (pc := 7) 0 dX12_rings_7 (k := ?_)
  refine ev_getR (M := T12_rings) (pc := 8) (t := 138) (x := some (138, 0)) fl_X12_110 dX12_rings_8 (hx := ry_12_38 _ _) (K := ?_)
  refine ev_iload_n (M := T12_rings) (pc := 11) 1 dX12_rings_11 (k := ?_)
  refine ev_iload_n (M := T12_rings) (pc := 12) 3 dX12_rings_12 (k := ?_)
  obtain ⟨⟨hi0, hi1⟩, H3⟩ := g_e H2
  clear H2
  obtain ⟨h2, eh2, H4⟩ := lt_e H3
  clear H3
  refine ev_iastore (M := T12_rings) (pc := 13) (k := 138) j_ok1 hi0 hi1 eh2 dX12_rings_13 (hc := ac_138) (hlen := ln_138 _ _) (K := ?_)
  refine ev_aload_n (M := T12_rings) (pc := 14) 0 dX12_rings_14 (k := ?_)
  refine ev_iload_n (M := T12_rings) (pc := 15) 1 dX12_rings_15 (k := ?_)
  refine ev_iconst (M := T12_rings) (pc := 16) dX12_rings_16 (k := ?_)
  obtain ⟨h3, hq, H5⟩ := bd_e H4
  clear H4
  refine ev_callV (M := T12_rings) (pc := 17) (mc := 0) (ms := 0) (st := []) (C12_becomes hq) md_X12_becomes im_X12_becomes se_X12_becomes ml_X12_361 dX12_rings_17 _ (by decide) (K := ?_)
  refine ev_aload_n (M := T12_rings) (pc := 20) 0 dX12_rings_20 (k := ?_)
  refine ev_iload_n (M := T12_rings) (pc := 21) 1 dX12_rings_21 (k := ?_)
  obtain ⟨h4, hq, H6⟩ := bd_e H5
  clear H5
  refine ev_callV (M := T12_rings) (pc := 22) (mc := 0) (ms := 0) (st := []) (C12_acm hq) md_X12_acm im_X12_acm se_X12_acm ml_X12_364 dX12_rings_22 _ (by decide) (K := ?_)
  cases H6
  exact ev_return (M := T12_rings) (pc := 25) dX12_rings_25
-- X12_toGroup
abbrev T12_toGroup : JT := (RX12, cX12_toGroup, 5, none, false)
set_option maxRecDepth 100000 in
set_option maxHeartbeats 4000000 in
theorem E12_toGroup_29 (l1 : Int) (l2 : Int) (l3 : Int) (s0 : Int) (h : JM) (res : JM) (H : F12_toGroup_29 l1 l2 l3 s0 h = some res) : Ev j_W1 4 0 0 T12_toGroup 29 [(0, .inr (.inr (some (12, 0)))), (1, .inl (l1)), (2, .inl (l2)), (3, .inl (l3))] [.inl (s0)] h none res := by
  unfold F12_toGroup_29 at H
  refine ev_istore (M := T12_toGroup) (pc := 29) [(4, .inl (s0)), (0, .inr (.inr (some (12, 0)))), (1, .inl (l1)), (2, .inl (l2)), (3, .inl (l3))] dX12_toGroup_29 (k := ?_)
  refine ev_iload (M := T12_toGroup) (pc := 31) 0 dX12_toGroup_31 (k := ?_)
  refine ev_iconst (M := T12_toGroup) (pc := 33) dX12_toGroup_33 (k := ?_)
  refine ev_icmpeq (M := T12_toGroup) (pc := 34) 56 dX12_toGroup_34 (kt := fun hc => ?_) (kf := fun hc => ?_)
  · replace H := if_pe hc H
    refine ev_aload_n (M := T12_toGroup) (pc := 56) 1 dX12_toGroup_56 (k := ?_)
    refine ev_getR (M := T12_toGroup) (pc := 57) (t := 153) (x := some (153, 0)) fl_X12_155 dX12_toGroup_57 (hx := ry_12_53 _ _) (K := ?_)
    refine ev_iload_n (M := T12_toGroup) (pc := 60) 4 dX12_toGroup_60 (k := ?_)
    obtain ⟨⟨hi0, hi1⟩, H1⟩ := g_e H
    clear H
    refine ev_iaload (M := T12_toGroup) (pc := 61) (k := 153) hi0 hi1 dX12_toGroup_61 (hc := ac_153) (hlen := ln_153 _ _) (K := ?_)
    refine ev_aload_n (M := T12_toGroup) (pc := 62) 1 dX12_toGroup_62 (k := ?_)
    refine ev_getR (M := T12_toGroup) (pc := 63) (t := 151) (x := some (151, 0)) fl_X12_149 dX12_toGroup_63 (hx := ry_12_51 _ _) (K := ?_)
    refine ev_iload_n (M := T12_toGroup) (pc := 66) 4 dX12_toGroup_66 (k := ?_)
    obtain ⟨⟨hi0, hi1⟩, H2⟩ := g_e H1
    clear H1
    refine ev_iaload (M := T12_toGroup) (pc := 67) (k := 151) hi0 hi1 dX12_toGroup_67 (hc := ac_151) (hlen := ln_151 _ _) (K := ?_)
    refine ev_icmpge (M := T12_toGroup) (pc := 68) 118 dX12_toGroup_68 (kt := fun hc => ?_) (kf := fun hc => ?_)
    · replace H2 := if_pe hc H2
      refine ev_aload_n (M := T12_toGroup) (pc := 118) 1 dX12_toGroup_118 (k := ?_)
      refine ev_iload_n (M := T12_toGroup) (pc := 119) 2 dX12_toGroup_119 (k := ?_)
      refine ev_iconst (M := T12_toGroup) (pc := 120) dX12_toGroup_120 (k := ?_)
      refine ev_iconst (M := T12_toGroup) (pc := 121) dX12_toGroup_121 (k := ?_)
      obtain ⟨h1, hq, H3⟩ := bd_e H2
      clear H2
      refine ev_callV (M := T12_toGroup) (pc := 122) (mc := 0) (ms := 0) (st := []) (C12_over hq) md_X12_over im_X12_over se_X12_over ml_X12_323 dX12_toGroup_122 _ (by decide) (K := ?_)
      cases H3
      exact ev_return (M := T12_toGroup) (pc := 125) dX12_toGroup_125
    · replace H2 := if_ne hc H2
      refine ev_aload_n (M := T12_toGroup) (pc := 71) 1 dX12_toGroup_71 (k := ?_)
      refine ev_getR (M := T12_toGroup) (pc := 72) (t := 152) (x := some (152, 0)) fl_X12_152 dX12_toGroup_72 (hx := ry_12_52 _ _) (K := ?_)
      refine ev_bipush (M := T12_toGroup) (pc := 75) dX12_toGroup_75 (k := ?_)
      refine ev_iload_n (M := T12_toGroup) (pc := 77) 4 dX12_toGroup_77 (k := ?_)
      refine ev_imul (M := T12_toGroup) (pc := 78) dX12_toGroup_78 (k := ?_)
      refine ev_aload_n (M := T12_toGroup) (pc := 79) 1 dX12_toGroup_79 (k := ?_)
      refine ev_getR (M := T12_toGroup) (pc := 80) (t := 153) (x := some (153, 0)) fl_X12_155 dX12_toGroup_80 (hx := ry_12_53 _ _) (K := ?_)
      refine ev_iload_n (M := T12_toGroup) (pc := 83) 4 dX12_toGroup_83 (k := ?_)
      refine ev_dup2 (M := T12_toGroup) (pc := 84) dX12_toGroup_84 (k := ?_)
      obtain ⟨⟨hi0, hi1⟩, H3⟩ := g_e H2
      clear H2
      refine ev_iaload (M := T12_toGroup) (pc := 85) (k := 153) hi0 hi1 dX12_toGroup_85 (hc := ac_153) (hlen := ln_153 _ _) (K := ?_)
      refine ev_dup_x2 (M := T12_toGroup) (pc := 86) dX12_toGroup_86 (k := ?_)
      refine ev_iconst (M := T12_toGroup) (pc := 87) dX12_toGroup_87 (k := ?_)
      refine ev_iadd (M := T12_toGroup) (pc := 88) dX12_toGroup_88 (k := ?_)
      obtain ⟨⟨hi0, hi1⟩, H4⟩ := g_e H3
      clear H3
      obtain ⟨h2, eh2, H5⟩ := lt_e H4
      clear H4
      refine ev_iastore (M := T12_toGroup) (pc := 89) (k := 153) j_ok1 hi0 hi1 eh2 dX12_toGroup_89 (hc := ac_153) (hlen := ln_153 _ _) (K := ?_)
      refine ev_iadd (M := T12_toGroup) (pc := 90) dX12_toGroup_90 (k := ?_)
      refine ev_iload_n (M := T12_toGroup) (pc := 91) 2 dX12_toGroup_91 (k := ?_)
      obtain ⟨⟨hi0, hi1⟩, H6⟩ := g_e H5
      clear H5
      obtain ⟨h3, eh3, H7⟩ := lt_e H6
      clear H6
      refine ev_iastore (M := T12_toGroup) (pc := 92) (k := 152) j_ok1 hi0 hi1 eh3 dX12_toGroup_92 (hc := ac_152) (hlen := ln_152 _ _) (K := ?_)
      refine ev_aload_n (M := T12_toGroup) (pc := 93) 1 dX12_toGroup_93 (k := ?_)
      refine ev_getR (M := T12_toGroup) (pc := 94) (t := 137) (x := some (137, 0)) fl_X12_107 dX12_toGroup_94 (hx := ry_12_37 _ _) (K := ?_)
      refine ev_iload_n (M := T12_toGroup) (pc := 97) 2 dX12_toGroup_97 (k := ?_)
      refine ev_sipush (M := T12_toGroup) (pc := 98) dX12_toGroup_98 (k := ?_)
      refine ev_iload_n (M := T12_toGroup) (pc := 101) 3 dX12_toGroup_101 (k := ?_)
      refine ev_iadd (M := T12_toGroup) (pc := 102) dX12_toGroup_102 (k := ?_)
      obtain ⟨⟨hi0, hi1⟩, H8⟩ := g_e H7
      clear H7
      obtain ⟨h4, eh4, H9⟩ := lt_e H8
      clear H8
      refine ev_iastore (M := T12_toGroup) (pc := 103) (k := 137) j_ok1 hi0 hi1 eh4 dX12_toGroup_103 (hc := ac_137) (hlen := ln_137 _ _) (K := ?_)
      refine ev_aload_n (M := T12_toGroup) (pc := 104) 1 dX12_toGroup_104 (k := ?_)
      refine ev_iload_n (M := T12_toGroup) (pc := 105) 2 dX12_toGroup_105 (k := ?_)
      refine ev_iconst (M := T12_toGroup) (pc := 106) dX12_toGroup_106 (k := ?_)
      obtain ⟨h5, hq, H10⟩ := bd_e H9
      clear H9
      refine ev_callV (M := T12_toGroup) (pc := 107) (mc := 0) (ms := 0) (st := []) (C12_becomes hq) md_X12_becomes im_X12_becomes se_X12_becomes ml_X12_361 dX12_toGroup_107 _ (by decide) (K := ?_)
      refine ev_aload_n (M := T12_toGroup) (pc := 110) 1 dX12_toGroup_110 (k := ?_)
      refine ev_iload_n (M := T12_toGroup) (pc := 111) 2 dX12_toGroup_111 (k := ?_)
      obtain ⟨h6, hq, H11⟩ := bd_e H10
      clear H10
      refine ev_callV (M := T12_toGroup) (pc := 112) (mc := 0) (ms := 0) (st := []) (C12_acm hq) md_X12_acm im_X12_acm se_X12_acm ml_X12_364 dX12_toGroup_112 _ (by decide) (K := ?_)
      refine ev_goto (M := T12_toGroup) (pc := 115) 125 dX12_toGroup_115 (k := ?_)
      cases H11
      exact ev_return (M := T12_toGroup) (pc := 125) dX12_toGroup_125
  · replace H := if_ne hc H
    refine ev_aload_n (M := T12_toGroup) (pc := 37) 1 dX12_toGroup_37 (k := ?_)
    refine ev_getR (M := T12_toGroup) (pc := 38) (t := 121) (x := some (121, 0)) fl_X12_62 dX12_toGroup_38 (hx := ry_12_21 _ _) (K := ?_)
    refine ev_iload (M := T12_toGroup) (pc := 41) 0 dX12_toGroup_41 (k := ?_)
    refine ev_iload_n (M := T12_toGroup) (pc := 43) 2 dX12_toGroup_43 (k := ?_)
    obtain ⟨⟨hi0, hi1⟩, H1⟩ := g_e H
    clear H
    obtain ⟨h7, eh7, H2⟩ := lt_e H1
    clear H1
    refine ev_iastore (M := T12_toGroup) (pc := 44) (k := 121) j_ok1 hi0 hi1 eh7 dX12_toGroup_44 (hc := ac_121) (hlen := ln_121 _ _) (K := ?_)
    refine ev_aload_n (M := T12_toGroup) (pc := 45) 1 dX12_toGroup_45 (k := ?_)
    refine ev_iload_n (M := T12_toGroup) (pc := 46) 2 dX12_toGroup_46 (k := ?_)
    refine ev_iload (M := T12_toGroup) (pc := 47) 0 dX12_toGroup_47 (k := ?_)
    refine ev_iload_n (M := T12_toGroup) (pc := 49) 3 dX12_toGroup_49 (k := ?_)
    obtain ⟨h8, hq, H3⟩ := bd_e H2
    clear H2
    refine ev_callV (M := T12_toGroup) (pc := 50) (mc := 0) (ms := 0) (st := []) (C12_rings hq) md_X12_rings im_X12_rings se_X12_rings ml_X12_373 dX12_toGroup_50 _ (by decide) (K := ?_)
    refine ev_goto (M := T12_toGroup) (pc := 53) 125 dX12_toGroup_53 (k := ?_)
    cases H3
    exact ev_return (M := T12_toGroup) (pc := 125) dX12_toGroup_125
set_option maxRecDepth 100000 in
set_option maxHeartbeats 4000000 in
theorem C12_toGroup {l1 : Int} {l2 : Int} {h : JM} {res : JM} (H : F12_toGroup l1 l2 h = some res) : Cn j_W1 4 0 0 yX12_toGroup cX12_toGroup 5 none [.inr (.inr (some (12, 0))), .inl (l1), .inl (l2)] h none res := by
  refine Cn.by (own := RX12) (b := false) [(0, .inr (.inr (some (12, 0)))), (1, .inl (l1)), (2, .inl (l2))] rfl (fun z => by cases z) (by decide +kernel) (K := ?_)
  unfold F12_toGroup at H
  refine ev_iconst (M := T12_toGroup) (pc := 0) dX12_toGroup_0 (k := ?_)
  refine ev_aload_n (M := T12_toGroup) (pc := 1) 0 dX12_toGroup_1 (k := ?_)
  refine ev_getR (M := T12_toGroup) (pc := 2) (t := 135) (x := some (135, 0)) fl_X12_101 dX12_toGroup_2 (hx := ry_12_35 _ _) (K := ?_)
  refine ev_iload_n (M := T12_toGroup) (pc := 5) 1 dX12_toGroup_5 (k := ?_)
  obtain ⟨⟨hi0, hi1⟩, H1⟩ := g_e H
  clear H
  refine ev_iaload (M := T12_toGroup) (pc := 6) (k := 135) hi0 hi1 dX12_toGroup_6 (hc := ac_135) (hlen := ln_135 _ _) (K := ?_)
  refine ev_imul (M := T12_toGroup) (pc := 7) dX12_toGroup_7 (k := ?_)
  refine ev_iload_n (M := T12_toGroup) (pc := 8) 2 dX12_toGroup_8 (k := ?_)
  refine ev_iadd (M := T12_toGroup) (pc := 9) dX12_toGroup_9 (k := ?_)
  obtain ⟨x9, ex9, H2⟩ := lt_e H1
  clear H1
  refine ev_topI ex9 ?_
  refine ev_istore_n (M := T12_toGroup) (pc := 10) [(3, .inl (x9)), (0, .inr (.inr (some (12, 0)))), (1, .inl (l1)), (2, .inl (l2))] dX12_toGroup_10 (k := ?_)
  refine ev_aload_n (M := T12_toGroup) (pc := 11) 1 dX12_toGroup_11 (k := ?_)
  refine ev_getR (M := T12_toGroup) (pc := 12) (t := 153) (x := some (153, 0)) fl_X12_155 dX12_toGroup_12 (hx := ry_12_53 _ _) (K := ?_)
  refine ev_iload_n (M := T12_toGroup) (pc := 15) 0 dX12_toGroup_15 (k := ?_)
  obtain ⟨⟨hi0, hi1⟩, H3⟩ := g_e H2
  clear H2
  refine ev_iaload (M := T12_toGroup) (pc := 16) (k := 153) hi0 hi1 dX12_toGroup_16 (hc := ac_153) (hlen := ln_153 _ _) (K := ?_)
  refine ev_ifne (M := T12_toGroup) (pc := 17) 28 dX12_toGroup_17 (kt := fun hc => ?_) (kf := fun hc => ?_)
  · replace H3 := if_ne hc H3
    refine ev_iconst (M := T12_toGroup) (pc := 28) dX12_toGroup_28 (k := ?_)
    refine ev_lv [1, 2, 3, 0] [(0, .inr (.inr (some (12, 0)))), (1, .inl (l1)), (2, .inl (l2)), (3, .inl (x9))] (k := ?_)
    exact E12_toGroup_29 l1 l2 x9 (-1) h _ H3
  · replace H3 := if_pe hc H3
    refine ev_aload_n (M := T12_toGroup) (pc := 20) 1 dX12_toGroup_20 (k := ?_)
    refine ev_iload_n (M := T12_toGroup) (pc := 21) 0 dX12_toGroup_21 (k := ?_)
    obtain ⟨q10, hq, H4⟩ := bd_e H3
    clear H3
    refine ev_callV (M := T12_toGroup) (pc := 22) (mc := 0) (ms := 0) (st := []) (C12_ready hq) md_X12_ready im_X12_ready se_X12_ready ml_X12_407 dX12_toGroup_22 _ (by decide) (K := ?_)
    refine ev_goto (M := T12_toGroup) (pc := 25) 29 dX12_toGroup_25 (k := ?_)
    refine ev_lv [1, 2, 3, 0] [(0, .inr (.inr (some (12, 0)))), (1, .inl (l1)), (2, .inl (l2)), (3, .inl (x9))] (k := ?_)
    exact E12_toGroup_29 l1 l2 x9 q10.1 q10.2 _ H4
-- X12_goesOn
abbrev T12_goesOn : JT := (RX12, cX12_goesOn, 4, none, false)
set_option maxRecDepth 100000 in
set_option maxHeartbeats 4000000 in
theorem E12_goesOn_49b (kp : Int → Int → JM → Option JM) (dk : Nat) (hB : 40 ≤ dk) (hkp : ∀ (c row : Int) (h res : JM), kp c row h = some res → Cn j_W1 dk 0 0 yX12_places cX12_places 4 none [.inr (.inr (some (12, 0))), .inl c, .inl row] h none res) (k49 : Int → Int → Int → JM → Option JM) (hk49 : ∀ (l1 : Int) (l2 : Int) (l3 : Int) (h : JM) (res : JM), k49 l1 l2 l3 h = some res → Ev j_W1 (dk + 2) 0 0 T12_goesOn 49 [(0, .inr (.inr (some (12, 0)))), (1, .inl (l1)), (2, .inl (l2)), (3, .inl (l3))] [] h none res) (l1 : Int) (l2 : Int) (l3 : Int) (h : JM) (res : JM) (H : F12_goesOn_49b kp k49 l1 l2 l3 h = some res) : Ev j_W1 (dk + 2) 0 0 T12_goesOn 49 [(0, .inr (.inr (some (12, 0)))), (1, .inl (l1)), (2, .inl (l2)), (3, .inl (l3))] [] h none res := by
  unfold F12_goesOn_49b at H
  refine ev_iload_n (M := T12_goesOn) (pc := 49) 3 dX12_goesOn_49 (k := ?_)
  refine ev_aload_n (M := T12_goesOn) (pc := 50) 0 dX12_goesOn_50 (k := ?_)
  refine ev_getR (M := T12_goesOn) (pc := 51) (t := 129) (x := some (129, 0)) fl_X12_86 dX12_goesOn_51 (hx := ry_12_29 _ _) (K := ?_)
  refine ev_iload_n (M := T12_goesOn) (pc := 54) 2 dX12_goesOn_54 (k := ?_)
  obtain ⟨⟨hi0, hi1⟩, H1⟩ := g_e H
  clear H
  refine ev_iaload (M := T12_goesOn) (pc := 55) (k := 129) hi0 hi1 dX12_goesOn_55 (hc := ac_129) (hlen := ln_129 _ _) (K := ?_)
  refine ev_icmpge (M := T12_goesOn) (pc := 56) 87 dX12_goesOn_56 (kt := fun hc => ?_) (kf := fun hc => ?_)
  · replace H1 := if_pe hc H1
    refine ev_aload_n (M := T12_goesOn) (pc := 87) 0 dX12_goesOn_87 (k := ?_)
    refine ev_iload_n (M := T12_goesOn) (pc := 88) 1 dX12_goesOn_88 (k := ?_)
    obtain ⟨q1, hq, H2⟩ := bd_e H1
    clear H1
    refine ev_callV (M := T12_goesOn) (pc := 89) (mc := 0) (ms := 0) (st := []) (C12_analysis hq) md_X12_analysis im_X12_analysis se_X12_analysis ml_X12_327 dX12_goesOn_89 _ (by omega) (K := ?_)
    refine ev_istore_n (M := T12_goesOn) (pc := 92) [(3, .inl (q1.1)), (0, .inr (.inr (some (12, 0)))), (1, .inl (l1)), (2, .inl (l2))] dX12_goesOn_92 (k := ?_)
    refine ev_iload_n (M := T12_goesOn) (pc := 93) 0 dX12_goesOn_93 (k := ?_)
    refine ev_ifge (M := T12_goesOn) (pc := 94) 107 dX12_goesOn_94 (kt := fun hc => ?_) (kf := fun hc => ?_)
    · replace H2 := if_pe hc H2
      refine ev_aload_n (M := T12_goesOn) (pc := 107) 1 dX12_goesOn_107 (k := ?_)
      refine ev_iload_n (M := T12_goesOn) (pc := 108) 2 dX12_goesOn_108 (k := ?_)
      refine ev_iload_n (M := T12_goesOn) (pc := 109) 0 dX12_goesOn_109 (k := ?_)
      obtain ⟨h2, hq, H3⟩ := bd_e H2
      clear H2
      refine ev_callV (M := T12_goesOn) (pc := 110) (mc := 0) (ms := 0) (st := []) (hkp _ _ _ _ hq) md_X12_places im_X12_places se_X12_places ml_X12_331 dX12_goesOn_110 _ (by omega) (K := ?_)
      cases H3
      exact ev_return (M := T12_goesOn) (pc := 113) dX12_goesOn_113
    · replace H2 := if_ne hc H2
      refine ev_aload_n (M := T12_goesOn) (pc := 97) 1 dX12_goesOn_97 (k := ?_)
      refine ev_iload_n (M := T12_goesOn) (pc := 98) 2 dX12_goesOn_98 (k := ?_)
      refine ev_iconst (M := T12_goesOn) (pc := 99) dX12_goesOn_99 (k := ?_)
      refine ev_iconst (M := T12_goesOn) (pc := 100) dX12_goesOn_100 (k := ?_)
      obtain ⟨h3, hq, H3⟩ := bd_e H2
      clear H2
      refine ev_callV (M := T12_goesOn) (pc := 101) (mc := 0) (ms := 0) (st := []) (C12_over hq) md_X12_over im_X12_over se_X12_over ml_X12_323 dX12_goesOn_101 _ (by omega) (K := ?_)
      refine ev_goto (M := T12_goesOn) (pc := 104) 113 dX12_goesOn_104 (k := ?_)
      cases H3
      exact ev_return (M := T12_goesOn) (pc := 113) dX12_goesOn_113
  · replace H1 := if_ne hc H1
    refine ev_aload_n (M := T12_goesOn) (pc := 59) 0 dX12_goesOn_59 (k := ?_)
    refine ev_getR (M := T12_goesOn) (pc := 60) (t := 139) (x := some (139, 0)) fl_X12_113 dX12_goesOn_60 (hx := ry_12_39 _ _) (K := ?_)
    refine ev_bipush (M := T12_goesOn) (pc := 63) dX12_goesOn_63 (k := ?_)
    refine ev_iload_n (M := T12_goesOn) (pc := 65) 1 dX12_goesOn_65 (k := ?_)
    refine ev_imul (M := T12_goesOn) (pc := 66) dX12_goesOn_66 (k := ?_)
    refine ev_iload_n (M := T12_goesOn) (pc := 67) 3 dX12_goesOn_67 (k := ?_)
    refine ev_iadd (M := T12_goesOn) (pc := 68) dX12_goesOn_68 (k := ?_)
    refine ev_aload_n (M := T12_goesOn) (pc := 69) 0 dX12_goesOn_69 (k := ?_)
    refine ev_getR (M := T12_goesOn) (pc := 70) (t := 128) (x := some (128, 0)) fl_X12_83 dX12_goesOn_70 (hx := ry_12_28 _ _) (K := ?_)
    refine ev_bipush (M := T12_goesOn) (pc := 73) dX12_goesOn_73 (k := ?_)
    refine ev_iload_n (M := T12_goesOn) (pc := 75) 2 dX12_goesOn_75 (k := ?_)
    refine ev_imul (M := T12_goesOn) (pc := 76) dX12_goesOn_76 (k := ?_)
    refine ev_iload_n (M := T12_goesOn) (pc := 77) 3 dX12_goesOn_77 (k := ?_)
    refine ev_iadd (M := T12_goesOn) (pc := 78) dX12_goesOn_78 (k := ?_)
    obtain ⟨⟨hi0, hi1⟩, H2⟩ := g_e H1
    clear H1
    refine ev_iaload (M := T12_goesOn) (pc := 79) (k := 128) hi0 hi1 dX12_goesOn_79 (hc := ac_128) (hlen := ln_128 _ _) (K := ?_)
    obtain ⟨⟨hi0, hi1⟩, H3⟩ := g_e H2
    clear H2
    obtain ⟨h4, eh4, H4⟩ := lt_e H3
    clear H3
    refine ev_iastore (M := T12_goesOn) (pc := 80) (k := 139) j_ok1 hi0 hi1 eh4 dX12_goesOn_80 (hc := ac_139) (hlen := ln_139 _ _) (K := ?_)
    refine ev_iinc (M := T12_goesOn) (pc := 81) 3 [(3, .inl (w32 (l3 + 1))), (0, .inr (.inr (some (12, 0)))), (1, .inl (l1)), (2, .inl (l2))] dX12_goesOn_81 (k := ?_)
    refine ev_goto (M := T12_goesOn) (pc := 84) 49 dX12_goesOn_84 (k := ?_)
    refine ev_lv [1, 2, 3, 0] [(0, .inr (.inr (some (12, 0)))), (1, .inl (l1)), (2, .inl (l2)), (3, .inl (w32 (l3 + 1)))] (k := ?_)
    exact hk49 l1 l2 (w32 (l3 + 1)) h4 _ H4
theorem E12_goesOn_49 (kp : Int → Int → JM → Option JM) (dk : Nat) (hB : 40 ≤ dk) (hkp : ∀ (c row : Int) (h res : JM), kp c row h = some res → Cn j_W1 dk 0 0 yX12_places cX12_places 4 none [.inr (.inr (some (12, 0))), .inl c, .inl row] h none res) (n : Nat) : ∀ (l1 : Int) (l2 : Int) (l3 : Int) (h : JM) (res : JM), F12_goesOn_49 kp n l1 l2 l3 h = some res → Ev j_W1 (dk + 2) 0 0 T12_goesOn 49 [(0, .inr (.inr (some (12, 0)))), (1, .inl (l1)), (2, .inl (l2)), (3, .inl (l3))] [] h none res := by
  induction n with
  | zero =>
    intro l1 l2 l3 h res H
    cases H
  | succ n ih =>
    intro l1 l2 l3 h res H
    exact E12_goesOn_49b kp dk hB hkp (F12_goesOn_49 kp n) ih l1 l2 l3 h res H
set_option maxRecDepth 100000 in
set_option maxHeartbeats 4000000 in
theorem C12_goesOn (kp : Int → Int → JM → Option JM) (dk : Nat) (hB : 40 ≤ dk) (hkp : ∀ (c row : Int) (h res : JM), kp c row h = some res → Cn j_W1 dk 0 0 yX12_places cX12_places 4 none [.inr (.inr (some (12, 0))), .inl c, .inl row] h none res) {l1 : Int} {l2 : Int} {h : JM} {res : JM} (H : F12_goesOn kp l1 l2 h = some res) : Cn j_W1 (dk + 2) 0 0 yX12_goesOn cX12_goesOn 4 none [.inr (.inr (some (12, 0))), .inl (l1), .inl (l2)] h none res := by
  refine Cn.by (own := RX12) (b := false) [(0, .inr (.inr (some (12, 0)))), (1, .inl (l1)), (2, .inl (l2))] rfl (fun z => by cases z) (by decide +kernel) (K := ?_)
  unfold F12_goesOn at H
  refine ev_aload_n (M := T12_goesOn) (pc := 0) 0 dX12_goesOn_0 (k := ?_)
  refine ev_getR (M := T12_goesOn) (pc := 1) (t := 137) (x := some (137, 0)) fl_X12_107 dX12_goesOn_1 (hx := ry_12_37 _ _) (K := ?_)
  refine ev_iload_n (M := T12_goesOn) (pc := 4) 1 dX12_goesOn_4 (k := ?_)
  refine ev_iconst (M := T12_goesOn) (pc := 5) dX12_goesOn_5 (k := ?_)
  obtain ⟨⟨hi0, hi1⟩, H1⟩ := g_e H
  clear H
  obtain ⟨h5, eh5, H2⟩ := lt_e H1
  clear H1
  refine ev_iastore (M := T12_goesOn) (pc := 6) (k := 137) j_ok1 hi0 hi1 eh5 dX12_goesOn_6 (hc := ac_137) (hlen := ln_137 _ _) (K := ?_)
  refine ev_aload_n (M := T12_goesOn) (pc := 7) 0 dX12_goesOn_7 (k := ?_)
  refine ev_getR (M := T12_goesOn) (pc := 8) (t := 144) (x := some (144, 0)) fl_X12_128 dX12_goesOn_8 (hx := ry_12_44 _ _) (K := ?_)
  refine ev_iload_n (M := T12_goesOn) (pc := 11) 1 dX12_goesOn_11 (k := ?_)
  refine ev_dup2 (M := T12_goesOn) (pc := 12) dX12_goesOn_12 (k := ?_)
  obtain ⟨⟨hi0, hi1⟩, H3⟩ := g_e H2
  clear H2
  refine ev_iaload (M := T12_goesOn) (pc := 13) (k := 144) hi0 hi1 dX12_goesOn_13 (hc := ac_144) (hlen := ln_144 _ _) (K := ?_)
  refine ev_iconst (M := T12_goesOn) (pc := 14) dX12_goesOn_14 (k := ?_)
  refine ev_iadd (M := T12_goesOn) (pc := 15) dX12_goesOn_15 (k := ?_)
  obtain ⟨⟨hi0, hi1⟩, H4⟩ := g_e H3
  clear H3
  obtain ⟨h6, eh6, H5⟩ := lt_e H4
  clear H4
  refine ev_iastore (M := T12_goesOn) (pc := 16) (k := 144) j_ok1 hi0 hi1 eh6 dX12_goesOn_16 (hc := ac_144) (hlen := ln_144 _ _) (K := ?_)
  refine ev_aload_n (M := T12_goesOn) (pc := 17) 0 dX12_goesOn_17 (k := ?_)
  refine ev_getR (M := T12_goesOn) (pc := 18) (t := 144) (x := some (144, 0)) fl_X12_128 dX12_goesOn_18 (hx := ry_12_44 _ _) (K := ?_)
  refine ev_iload_n (M := T12_goesOn) (pc := 21) 1 dX12_goesOn_21 (k := ?_)
  obtain ⟨⟨hi0, hi1⟩, H6⟩ := g_e H5
  clear H5
  refine ev_iaload (M := T12_goesOn) (pc := 22) (k := 144) hi0 hi1 dX12_goesOn_22 (hc := ac_144) (hlen := ln_144 _ _) (K := ?_)
  refine ev_iconst (M := T12_goesOn) (pc := 23) dX12_goesOn_23 (k := ?_)
  refine ev_icmple (M := T12_goesOn) (pc := 24) 35 dX12_goesOn_24 (kt := fun hc => ?_) (kf := fun hc => ?_)
  · replace H6 := if_pe hc H6
    refine ev_aload_n (M := T12_goesOn) (pc := 35) 0 dX12_goesOn_35 (k := ?_)
    refine ev_getR (M := T12_goesOn) (pc := 36) (t := 140) (x := some (140, 0)) fl_X12_116 dX12_goesOn_36 (hx := ry_12_40 _ _) (K := ?_)
    refine ev_iload_n (M := T12_goesOn) (pc := 39) 1 dX12_goesOn_39 (k := ?_)
    refine ev_aload_n (M := T12_goesOn) (pc := 40) 0 dX12_goesOn_40 (k := ?_)
    refine ev_getR (M := T12_goesOn) (pc := 41) (t := 129) (x := some (129, 0)) fl_X12_86 dX12_goesOn_41 (hx := ry_12_29 _ _) (K := ?_)
    refine ev_iload_n (M := T12_goesOn) (pc := 44) 2 dX12_goesOn_44 (k := ?_)
    obtain ⟨⟨hi0, hi1⟩, H7⟩ := g_e H6
    clear H6
    refine ev_iaload (M := T12_goesOn) (pc := 45) (k := 129) hi0 hi1 dX12_goesOn_45 (hc := ac_129) (hlen := ln_129 _ _) (K := ?_)
    obtain ⟨⟨hi0, hi1⟩, H8⟩ := g_e H7
    clear H7
    obtain ⟨h7, eh7, H9⟩ := lt_e H8
    clear H8
    refine ev_iastore (M := T12_goesOn) (pc := 46) (k := 140) j_ok1 hi0 hi1 eh7 dX12_goesOn_46 (hc := ac_140) (hlen := ln_140 _ _) (K := ?_)
    refine ev_iconst (M := T12_goesOn) (pc := 47) dX12_goesOn_47 (k := ?_)
    refine ev_istore_n (M := T12_goesOn) (pc := 48) [(3, .inl (0)), (0, .inr (.inr (some (12, 0)))), (1, .inl (l1)), (2, .inl (l2))] dX12_goesOn_48 (k := ?_)
    refine ev_lv [1, 2, 3, 0] [(0, .inr (.inr (some (12, 0)))), (1, .inl (l1)), (2, .inl (l2)), (3, .inl (0))] (k := ?_)
    exact E12_goesOn_49 kp dk hB hkp j_fu l1 l2 0 h7 _ H9
  · replace H6 := if_ne hc H6
    refine ev_aload_n (M := T12_goesOn) (pc := 27) 0 dX12_goesOn_27 (k := ?_)
    refine ev_iload_n (M := T12_goesOn) (pc := 28) 1 dX12_goesOn_28 (k := ?_)
    refine ev_iconst (M := T12_goesOn) (pc := 29) dX12_goesOn_29 (k := ?_)
    refine ev_iconst (M := T12_goesOn) (pc := 30) dX12_goesOn_30 (k := ?_)
    obtain ⟨h8, hq, H7⟩ := bd_e H6
    clear H6
    refine ev_callV (M := T12_goesOn) (pc := 31) (mc := 0) (ms := 0) (st := []) (C12_over hq) md_X12_over im_X12_over se_X12_over ml_X12_323 dX12_goesOn_31 _ (by omega) (K := ?_)
    cases H7
    exact ev_return (M := T12_goesOn) (pc := 34) dX12_goesOn_34
-- X12_toLine
abbrev T12_toLine : JT := (RX12, cX12_toLine, 4, none, false)
set_option maxRecDepth 100000 in
set_option maxHeartbeats 4000000 in
theorem E12_toLine_53 (kp : Int → Int → JM → Option JM) (dk : Nat) (hB : 40 ≤ dk) (hkp : ∀ (c row : Int) (h res : JM), kp c row h = some res → Cn j_W1 dk 0 0 yX12_places cX12_places 4 none [.inr (.inr (some (12, 0))), .inl c, .inl row] h none res) (l1 : Int) (l2 : Int) (s0 : Int) (h : JM) (res : JM) (H : F12_toLine_53 kp l1 l2 s0 h = some res) : Ev j_W1 (dk + 4) 0 0 T12_toLine 53 [(0, .inr (.inr (some (12, 0)))), (1, .inl (l1)), (2, .inl (l2))] [.inl (s0)] h none res := by
  unfold F12_toLine_53 at H
  refine ev_istore_n (M := T12_toLine) (pc := 53) [(3, .inl (s0)), (0, .inr (.inr (some (12, 0)))), (1, .inl (l1)), (2, .inl (l2))] dX12_toLine_53 (k := ?_)
  refine ev_aload_n (M := T12_toLine) (pc := 54) 1 dX12_toLine_54 (k := ?_)
  refine ev_getR (M := T12_toLine) (pc := 55) (t := 127) (x := some (127, 0)) fl_X12_80 dX12_toLine_55 (hx := ry_12_27 _ _) (K := ?_)
  refine ev_iconst (M := T12_toLine) (pc := 58) dX12_toLine_58 (k := ?_)
  refine ev_iload_n (M := T12_toLine) (pc := 59) 3 dX12_toLine_59 (k := ?_)
  refine ev_imul (M := T12_toLine) (pc := 60) dX12_toLine_60 (k := ?_)
  obtain ⟨⟨hi0, hi1⟩, H1⟩ := g_e H
  clear H
  refine ev_zaload (M := T12_toLine) (pc := 61) (k := 127) hi0 hi1 dX12_toLine_61 (hc := ac_127) (hlen := ln_127 _ _) (K := ?_)
  refine ev_ifeq (M := T12_toLine) (pc := 62) 76 dX12_toLine_62 (kt := fun hc => ?_) (kf := fun hc => ?_)
  · replace H1 := if_pe hc H1
    refine ev_aload_n (M := T12_toLine) (pc := 76) 1 dX12_toLine_76 (k := ?_)
    refine ev_getR (M := T12_toLine) (pc := 77) (t := 129) (x := some (129, 0)) fl_X12_86 dX12_toLine_77 (hx := ry_12_29 _ _) (K := ?_)
    refine ev_iconst (M := T12_toLine) (pc := 80) dX12_toLine_80 (k := ?_)
    refine ev_iload_n (M := T12_toLine) (pc := 81) 3 dX12_toLine_81 (k := ?_)
    refine ev_imul (M := T12_toLine) (pc := 82) dX12_toLine_82 (k := ?_)
    obtain ⟨⟨hi0, hi1⟩, H2⟩ := g_e H1
    clear H1
    refine ev_iaload (M := T12_toLine) (pc := 83) (k := 129) hi0 hi1 dX12_toLine_83 (hc := ac_129) (hlen := ln_129 _ _) (K := ?_)
    refine ev_ifle (M := T12_toLine) (pc := 84) 98 dX12_toLine_84 (kt := fun hc => ?_) (kf := fun hc => ?_)
    · replace H2 := if_pe hc H2
      refine ev_aload_n (M := T12_toLine) (pc := 98) 1 dX12_toLine_98 (k := ?_)
      refine ev_iload_n (M := T12_toLine) (pc := 99) 3 dX12_toLine_99 (k := ?_)
      obtain ⟨q1, hq, H3⟩ := bd_e H2
      clear H2
      refine ev_callV (M := T12_toLine) (pc := 100) (mc := 0) (ms := 0) (st := []) (C12_isFree hq) md_X12_isFree im_X12_isFree se_X12_isFree ml_X12_370 dX12_toLine_100 _ (by omega) (K := ?_)
      refine ev_ifeq (M := T12_toLine) (pc := 103) 123 dX12_toLine_103 (kt := fun hc => ?_) (kf := fun hc => ?_)
      · replace H3 := if_pe hc H3
        refine ev_iload_n (M := T12_toLine) (pc := 123) 0 dX12_toLine_123 (k := ?_)
        refine ev_ifeq (M := T12_toLine) (pc := 124) 144 dX12_toLine_124 (kt := fun hc => ?_) (kf := fun hc => ?_)
        · replace H3 := if_pe hc H3
          refine ev_aload_n (M := T12_toLine) (pc := 144) 1 dX12_toLine_144 (k := ?_)
          refine ev_getR (M := T12_toLine) (pc := 145) (t := 129) (x := some (129, 0)) fl_X12_86 dX12_toLine_145 (hx := ry_12_29 _ _) (K := ?_)
          refine ev_iconst (M := T12_toLine) (pc := 148) dX12_toLine_148 (k := ?_)
          refine ev_iload_n (M := T12_toLine) (pc := 149) 3 dX12_toLine_149 (k := ?_)
          refine ev_imul (M := T12_toLine) (pc := 150) dX12_toLine_150 (k := ?_)
          refine ev_iconst (M := T12_toLine) (pc := 151) dX12_toLine_151 (k := ?_)
          refine ev_iadd (M := T12_toLine) (pc := 152) dX12_toLine_152 (k := ?_)
          obtain ⟨⟨hi0, hi1⟩, H4⟩ := g_e H3
          clear H3
          refine ev_iaload (M := T12_toLine) (pc := 153) (k := 129) hi0 hi1 dX12_toLine_153 (hc := ac_129) (hlen := ln_129 _ _) (K := ?_)
          refine ev_ifle (M := T12_toLine) (pc := 154) 170 dX12_toLine_154 (kt := fun hc => ?_) (kf := fun hc => ?_)
          · replace H4 := if_pe hc H4
            refine ev_aload_n (M := T12_toLine) (pc := 170) 1 dX12_toLine_170 (k := ?_)
            refine ev_iload_n (M := T12_toLine) (pc := 171) 2 dX12_toLine_171 (k := ?_)
            refine ev_iconst (M := T12_toLine) (pc := 172) dX12_toLine_172 (k := ?_)
            refine ev_iconst (M := T12_toLine) (pc := 173) dX12_toLine_173 (k := ?_)
            obtain ⟨h2, hq, H5⟩ := bd_e H4
            clear H4
            refine ev_callV (M := T12_toLine) (pc := 174) (mc := 0) (ms := 0) (st := []) (C12_over hq) md_X12_over im_X12_over se_X12_over ml_X12_323 dX12_toLine_174 _ (by omega) (K := ?_)
            cases H5
            exact ev_return (M := T12_toLine) (pc := 177) dX12_toLine_177
          · replace H4 := if_ne hc H4
            refine ev_aload_n (M := T12_toLine) (pc := 157) 1 dX12_toLine_157 (k := ?_)
            refine ev_iload_n (M := T12_toLine) (pc := 158) 2 dX12_toLine_158 (k := ?_)
            refine ev_iconst (M := T12_toLine) (pc := 159) dX12_toLine_159 (k := ?_)
            refine ev_iload_n (M := T12_toLine) (pc := 160) 3 dX12_toLine_160 (k := ?_)
            refine ev_imul (M := T12_toLine) (pc := 161) dX12_toLine_161 (k := ?_)
            refine ev_iconst (M := T12_toLine) (pc := 162) dX12_toLine_162 (k := ?_)
            refine ev_iadd (M := T12_toLine) (pc := 163) dX12_toLine_163 (k := ?_)
            obtain ⟨h3, hq, H5⟩ := bd_e H4
            clear H4
            refine ev_callV (M := T12_toLine) (pc := 164) (mc := 0) (ms := 0) (st := []) (C12_goesOn kp dk hB hkp hq) md_X12_goesOn im_X12_goesOn se_X12_goesOn ml_X12_367 dX12_toLine_164 _ (by omega) (K := ?_)
            refine ev_goto (M := T12_toLine) (pc := 167) 177 dX12_toLine_167 (k := ?_)
            cases H5
            exact ev_return (M := T12_toLine) (pc := 177) dX12_toLine_177
        · replace H3 := if_ne hc H3
          refine ev_aload_n (M := T12_toLine) (pc := 127) 1 dX12_toLine_127 (k := ?_)
          refine ev_getR (M := T12_toLine) (pc := 128) (t := 120) (x := some (120, 0)) fl_X12_59 dX12_toLine_128 (hx := ry_12_20 _ _) (K := ?_)
          refine ev_iload_n (M := T12_toLine) (pc := 131) 3 dX12_toLine_131 (k := ?_)
          refine ev_iload_n (M := T12_toLine) (pc := 132) 2 dX12_toLine_132 (k := ?_)
          obtain ⟨⟨hi0, hi1⟩, H4⟩ := g_e H3
          clear H3
          obtain ⟨h4, eh4, H5⟩ := lt_e H4
          clear H4
          refine ev_iastore (M := T12_toLine) (pc := 133) (k := 120) j_ok1 hi0 hi1 eh4 dX12_toLine_133 (hc := ac_120) (hlen := ln_120 _ _) (K := ?_)
          refine ev_aload_n (M := T12_toLine) (pc := 134) 1 dX12_toLine_134 (k := ?_)
          refine ev_iload_n (M := T12_toLine) (pc := 135) 2 dX12_toLine_135 (k := ?_)
          refine ev_iload_n (M := T12_toLine) (pc := 136) 3 dX12_toLine_136 (k := ?_)
          refine ev_iconst (M := T12_toLine) (pc := 137) dX12_toLine_137 (k := ?_)
          obtain ⟨h5, hq, H6⟩ := bd_e H5
          clear H5
          refine ev_callV (M := T12_toLine) (pc := 138) (mc := 0) (ms := 0) (st := []) (C12_rings hq) md_X12_rings im_X12_rings se_X12_rings ml_X12_373 dX12_toLine_138 _ (by omega) (K := ?_)
          refine ev_goto (M := T12_toLine) (pc := 141) 177 dX12_toLine_141 (k := ?_)
          cases H6
          exact ev_return (M := T12_toLine) (pc := 177) dX12_toLine_177
      · replace H3 := if_ne hc H3
        refine ev_aload_n (M := T12_toLine) (pc := 106) 1 dX12_toLine_106 (k := ?_)
        refine ev_getR (M := T12_toLine) (pc := 107) (t := 121) (x := some (121, 0)) fl_X12_62 dX12_toLine_107 (hx := ry_12_21 _ _) (K := ?_)
        refine ev_iload_n (M := T12_toLine) (pc := 110) 3 dX12_toLine_110 (k := ?_)
        refine ev_iload_n (M := T12_toLine) (pc := 111) 2 dX12_toLine_111 (k := ?_)
        obtain ⟨⟨hi0, hi1⟩, H4⟩ := g_e H3
        clear H3
        obtain ⟨h6, eh6, H5⟩ := lt_e H4
        clear H4
        refine ev_iastore (M := T12_toLine) (pc := 112) (k := 121) j_ok1 hi0 hi1 eh6 dX12_toLine_112 (hc := ac_121) (hlen := ln_121 _ _) (K := ?_)
        refine ev_aload_n (M := T12_toLine) (pc := 113) 1 dX12_toLine_113 (k := ?_)
        refine ev_iload_n (M := T12_toLine) (pc := 114) 2 dX12_toLine_114 (k := ?_)
        refine ev_iload_n (M := T12_toLine) (pc := 115) 3 dX12_toLine_115 (k := ?_)
        refine ev_iconst (M := T12_toLine) (pc := 116) dX12_toLine_116 (k := ?_)
        obtain ⟨h7, hq, H6⟩ := bd_e H5
        clear H5
        refine ev_callV (M := T12_toLine) (pc := 117) (mc := 0) (ms := 0) (st := []) (C12_rings hq) md_X12_rings im_X12_rings se_X12_rings ml_X12_373 dX12_toLine_117 _ (by omega) (K := ?_)
        refine ev_goto (M := T12_toLine) (pc := 120) 177 dX12_toLine_120 (k := ?_)
        cases H6
        exact ev_return (M := T12_toLine) (pc := 177) dX12_toLine_177
    · replace H2 := if_ne hc H2
      refine ev_aload_n (M := T12_toLine) (pc := 87) 1 dX12_toLine_87 (k := ?_)
      refine ev_iload_n (M := T12_toLine) (pc := 88) 2 dX12_toLine_88 (k := ?_)
      refine ev_iconst (M := T12_toLine) (pc := 89) dX12_toLine_89 (k := ?_)
      refine ev_iload_n (M := T12_toLine) (pc := 90) 3 dX12_toLine_90 (k := ?_)
      refine ev_imul (M := T12_toLine) (pc := 91) dX12_toLine_91 (k := ?_)
      obtain ⟨h8, hq, H3⟩ := bd_e H2
      clear H2
      refine ev_callV (M := T12_toLine) (pc := 92) (mc := 0) (ms := 0) (st := []) (C12_goesOn kp dk hB hkp hq) md_X12_goesOn im_X12_goesOn se_X12_goesOn ml_X12_367 dX12_toLine_92 _ (by omega) (K := ?_)
      refine ev_goto (M := T12_toLine) (pc := 95) 177 dX12_toLine_95 (k := ?_)
      cases H3
      exact ev_return (M := T12_toLine) (pc := 177) dX12_toLine_177
  · replace H1 := if_ne hc H1
    refine ev_aload_n (M := T12_toLine) (pc := 65) 1 dX12_toLine_65 (k := ?_)
    refine ev_iload_n (M := T12_toLine) (pc := 66) 2 dX12_toLine_66 (k := ?_)
    refine ev_bipush (M := T12_toLine) (pc := 67) dX12_toLine_67 (k := ?_)
    refine ev_iconst (M := T12_toLine) (pc := 69) dX12_toLine_69 (k := ?_)
    obtain ⟨h9, hq, H2⟩ := bd_e H1
    clear H1
    refine ev_callV (M := T12_toLine) (pc := 70) (mc := 0) (ms := 0) (st := []) (C12_over hq) md_X12_over im_X12_over se_X12_over ml_X12_323 dX12_toLine_70 _ (by omega) (K := ?_)
    refine ev_goto (M := T12_toLine) (pc := 73) 177 dX12_toLine_73 (k := ?_)
    cases H2
    exact ev_return (M := T12_toLine) (pc := 177) dX12_toLine_177
set_option maxRecDepth 100000 in
set_option maxHeartbeats 4000000 in
theorem E12_toLine_52 (kp : Int → Int → JM → Option JM) (dk : Nat) (hB : 40 ≤ dk) (hkp : ∀ (c row : Int) (h res : JM), kp c row h = some res → Cn j_W1 dk 0 0 yX12_places cX12_places 4 none [.inr (.inr (some (12, 0))), .inl c, .inl row] h none res) (l1 : Int) (l2 : Int) (h : JM) (res : JM) (H : F12_toLine_52 kp l1 l2 h = some res) : Ev j_W1 (dk + 4) 0 0 T12_toLine 52 [(0, .inr (.inr (some (12, 0)))), (1, .inl (l1)), (2, .inl (l2))] [] h none res := by
  unfold F12_toLine_52 at H
  refine ev_iconst (M := T12_toLine) (pc := 52) dX12_toLine_52 (k := ?_)
  exact E12_toLine_53 kp dk hB hkp l1 l2 0 h _ H
set_option maxRecDepth 100000 in
set_option maxHeartbeats 4000000 in
theorem C12_toLine (kp : Int → Int → JM → Option JM) (dk : Nat) (hB : 40 ≤ dk) (hkp : ∀ (c row : Int) (h res : JM), kp c row h = some res → Cn j_W1 dk 0 0 yX12_places cX12_places 4 none [.inr (.inr (some (12, 0))), .inl c, .inl row] h none res) {l1 : Int} {l2 : Int} {h : JM} {res : JM} (H : F12_toLine kp l1 l2 h = some res) : Cn j_W1 (dk + 4) 0 0 yX12_toLine cX12_toLine 4 none [.inr (.inr (some (12, 0))), .inl (l1), .inl (l2)] h none res := by
  refine Cn.by (own := RX12) (b := false) [(0, .inr (.inr (some (12, 0)))), (1, .inl (l1)), (2, .inl (l2))] rfl (fun z => by cases z) (by decide +kernel) (K := ?_)
  unfold F12_toLine at H
  refine ev_aload_n (M := T12_toLine) (pc := 0) 0 dX12_toLine_0 (k := ?_)
  refine ev_getR (M := T12_toLine) (pc := 1) (t := 127) (x := some (127, 0)) fl_X12_80 dX12_toLine_1 (hx := ry_12_27 _ _) (K := ?_)
  refine ev_iconst (M := T12_toLine) (pc := 4) dX12_toLine_4 (k := ?_)
  refine ev_iload_n (M := T12_toLine) (pc := 5) 2 dX12_toLine_5 (k := ?_)
  refine ev_imul (M := T12_toLine) (pc := 6) dX12_toLine_6 (k := ?_)
  refine ev_iconst (M := T12_toLine) (pc := 7) dX12_toLine_7 (k := ?_)
  refine ev_iadd (M := T12_toLine) (pc := 8) dX12_toLine_8 (k := ?_)
  obtain ⟨⟨hi0, hi1⟩, H1⟩ := g_e H
  clear H
  refine ev_zaload (M := T12_toLine) (pc := 9) (k := 127) hi0 hi1 dX12_toLine_9 (hc := ac_127) (hlen := ln_127 _ _) (K := ?_)
  refine ev_ifeq (M := T12_toLine) (pc := 10) 52 dX12_toLine_10 (kt := fun hc => ?_) (kf := fun hc => ?_)
  · replace H1 := if_pe hc H1
    exact E12_toLine_52 kp dk hB hkp l1 l2 h _ H1
  · replace H1 := if_ne hc H1
    refine ev_aload_n (M := T12_toLine) (pc := 13) 0 dX12_toLine_13 (k := ?_)
    refine ev_getR (M := T12_toLine) (pc := 14) (t := 119) (x := some (119, 0)) fl_X12_56 dX12_toLine_14 (hx := ry_12_19 _ _) (K := ?_)
    refine ev_iload_n (M := T12_toLine) (pc := 17) 2 dX12_toLine_17 (k := ?_)
    obtain ⟨⟨hi0, hi1⟩, H2⟩ := g_e H1
    clear H1
    refine ev_iaload (M := T12_toLine) (pc := 18) (k := 119) hi0 hi1 dX12_toLine_18 (hc := ac_119) (hlen := ln_119 _ _) (K := ?_)
    refine ev_iconst (M := T12_toLine) (pc := 19) dX12_toLine_19 (k := ?_)
    refine ev_icmpeq (M := T12_toLine) (pc := 20) 52 dX12_toLine_20 (kt := fun hc => ?_) (kf := fun hc => ?_)
    · replace H2 := if_pe hc H2
      exact E12_toLine_52 kp dk hB hkp l1 l2 h _ H2
    · replace H2 := if_ne hc H2
      refine ev_aload_n (M := T12_toLine) (pc := 23) 0 dX12_toLine_23 (k := ?_)
      refine ev_getR (M := T12_toLine) (pc := 24) (t := 133) (x := some (133, 0)) fl_X12_95 dX12_toLine_24 (hx := ry_12_33 _ _) (K := ?_)
      refine ev_aload_n (M := T12_toLine) (pc := 27) 0 dX12_toLine_27 (k := ?_)
      refine ev_getR (M := T12_toLine) (pc := 28) (t := 119) (x := some (119, 0)) fl_X12_56 dX12_toLine_28 (hx := ry_12_19 _ _) (K := ?_)
      refine ev_iload_n (M := T12_toLine) (pc := 31) 2 dX12_toLine_31 (k := ?_)
      obtain ⟨⟨hi0, hi1⟩, H3⟩ := g_e H2
      clear H2
      refine ev_iaload (M := T12_toLine) (pc := 32) (k := 119) hi0 hi1 dX12_toLine_32 (hc := ac_119) (hlen := ln_119 _ _) (K := ?_)
      obtain ⟨⟨hi0, hi1⟩, H4⟩ := g_e H3
      clear H3
      refine ev_iaload (M := T12_toLine) (pc := 33) (k := 133) hi0 hi1 dX12_toLine_33 (hc := ac_133) (hlen := ln_133 _ _) (K := ?_)
      refine ev_iconst (M := T12_toLine) (pc := 34) dX12_toLine_34 (k := ?_)
      refine ev_icmpne (M := T12_toLine) (pc := 35) 52 dX12_toLine_35 (kt := fun hc => ?_) (kf := fun hc => ?_)
      · replace H4 := if_ne hc H4
        exact E12_toLine_52 kp dk hB hkp l1 l2 h _ H4
      · replace H4 := if_pe hc H4
        refine ev_aload_n (M := T12_toLine) (pc := 38) 0 dX12_toLine_38 (k := ?_)
        refine ev_getR (M := T12_toLine) (pc := 39) (t := 120) (x := some (120, 0)) fl_X12_59 dX12_toLine_39 (hx := ry_12_20 _ _) (K := ?_)
        refine ev_iload_n (M := T12_toLine) (pc := 42) 2 dX12_toLine_42 (k := ?_)
        obtain ⟨⟨hi0, hi1⟩, H5⟩ := g_e H4
        clear H4
        refine ev_iaload (M := T12_toLine) (pc := 43) (k := 120) hi0 hi1 dX12_toLine_43 (hc := ac_120) (hlen := ln_120 _ _) (K := ?_)
        refine ev_iconst (M := T12_toLine) (pc := 44) dX12_toLine_44 (k := ?_)
        refine ev_icmpne (M := T12_toLine) (pc := 45) 52 dX12_toLine_45 (kt := fun hc => ?_) (kf := fun hc => ?_)
        · replace H5 := if_ne hc H5
          exact E12_toLine_52 kp dk hB hkp l1 l2 h _ H5
        · replace H5 := if_pe hc H5
          refine ev_iconst (M := T12_toLine) (pc := 48) dX12_toLine_48 (k := ?_)
          refine ev_goto (M := T12_toLine) (pc := 49) 53 dX12_toLine_49 (k := ?_)
          exact E12_toLine_53 kp dk hB hkp l1 l2 1 h _ H5
