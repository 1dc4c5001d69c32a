-- X11_hook
abbrev T11_hook : JT := (RX11, cX11_hook, 4, some .int, false)
set_option maxRecDepth 100000 in
set_option maxHeartbeats 4000000 in
theorem C11_hook {l1 : Int} {l2 : Int} {h : JM} {res : (Int × JM)} (H : F11_hook l1 l2 h = some res) : Cn j_W1 2 0 0 yX11_hook cX11_hook 4 (some .int) [.inr (.inr (some (11, 0))), .inl (l1), .inl (l2)] h (some (.inl res.1)) res.2 := by
  refine Cn.by (own := RX11) (b := false) [(0, .inr (.inr (some (11, 0)))), (1, .inl (l1)), (2, .inl (l2))] rfl (fun z => by cases z) (by decide +kernel) (K := ?_)
  unfold F11_hook at H
  refine ev_iload_n (M := T11_hook) (pc := 0) 1 dX11_hook_0 (k := ?_)
  obtain ⟨q1, hq, H1⟩ := bd_e H
  clear H
  refine ev_callS (M := T11_hook) (pc := 1) (mc := 0) (ms := 0) (st := []) (C11_isLine hq) md_X11_isLine ss_X11_isLine ml_X11_115 dX11_hook_1 _ (by decide) (K := ?_)
  refine ev_ifne (M := T11_hook) (pc := 4) 10 dX11_hook_4 (kt := fun hc => ?_) (kf := fun hc => ?_)
  · replace H1 := if_ne hc H1
    refine ev_aload_n (M := T11_hook) (pc := 10) 0 dX11_hook_10 (k := ?_)
    refine ev_getR (M := T11_hook) (pc := 11) (t := 39) (x := some (39, 0)) fl_X11_17 dX11_hook_11 (hx := ry_11_3 _ _) (K := ?_)
    refine ev_iload_n (M := T11_hook) (pc := 14) 1 dX11_hook_14 (k := ?_)
    obtain ⟨⟨hi0, hi1⟩, H2⟩ := g_e H1
    clear H1
    refine ev_aaload (M := T11_hook) (pc := 15) (k := 39) 4 (x := some (4, l1)) hi0 hi1 dX11_hook_15 (hc := ac_39) (hlen := ln_39 _ _) (hx := rz_39 _ _ _) (K := ?_)
    refine ev_getI (M := T11_hook) (pc := 16) (x := q1.2.1 4 l1 5) fl_X11_153 dX11_hook_16 (K := ?_)
    obtain ⟨x2, ex2, H3⟩ := lt_e H2
    clear H2
    refine ev_topI ex2 ?_
    refine ev_istore_n (M := T11_hook) (pc := 19) [(3, .inl (x2)), (0, .inr (.inr (some (11, 0)))), (1, .inl (l1)), (2, .inl (l2))] dX11_hook_19 (k := ?_)
    refine ev_aload_n (M := T11_hook) (pc := 20) 1 dX11_hook_20 (k := ?_)
    refine ev_getR (M := T11_hook) (pc := 21) (t := 39) (x := some (39, 0)) fl_X11_17 dX11_hook_21 (hx := ry_11_3 _ _) (K := ?_)
    refine ev_iload_n (M := T11_hook) (pc := 24) 2 dX11_hook_24 (k := ?_)
    obtain ⟨⟨hi0, hi1⟩, H4⟩ := g_e H3
    clear H3
    refine ev_aaload (M := T11_hook) (pc := 25) (k := 39) 4 (x := some (4, l1)) hi0 hi1 dX11_hook_25 (hc := ac_39) (hlen := ln_39 _ _) (hx := rz_39 _ _ _) (K := ?_)
    refine ev_iload_n (M := T11_hook) (pc := 26) 3 dX11_hook_26 (k := ?_)
    obtain ⟨hz, H5⟩ := g_e H4
    clear H4
    obtain ⟨h3, eh3, H6⟩ := lt_e H5
    clear H5
    refine ev_putZ (M := T11_hook) (pc := 27) j_ok1 hz fl_X11_153 eh3 dX11_hook_27 (K := ?_)
    refine ev_iload_n (M := T11_hook) (pc := 30) 0 dX11_hook_30 (k := ?_)
    refine ev_ifeq (M := T11_hook) (pc := 31) 38 dX11_hook_31 (kt := fun hc => ?_) (kf := fun hc => ?_)
    · replace H6 := if_pe hc H6
      refine ev_iconst (M := T11_hook) (pc := 38) dX11_hook_38 (k := ?_)
      cases H6
      exact ev_ireturn (M := T11_hook) (pc := 39) dX11_hook_39
    · replace H6 := if_ne hc H6
      refine ev_iconst (M := T11_hook) (pc := 34) dX11_hook_34 (k := ?_)
      refine ev_goto (M := T11_hook) (pc := 35) 39 dX11_hook_35 (k := ?_)
      cases H6
      exact ev_ireturn (M := T11_hook) (pc := 39) dX11_hook_39
  · replace H1 := if_pe hc H1
    refine ev_bipush (M := T11_hook) (pc := 7) dX11_hook_7 (k := ?_)
    cases H1
    exact ev_ireturn (M := T11_hook) (pc := 9) dX11_hook_9
-- X11_idleAtBothEnds
abbrev T11_idleAtBothEnds : JT := (RX11, cX11_idleAtBothEnds, 3, some .int, false)
set_option maxRecDepth 100000 in
set_option maxHeartbeats 4000000 in
theorem E11_idleAtBothEnds_49 (k4 : Int → Int → JM → Option (Int × JM)) (hk4 : ∀ (l1 : Int) (l2 : Int) (h : JM) (res : (Int × JM)), k4 l1 l2 h = some res → Ev j_W1 1 0 0 T11_idleAtBothEnds 4 [(0, .inr (.inr (some (11, 0)))), (1, .inl (l1)), (2, .inl (l2))] [] h (some (.inl res.1)) res.2) (l1 : Int) (l2 : Int) (h : JM) (res : (Int × JM)) (H : F11_idleAtBothEnds_49 k4 l1 l2 h = some res) : Ev j_W1 1 0 0 T11_idleAtBothEnds 49 [(0, .inr (.inr (some (11, 0)))), (1, .inl (l1)), (2, .inl (l2))] [] h (some (.inl res.1)) res.2 := by
  unfold F11_idleAtBothEnds_49 at H
  refine ev_iinc (M := T11_idleAtBothEnds) (pc := 49) 2 [(2, .inl (w32 (l2 + 1))), (0, .inr (.inr (some (11, 0)))), (1, .inl (l1))] dX11_idleAtBothEnds_49 (k := ?_)
  refine ev_goto (M := T11_idleAtBothEnds) (pc := 52) 4 dX11_idleAtBothEnds_52 (k := ?_)
  refine ev_lv [1, 2, 0] [(0, .inr (.inr (some (11, 0)))), (1, .inl (l1)), (2, .inl (w32 (l2 + 1)))] (k := ?_)
  exact hk4 l1 (w32 (l2 + 1)) h _ H
set_option maxRecDepth 100000 in
set_option maxHeartbeats 4000000 in
theorem E11_idleAtBothEnds_4b (k4 : Int → Int → JM → Option (Int × JM)) (hk4 : ∀ (l1 : Int) (l2 : Int) (h : JM) (res : (Int × JM)), k4 l1 l2 h = some res → Ev j_W1 1 0 0 T11_idleAtBothEnds 4 [(0, .inr (.inr (some (11, 0)))), (1, .inl (l1)), (2, .inl (l2))] [] h (some (.inl res.1)) res.2) (l1 : Int) (l2 : Int) (h : JM) (res : (Int × JM)) (H : F11_idleAtBothEnds_4b k4 l1 l2 h = some res) : Ev j_W1 1 0 0 T11_idleAtBothEnds 4 [(0, .inr (.inr (some (11, 0)))), (1, .inl (l1)), (2, .inl (l2))] [] h (some (.inl res.1)) res.2 := by
  unfold F11_idleAtBothEnds_4b at H
  refine ev_iload_n (M := T11_idleAtBothEnds) (pc := 4) 2 dX11_idleAtBothEnds_4 (k := ?_)
  refine ev_aload_n (M := T11_idleAtBothEnds) (pc := 5) 0 dX11_idleAtBothEnds_5 (k := ?_)
  refine ev_getI (M := T11_idleAtBothEnds) (pc := 6) (x := h.1 11 0 0) fl_X11_55 dX11_idleAtBothEnds_6 (K := ?_)
  refine ev_icmpge (M := T11_idleAtBothEnds) (pc := 9) 55 dX11_idleAtBothEnds_9 (kt := fun hc => ?_) (kf := fun hc => ?_)
  · replace H := if_pe hc H
    refine ev_iload_n (M := T11_idleAtBothEnds) (pc := 55) 1 dX11_idleAtBothEnds_55 (k := ?_)
    cases H
    exact ev_ireturn (M := T11_idleAtBothEnds) (pc := 56) dX11_idleAtBothEnds_56
  · replace H := if_ne hc H
    refine ev_aload_n (M := T11_idleAtBothEnds) (pc := 12) 0 dX11_idleAtBothEnds_12 (k := ?_)
    refine ev_getR (M := T11_idleAtBothEnds) (pc := 13) (t := 38) (x := some (38, 0)) fl_X11_11 dX11_idleAtBothEnds_13 (hx := ry_11_2 _ _) (K := ?_)
    refine ev_iconst (M := T11_idleAtBothEnds) (pc := 16) dX11_idleAtBothEnds_16 (k := ?_)
    obtain ⟨⟨hi0, hi1⟩, H1⟩ := g_e H
    clear H
    refine ev_aaload (M := T11_idleAtBothEnds) (pc := 17) (k := 38) 1 (x := some (1, 0)) hi0 hi1 dX11_idleAtBothEnds_17 (hc := ac_38) (hlen := ln_38 _ _) (hx := rz_38 _ _ _) (K := ?_)
    refine ev_getR (M := T11_idleAtBothEnds) (pc := 18) (t := 20) (x := some (20, 0)) fl_X11_65 dX11_idleAtBothEnds_18 (hx := ry_1_1 _ _) (K := ?_)
    refine ev_iload_n (M := T11_idleAtBothEnds) (pc := 21) 2 dX11_idleAtBothEnds_21 (k := ?_)
    obtain ⟨⟨hi0, hi1⟩, H2⟩ := g_e H1
    clear H1
    refine ev_aaload (M := T11_idleAtBothEnds) (pc := 22) (k := 20) 8 (x := some (8, (16 * 0 + l2))) hi0 hi1 dX11_idleAtBothEnds_22 (hc := ac_20) (hlen := ln_20 _ _) (hx := rz_20 _ _ _) (K := ?_)
    refine ev_getI (M := T11_idleAtBothEnds) (pc := 23) (x := h.1 8 (16 * 0 + l2) 2) fl_X11_250 dX11_idleAtBothEnds_23 (K := ?_)
    refine ev_ifne (M := T11_idleAtBothEnds) (pc := 26) 49 dX11_idleAtBothEnds_26 (kt := fun hc => ?_) (kf := fun hc => ?_)
    · replace H2 := if_ne hc H2
      exact E11_idleAtBothEnds_49 k4 hk4 l1 l2 h _ H2
    · replace H2 := if_pe hc H2
      refine ev_aload_n (M := T11_idleAtBothEnds) (pc := 29) 0 dX11_idleAtBothEnds_29 (k := ?_)
      refine ev_getR (M := T11_idleAtBothEnds) (pc := 30) (t := 38) (x := some (38, 0)) fl_X11_11 dX11_idleAtBothEnds_30 (hx := ry_11_2 _ _) (K := ?_)
      refine ev_iconst (M := T11_idleAtBothEnds) (pc := 33) dX11_idleAtBothEnds_33 (k := ?_)
      obtain ⟨⟨hi0, hi1⟩, H3⟩ := g_e H2
      clear H2
      refine ev_aaload (M := T11_idleAtBothEnds) (pc := 34) (k := 38) 1 (x := some (1, 1)) hi0 hi1 dX11_idleAtBothEnds_34 (hc := ac_38) (hlen := ln_38 _ _) (hx := rz_38 _ _ _) (K := ?_)
      refine ev_getR (M := T11_idleAtBothEnds) (pc := 35) (t := 20) (x := some (20, 1)) fl_X11_65 dX11_idleAtBothEnds_35 (hx := ry_1_1 _ _) (K := ?_)
      refine ev_iload_n (M := T11_idleAtBothEnds) (pc := 38) 2 dX11_idleAtBothEnds_38 (k := ?_)
      obtain ⟨⟨hi0, hi1⟩, H4⟩ := g_e H3
      clear H3
      refine ev_aaload (M := T11_idleAtBothEnds) (pc := 39) (k := 20) 8 (x := some (8, (16 * 1 + l2))) hi0 hi1 dX11_idleAtBothEnds_39 (hc := ac_20) (hlen := ln_20 _ _) (hx := rz_20 _ _ _) (K := ?_)
      refine ev_getI (M := T11_idleAtBothEnds) (pc := 40) (x := h.1 8 (16 * 1 + l2) 2) fl_X11_250 dX11_idleAtBothEnds_40 (K := ?_)
      refine ev_ifne (M := T11_idleAtBothEnds) (pc := 43) 49 dX11_idleAtBothEnds_43 (kt := fun hc => ?_) (kf := fun hc => ?_)
      · replace H4 := if_ne hc H4
        exact E11_idleAtBothEnds_49 k4 hk4 l1 l2 h _ H4
      · replace H4 := if_pe hc H4
        refine ev_iinc (M := T11_idleAtBothEnds) (pc := 46) 1 [(1, .inl (w32 (l1 + 1))), (0, .inr (.inr (some (11, 0)))), (2, .inl (l2))] dX11_idleAtBothEnds_46 (k := ?_)
        refine ev_lv [1, 0, 2] [(0, .inr (.inr (some (11, 0)))), (1, .inl (w32 (l1 + 1))), (2, .inl (l2))] (k := ?_)
        exact E11_idleAtBothEnds_49 k4 hk4 (w32 (l1 + 1)) l2 h _ H4
theorem E11_idleAtBothEnds_4 (n : Nat) : ∀ (l1 : Int) (l2 : Int) (h : JM) (res : (Int × JM)), F11_idleAtBothEnds_4 n l1 l2 h = some res → Ev j_W1 1 0 0 T11_idleAtBothEnds 4 [(0, .inr (.inr (some (11, 0)))), (1, .inl (l1)), (2, .inl (l2))] [] h (some (.inl res.1)) res.2 := by
  induction n with
  | zero =>
    intro l1 l2 h res H
    cases H
  | succ n ih =>
    intro l1 l2 h res H
    exact E11_idleAtBothEnds_4b (F11_idleAtBothEnds_4 n) ih l1 l2 h res H
set_option maxRecDepth 100000 in
set_option maxHeartbeats 4000000 in
theorem C11_idleAtBothEnds {h : JM} {res : (Int × JM)} (H : F11_idleAtBothEnds h = some res) : Cn j_W1 1 0 0 yX11_idleAtBothEnds cX11_idleAtBothEnds 3 (some .int) [.inr (.inr (some (11, 0)))] h (some (.inl res.1)) res.2 := by
  refine Cn.by (own := RX11) (b := false) [(0, .inr (.inr (some (11, 0))))] rfl (fun z => by cases z) (by decide +kernel) (K := ?_)
  unfold F11_idleAtBothEnds at H
  refine ev_iconst (M := T11_idleAtBothEnds) (pc := 0) dX11_idleAtBothEnds_0 (k := ?_)
  refine ev_istore_n (M := T11_idleAtBothEnds) (pc := 1) [(1, .inl (0)), (0, .inr (.inr (some (11, 0))))] dX11_idleAtBothEnds_1 (k := ?_)
  refine ev_iconst (M := T11_idleAtBothEnds) (pc := 2) dX11_idleAtBothEnds_2 (k := ?_)
  refine ev_istore_n (M := T11_idleAtBothEnds) (pc := 3) [(2, .inl (0)), (1, .inl (0)), (0, .inr (.inr (some (11, 0))))] dX11_idleAtBothEnds_3 (k := ?_)
  refine ev_lv [2, 1, 0] [(0, .inr (.inr (some (11, 0)))), (1, .inl (0)), (2, .inl (0))] (k := ?_)
  exact E11_idleAtBothEnds_4 j_fu 0 0 h _ H
-- X11_isArg
abbrev T11_isArg : JT := (RX11, cX11_isArg, 4, some .boolean, false)
set_option maxRecDepth 100000 in
set_option maxHeartbeats 4000000 in
theorem E11_isArg_55 (h : JM) (res : (Int × JM)) (H : F11_isArg_55 h = some res) : Ev j_W1 2 0 0 T11_isArg 55 [] [] h (some (.inl res.1)) res.2 := by
  unfold F11_isArg_55 at H
  refine ev_iconst (M := T11_isArg) (pc := 55) dX11_isArg_55 (k := ?_)
  cases H
  exact ev_zreturn (M := T11_isArg) (pc := 56) (Or.inl rfl) dX11_isArg_56
set_option maxRecDepth 100000 in
set_option maxHeartbeats 4000000 in
theorem C11_isArg {l0 : Int} {l1 : Int} {l2 : Int} {l3 : Int} {h : JM} {res : (Int × JM)} (H : F11_isArg l0 l1 l2 l3 h = some res) : Cn j_W1 2 0 0 yX11_isArg cX11_isArg 4 (some .boolean) [.inl (l0), .inl (l1), .inl (l2), .inl (l3)] h (some (.inl res.1)) res.2 := by
  refine Cn.by (own := RX11) (b := false) [(0, .inl (l0)), (1, .inl (l1)), (2, .inl (l2)), (3, .inl (l3))] rfl (fun z => by cases z) (by decide +kernel) (K := ?_)
  unfold F11_isArg at H
  refine ev_iload_n (M := T11_isArg) (pc := 0) 2 dX11_isArg_0 (k := ?_)
  by_cases hs0 : l2 = 0
  · replace H := if_pe hs0 H
    refine ev_tableIn (M := T11_isArg) (pc := 1) (off := 35) 36 dX11_isArg_1 (by omega) (by omega) (by rw [hs0]; rfl) (k := ?_)
    refine ev_iload_n (M := T11_isArg) (pc := 36) 3 dX11_isArg_36 (k := ?_)
    obtain ⟨q1, hq, H1⟩ := bd_e H
    clear H
    refine ev_callS (M := T11_isArg) (pc := 37) (mc := 0) (ms := 0) (st := []) (C11_isLine hq) md_X11_isLine ss_X11_isLine ml_X11_115 dX11_isArg_37 _ (by decide) (K := ?_)
    refine ev_ifeq (M := T11_isArg) (pc := 40) 55 dX11_isArg_40 (kt := fun hc => ?_) (kf := fun hc => ?_)
    · replace H1 := if_pe hc H1
      refine ev_lv [] [] (k := ?_)
      exact E11_isArg_55 q1.2 _ H1
    · replace H1 := if_ne hc H1
      refine ev_iload_n (M := T11_isArg) (pc := 43) 3 dX11_isArg_43 (k := ?_)
      refine ev_bipush (M := T11_isArg) (pc := 44) dX11_isArg_44 (k := ?_)
      refine ev_idiv (M := T11_isArg) (pc := 46) dX11_isArg_46 (by decide) (k := ?_)
      refine ev_iload_n (M := T11_isArg) (pc := 47) 0 dX11_isArg_47 (k := ?_)
      refine ev_icmpne (M := T11_isArg) (pc := 48) 55 dX11_isArg_48 (kt := fun hc => ?_) (kf := fun hc => ?_)
      · replace H1 := if_ne hc H1
        refine ev_lv [] [] (k := ?_)
        exact E11_isArg_55 q1.2 _ H1
      · replace H1 := if_pe hc H1
        refine ev_iconst (M := T11_isArg) (pc := 51) dX11_isArg_51 (k := ?_)
        refine ev_goto (M := T11_isArg) (pc := 52) 56 dX11_isArg_52 (k := ?_)
        cases H1
        exact ev_zreturn (M := T11_isArg) (pc := 56) (Or.inr rfl) dX11_isArg_56
  · replace H := if_ne hs0 H
    by_cases hs1 : l2 = 1
    · replace H := if_pe hs1 H
      refine ev_tableIn (M := T11_isArg) (pc := 1) (off := 56) 57 dX11_isArg_1 (by omega) (by omega) (by rw [hs1]; rfl) (k := ?_)
      refine ev_iload_n (M := T11_isArg) (pc := 57) 3 dX11_isArg_57 (k := ?_)
      refine ev_iconst (M := T11_isArg) (pc := 58) dX11_isArg_58 (k := ?_)
      refine ev_iload_n (M := T11_isArg) (pc := 59) 1 dX11_isArg_59 (k := ?_)
      obtain ⟨q2, hq, H1⟩ := bd_e H
      clear H
      refine ev_callS (M := T11_isArg) (pc := 60) (mc := 0) (ms := 0) (st := []) (C11_isWithin hq) md_X11_isWithin ss_X11_isWithin ml_X11_79 dX11_isArg_60 _ (by decide) (K := ?_)
      obtain ⟨hz, H2⟩ := g_e H1
      clear H1
      cases H2
      exact ev_zreturn (M := T11_isArg) (pc := 63) hz dX11_isArg_63
    · replace H := if_ne hs1 H
      by_cases hs2 : l2 = 2
      · replace H := if_pe hs2 H
        refine ev_tableIn (M := T11_isArg) (pc := 1) (off := 56) 57 dX11_isArg_1 (by omega) (by omega) (by rw [hs2]; rfl) (k := ?_)
        refine ev_iload_n (M := T11_isArg) (pc := 57) 3 dX11_isArg_57 (k := ?_)
        refine ev_iconst (M := T11_isArg) (pc := 58) dX11_isArg_58 (k := ?_)
        refine ev_iload_n (M := T11_isArg) (pc := 59) 1 dX11_isArg_59 (k := ?_)
        obtain ⟨q3, hq, H1⟩ := bd_e H
        clear H
        refine ev_callS (M := T11_isArg) (pc := 60) (mc := 0) (ms := 0) (st := []) (C11_isWithin hq) md_X11_isWithin ss_X11_isWithin ml_X11_79 dX11_isArg_60 _ (by decide) (K := ?_)
        obtain ⟨hz, H2⟩ := g_e H1
        clear H1
        cases H2
        exact ev_zreturn (M := T11_isArg) (pc := 63) hz dX11_isArg_63
      · replace H := if_ne hs2 H
        by_cases hs3 : l2 = 3
        · replace H := if_pe hs3 H
          refine ev_tableIn (M := T11_isArg) (pc := 1) (off := 63) 64 dX11_isArg_1 (by omega) (by omega) (by rw [hs3]; rfl) (k := ?_)
          refine ev_iload_n (M := T11_isArg) (pc := 64) 3 dX11_isArg_64 (k := ?_)
          refine ev_iconst (M := T11_isArg) (pc := 65) dX11_isArg_65 (k := ?_)
          refine ev_iconst (M := T11_isArg) (pc := 66) dX11_isArg_66 (k := ?_)
          obtain ⟨q4, hq, H1⟩ := bd_e H
          clear H
          refine ev_callS (M := T11_isArg) (pc := 67) (mc := 0) (ms := 0) (st := []) (C11_isWithin hq) md_X11_isWithin ss_X11_isWithin ml_X11_79 dX11_isArg_67 _ (by decide) (K := ?_)
          obtain ⟨hz, H2⟩ := g_e H1
          clear H1
          cases H2
          exact ev_zreturn (M := T11_isArg) (pc := 70) hz dX11_isArg_70
        · replace H := if_ne hs3 H
          by_cases hs4 : l2 = 4
          · replace H := if_pe hs4 H
            refine ev_tableIn (M := T11_isArg) (pc := 1) (off := 70) 71 dX11_isArg_1 (by omega) (by omega) (by rw [hs4]; rfl) (k := ?_)
            refine ev_iload_n (M := T11_isArg) (pc := 71) 3 dX11_isArg_71 (k := ?_)
            refine ev_iconst (M := T11_isArg) (pc := 72) dX11_isArg_72 (k := ?_)
            refine ev_iconst (M := T11_isArg) (pc := 73) dX11_isArg_73 (k := ?_)
            obtain ⟨q5, hq, H1⟩ := bd_e H
            clear H
            refine ev_callS (M := T11_isArg) (pc := 74) (mc := 0) (ms := 0) (st := []) (C11_isWithin hq) md_X11_isWithin ss_X11_isWithin ml_X11_79 dX11_isArg_74 _ (by decide) (K := ?_)
            obtain ⟨hz, H2⟩ := g_e H1
            clear H1
            cases H2
            exact ev_zreturn (M := T11_isArg) (pc := 77) hz dX11_isArg_77
          · replace H := if_ne hs4 H
            refine ev_tableOut (M := T11_isArg) (pc := 1) 78 dX11_isArg_1 (by omega) (k := ?_)
            refine ev_iconst (M := T11_isArg) (pc := 78) dX11_isArg_78 (k := ?_)
            cases H
            exact ev_zreturn (M := T11_isArg) (pc := 79) (Or.inl rfl) dX11_isArg_79
-- X11_isUnitToCome
abbrev T11_isUnitToCome : JT := (RX11, cX11_isUnitToCome, 2, some .boolean, false)
set_option maxRecDepth 100000 in
set_option maxHeartbeats 4000000 in
theorem E11_isUnitToCome_24 (h : JM) (res : (Int × JM)) (H : F11_isUnitToCome_24 h = some res) : Ev j_W1 1 0 0 T11_isUnitToCome 24 [] [] h (some (.inl res.1)) res.2 := by
  unfold F11_isUnitToCome_24 at H
  refine ev_iconst (M := T11_isUnitToCome) (pc := 24) dX11_isUnitToCome_24 (k := ?_)
  cases H
  exact ev_zreturn (M := T11_isUnitToCome) (pc := 25) (Or.inl rfl) dX11_isUnitToCome_25
set_option maxRecDepth 100000 in
set_option maxHeartbeats 4000000 in
theorem C11_isUnitToCome {l1 : Int} {h : JM} {res : (Int × JM)} (H : F11_isUnitToCome l1 h = some res) : Cn j_W1 1 0 0 yX11_isUnitToCome cX11_isUnitToCome 2 (some .boolean) [.inr (.inr (some (11, 0))), .inl (l1)] h (some (.inl res.1)) res.2 := by
  refine Cn.by (own := RX11) (b := false) [(0, .inr (.inr (some (11, 0)))), (1, .inl (l1))] rfl (fun z => by cases z) (by decide +kernel) (K := ?_)
  unfold F11_isUnitToCome at H
  refine ev_iload_n (M := T11_isUnitToCome) (pc := 0) 1 dX11_isUnitToCome_0 (k := ?_)
  refine ev_aload_n (M := T11_isUnitToCome) (pc := 1) 0 dX11_isUnitToCome_1 (k := ?_)
  refine ev_getI (M := T11_isUnitToCome) (pc := 2) (x := h.1 11 0 10) fl_X11_177 dX11_isUnitToCome_2 (K := ?_)
  refine ev_icmplt (M := T11_isUnitToCome) (pc := 5) 24 dX11_isUnitToCome_5 (kt := fun hc => ?_) (kf := fun hc => ?_)
  · replace H := if_pe hc H
    refine ev_lv [] [] (k := ?_)
    exact E11_isUnitToCome_24 h _ H
  · replace H := if_ne hc H
    refine ev_iload_n (M := T11_isUnitToCome) (pc := 8) 1 dX11_isUnitToCome_8 (k := ?_)
    refine ev_aload_n (M := T11_isUnitToCome) (pc := 9) 0 dX11_isUnitToCome_9 (k := ?_)
    refine ev_getI (M := T11_isUnitToCome) (pc := 10) (x := h.1 11 0 10) fl_X11_177 dX11_isUnitToCome_10 (K := ?_)
    refine ev_ldcw (M := T11_isUnitToCome) (pc := 13) (n := 100000) ct_X11_316 dX11_isUnitToCome_13 (hv := cv_X11_316) (k := ?_)
    refine ev_iadd (M := T11_isUnitToCome) (pc := 16) dX11_isUnitToCome_16 (k := ?_)
    refine ev_icmpgt (M := T11_isUnitToCome) (pc := 17) 24 dX11_isUnitToCome_17 (kt := fun hc => ?_) (kf := fun hc => ?_)
    · replace H := if_pe hc H
      refine ev_lv [] [] (k := ?_)
      exact E11_isUnitToCome_24 h _ H
    · replace H := if_ne hc H
      refine ev_iconst (M := T11_isUnitToCome) (pc := 20) dX11_isUnitToCome_20 (k := ?_)
      refine ev_goto (M := T11_isUnitToCome) (pc := 21) 25 dX11_isUnitToCome_21 (k := ?_)
      cases H
      exact ev_zreturn (M := T11_isUnitToCome) (pc := 25) (Or.inr rfl) dX11_isUnitToCome_25
-- X11_key
abbrev T11_key : JT := (RX11, cX11_key, 2, some .int, false)
set_option maxRecDepth 100000 in
set_option maxHeartbeats 4000000 in
theorem C11_key {l1 : Int} {h : JM} {res : (Int × JM)} (H : F11_key l1 h = some res) : Cn j_W1 3 0 0 yX11_key cX11_key 2 (some .int) [.inr (.inr (some (11, 0))), .inl (l1)] h (some (.inl res.1)) res.2 := by
  refine Cn.by (own := RX11) (b := false) [(0, .inr (.inr (some (11, 0)))), (1, .inl (l1))] rfl (fun z => by cases z) (by decide +kernel) (K := ?_)
  unfold F11_key at H
  refine ev_iload_n (M := T11_key) (pc := 0) 1 dX11_key_0 (k := ?_)
  refine ev_iconst (M := T11_key) (pc := 1) dX11_key_1 (k := ?_)
  refine ev_bipush (M := T11_key) (pc := 2) dX11_key_2 (k := ?_)
  obtain ⟨q1, hq, H1⟩ := bd_e H
  clear H
  refine ev_callS (M := T11_key) (pc := 4) (mc := 0) (ms := 0) (st := []) (C11_isWithin hq) md_X11_isWithin ss_X11_isWithin ml_X11_79 dX11_key_4 _ (by decide) (K := ?_)
  refine ev_ifne (M := T11_key) (pc := 7) 13 dX11_key_7 (kt := fun hc => ?_) (kf := fun hc => ?_)
  · replace H1 := if_ne hc H1
    refine ev_aload_n (M := T11_key) (pc := 13) 0 dX11_key_13 (k := ?_)
    refine ev_getL (M := T11_key) (pc := 14) (x := q1.2.2.1 11 0 9) fl_X11_51 dX11_key_14 (K := ?_)
    obtain ⟨q2, hq, H2⟩ := bd_e H1
    clear H1
    refine ev_callS (M := T11_key) (pc := 17) (mc := 0) (ms := 0) (st := []) (C11_countOf hq) md_X11_countOf ss_X11_countOf ml_X11_83 dX11_key_17 _ (by decide) (K := ?_)
    refine ev_bipush (M := T11_key) (pc := 20) dX11_key_20 (k := ?_)
    refine ev_icmplt (M := T11_key) (pc := 22) 28 dX11_key_22 (kt := fun hc => ?_) (kf := fun hc => ?_)
    · replace H2 := if_pe hc H2
      refine ev_aload_n (M := T11_key) (pc := 28) 0 dX11_key_28 (k := ?_)
      refine ev_aload_n (M := T11_key) (pc := 29) 0 dX11_key_29 (k := ?_)
      refine ev_getL (M := T11_key) (pc := 30) (x := q2.2.2.1 11 0 9) fl_X11_51 dX11_key_30 (K := ?_)
      refine ev_iload_n (M := T11_key) (pc := 33) 1 dX11_key_33 (k := ?_)
      obtain ⟨q3, hq, H3⟩ := bd_e H2
      clear H2
      refine ev_callS (M := T11_key) (pc := 34) (mc := 0) (ms := 0) (st := [.inr (.inr (some (11, 0)))]) (C11_withKey hq) md_X11_withKey ss_X11_withKey ml_X11_87 dX11_key_34 _ (by decide) (K := ?_)
      obtain ⟨h4, eh4, H4⟩ := lt_e H3
      clear H3
      refine ev_putL (M := T11_key) (pc := 37) j_ok1 fl_X11_51 eh4 dX11_key_37 (K := ?_)
      refine ev_aload_n (M := T11_key) (pc := 40) 0 dX11_key_40 (k := ?_)
      refine ev_getL (M := T11_key) (pc := 41) (x := h4.2.1 11 0 9) fl_X11_51 dX11_key_41 (K := ?_)
      obtain ⟨q5, hq, H5⟩ := bd_e H4
      clear H4
      refine ev_callS (M := T11_key) (pc := 44) (mc := 0) (ms := 0) (st := []) (C11_countOf hq) md_X11_countOf ss_X11_countOf ml_X11_83 dX11_key_44 _ (by decide) (K := ?_)
      cases H5
      exact ev_ireturn (M := T11_key) (pc := 47) dX11_key_47
    · replace H2 := if_ne hc H2
      refine ev_bipush (M := T11_key) (pc := 25) dX11_key_25 (k := ?_)
      cases H2
      exact ev_ireturn (M := T11_key) (pc := 27) dX11_key_27
  · replace H1 := if_pe hc H1
    refine ev_bipush (M := T11_key) (pc := 10) dX11_key_10 (k := ?_)
    cases H1
    exact ev_ireturn (M := T11_key) (pc := 12) dX11_key_12
-- X11_keyless
abbrev T11_keyless : JT := (RX11, cX11_keyless, 2, some .int, false)
set_option maxRecDepth 100000 in
set_option maxHeartbeats 4000000 in
theorem C11_keyless {h : JM} {res : (Int × JM)} (H : F11_keyless h = some res) : Cn j_W1 2 0 0 yX11_keyless cX11_keyless 2 (some .int) [.inr (.inr (some (11, 0)))] h (some (.inl res.1)) res.2 := by
  refine Cn.by (own := RX11) (b := false) [(0, .inr (.inr (some (11, 0))))] rfl (fun z => by cases z) (by decide +kernel) (K := ?_)
  unfold F11_keyless at H
  refine ev_aload_n (M := T11_keyless) (pc := 0) 0 dX11_keyless_0 (k := ?_)
  refine ev_getL (M := T11_keyless) (pc := 1) (x := h.2.1 11 0 9) fl_X11_51 dX11_keyless_1 (K := ?_)
  obtain ⟨q1, hq, H1⟩ := bd_e H
  clear H
  refine ev_callS (M := T11_keyless) (pc := 4) (mc := 0) (ms := 0) (st := []) (C11_countOf hq) md_X11_countOf ss_X11_countOf ml_X11_83 dX11_keyless_4 _ (by decide) (K := ?_)
  refine ev_istore_n (M := T11_keyless) (pc := 7) [(1, .inl (q1.1)), (0, .inr (.inr (some (11, 0))))] dX11_keyless_7 (k := ?_)
  refine ev_aload_n (M := T11_keyless) (pc := 8) 1 dX11_keyless_8 (k := ?_)
  refine ev_lconst (M := T11_keyless) (pc := 9) (v := 0) dX11_keyless_9 (k := ?_)
  obtain ⟨h2, eh2, H2⟩ := lt_e H1
  clear H1
  refine ev_putL (M := T11_keyless) (pc := 10) j_ok1 fl_X11_51 eh2 dX11_keyless_10 (K := ?_)
  refine ev_iload_n (M := T11_keyless) (pc := 13) 0 dX11_keyless_13 (k := ?_)
  cases H2
  exact ev_ireturn (M := T11_keyless) (pc := 14) dX11_keyless_14
-- X11_makeCall
abbrev T11_makeCall : JT := (RX11, cX11_makeCall, 3, some (.object "TelephoneTown$Call"), false)
set_option maxRecDepth 100000 in
set_option maxHeartbeats 4000000 in
theorem C11_makeCall {l1 : Option Int} {h : JM} {res : (Option Int × JM)} (H : F11_makeCall l1 h = some res) : Cn j_W1 2 0 0 yX11_makeCall cX11_makeCall 3 (some (.object "TelephoneTown$Call")) [.inr (.inr (some (11, 0))), .inr (.inr (Option.map (Prod.mk 1) (l1)))] h (some (.inr (.inr (Option.map (Prod.mk 0) res.1)))) res.2 := by
  refine Cn.by (own := RX11) (b := false) [(0, .inr (.inr (some (11, 0)))), (1, .inr (.inr (Option.map (Prod.mk 1) (l1))))] rfl (fun z => by cases z) (by decide +kernel) (K := ?_)
  unfold F11_makeCall at H
  refine ev_aload_n (M := T11_makeCall) (pc := 0) 0 dX11_makeCall_0 (k := ?_)
  refine ev_getI (M := T11_makeCall) (pc := 1) (x := h.1 11 0 11) fl_X11_452 dX11_makeCall_1 (K := ?_)
  refine ev_bipush (M := T11_makeCall) (pc := 4) dX11_makeCall_4 (k := ?_)
  refine ev_icmplt (M := T11_makeCall) (pc := 6) 11 dX11_makeCall_6 (kt := fun hc => ?_) (kf := fun hc => ?_)
  · replace H := if_pe hc H
    refine ev_aload_n (M := T11_makeCall) (pc := 11) 0 dX11_makeCall_11 (k := ?_)
    refine ev_getR (M := T11_makeCall) (pc := 12) (t := 40) (x := some (40, 0)) fl_X11_23 dX11_makeCall_12 (hx := ry_11_4 _ _) (K := ?_)
    refine ev_aload_n (M := T11_makeCall) (pc := 15) 0 dX11_makeCall_15 (k := ?_)
    refine ev_getI (M := T11_makeCall) (pc := 16) (x := h.1 11 0 11) fl_X11_452 dX11_makeCall_16 (K := ?_)
    obtain ⟨⟨hi0, hi1⟩, H1⟩ := g_e H
    clear H
    refine ev_aaload (M := T11_makeCall) (pc := 19) (k := 40) 0 (x := Option.map (Prod.mk 0) (h.2.2 40 0 (h.1 11 0 11))) hi0 hi1 dX11_makeCall_19 (hc := ac_40) (hlen := ln_40 _ _) (hx := rz_40 _ _ _) (K := ?_)
    refine ev_astore_n (M := T11_makeCall) (pc := 20) [(2, .inr (.inr (Option.map (Prod.mk 0) (h.2.2 40 0 (h.1 11 0 11))))), (0, .inr (.inr (some (11, 0)))), (1, .inr (.inr (Option.map (Prod.mk 1) (l1))))] dX11_makeCall_20 (k := ?_)
    refine ev_aload_n (M := T11_makeCall) (pc := 21) 1 dX11_makeCall_21 (k := ?_)
    refine ev_dup (M := T11_makeCall) (pc := 22) dX11_makeCall_22 (k := ?_)
    refine ev_getI (M := T11_makeCall) (pc := 23) (x := h.1 11 0 11) fl_X11_452 dX11_makeCall_23 (K := ?_)
    refine ev_iconst (M := T11_makeCall) (pc := 26) dX11_makeCall_26 (k := ?_)
    refine ev_iadd (M := T11_makeCall) (pc := 27) dX11_makeCall_27 (k := ?_)
    obtain ⟨h1, eh1, H2⟩ := lt_e H1
    clear H1
    refine ev_putI (M := T11_makeCall) (pc := 28) j_ok1 fl_X11_452 eh1 dX11_makeCall_28 (K := ?_)
    refine ev_aload_n (M := T11_makeCall) (pc := 31) 1 dX11_makeCall_31 (k := ?_)
    refine ev_dup (M := T11_makeCall) (pc := 32) dX11_makeCall_32 (k := ?_)
    refine ev_getI (M := T11_makeCall) (pc := 33) (x := h1.1 11 0 12) fl_X11_306 dX11_makeCall_33 (K := ?_)
    refine ev_iconst (M := T11_makeCall) (pc := 36) dX11_makeCall_36 (k := ?_)
    refine ev_iadd (M := T11_makeCall) (pc := 37) dX11_makeCall_37 (k := ?_)
    obtain ⟨h2, eh2, H3⟩ := lt_e H2
    clear H2
    refine ev_putI (M := T11_makeCall) (pc := 38) j_ok1 fl_X11_306 eh2 dX11_makeCall_38 (K := ?_)
    refine ev_aload_n (M := T11_makeCall) (pc := 41) 1 dX11_makeCall_41 (k := ?_)
    refine ev_dup (M := T11_makeCall) (pc := 42) dX11_makeCall_42 (k := ?_)
    refine ev_getI (M := T11_makeCall) (pc := 43) (x := h2.1 11 0 13) fl_X11_309 dX11_makeCall_43 (K := ?_)
    refine ev_iconst (M := T11_makeCall) (pc := 46) dX11_makeCall_46 (k := ?_)
    refine ev_iadd (M := T11_makeCall) (pc := 47) dX11_makeCall_47 (k := ?_)
    obtain ⟨h3, eh3, H4⟩ := lt_e H3
    clear H3
    refine ev_putI (M := T11_makeCall) (pc := 48) j_ok1 fl_X11_309 eh3 dX11_makeCall_48 (K := ?_)
    refine ev_aload_n (M := T11_makeCall) (pc := 51) 0 dX11_makeCall_51 (k := ?_)
    refine ev_aload_n (M := T11_makeCall) (pc := 52) 2 dX11_makeCall_52 (k := ?_)
    refine ev_aload_n (M := T11_makeCall) (pc := 53) 1 dX11_makeCall_53 (k := ?_)
    refine ev_getI (M := T11_makeCall) (pc := 54) (x := h3.1 11 0 10) fl_X11_177 dX11_makeCall_54 (K := ?_)
    obtain ⟨a4, ea4, H5⟩ := bd_e H4
    clear H4
    rw [ea4]
    obtain ⟨h5, hq, H6⟩ := bd_e H5
    clear H5
    refine ev_callV (M := T11_makeCall) (pc := 57) (mc := 0) (ms := 0) (st := []) (C0_begin hq) md_X0_begin im_X0_begin se_X0_begin ml_X11_455 dX11_makeCall_57 _ (by decide) (K := ?_)
    refine ev_aload_n (M := T11_makeCall) (pc := 60) 0 dX11_makeCall_60 (k := ?_)
    cases H6
    exact ev_areturn (M := T11_makeCall) (pc := 61) dX11_makeCall_61
  · replace H := if_ne hc H
    refine ev_null (M := T11_makeCall) (pc := 9) dX11_makeCall_9 (k := ?_)
    cases H
    exact ev_areturn (M := T11_makeCall) (pc := 10) dX11_makeCall_10
-- X11_lift
abbrev T11_lift : JT := (RX11, cX11_lift, 3, none, false)
set_option maxRecDepth 100000 in
set_option maxHeartbeats 4000000 in
theorem C11_lift {l1 : Option Int} {h : JM} {res : JM} (H : F11_lift l1 h = some res) : Cn j_W1 5 0 0 yX11_lift cX11_lift 3 none [.inr (.inr (some (11, 0))), .inr (.inr (Option.map (Prod.mk 4) (l1)))] h none res := by
  refine Cn.by (own := RX11) (b := false) [(0, .inr (.inr (some (11, 0)))), (1, .inr (.inr (Option.map (Prod.mk 4) (l1))))] rfl (fun z => by cases z) (by decide +kernel) (K := ?_)
  unfold F11_lift at H
  refine ev_aload_n (M := T11_lift) (pc := 0) 1 dX11_lift_0 (k := ?_)
  refine ev_iconst (M := T11_lift) (pc := 1) dX11_lift_1 (k := ?_)
  obtain ⟨a1, ea1, H1⟩ := bd_e H
  clear H
  rw [ea1]
  obtain ⟨h2, eh2, H2⟩ := lt_e H1
  clear H1
  refine ev_putZ (M := T11_lift) (pc := 2) j_ok1 (Or.inl rfl) fl_X11_219 eh2 dX11_lift_2 (K := ?_)
  refine ev_aload_n (M := T11_lift) (pc := 5) 1 dX11_lift_5 (k := ?_)
  refine ev_getR (M := T11_lift) (pc := 6) (t := 0) (x := Option.map (Prod.mk 0) (h2.2.2 4 a1 13)) fl_X11_432 dX11_lift_6 (hx := ry_4_13 _ _) (K := ?_)
  refine ev_astore_n (M := T11_lift) (pc := 9) [(2, .inr (.inr (Option.map (Prod.mk 0) (h2.2.2 4 a1 13)))), (0, .inr (.inr (some (11, 0)))), (1, .inr (.inr (some (4, a1))))] dX11_lift_9 (k := ?_)
  refine ev_aload_n (M := T11_lift) (pc := 10) 0 dX11_lift_10 (k := ?_)
  refine ev_nullK (M := T11_lift) (pc := 11) (h2.2.2 4 a1 13) 35 dX11_lift_11 (kt := fun hc => ?_) (kf := fun hc => ?_)
  · replace H2 := if_pe hc H2
    refine ev_aload_n (M := T11_lift) (pc := 35) 1 dX11_lift_35 (k := ?_)
    refine ev_aload_n (M := T11_lift) (pc := 36) 1 dX11_lift_36 (k := ?_)
    refine ev_getR (M := T11_lift) (pc := 37) (t := 38) (x := some (38, 0)) fl_X11_11 dX11_lift_37 (hx := ry_11_2 _ _) (K := ?_)
    refine ev_aload_n (M := T11_lift) (pc := 40) 2 dX11_lift_40 (k := ?_)
    refine ev_getI (M := T11_lift) (pc := 41) (x := h2.1 4 a1 0) fl_X11_317 dX11_lift_41 (K := ?_)
    refine ev_bipush (M := T11_lift) (pc := 44) dX11_lift_44 (k := ?_)
    refine ev_idiv (M := T11_lift) (pc := 46) dX11_lift_46 (by decide) (k := ?_)
    obtain ⟨⟨hi0, hi1⟩, H3⟩ := g_e H2
    clear H2
    refine ev_aaload (M := T11_lift) (pc := 47) (k := 38) 1 (x := some (1, (j_div (h2.1 4 a1 0) 8))) hi0 hi1 dX11_lift_47 (hc := ac_38) (hlen := ln_38 _ _) (hx := rz_38 _ _ _) (K := ?_)
    obtain ⟨q3, hq, H4⟩ := bd_e H3
    clear H3
    refine ev_callV (M := T11_lift) (pc := 48) (mc := 0) (ms := 0) (st := []) (C11_makeCall hq) md_X11_makeCall im_X11_makeCall se_X11_makeCall ml_X11_359 dX11_lift_48 _ (by decide) (K := ?_)
    refine ev_astore_n (M := T11_lift) (pc := 51) [(2, .inr (.inr (Option.map (Prod.mk 0) (q3.1)))), (0, .inr (.inr (some (11, 0)))), (1, .inr (.inr (some (4, a1))))] dX11_lift_51 (k := ?_)
    refine ev_aload_n (M := T11_lift) (pc := 52) 0 dX11_lift_52 (k := ?_)
    refine ev_nullK (M := T11_lift) (pc := 53) q3.1 66 dX11_lift_53 (kt := fun hc => ?_) (kf := fun hc => ?_)
    · replace H4 := if_pe hc H4
      cases H4
      exact ev_return (M := T11_lift) (pc := 66) dX11_lift_66
    · replace H4 := if_ne hc H4
      refine ev_aload_n (M := T11_lift) (pc := 56) 0 dX11_lift_56 (k := ?_)
      refine ev_aload_n (M := T11_lift) (pc := 57) 2 dX11_lift_57 (k := ?_)
      obtain ⟨a4, ea4, H5⟩ := bd_e H4
      clear H4
      rw [ea4]
      obtain ⟨h5, eh5, H6⟩ := lt_e H5
      clear H5
      refine ev_putR (M := T11_lift) (pc := 58) (t := 4) j_ok1 (some a1) fl_X11_223 eh5 (hdg := dX11_lift_58) (hly := rl_0_1 _) (K := ?_)
      refine ev_aload_n (M := T11_lift) (pc := 61) 2 dX11_lift_61 (k := ?_)
      refine ev_aload_n (M := T11_lift) (pc := 62) 0 dX11_lift_62 (k := ?_)
      obtain ⟨h6, eh6, H7⟩ := lt_e H6
      clear H6
      refine ev_putR (M := T11_lift) (pc := 63) (t := 0) j_ok1 (some a4) fl_X11_206 eh6 (hdg := dX11_lift_63) (hly := rl_4_11 _) (K := ?_)
      cases H7
      exact ev_return (M := T11_lift) (pc := 66) dX11_lift_66
  · replace H2 := if_ne hc H2
    refine ev_aload_n (M := T11_lift) (pc := 14) 2 dX11_lift_14 (k := ?_)
    refine ev_null (M := T11_lift) (pc := 15) dX11_lift_15 (k := ?_)
    obtain ⟨h7, eh7, H3⟩ := lt_e H2
    clear H2
    refine ev_putR (M := T11_lift) (pc := 16) (t := 0) j_ok1 none fl_X11_432 eh7 (hdg := dX11_lift_16) (hly := rl_4_13 _) (K := ?_)
    refine ev_aload_n (M := T11_lift) (pc := 19) 2 dX11_lift_19 (k := ?_)
    refine ev_aload_n (M := T11_lift) (pc := 20) 0 dX11_lift_20 (k := ?_)
    obtain ⟨h8, eh8, H4⟩ := lt_e H3
    clear H3
    refine ev_putR (M := T11_lift) (pc := 21) (t := 0) j_ok1 (h2.2.2 4 a1 13) fl_X11_206 eh8 (hdg := dX11_lift_21) (hly := rl_4_11 _) (K := ?_)
    refine ev_aload_n (M := T11_lift) (pc := 24) 1 dX11_lift_24 (k := ?_)
    refine ev_aload_n (M := T11_lift) (pc := 25) 0 dX11_lift_25 (k := ?_)
    refine ev_aload_n (M := T11_lift) (pc := 26) 1 dX11_lift_26 (k := ?_)
    refine ev_aload_n (M := T11_lift) (pc := 27) 0 dX11_lift_27 (k := ?_)
    obtain ⟨q9, hq, H5⟩ := bd_e H4
    clear H4
    refine ev_callV (M := T11_lift) (pc := 28) (mc := 0) (ms := 0) (st := [.inr (.inr (Option.map (Prod.mk 0) (h2.2.2 4 a1 13))), .inr (.inr (some (11, 0)))]) (C11_answer hq) md_X11_answer im_X11_answer se_X11_answer ml_X11_390 dX11_lift_28 _ (by decide) (K := ?_)
    obtain ⟨h10, hq, H6⟩ := bd_e H5
    clear H5
    refine ev_callV (M := T11_lift) (pc := 31) (mc := 0) (ms := 0) (st := []) (C11_endIf hq) md_X11_endIf im_X11_endIf se_X11_endIf ml_X11_394 dX11_lift_31 _ (by decide) (K := ?_)
    cases H6
    exact ev_return (M := T11_lift) (pc := 34) dX11_lift_34
-- X11_line
abbrev T11_line : JT := (RX11, cX11_line, 4, some .int, false)
set_option maxRecDepth 100000 in
set_option maxHeartbeats 4000000 in
theorem C11_line {l1 : Int} {l2 : Int} {h : JM} {res : (Int × JM)} (H : F11_line l1 l2 h = some res) : Cn j_W1 2 0 0 yX11_line cX11_line 4 (some .int) [.inr (.inr (some (11, 0))), .inl (l1), .inl (l2)] h (some (.inl res.1)) res.2 := by
  refine Cn.by (own := RX11) (b := false) [(0, .inr (.inr (some (11, 0)))), (1, .inl (l1)), (2, .inl (l2))] rfl (fun z => by cases z) (by decide +kernel) (K := ?_)
  unfold F11_line at H
  refine ev_iload_n (M := T11_line) (pc := 0) 1 dX11_line_0 (k := ?_)
  obtain ⟨q1, hq, H1⟩ := bd_e H
  clear H
  refine ev_callS (M := T11_line) (pc := 1) (mc := 0) (ms := 0) (st := []) (C11_isLine hq) md_X11_isLine ss_X11_isLine ml_X11_115 dX11_line_1 _ (by decide) (K := ?_)
  refine ev_ifne (M := T11_line) (pc := 4) 10 dX11_line_4 (kt := fun hc => ?_) (kf := fun hc => ?_)
  · replace H1 := if_ne hc H1
    refine ev_aload_n (M := T11_line) (pc := 10) 0 dX11_line_10 (k := ?_)
    refine ev_getR (M := T11_line) (pc := 11) (t := 39) (x := some (39, 0)) fl_X11_17 dX11_line_11 (hx := ry_11_3 _ _) (K := ?_)
    refine ev_iload_n (M := T11_line) (pc := 14) 1 dX11_line_14 (k := ?_)
    obtain ⟨⟨hi0, hi1⟩, H2⟩ := g_e H1
    clear H1
    refine ev_aaload (M := T11_line) (pc := 15) (k := 39) 4 (x := some (4, l1)) hi0 hi1 dX11_line_15 (hc := ac_39) (hlen := ln_39 _ _) (hx := rz_39 _ _ _) (K := ?_)
    refine ev_astore_n (M := T11_line) (pc := 16) [(3, .inr (.inr (some (4, l1)))), (0, .inr (.inr (some (11, 0)))), (1, .inl (l1)), (2, .inl (l2))] dX11_line_16 (k := ?_)
    refine ev_iload_n (M := T11_line) (pc := 17) 3 dX11_line_17 (k := ?_)
    by_cases hs0 : l2 = 0
    · replace H2 := if_pe hs0 H2
      refine ev_tableIn (M := T11_line) (pc := 18) (off := 50) 68 dX11_line_18 (by omega) (by omega) (by rw [hs0]; rfl) (k := ?_)
      refine ev_aload_n (M := T11_line) (pc := 68) 0 dX11_line_68 (k := ?_)
      refine ev_getI (M := T11_line) (pc := 69) (x := q1.2.1 4 l1 6) fl_X11_157 dX11_line_69 (K := ?_)
      refine ev_ifeq (M := T11_line) (pc := 72) 79 dX11_line_72 (kt := fun hc => ?_) (kf := fun hc => ?_)
      · replace H2 := if_pe hc H2
        refine ev_iconst (M := T11_line) (pc := 79) dX11_line_79 (k := ?_)
        cases H2
        exact ev_ireturn (M := T11_line) (pc := 80) dX11_line_80
      · replace H2 := if_ne hc H2
        refine ev_iconst (M := T11_line) (pc := 75) dX11_line_75 (k := ?_)
        refine ev_goto (M := T11_line) (pc := 76) 80 dX11_line_76 (k := ?_)
        cases H2
        exact ev_ireturn (M := T11_line) (pc := 80) dX11_line_80
    · replace H2 := if_ne hs0 H2
      by_cases hs1 : l2 = 1
      · replace H2 := if_pe hs1 H2
        refine ev_tableIn (M := T11_line) (pc := 18) (off := 63) 81 dX11_line_18 (by omega) (by omega) (by rw [hs1]; rfl) (k := ?_)
        refine ev_aload_n (M := T11_line) (pc := 81) 0 dX11_line_81 (k := ?_)
        obtain ⟨q2, hq, H3⟩ := bd_e H2
        clear H2
        refine ev_callV (M := T11_line) (pc := 82) (mc := 0) (ms := 0) (st := []) (C4_sound hq) md_X4_sound im_X4_sound se_X4_sound ml_X11_202 dX11_line_82 _ (by decide) (K := ?_)
        cases H3
        exact ev_ireturn (M := T11_line) (pc := 85) dX11_line_85
      · replace H2 := if_ne hs1 H2
        by_cases hs2 : l2 = 2
        · replace H2 := if_pe hs2 H2
          refine ev_tableIn (M := T11_line) (pc := 18) (off := 68) 86 dX11_line_18 (by omega) (by omega) (by rw [hs2]; rfl) (k := ?_)
          refine ev_aload_n (M := T11_line) (pc := 86) 0 dX11_line_86 (k := ?_)
          refine ev_getR (M := T11_line) (pc := 87) (t := 0) (x := Option.map (Prod.mk 0) (q1.2.2.2 4 l1 11)) fl_X11_206 dX11_line_87 (hx := ry_4_11 _ _) (K := ?_)
          refine ev_nonnullK (M := T11_line) (pc := 90) (q1.2.2.2 4 l1 11) 97 dX11_line_90 (kt := fun hc => ?_) (kf := fun hc => ?_)
          · replace H2 := if_ne hc H2
            refine ev_aload_n (M := T11_line) (pc := 97) 0 dX11_line_97 (k := ?_)
            refine ev_getR (M := T11_line) (pc := 98) (t := 0) (x := Option.map (Prod.mk 0) (q1.2.2.2 4 l1 11)) fl_X11_206 dX11_line_98 (hx := ry_4_11 _ _) (K := ?_)
            obtain ⟨a3, ea3, H3⟩ := bd_e H2
            clear H2
            rw [ea3]
            refine ev_getI (M := T11_line) (pc := 101) (x := q1.2.1 0 a3 9) fl_X11_210 dX11_line_101 (K := ?_)
            cases H3
            exact ev_ireturn (M := T11_line) (pc := 104) dX11_line_104
          · replace H2 := if_pe hc H2
            refine ev_iconst (M := T11_line) (pc := 93) dX11_line_93 (k := ?_)
            refine ev_goto (M := T11_line) (pc := 94) 104 dX11_line_94 (k := ?_)
            cases H2
            exact ev_ireturn (M := T11_line) (pc := 104) dX11_line_104
        · replace H2 := if_ne hs2 H2
          by_cases hs3 : l2 = 3
          · replace H2 := if_pe hs3 H2
            refine ev_tableIn (M := T11_line) (pc := 18) (off := 87) 105 dX11_line_18 (by omega) (by omega) (by rw [hs3]; rfl) (k := ?_)
            refine ev_aload_n (M := T11_line) (pc := 105) 0 dX11_line_105 (k := ?_)
            refine ev_getR (M := T11_line) (pc := 106) (t := 0) (x := Option.map (Prod.mk 0) (q1.2.2.2 4 l1 12)) fl_X11_213 dX11_line_106 (hx := ry_4_12 _ _) (K := ?_)
            refine ev_nonnullK (M := T11_line) (pc := 109) (q1.2.2.2 4 l1 12) 116 dX11_line_109 (kt := fun hc => ?_) (kf := fun hc => ?_)
            · replace H2 := if_ne hc H2
              refine ev_aload_n (M := T11_line) (pc := 116) 0 dX11_line_116 (k := ?_)
              refine ev_getR (M := T11_line) (pc := 117) (t := 0) (x := Option.map (Prod.mk 0) (q1.2.2.2 4 l1 12)) fl_X11_213 dX11_line_117 (hx := ry_4_12 _ _) (K := ?_)
              obtain ⟨a4, ea4, H3⟩ := bd_e H2
              clear H2
              rw [ea4]
              refine ev_getI (M := T11_line) (pc := 120) (x := q1.2.1 0 a4 9) fl_X11_210 dX11_line_120 (K := ?_)
              refine ev_iconst (M := T11_line) (pc := 123) dX11_line_123 (k := ?_)
              refine ev_icmpne (M := T11_line) (pc := 124) 131 dX11_line_124 (kt := fun hc => ?_) (kf := fun hc => ?_)
              · replace H3 := if_ne hc H3
                refine ev_iconst (M := T11_line) (pc := 131) dX11_line_131 (k := ?_)
                cases H3
                exact ev_ireturn (M := T11_line) (pc := 132) dX11_line_132
              · replace H3 := if_pe hc H3
                refine ev_iconst (M := T11_line) (pc := 127) dX11_line_127 (k := ?_)
                refine ev_goto (M := T11_line) (pc := 128) 132 dX11_line_128 (k := ?_)
                cases H3
                exact ev_ireturn (M := T11_line) (pc := 132) dX11_line_132
            · replace H2 := if_pe hc H2
              refine ev_iconst (M := T11_line) (pc := 112) dX11_line_112 (k := ?_)
              refine ev_goto (M := T11_line) (pc := 113) 132 dX11_line_113 (k := ?_)
              cases H2
              exact ev_ireturn (M := T11_line) (pc := 132) dX11_line_132
          · replace H2 := if_ne hs3 H2
            by_cases hs4 : l2 = 4
            · replace H2 := if_pe hs4 H2
              refine ev_tableIn (M := T11_line) (pc := 18) (off := 115) 133 dX11_line_18 (by omega) (by omega) (by rw [hs4]; rfl) (k := ?_)
              refine ev_aload_n (M := T11_line) (pc := 133) 0 dX11_line_133 (k := ?_)
              refine ev_getI (M := T11_line) (pc := 134) (x := q1.2.1 4 l1 14) fl_X11_216 dX11_line_134 (K := ?_)
              cases H2
              exact ev_ireturn (M := T11_line) (pc := 137) dX11_line_137
            · replace H2 := if_ne hs4 H2
              by_cases hs5 : l2 = 5
              · replace H2 := if_pe hs5 H2
                refine ev_tableIn (M := T11_line) (pc := 18) (off := 120) 138 dX11_line_18 (by omega) (by omega) (by rw [hs5]; rfl) (k := ?_)
                refine ev_aload_n (M := T11_line) (pc := 138) 0 dX11_line_138 (k := ?_)
                refine ev_getI (M := T11_line) (pc := 139) (x := q1.2.1 4 l1 7) fl_X11_219 dX11_line_139 (K := ?_)
                refine ev_ifeq (M := T11_line) (pc := 142) 149 dX11_line_142 (kt := fun hc => ?_) (kf := fun hc => ?_)
                · replace H2 := if_pe hc H2
                  refine ev_iconst (M := T11_line) (pc := 149) dX11_line_149 (k := ?_)
                  cases H2
                  exact ev_ireturn (M := T11_line) (pc := 150) dX11_line_150
                · replace H2 := if_ne hc H2
                  refine ev_iconst (M := T11_line) (pc := 145) dX11_line_145 (k := ?_)
                  refine ev_goto (M := T11_line) (pc := 146) 150 dX11_line_146 (k := ?_)
                  cases H2
                  exact ev_ireturn (M := T11_line) (pc := 150) dX11_line_150
              · replace H2 := if_ne hs5 H2
                by_cases hs6 : l2 = 6
                · replace H2 := if_pe hs6 H2
                  refine ev_tableIn (M := T11_line) (pc := 18) (off := 133) 151 dX11_line_18 (by omega) (by omega) (by rw [hs6]; rfl) (k := ?_)
                  refine ev_aload_n (M := T11_line) (pc := 151) 0 dX11_line_151 (k := ?_)
                  refine ev_getI (M := T11_line) (pc := 152) (x := q1.2.1 4 l1 17) fl_X11_150 dX11_line_152 (K := ?_)
                  cases H2
                  exact ev_ireturn (M := T11_line) (pc := 155) dX11_line_155
                · replace H2 := if_ne hs6 H2
                  by_cases hs7 : l2 = 7
                  · replace H2 := if_pe hs7 H2
                    refine ev_tableIn (M := T11_line) (pc := 18) (off := 138) 156 dX11_line_18 (by omega) (by omega) (by rw [hs7]; rfl) (k := ?_)
                    refine ev_aload_n (M := T11_line) (pc := 156) 0 dX11_line_156 (k := ?_)
                    refine ev_getR (M := T11_line) (pc := 157) (t := 0) (x := Option.map (Prod.mk 0) (q1.2.2.2 4 l1 11)) fl_X11_206 dX11_line_157 (hx := ry_4_11 _ _) (K := ?_)
                    refine ev_nonnullK (M := T11_line) (pc := 160) (q1.2.2.2 4 l1 11) 167 dX11_line_160 (kt := fun hc => ?_) (kf := fun hc => ?_)
                    · replace H2 := if_ne hc H2
                      refine ev_aload_n (M := T11_line) (pc := 167) 0 dX11_line_167 (k := ?_)
                      refine ev_getR (M := T11_line) (pc := 168) (t := 0) (x := Option.map (Prod.mk 0) (q1.2.2.2 4 l1 11)) fl_X11_206 dX11_line_168 (hx := ry_4_11 _ _) (K := ?_)
                      obtain ⟨a5, ea5, H3⟩ := bd_e H2
                      clear H2
                      rw [ea5]
                      refine ev_getL (M := T11_line) (pc := 171) (x := q1.2.2.1 0 a5 8) fl_X11_222 dX11_line_171 (K := ?_)
                      obtain ⟨q6, hq, H4⟩ := bd_e H3
                      clear H3
                      refine ev_callS (M := T11_line) (pc := 174) (mc := 0) (ms := 0) (st := []) (C11_countOf hq) md_X11_countOf ss_X11_countOf ml_X11_83 dX11_line_174 _ (by decide) (K := ?_)
                      cases H4
                      exact ev_ireturn (M := T11_line) (pc := 177) dX11_line_177
                    · replace H2 := if_pe hc H2
                      refine ev_iconst (M := T11_line) (pc := 163) dX11_line_163 (k := ?_)
                      refine ev_goto (M := T11_line) (pc := 164) 177 dX11_line_164 (k := ?_)
                      cases H2
                      exact ev_ireturn (M := T11_line) (pc := 177) dX11_line_177
                  · replace H2 := if_ne hs7 H2
                    by_cases hs8 : l2 = 8
                    · replace H2 := if_pe hs8 H2
                      refine ev_tableIn (M := T11_line) (pc := 18) (off := 160) 178 dX11_line_18 (by omega) (by omega) (by rw [hs8]; rfl) (k := ?_)
                      refine ev_aload_n (M := T11_line) (pc := 178) 0 dX11_line_178 (k := ?_)
                      refine ev_getI (M := T11_line) (pc := 179) (x := q1.2.1 4 l1 4) fl_X11_160 dX11_line_179 (K := ?_)
                      cases H2
                      exact ev_ireturn (M := T11_line) (pc := 182) dX11_line_182
                    · replace H2 := if_ne hs8 H2
                      refine ev_tableOut (M := T11_line) (pc := 18) 183 dX11_line_18 (by omega) (k := ?_)
                      refine ev_bipush (M := T11_line) (pc := 183) dX11_line_183 (k := ?_)
                      cases H2
                      exact ev_ireturn (M := T11_line) (pc := 185) dX11_line_185
  · replace H1 := if_pe hc H1
    refine ev_bipush (M := T11_line) (pc := 7) dX11_line_7 (k := ?_)
    cases H1
    exact ev_ireturn (M := T11_line) (pc := 9) dX11_line_9
