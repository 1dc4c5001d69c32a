-- X12_inRoom
abbrev T12_inRoom : JT := (RX12, cX12_inRoom, 5, some .int, false)
set_option maxRecDepth 100000 in
set_option maxHeartbeats 4000000 in
theorem E12_inRoom_55 (k5 : Int → Int → Int → Int → JM → Option (Int × JM)) (hk5 : ∀ (l1 : Int) (l2 : Int) (l3 : Int) (l4 : Int) (h : JM) (res : (Int × JM)), k5 l1 l2 l3 l4 h = some res → Ev j_W1 1 0 0 T12_inRoom 5 [(0, .inr (.inr (some (12, 0)))), (1, .inl (l1)), (2, .inl (l2)), (3, .inl (l3)), (4, .inl (l4))] [] h (some (.inl res.1)) res.2) (l1 : Int) (l2 : Int) (l4 : Int) (s0 : Int) (s1 : Int) (h : JM) (res : (Int × JM)) (H : F12_inRoom_55 k5 l1 l2 l4 s0 s1 h = some res) : Ev j_W1 1 0 0 T12_inRoom 55 [(0, .inr (.inr (some (12, 0)))), (1, .inl (l1)), (2, .inl (l2)), (4, .inl (l4))] [.inl (s1), .inl (s0)] h (some (.inl res.1)) res.2 := by
  unfold F12_inRoom_55 at H
  refine ev_iadd (M := T12_inRoom) (pc := 55) dX12_inRoom_55 (k := ?_)
  obtain ⟨x1, ex1, H1⟩ := lt_e H
  clear H
  refine ev_topI ex1 ?_
  refine ev_istore_n (M := T12_inRoom) (pc := 56) [(3, .inl (x1)), (0, .inr (.inr (some (12, 0)))), (1, .inl (l1)), (2, .inl (l2)), (4, .inl (l4))] dX12_inRoom_56 (k := ?_)
  refine ev_iinc (M := T12_inRoom) (pc := 57) 4 [(4, .inl (w32 (l4 + 1))), (3, .inl (x1)), (0, .inr (.inr (some (12, 0)))), (1, .inl (l1)), (2, .inl (l2))] dX12_inRoom_57 (k := ?_)
  refine ev_goto (M := T12_inRoom) (pc := 60) 5 dX12_inRoom_60 (k := ?_)
  refine ev_lv [2, 3, 4, 1, 0] [(0, .inr (.inr (some (12, 0)))), (1, .inl (l1)), (2, .inl (l2)), (3, .inl (x1)), (4, .inl (w32 (l4 + 1)))] (k := ?_)
  exact hk5 l1 l2 x1 (w32 (l4 + 1)) h _ H1
set_option maxRecDepth 100000 in
set_option maxHeartbeats 4000000 in
theorem E12_inRoom_54 (k5 : Int → Int → Int → Int → JM → Option (Int × JM)) (hk5 : ∀ (l1 : Int) (l2 : Int) (l3 : Int) (l4 : Int) (h : JM) (res : (Int × JM)), k5 l1 l2 l3 l4 h = some res → Ev j_W1 1 0 0 T12_inRoom 5 [(0, .inr (.inr (some (12, 0)))), (1, .inl (l1)), (2, .inl (l2)), (3, .inl (l3)), (4, .inl (l4))] [] h (some (.inl res.1)) res.2) (l1 : Int) (l2 : Int) (l4 : Int) (s0 : Int) (h : JM) (res : (Int × JM)) (H : F12_inRoom_54 k5 l1 l2 l4 s0 h = some res) : Ev j_W1 1 0 0 T12_inRoom 54 [(0, .inr (.inr (some (12, 0)))), (1, .inl (l1)), (2, .inl (l2)), (4, .inl (l4))] [.inl (s0)] h (some (.inl res.1)) res.2 := by
  unfold F12_inRoom_54 at H
  refine ev_iconst (M := T12_inRoom) (pc := 54) dX12_inRoom_54 (k := ?_)
  exact E12_inRoom_55 k5 hk5 l1 l2 l4 s0 0 h _ H
set_option maxRecDepth 100000 in
set_option maxHeartbeats 4000000 in
theorem E12_inRoom_5b (k5 : Int → Int → Int → Int → JM → Option (Int × JM)) (hk5 : ∀ (l1 : Int) (l2 : Int) (l3 : Int) (l4 : Int) (h : JM) (res : (Int × JM)), k5 l1 l2 l3 l4 h = some res → Ev j_W1 1 0 0 T12_inRoom 5 [(0, .inr (.inr (some (12, 0)))), (1, .inl (l1)), (2, .inl (l2)), (3, .inl (l3)), (4, .inl (l4))] [] h (some (.inl res.1)) res.2) (l1 : Int) (l2 : Int) (l3 : Int) (l4 : Int) (h : JM) (res : (Int × JM)) (H : F12_inRoom_5b k5 l1 l2 l3 l4 h = some res) : Ev j_W1 1 0 0 T12_inRoom 5 [(0, .inr (.inr (some (12, 0)))), (1, .inl (l1)), (2, .inl (l2)), (3, .inl (l3)), (4, .inl (l4))] [] h (some (.inl res.1)) res.2 := by
  unfold F12_inRoom_5b at H
  refine ev_iload (M := T12_inRoom) (pc := 5) 4 dX12_inRoom_5 (k := ?_)
  refine ev_bipush (M := T12_inRoom) (pc := 7) dX12_inRoom_7 (k := ?_)
  refine ev_icmpge (M := T12_inRoom) (pc := 9) 63 dX12_inRoom_9 (kt := fun hc => ?_) (kf := fun hc => ?_)
  · replace H := if_pe hc H
    refine ev_iload_n (M := T12_inRoom) (pc := 63) 3 dX12_inRoom_63 (k := ?_)
    cases H
    exact ev_ireturn (M := T12_inRoom) (pc := 64) dX12_inRoom_64
  · replace H := if_ne hc H
    refine ev_iload_n (M := T12_inRoom) (pc := 12) 3 dX12_inRoom_12 (k := ?_)
    refine ev_aload_n (M := T12_inRoom) (pc := 13) 0 dX12_inRoom_13 (k := ?_)
    refine ev_getR (M := T12_inRoom) (pc := 14) (t := 133) (x := some (133, 0)) fl_X12_95 dX12_inRoom_14 (hx := ry_12_33 _ _) (K := ?_)
    refine ev_iload (M := T12_inRoom) (pc := 17) 4 dX12_inRoom_17 (k := ?_)
    obtain ⟨⟨hi0, hi1⟩, H1⟩ := g_e H
    clear H
    refine ev_iaload (M := T12_inRoom) (pc := 19) (k := 133) hi0 hi1 dX12_inRoom_19 (hc := ac_133) (hlen := ln_133 _ _) (K := ?_)
    refine ev_iconst (M := T12_inRoom) (pc := 20) dX12_inRoom_20 (k := ?_)
    refine ev_icmpne (M := T12_inRoom) (pc := 21) 54 dX12_inRoom_21 (kt := fun hc => ?_) (kf := fun hc => ?_)
    · replace H1 := if_ne hc H1
      refine ev_lv [0, 1, 2, 4] [(0, .inr (.inr (some (12, 0)))), (1, .inl (l1)), (2, .inl (l2)), (4, .inl (l4))] (k := ?_)
      exact E12_inRoom_54 k5 hk5 l1 l2 l4 l3 h _ H1
    · replace H1 := if_pe hc H1
      refine ev_aload_n (M := T12_inRoom) (pc := 24) 0 dX12_inRoom_24 (k := ?_)
      refine ev_getR (M := T12_inRoom) (pc := 25) (t := 135) (x := some (135, 0)) fl_X12_101 dX12_inRoom_25 (hx := ry_12_35 _ _) (K := ?_)
      refine ev_iload (M := T12_inRoom) (pc := 28) 4 dX12_inRoom_28 (k := ?_)
      obtain ⟨⟨hi0, hi1⟩, H2⟩ := g_e H1
      clear H1
      refine ev_iaload (M := T12_inRoom) (pc := 30) (k := 135) hi0 hi1 dX12_inRoom_30 (hc := ac_135) (hlen := ln_135 _ _) (K := ?_)
      refine ev_iload_n (M := T12_inRoom) (pc := 31) 1 dX12_inRoom_31 (k := ?_)
      refine ev_icmpne (M := T12_inRoom) (pc := 32) 54 dX12_inRoom_32 (kt := fun hc => ?_) (kf := fun hc => ?_)
      · replace H2 := if_ne hc H2
        refine ev_lv [0, 1, 2, 4] [(0, .inr (.inr (some (12, 0)))), (1, .inl (l1)), (2, .inl (l2)), (4, .inl (l4))] (k := ?_)
        exact E12_inRoom_54 k5 hk5 l1 l2 l4 l3 h _ H2
      · replace H2 := if_pe hc H2
        refine ev_aload_n (M := T12_inRoom) (pc := 35) 0 dX12_inRoom_35 (k := ?_)
        refine ev_getR (M := T12_inRoom) (pc := 36) (t := 137) (x := some (137, 0)) fl_X12_107 dX12_inRoom_36 (hx := ry_12_37 _ _) (K := ?_)
        refine ev_iload (M := T12_inRoom) (pc := 39) 4 dX12_inRoom_39 (k := ?_)
        obtain ⟨⟨hi0, hi1⟩, H3⟩ := g_e H2
        clear H2
        refine ev_iaload (M := T12_inRoom) (pc := 41) (k := 137) hi0 hi1 dX12_inRoom_41 (hc := ac_137) (hlen := ln_137 _ _) (K := ?_)
        refine ev_sipush (M := T12_inRoom) (pc := 42) dX12_inRoom_42 (k := ?_)
        refine ev_iload_n (M := T12_inRoom) (pc := 45) 2 dX12_inRoom_45 (k := ?_)
        refine ev_iadd (M := T12_inRoom) (pc := 46) dX12_inRoom_46 (k := ?_)
        refine ev_icmpne (M := T12_inRoom) (pc := 47) 54 dX12_inRoom_47 (kt := fun hc => ?_) (kf := fun hc => ?_)
        · replace H3 := if_ne hc H3
          refine ev_lv [0, 1, 2, 4] [(0, .inr (.inr (some (12, 0)))), (1, .inl (l1)), (2, .inl (l2)), (4, .inl (l4))] (k := ?_)
          exact E12_inRoom_54 k5 hk5 l1 l2 l4 l3 h _ H3
        · replace H3 := if_pe hc H3
          refine ev_iconst (M := T12_inRoom) (pc := 50) dX12_inRoom_50 (k := ?_)
          refine ev_goto (M := T12_inRoom) (pc := 51) 55 dX12_inRoom_51 (k := ?_)
          refine ev_lv [0, 1, 2, 4] [(0, .inr (.inr (some (12, 0)))), (1, .inl (l1)), (2, .inl (l2)), (4, .inl (l4))] (k := ?_)
          exact E12_inRoom_55 k5 hk5 l1 l2 l4 l3 1 h _ H3
theorem E12_inRoom_5 (n : Nat) : ∀ (l1 : Int) (l2 : Int) (l3 : Int) (l4 : Int) (h : JM) (res : (Int × JM)), F12_inRoom_5 n l1 l2 l3 l4 h = some res → Ev j_W1 1 0 0 T12_inRoom 5 [(0, .inr (.inr (some (12, 0)))), (1, .inl (l1)), (2, .inl (l2)), (3, .inl (l3)), (4, .inl (l4))] [] h (some (.inl res.1)) res.2 := by
  induction n with
  | zero =>
    intro l1 l2 l3 l4 h res H
    cases H
  | succ n ih =>
    intro l1 l2 l3 l4 h res H
    exact E12_inRoom_5b (F12_inRoom_5 n) ih l1 l2 l3 l4 h res H
set_option maxRecDepth 100000 in
set_option maxHeartbeats 4000000 in
theorem C12_inRoom {l1 : Int} {l2 : Int} {h : JM} {res : (Int × JM)} (H : F12_inRoom l1 l2 h = some res) : Cn j_W1 1 0 0 yX12_inRoom cX12_inRoom 5 (some .int) [.inr (.inr (some (12, 0))), .inl (l1), .inl (l2)] h (some (.inl res.1)) res.2 := by
  refine Cn.by (own := RX12) (b := false) [(0, .inr (.inr (some (12, 0)))), (1, .inl (l1)), (2, .inl (l2))] rfl (fun z => by cases z) (by decide +kernel) (K := ?_)
  unfold F12_inRoom at H
  refine ev_iconst (M := T12_inRoom) (pc := 0) dX12_inRoom_0 (k := ?_)
  refine ev_istore_n (M := T12_inRoom) (pc := 1) [(3, .inl (0)), (0, .inr (.inr (some (12, 0)))), (1, .inl (l1)), (2, .inl (l2))] dX12_inRoom_1 (k := ?_)
  refine ev_iconst (M := T12_inRoom) (pc := 2) dX12_inRoom_2 (k := ?_)
  refine ev_istore (M := T12_inRoom) (pc := 3) [(4, .inl (0)), (3, .inl (0)), (0, .inr (.inr (some (12, 0)))), (1, .inl (l1)), (2, .inl (l2))] dX12_inRoom_3 (k := ?_)
  refine ev_lv [2, 3, 4, 1, 0] [(0, .inr (.inr (some (12, 0)))), (1, .inl (l1)), (2, .inl (l2)), (3, .inl (0)), (4, .inl (0))] (k := ?_)
  exact E12_inRoom_5 j_fu l1 l2 0 0 h _ H
-- X12_toRoom
abbrev T12_toRoom : JT := (RX12, cX12_toRoom, 3, none, false)
set_option maxRecDepth 100000 in
set_option maxHeartbeats 4000000 in
theorem C12_toRoom {l1 : Int} {l2 : Int} {h : JM} {res : JM} (H : F12_toRoom l1 l2 h = some res) : Cn j_W1 6 0 0 yX12_toRoom cX12_toRoom 3 none [.inr (.inr (some (12, 0))), .inl (l1), .inl (l2)] h none res := by
  refine Cn.by (own := RX12) (b := false) [(0, .inr (.inr (some (12, 0)))), (1, .inl (l1)), (2, .inl (l2))] rfl (fun z => by cases z) (by decide +kernel) (K := ?_)
  unfold F12_toRoom at H
  refine ev_aload_n (M := T12_toRoom) (pc := 0) 0 dX12_toRoom_0 (k := ?_)
  refine ev_aload_n (M := T12_toRoom) (pc := 1) 0 dX12_toRoom_1 (k := ?_)
  refine ev_getR (M := T12_toRoom) (pc := 2) (t := 135) (x := some (135, 0)) fl_X12_101 dX12_toRoom_2 (hx := ry_12_35 _ _) (K := ?_)
  refine ev_iload_n (M := T12_toRoom) (pc := 5) 1 dX12_toRoom_5 (k := ?_)
  obtain ⟨⟨hi0, hi1⟩, H1⟩ := g_e H
  clear H
  refine ev_iaload (M := T12_toRoom) (pc := 6) (k := 135) hi0 hi1 dX12_toRoom_6 (hc := ac_135) (hlen := ln_135 _ _) (K := ?_)
  refine ev_iload_n (M := T12_toRoom) (pc := 7) 2 dX12_toRoom_7 (k := ?_)
  obtain ⟨q1, hq, H2⟩ := bd_e H1
  clear H1
  refine ev_callV (M := T12_toRoom) (pc := 8) (mc := 0) (ms := 0) (st := []) (C12_inRoom hq) md_X12_inRoom im_X12_inRoom se_X12_inRoom ml_X12_376 dX12_toRoom_8 _ (by decide) (K := ?_)
  refine ev_bipush (M := T12_toRoom) (pc := 11) dX12_toRoom_11 (k := ?_)
  refine ev_icmpne (M := T12_toRoom) (pc := 13) 24 dX12_toRoom_13 (kt := fun hc => ?_) (kf := fun hc => ?_)
  · replace H2 := if_ne hc H2
    refine ev_aload_n (M := T12_toRoom) (pc := 24) 0 dX12_toRoom_24 (k := ?_)
    refine ev_getR (M := T12_toRoom) (pc := 25) (t := 137) (x := some (137, 0)) fl_X12_107 dX12_toRoom_25 (hx := ry_12_37 _ _) (K := ?_)
    refine ev_iload_n (M := T12_toRoom) (pc := 28) 1 dX12_toRoom_28 (k := ?_)
    refine ev_sipush (M := T12_toRoom) (pc := 29) dX12_toRoom_29 (k := ?_)
    refine ev_iload_n (M := T12_toRoom) (pc := 32) 2 dX12_toRoom_32 (k := ?_)
    refine ev_iadd (M := T12_toRoom) (pc := 33) dX12_toRoom_33 (k := ?_)
    obtain ⟨⟨hi0, hi1⟩, H3⟩ := g_e H2
    clear H2
    obtain ⟨h2, eh2, H4⟩ := lt_e H3
    clear H3
    refine ev_iastore (M := T12_toRoom) (pc := 34) (k := 137) j_ok1 hi0 hi1 eh2 dX12_toRoom_34 (hc := ac_137) (hlen := ln_137 _ _) (K := ?_)
    refine ev_aload_n (M := T12_toRoom) (pc := 35) 0 dX12_toRoom_35 (k := ?_)
    refine ev_iload_n (M := T12_toRoom) (pc := 36) 1 dX12_toRoom_36 (k := ?_)
    obtain ⟨h3, hq, H5⟩ := bd_e H4
    clear H4
    refine ev_callV (M := T12_toRoom) (pc := 37) (mc := 0) (ms := 0) (st := []) (C12_answered hq) md_X12_answered im_X12_answered se_X12_answered ml_X12_320 dX12_toRoom_37 _ (by decide) (K := ?_)
    cases H5
    exact ev_return (M := T12_toRoom) (pc := 40) dX12_toRoom_40
  · replace H2 := if_pe hc H2
    refine ev_aload_n (M := T12_toRoom) (pc := 16) 0 dX12_toRoom_16 (k := ?_)
    refine ev_iload_n (M := T12_toRoom) (pc := 17) 1 dX12_toRoom_17 (k := ?_)
    refine ev_iconst (M := T12_toRoom) (pc := 18) dX12_toRoom_18 (k := ?_)
    refine ev_iconst (M := T12_toRoom) (pc := 19) dX12_toRoom_19 (k := ?_)
    obtain ⟨h4, hq, H3⟩ := bd_e H2
    clear H2
    refine ev_callV (M := T12_toRoom) (pc := 20) (mc := 0) (ms := 0) (st := []) (C12_over hq) md_X12_over im_X12_over se_X12_over ml_X12_323 dX12_toRoom_20 _ (by decide) (K := ?_)
    cases H3
    exact ev_return (M := T12_toRoom) (pc := 23) dX12_toRoom_23
-- X12_places
abbrev T12_places : JT := (RX12, cX12_places, 4, none, false)
set_option maxRecDepth 100000 in
set_option maxHeartbeats 4000000 in
theorem E12_places_30 (kp : Int → Int → JM → Option JM) (dk : Nat) (hB : 40 ≤ dk) (hkp : ∀ (c row : Int) (h res : JM), kp c row h = some res → Cn j_W1 dk 0 0 yX12_places cX12_places 4 none [.inr (.inr (some (12, 0))), .inl c, .inl row] h none res) (l1 : Int) (l2 : Int) (s0 : Option Int) (s1 : Int) (s2 : Int) (h : JM) (res : JM) (H : F12_places_30 kp l1 l2 s0 s1 s2 h = some res) : Ev j_W1 (dk + 6) 0 0 T12_places 30 [(0, .inr (.inr (some (12, 0)))), (1, .inl (l1)), (2, .inl (l2))] [.inl (s2), .inl (s1), .inr (.inr (Option.map (Prod.mk 143) (s0)))] h none res := by
  unfold F12_places_30 at H
  obtain ⟨a1, ea1, H1⟩ := bd_e H
  clear H
  rw [ea1]
  obtain ⟨⟨hi0, hi1⟩, H2⟩ := g_e H1
  clear H1
  obtain ⟨h2, eh2, H3⟩ := lt_e H2
  clear H2
  refine ev_iastore (M := T12_places) (pc := 30) (k := 143) j_ok1 hi0 hi1 eh2 dX12_places_30 (hc := ac_143) (hlen := ln_143 _ _) (K := ?_)
  refine ev_aload_n (M := T12_places) (pc := 31) 0 dX12_places_31 (k := ?_)
  refine ev_getR (M := T12_places) (pc := 32) (t := 110) (x := some (110, 0)) fl_X12_28 dX12_places_32 (hx := ry_12_10 _ _) (K := ?_)
  refine ev_iload_n (M := T12_places) (pc := 35) 2 dX12_places_35 (k := ?_)
  obtain ⟨⟨hi0, hi1⟩, H4⟩ := g_e H3
  clear H3
  refine ev_iaload (M := T12_places) (pc := 36) (k := 110) hi0 hi1 dX12_places_36 (hc := ac_110) (hlen := ln_110 _ _) (K := ?_)
  obtain ⟨x3, ex3, H5⟩ := lt_e H4
  clear H4
  refine ev_topI ex3 ?_
  refine ev_istore_n (M := T12_places) (pc := 37) [(3, .inl (x3)), (0, .inr (.inr (some (12, 0)))), (1, .inl (l1)), (2, .inl (l2))] dX12_places_37 (k := ?_)
  refine ev_aload_n (M := T12_places) (pc := 38) 1 dX12_places_38 (k := ?_)
  refine ev_getR (M := T12_places) (pc := 39) (t := 109) (x := some (109, 0)) fl_X12_25 dX12_places_39 (hx := ry_12_9 _ _) (K := ?_)
  refine ev_iload_n (M := T12_places) (pc := 42) 3 dX12_places_42 (k := ?_)
  obtain ⟨⟨hi0, hi1⟩, H6⟩ := g_e H5
  clear H5
  refine ev_iaload (M := T12_places) (pc := 43) (k := 109) hi0 hi1 dX12_places_43 (hc := ac_109) (hlen := ln_109 _ _) (K := ?_)
  by_cases hs0 : h2.1 109 0 l2 = 0
  · replace H6 := if_pe hs0 H6
    refine ev_tableIn (M := T12_places) (pc := 44) (off := 32) 76 dX12_places_44 (by omega) (by omega) (by rw [hs0]; rfl) (k := ?_)
    refine ev_aload_n (M := T12_places) (pc := 76) 1 dX12_places_76 (k := ?_)
    refine ev_iload_n (M := T12_places) (pc := 77) 2 dX12_places_77 (k := ?_)
    refine ev_iload_n (M := T12_places) (pc := 78) 0 dX12_places_78 (k := ?_)
    obtain ⟨h4, hq, H7⟩ := bd_e H6
    clear H6
    refine ev_callV (M := T12_places) (pc := 79) (mc := 0) (ms := 0) (st := []) (C12_toLine kp dk hB hkp hq) md_X12_toLine im_X12_toLine se_X12_toLine ml_X12_337 dX12_places_79 _ (by omega) (K := ?_)
    refine ev_goto (M := T12_places) (pc := 82) 127 dX12_places_82 (k := ?_)
    cases H7
    exact ev_return (M := T12_places) (pc := 127) dX12_places_127
  · replace H6 := if_ne hs0 H6
    by_cases hs1 : h2.1 109 0 l2 = 1
    · replace H6 := if_pe hs1 H6
      refine ev_tableIn (M := T12_places) (pc := 44) (off := 41) 85 dX12_places_44 (by omega) (by omega) (by rw [hs1]; rfl) (k := ?_)
      refine ev_aload_n (M := T12_places) (pc := 85) 1 dX12_places_85 (k := ?_)
      refine ev_getR (M := T12_places) (pc := 86) (t := 141) (x := some (141, 0)) fl_X12_119 dX12_places_86 (hx := ry_12_41 _ _) (K := ?_)
      refine ev_iload_n (M := T12_places) (pc := 89) 2 dX12_places_89 (k := ?_)
      refine ev_iload_n (M := T12_places) (pc := 90) 0 dX12_places_90 (k := ?_)
      obtain ⟨⟨hi0, hi1⟩, H7⟩ := g_e H6
      clear H6
      obtain ⟨h5, eh5, H8⟩ := lt_e H7
      clear H7
      refine ev_iastore (M := T12_places) (pc := 91) (k := 141) j_ok1 hi0 hi1 eh5 dX12_places_91 (hc := ac_141) (hlen := ln_141 _ _) (K := ?_)
      refine ev_aload_n (M := T12_places) (pc := 92) 1 dX12_places_92 (k := ?_)
      refine ev_getR (M := T12_places) (pc := 93) (t := 142) (x := some (142, 0)) fl_X12_122 dX12_places_93 (hx := ry_12_42 _ _) (K := ?_)
      refine ev_iload_n (M := T12_places) (pc := 96) 2 dX12_places_96 (k := ?_)
      refine ev_aload_n (M := T12_places) (pc := 97) 1 dX12_places_97 (k := ?_)
      refine ev_getR (M := T12_places) (pc := 98) (t := 109) (x := some (109, 0)) fl_X12_25 dX12_places_98 (hx := ry_12_9 _ _) (K := ?_)
      refine ev_iload_n (M := T12_places) (pc := 101) 3 dX12_places_101 (k := ?_)
      obtain ⟨⟨hi0, hi1⟩, H9⟩ := g_e H8
      clear H8
      refine ev_iaload (M := T12_places) (pc := 102) (k := 109) hi0 hi1 dX12_places_102 (hc := ac_109) (hlen := ln_109 _ _) (K := ?_)
      obtain ⟨⟨hi0, hi1⟩, H10⟩ := g_e H9
      clear H9
      obtain ⟨h6, eh6, H11⟩ := lt_e H10
      clear H10
      refine ev_iastore (M := T12_places) (pc := 103) (k := 142) j_ok1 hi0 hi1 eh6 dX12_places_103 (hc := ac_142) (hlen := ln_142 _ _) (K := ?_)
      refine ev_aload_n (M := T12_places) (pc := 104) 1 dX12_places_104 (k := ?_)
      refine ev_iload_n (M := T12_places) (pc := 105) 2 dX12_places_105 (k := ?_)
      obtain ⟨h7, hq, H12⟩ := bd_e H11
      clear H11
      refine ev_callV (M := T12_places) (pc := 106) (mc := 0) (ms := 0) (st := []) (C12_toFar hq) md_X12_toFar im_X12_toFar se_X12_toFar ml_X12_340 dX12_places_106 _ (by omega) (K := ?_)
      refine ev_goto (M := T12_places) (pc := 109) 127 dX12_places_109 (k := ?_)
      cases H12
      exact ev_return (M := T12_places) (pc := 127) dX12_places_127
    · replace H6 := if_ne hs1 H6
      by_cases hs2 : h2.1 109 0 l2 = 2
      · replace H6 := if_pe hs2 H6
        refine ev_tableIn (M := T12_places) (pc := 44) (off := 41) 85 dX12_places_44 (by omega) (by omega) (by rw [hs2]; rfl) (k := ?_)
        refine ev_aload_n (M := T12_places) (pc := 85) 1 dX12_places_85 (k := ?_)
        refine ev_getR (M := T12_places) (pc := 86) (t := 141) (x := some (141, 0)) fl_X12_119 dX12_places_86 (hx := ry_12_41 _ _) (K := ?_)
        refine ev_iload_n (M := T12_places) (pc := 89) 2 dX12_places_89 (k := ?_)
        refine ev_iload_n (M := T12_places) (pc := 90) 0 dX12_places_90 (k := ?_)
        obtain ⟨⟨hi0, hi1⟩, H7⟩ := g_e H6
        clear H6
        obtain ⟨h8, eh8, H8⟩ := lt_e H7
        clear H7
        refine ev_iastore (M := T12_places) (pc := 91) (k := 141) j_ok1 hi0 hi1 eh8 dX12_places_91 (hc := ac_141) (hlen := ln_141 _ _) (K := ?_)
        refine ev_aload_n (M := T12_places) (pc := 92) 1 dX12_places_92 (k := ?_)
        refine ev_getR (M := T12_places) (pc := 93) (t := 142) (x := some (142, 0)) fl_X12_122 dX12_places_93 (hx := ry_12_42 _ _) (K := ?_)
        refine ev_iload_n (M := T12_places) (pc := 96) 2 dX12_places_96 (k := ?_)
        refine ev_aload_n (M := T12_places) (pc := 97) 1 dX12_places_97 (k := ?_)
        refine ev_getR (M := T12_places) (pc := 98) (t := 109) (x := some (109, 0)) fl_X12_25 dX12_places_98 (hx := ry_12_9 _ _) (K := ?_)
        refine ev_iload_n (M := T12_places) (pc := 101) 3 dX12_places_101 (k := ?_)
        obtain ⟨⟨hi0, hi1⟩, H9⟩ := g_e H8
        clear H8
        refine ev_iaload (M := T12_places) (pc := 102) (k := 109) hi0 hi1 dX12_places_102 (hc := ac_109) (hlen := ln_109 _ _) (K := ?_)
        obtain ⟨⟨hi0, hi1⟩, H10⟩ := g_e H9
        clear H9
        obtain ⟨h9, eh9, H11⟩ := lt_e H10
        clear H10
        refine ev_iastore (M := T12_places) (pc := 103) (k := 142) j_ok1 hi0 hi1 eh9 dX12_places_103 (hc := ac_142) (hlen := ln_142 _ _) (K := ?_)
        refine ev_aload_n (M := T12_places) (pc := 104) 1 dX12_places_104 (k := ?_)
        refine ev_iload_n (M := T12_places) (pc := 105) 2 dX12_places_105 (k := ?_)
        obtain ⟨h10, hq, H12⟩ := bd_e H11
        clear H11
        refine ev_callV (M := T12_places) (pc := 106) (mc := 0) (ms := 0) (st := []) (C12_toFar hq) md_X12_toFar im_X12_toFar se_X12_toFar ml_X12_340 dX12_places_106 _ (by omega) (K := ?_)
        refine ev_goto (M := T12_places) (pc := 109) 127 dX12_places_109 (k := ?_)
        cases H12
        exact ev_return (M := T12_places) (pc := 127) dX12_places_127
      · replace H6 := if_ne hs2 H6
        by_cases hs3 : h2.1 109 0 l2 = 3
        · replace H6 := if_pe hs3 H6
          refine ev_tableIn (M := T12_places) (pc := 44) (off := 68) 112 dX12_places_44 (by omega) (by omega) (by rw [hs3]; rfl) (k := ?_)
          refine ev_aload_n (M := T12_places) (pc := 112) 1 dX12_places_112 (k := ?_)
          refine ev_iload_n (M := T12_places) (pc := 113) 2 dX12_places_113 (k := ?_)
          refine ev_iload_n (M := T12_places) (pc := 114) 0 dX12_places_114 (k := ?_)
          obtain ⟨h11, hq, H7⟩ := bd_e H6
          clear H6
          refine ev_callV (M := T12_places) (pc := 115) (mc := 0) (ms := 0) (st := []) (C12_toGroup hq) md_X12_toGroup im_X12_toGroup se_X12_toGroup ml_X12_343 dX12_places_115 _ (by omega) (K := ?_)
          refine ev_goto (M := T12_places) (pc := 118) 127 dX12_places_118 (k := ?_)
          cases H7
          exact ev_return (M := T12_places) (pc := 127) dX12_places_127
        · replace H6 := if_ne hs3 H6
          refine ev_tableOut (M := T12_places) (pc := 44) 121 dX12_places_44 (by omega) (k := ?_)
          refine ev_aload_n (M := T12_places) (pc := 121) 1 dX12_places_121 (k := ?_)
          refine ev_iload_n (M := T12_places) (pc := 122) 2 dX12_places_122 (k := ?_)
          refine ev_iload_n (M := T12_places) (pc := 123) 0 dX12_places_123 (k := ?_)
          obtain ⟨h12, hq, H7⟩ := bd_e H6
          clear H6
          refine ev_callV (M := T12_places) (pc := 124) (mc := 0) (ms := 0) (st := []) (C12_toRoom hq) md_X12_toRoom im_X12_toRoom se_X12_toRoom ml_X12_346 dX12_places_124 _ (by omega) (K := ?_)
          cases H7
          exact ev_return (M := T12_places) (pc := 127) dX12_places_127
set_option maxRecDepth 100000 in
set_option maxHeartbeats 4000000 in
theorem C12_places (kp : Int → Int → JM → Option JM) (dk : Nat) (hB : 40 ≤ dk) (hkp : ∀ (c row : Int) (h res : JM), kp c row h = some res → Cn j_W1 dk 0 0 yX12_places cX12_places 4 none [.inr (.inr (some (12, 0))), .inl c, .inl row] h none res) {l1 : Int} {l2 : Int} {h : JM} {res : JM} (H : F12_places kp l1 l2 h = some res) : Cn j_W1 (dk + 6) 0 0 yX12_places cX12_places 4 none [.inr (.inr (some (12, 0))), .inl (l1), .inl (l2)] h none res := by
  refine Cn.by (own := RX12) (b := false) [(0, .inr (.inr (some (12, 0)))), (1, .inl (l1)), (2, .inl (l2))] rfl (fun z => by cases z) (by decide +kernel) (K := ?_)
  unfold F12_places at H
  refine ev_aload_n (M := T12_places) (pc := 0) 0 dX12_places_0 (k := ?_)
  refine ev_getR (M := T12_places) (pc := 1) (t := 143) (x := some (143, 0)) fl_X12_125 dX12_places_1 (hx := ry_12_43 _ _) (K := ?_)
  refine ev_iload_n (M := T12_places) (pc := 4) 1 dX12_places_4 (k := ?_)
  refine ev_aload_n (M := T12_places) (pc := 5) 0 dX12_places_5 (k := ?_)
  refine ev_getR (M := T12_places) (pc := 6) (t := 143) (x := some (143, 0)) fl_X12_125 dX12_places_6 (hx := ry_12_43 _ _) (K := ?_)
  refine ev_iload_n (M := T12_places) (pc := 9) 1 dX12_places_9 (k := ?_)
  obtain ⟨⟨hi0, hi1⟩, H1⟩ := g_e H
  clear H
  refine ev_iaload (M := T12_places) (pc := 10) (k := 143) hi0 hi1 dX12_places_10 (hc := ac_143) (hlen := ln_143 _ _) (K := ?_)
  refine ev_iconst (M := T12_places) (pc := 11) dX12_places_11 (k := ?_)
  refine ev_icmpne (M := T12_places) (pc := 12) 24 dX12_places_12 (kt := fun hc => ?_) (kf := fun hc => ?_)
  · replace H1 := if_ne hc H1
    refine ev_aload_n (M := T12_places) (pc := 24) 0 dX12_places_24 (k := ?_)
    refine ev_getR (M := T12_places) (pc := 25) (t := 143) (x := some (143, 0)) fl_X12_125 dX12_places_25 (hx := ry_12_43 _ _) (K := ?_)
    refine ev_iload_n (M := T12_places) (pc := 28) 1 dX12_places_28 (k := ?_)
    obtain ⟨⟨hi0, hi1⟩, H2⟩ := g_e H1
    clear H1
    refine ev_iaload (M := T12_places) (pc := 29) (k := 143) hi0 hi1 dX12_places_29 (hc := ac_143) (hlen := ln_143 _ _) (K := ?_)
    exact E12_places_30 kp dk hB hkp l1 l2 (some 0) l1 (h.1 143 0 l1) h _ H2
  · replace H1 := if_pe hc H1
    refine ev_aload_n (M := T12_places) (pc := 15) 0 dX12_places_15 (k := ?_)
    refine ev_getR (M := T12_places) (pc := 16) (t := 111) (x := some (111, 0)) fl_X12_31 dX12_places_16 (hx := ry_12_11 _ _) (K := ?_)
    refine ev_iload_n (M := T12_places) (pc := 19) 2 dX12_places_19 (k := ?_)
    obtain ⟨⟨hi0, hi1⟩, H2⟩ := g_e H1
    clear H1
    refine ev_iaload (M := T12_places) (pc := 20) (k := 111) hi0 hi1 dX12_places_20 (hc := ac_111) (hlen := ln_111 _ _) (K := ?_)
    refine ev_goto (M := T12_places) (pc := 21) 30 dX12_places_21 (k := ?_)
    exact E12_places_30 kp dk hB hkp l1 l2 (some 0) l1 (h.1 111 0 l2) h _ H2
-- PN
theorem C12_placesN (n : Nat) : ∀ (c r : Int) (h res : JM), F12_placesN n c r h = some res → Cn j_W1 (40 + 6 * n) 0 0 yX12_places cX12_places 4 none [.inr (.inr (some (12, 0))), .inl c, .inl r] h none res := by
  induction n with
  | zero => intro c r h res H; cases H
  | succ n ih =>
    intro c r h res H
    exact C12_places (F12_placesN n) (40 + 6 * n) (by omega) ih H
-- X12_incoming
abbrev T12_incoming : JT := (RX12, cX12_incoming, 5, none, false)
set_option maxRecDepth 100000 in
set_option maxHeartbeats 4000000 in
theorem E12_incoming_68b (k68 : Int → Int → JM → Option JM) (hk68 : ∀ (l3 : Int) (l4 : Int) (h : JM) (res : JM), k68 l3 l4 h = some res → Ev j_W1 89 0 0 T12_incoming 68 [(0, .inr (.inr (some (12, 0)))), (3, .inl (l3)), (4, .inl (l4))] [] h none res) (l3 : Int) (l4 : Int) (h : JM) (res : JM) (H : F12_incoming_68b k68 l3 l4 h = some res) : Ev j_W1 89 0 0 T12_incoming 68 [(0, .inr (.inr (some (12, 0)))), (3, .inl (l3)), (4, .inl (l4))] [] h none res := by
  unfold F12_incoming_68b at H
  refine ev_iload (M := T12_incoming) (pc := 68) 2 dX12_incoming_68 (k := ?_)
  refine ev_aload_n (M := T12_incoming) (pc := 70) 0 dX12_incoming_70 (k := ?_)
  refine ev_getR (M := T12_incoming) (pc := 71) (t := 168) (x := some (168, 0)) fl_X12_197 dX12_incoming_71 (hx := ry_12_68 _ _) (K := ?_)
  refine ev_iconst (M := T12_incoming) (pc := 74) dX12_incoming_74 (k := ?_)
  obtain ⟨⟨hi0, hi1⟩, H1⟩ := g_e H
  clear H
  refine ev_iaload (M := T12_incoming) (pc := 75) (k := 168) hi0 hi1 dX12_incoming_75 (hc := ac_168) (hlen := ln_168 _ _) (K := ?_)
  refine ev_icmpge (M := T12_incoming) (pc := 76) 106 dX12_incoming_76 (kt := fun hc => ?_) (kf := fun hc => ?_)
  · replace H1 := if_pe hc H1
    refine ev_aload_n (M := T12_incoming) (pc := 106) 0 dX12_incoming_106 (k := ?_)
    refine ev_iload_n (M := T12_incoming) (pc := 107) 1 dX12_incoming_107 (k := ?_)
    obtain ⟨q1, hq, H2⟩ := bd_e H1
    clear H1
    refine ev_callV (M := T12_incoming) (pc := 108) (mc := 0) (ms := 0) (st := []) (C12_analysis hq) md_X12_analysis im_X12_analysis se_X12_analysis ml_X12_327 dX12_incoming_108 _ (by decide) (K := ?_)
    refine ev_istore (M := T12_incoming) (pc := 111) [(4, .inl (q1.1)), (0, .inr (.inr (some (12, 0)))), (3, .inl (l3))] dX12_incoming_111 (k := ?_)
    refine ev_iload (M := T12_incoming) (pc := 113) 0 dX12_incoming_113 (k := ?_)
    refine ev_ifge (M := T12_incoming) (pc := 115) 128 dX12_incoming_115 (kt := fun hc => ?_) (kf := fun hc => ?_)
    · replace H2 := if_pe hc H2
      refine ev_aload_n (M := T12_incoming) (pc := 128) 1 dX12_incoming_128 (k := ?_)
      refine ev_iload_n (M := T12_incoming) (pc := 129) 2 dX12_incoming_129 (k := ?_)
      refine ev_iload (M := T12_incoming) (pc := 130) 0 dX12_incoming_130 (k := ?_)
      obtain ⟨h2, hq, H3⟩ := bd_e H2
      clear H2
      refine ev_callV (M := T12_incoming) (pc := 132) (mc := 0) (ms := 0) (st := []) (C12_placesN 8 _ _ _ _ hq) md_X12_places im_X12_places se_X12_places ml_X12_331 dX12_incoming_132 _ (by decide) (K := ?_)
      cases H3
      exact ev_return (M := T12_incoming) (pc := 135) dX12_incoming_135
    · replace H2 := if_ne hc H2
      refine ev_aload_n (M := T12_incoming) (pc := 118) 1 dX12_incoming_118 (k := ?_)
      refine ev_iload_n (M := T12_incoming) (pc := 119) 2 dX12_incoming_119 (k := ?_)
      refine ev_iconst (M := T12_incoming) (pc := 120) dX12_incoming_120 (k := ?_)
      refine ev_iconst (M := T12_incoming) (pc := 121) dX12_incoming_121 (k := ?_)
      obtain ⟨h3, hq, H3⟩ := bd_e H2
      clear H2
      refine ev_callV (M := T12_incoming) (pc := 122) (mc := 0) (ms := 0) (st := []) (C12_over hq) md_X12_over im_X12_over se_X12_over ml_X12_323 dX12_incoming_122 _ (by decide) (K := ?_)
      refine ev_goto (M := T12_incoming) (pc := 125) 135 dX12_incoming_125 (k := ?_)
      cases H3
      exact ev_return (M := T12_incoming) (pc := 135) dX12_incoming_135
  · replace H1 := if_ne hc H1
    refine ev_aload_n (M := T12_incoming) (pc := 79) 0 dX12_incoming_79 (k := ?_)
    refine ev_getR (M := T12_incoming) (pc := 80) (t := 139) (x := some (139, 0)) fl_X12_113 dX12_incoming_80 (hx := ry_12_39 _ _) (K := ?_)
    refine ev_bipush (M := T12_incoming) (pc := 83) dX12_incoming_83 (k := ?_)
    refine ev_iload_n (M := T12_incoming) (pc := 85) 1 dX12_incoming_85 (k := ?_)
    refine ev_imul (M := T12_incoming) (pc := 86) dX12_incoming_86 (k := ?_)
    refine ev_iload (M := T12_incoming) (pc := 87) 2 dX12_incoming_87 (k := ?_)
    refine ev_iadd (M := T12_incoming) (pc := 89) dX12_incoming_89 (k := ?_)
    refine ev_aload_n (M := T12_incoming) (pc := 90) 0 dX12_incoming_90 (k := ?_)
    refine ev_getR (M := T12_incoming) (pc := 91) (t := 168) (x := some (168, 0)) fl_X12_197 dX12_incoming_91 (hx := ry_12_68 _ _) (K := ?_)
    refine ev_iconst (M := T12_incoming) (pc := 94) dX12_incoming_94 (k := ?_)
    refine ev_iload (M := T12_incoming) (pc := 95) 2 dX12_incoming_95 (k := ?_)
    refine ev_iadd (M := T12_incoming) (pc := 97) dX12_incoming_97 (k := ?_)
    obtain ⟨⟨hi0, hi1⟩, H2⟩ := g_e H1
    clear H1
    refine ev_iaload (M := T12_incoming) (pc := 98) (k := 168) hi0 hi1 dX12_incoming_98 (hc := ac_168) (hlen := ln_168 _ _) (K := ?_)
    obtain ⟨⟨hi0, hi1⟩, H3⟩ := g_e H2
    clear H2
    obtain ⟨h4, eh4, H4⟩ := lt_e H3
    clear H3
    refine ev_iastore (M := T12_incoming) (pc := 99) (k := 139) j_ok1 hi0 hi1 eh4 dX12_incoming_99 (hc := ac_139) (hlen := ln_139 _ _) (K := ?_)
    refine ev_iinc (M := T12_incoming) (pc := 100) 2 [(4, .inl (w32 (l4 + 1))), (0, .inr (.inr (some (12, 0)))), (3, .inl (l3))] dX12_incoming_100 (k := ?_)
    refine ev_goto (M := T12_incoming) (pc := 103) 68 dX12_incoming_103 (k := ?_)
    refine ev_lv [1, 2, 0] [(0, .inr (.inr (some (12, 0)))), (3, .inl (l3)), (4, .inl (w32 (l4 + 1)))] (k := ?_)
    exact hk68 l3 (w32 (l4 + 1)) h4 _ H4
theorem E12_incoming_68 (n : Nat) : ∀ (l3 : Int) (l4 : Int) (h : JM) (res : JM), F12_incoming_68 n l3 l4 h = some res → Ev j_W1 89 0 0 T12_incoming 68 [(0, .inr (.inr (some (12, 0)))), (3, .inl (l3)), (4, .inl (l4))] [] h none res := by
  induction n with
  | zero =>
    intro l3 l4 h res H
    cases H
  | succ n ih =>
    intro l3 l4 h res H
    exact E12_incoming_68b (F12_incoming_68 n) ih l3 l4 h res H
set_option maxRecDepth 100000 in
set_option maxHeartbeats 4000000 in
theorem C12_incoming {l1 : Int} {h : JM} {res : JM} (H : F12_incoming l1 h = some res) : Cn j_W1 89 0 0 yX12_incoming cX12_incoming 5 none [.inr (.inr (some (12, 0))), .inl (l1)] h none res := by
  refine Cn.by (own := RX12) (b := false) [(0, .inr (.inr (some (12, 0)))), (1, .inl (l1))] rfl (fun z => by cases z) (by decide +kernel) (K := ?_)
  unfold F12_incoming at H
  refine ev_bipush (M := T12_incoming) (pc := 0) dX12_incoming_0 (k := ?_)
  refine ev_iload_n (M := T12_incoming) (pc := 2) 1 dX12_incoming_2 (k := ?_)
  refine ev_imul (M := T12_incoming) (pc := 3) dX12_incoming_3 (k := ?_)
  refine ev_aload_n (M := T12_incoming) (pc := 4) 0 dX12_incoming_4 (k := ?_)
  refine ev_getR (M := T12_incoming) (pc := 5) (t := 168) (x := some (168, 0)) fl_X12_197 dX12_incoming_5 (hx := ry_12_68 _ _) (K := ?_)
  refine ev_iconst (M := T12_incoming) (pc := 8) dX12_incoming_8 (k := ?_)
  obtain ⟨⟨hi0, hi1⟩, H1⟩ := g_e H
  clear H
  refine ev_iaload (M := T12_incoming) (pc := 9) (k := 168) hi0 hi1 dX12_incoming_9 (hc := ac_168) (hlen := ln_168 _ _) (K := ?_)
  refine ev_iadd (M := T12_incoming) (pc := 10) dX12_incoming_10 (k := ?_)
  obtain ⟨x5, ex5, H2⟩ := lt_e H1
  clear H1
  refine ev_topI ex5 ?_
  refine ev_istore_n (M := T12_incoming) (pc := 11) [(2, .inl (x5)), (0, .inr (.inr (some (12, 0)))), (1, .inl (l1))] dX12_incoming_11 (k := ?_)
  refine ev_aload_n (M := T12_incoming) (pc := 12) 1 dX12_incoming_12 (k := ?_)
  refine ev_getR (M := T12_incoming) (pc := 13) (t := 154) (x := some (154, 0)) fl_X12_158 dX12_incoming_13 (hx := ry_12_54 _ _) (K := ?_)
  refine ev_iload_n (M := T12_incoming) (pc := 16) 0 dX12_incoming_16 (k := ?_)
  refine ev_iconst (M := T12_incoming) (pc := 17) dX12_incoming_17 (k := ?_)
  obtain ⟨⟨hi0, hi1⟩, H3⟩ := g_e H2
  clear H2
  obtain ⟨h6, eh6, H4⟩ := lt_e H3
  clear H3
  refine ev_iastore (M := T12_incoming) (pc := 18) (k := 154) j_ok1 hi0 hi1 eh6 dX12_incoming_18 (hc := ac_154) (hlen := ln_154 _ _) (K := ?_)
  refine ev_aload_n (M := T12_incoming) (pc := 19) 1 dX12_incoming_19 (k := ?_)
  refine ev_iload_n (M := T12_incoming) (pc := 20) 2 dX12_incoming_20 (k := ?_)
  refine ev_bipush (M := T12_incoming) (pc := 21) dX12_incoming_21 (k := ?_)
  refine ev_aload_n (M := T12_incoming) (pc := 23) 1 dX12_incoming_23 (k := ?_)
  refine ev_getR (M := T12_incoming) (pc := 24) (t := 168) (x := some (168, 0)) fl_X12_197 dX12_incoming_24 (hx := ry_12_68 _ _) (K := ?_)
  refine ev_iconst (M := T12_incoming) (pc := 27) dX12_incoming_27 (k := ?_)
  obtain ⟨⟨hi0, hi1⟩, H5⟩ := g_e H4
  clear H4
  refine ev_iaload (M := T12_incoming) (pc := 28) (k := 168) hi0 hi1 dX12_incoming_28 (hc := ac_168) (hlen := ln_168 _ _) (K := ?_)
  refine ev_iadd (M := T12_incoming) (pc := 29) dX12_incoming_29 (k := ?_)
  obtain ⟨q7, hq, H6⟩ := bd_e H5
  clear H5
  refine ev_callV (M := T12_incoming) (pc := 30) (mc := 0) (ms := 0) (st := []) (C12_makes hq) md_X12_makes im_X12_makes se_X12_makes ml_X12_317 dX12_incoming_30 _ (by decide) (K := ?_)
  refine ev_istore_n (M := T12_incoming) (pc := 33) [(3, .inl (q7.1)), (2, .inl (x5)), (0, .inr (.inr (some (12, 0)))), (1, .inl (l1))] dX12_incoming_33 (k := ?_)
  refine ev_aload_n (M := T12_incoming) (pc := 34) 2 dX12_incoming_34 (k := ?_)
  refine ev_getR (M := T12_incoming) (pc := 35) (t := 155) (x := some (155, 0)) fl_X12_161 dX12_incoming_35 (hx := ry_12_55 _ _) (K := ?_)
  refine ev_iload_n (M := T12_incoming) (pc := 38) 1 dX12_incoming_38 (k := ?_)
  refine ev_iload_n (M := T12_incoming) (pc := 39) 0 dX12_incoming_39 (k := ?_)
  obtain ⟨⟨hi0, hi1⟩, H7⟩ := g_e H6
  clear H6
  obtain ⟨h8, eh8, H8⟩ := lt_e H7
  clear H7
  refine ev_iastore (M := T12_incoming) (pc := 40) (k := 155) j_ok1 hi0 hi1 eh8 dX12_incoming_40 (hc := ac_155) (hlen := ln_155 _ _) (K := ?_)
  refine ev_aload_n (M := T12_incoming) (pc := 41) 2 dX12_incoming_41 (k := ?_)
  refine ev_getR (M := T12_incoming) (pc := 42) (t := 144) (x := some (144, 0)) fl_X12_128 dX12_incoming_42 (hx := ry_12_44 _ _) (K := ?_)
  refine ev_iload_n (M := T12_incoming) (pc := 45) 0 dX12_incoming_45 (k := ?_)
  refine ev_aload_n (M := T12_incoming) (pc := 46) 2 dX12_incoming_46 (k := ?_)
  refine ev_getR (M := T12_incoming) (pc := 47) (t := 168) (x := some (168, 0)) fl_X12_197 dX12_incoming_47 (hx := ry_12_68 _ _) (K := ?_)
  refine ev_iconst (M := T12_incoming) (pc := 50) dX12_incoming_50 (k := ?_)
  obtain ⟨⟨hi0, hi1⟩, H9⟩ := g_e H8
  clear H8
  refine ev_iaload (M := T12_incoming) (pc := 51) (k := 168) hi0 hi1 dX12_incoming_51 (hc := ac_168) (hlen := ln_168 _ _) (K := ?_)
  obtain ⟨⟨hi0, hi1⟩, H10⟩ := g_e H9
  clear H9
  obtain ⟨h9, eh9, H11⟩ := lt_e H10
  clear H10
  refine ev_iastore (M := T12_incoming) (pc := 52) (k := 144) j_ok1 hi0 hi1 eh9 dX12_incoming_52 (hc := ac_144) (hlen := ln_144 _ _) (K := ?_)
  refine ev_aload_n (M := T12_incoming) (pc := 53) 2 dX12_incoming_53 (k := ?_)
  refine ev_getR (M := T12_incoming) (pc := 54) (t := 140) (x := some (140, 0)) fl_X12_116 dX12_incoming_54 (hx := ry_12_40 _ _) (K := ?_)
  refine ev_iload_n (M := T12_incoming) (pc := 57) 0 dX12_incoming_57 (k := ?_)
  refine ev_aload_n (M := T12_incoming) (pc := 58) 2 dX12_incoming_58 (k := ?_)
  refine ev_getR (M := T12_incoming) (pc := 59) (t := 168) (x := some (168, 0)) fl_X12_197 dX12_incoming_59 (hx := ry_12_68 _ _) (K := ?_)
  refine ev_iconst (M := T12_incoming) (pc := 62) dX12_incoming_62 (k := ?_)
  obtain ⟨⟨hi0, hi1⟩, H12⟩ := g_e H11
  clear H11
  refine ev_iaload (M := T12_incoming) (pc := 63) (k := 168) hi0 hi1 dX12_incoming_63 (hc := ac_168) (hlen := ln_168 _ _) (K := ?_)
  obtain ⟨⟨hi0, hi1⟩, H13⟩ := g_e H12
  clear H12
  obtain ⟨h10, eh10, H14⟩ := lt_e H13
  clear H13
  refine ev_iastore (M := T12_incoming) (pc := 64) (k := 140) j_ok1 hi0 hi1 eh10 dX12_incoming_64 (hc := ac_140) (hlen := ln_140 _ _) (K := ?_)
  refine ev_iconst (M := T12_incoming) (pc := 65) dX12_incoming_65 (k := ?_)
  refine ev_istore (M := T12_incoming) (pc := 66) [(4, .inl (0)), (3, .inl (q7.1)), (2, .inl (x5)), (0, .inr (.inr (some (12, 0)))), (1, .inl (l1))] dX12_incoming_66 (k := ?_)
  refine ev_lv [3, 1, 0] [(0, .inr (.inr (some (12, 0)))), (3, .inl (q7.1)), (4, .inl (0))] (k := ?_)
  exact E12_incoming_68 j_fu q7.1 0 h10 _ H14
-- X12_isSo
abbrev T12_isSo : JT := (RX12, cX12_isSo, 3, some .boolean, false)
set_option maxRecDepth 100000 in
set_option maxHeartbeats 4000000 in
theorem E12_isSo_121b (k121 : Int → Int → JM → Option (Int × JM)) (hk121 : ∀ (l1 : Int) (l2 : Int) (h : JM) (res : (Int × JM)), k121 l1 l2 h = some res → Ev j_W1 2 0 0 T12_isSo 121 [(0, .inr (.inr (some (12, 0)))), (1, .inl (l1)), (2, .inl (l2))] [] h (some (.inl res.1)) res.2) (l1 : Int) (l2 : Int) (h : JM) (res : (Int × JM)) (H : F12_isSo_121b k121 l1 l2 h = some res) : Ev j_W1 2 0 0 T12_isSo 121 [(0, .inr (.inr (some (12, 0)))), (1, .inl (l1)), (2, .inl (l2))] [] h (some (.inl res.1)) res.2 := by
  unfold F12_isSo_121b at H
  refine ev_iload_n (M := T12_isSo) (pc := 121) 2 dX12_isSo_121 (k := ?_)
  refine ev_iload_n (M := T12_isSo) (pc := 122) 1 dX12_isSo_122 (k := ?_)
  refine ev_icmpge (M := T12_isSo) (pc := 123) 145 dX12_isSo_123 (kt := fun hc => ?_) (kf := fun hc => ?_)
  · replace H := if_pe hc H
    refine ev_iconst (M := T12_isSo) (pc := 145) dX12_isSo_145 (k := ?_)
    cases H
    exact ev_zreturn (M := T12_isSo) (pc := 146) (Or.inr rfl) dX12_isSo_146
  · replace H := if_ne hc H
    refine ev_aload_n (M := T12_isSo) (pc := 126) 0 dX12_isSo_126 (k := ?_)
    refine ev_getR (M := T12_isSo) (pc := 127) (t := 168) (x := some (168, 0)) fl_X12_197 dX12_isSo_127 (hx := ry_12_68 _ _) (K := ?_)
    refine ev_iload_n (M := T12_isSo) (pc := 130) 2 dX12_isSo_130 (k := ?_)
    obtain ⟨⟨hi0, hi1⟩, H1⟩ := g_e H
    clear H
    refine ev_iaload (M := T12_isSo) (pc := 131) (k := 168) hi0 hi1 dX12_isSo_131 (hc := ac_168) (hlen := ln_168 _ _) (K := ?_)
    refine ev_bipush (M := T12_isSo) (pc := 132) dX12_isSo_132 (k := ?_)
    refine ev_icmple (M := T12_isSo) (pc := 134) 139 dX12_isSo_134 (kt := fun hc => ?_) (kf := fun hc => ?_)
    · replace H1 := if_pe hc H1
      refine ev_iinc (M := T12_isSo) (pc := 139) 2 [(2, .inl (w32 (l2 + 1))), (0, .inr (.inr (some (12, 0)))), (1, .inl (l1))] dX12_isSo_139 (k := ?_)
      refine ev_goto (M := T12_isSo) (pc := 142) 121 dX12_isSo_142 (k := ?_)
      refine ev_lv [1, 2, 0] [(0, .inr (.inr (some (12, 0)))), (1, .inl (l1)), (2, .inl (w32 (l2 + 1)))] (k := ?_)
      exact hk121 l1 (w32 (l2 + 1)) h _ H1
    · replace H1 := if_ne hc H1
      refine ev_iconst (M := T12_isSo) (pc := 137) dX12_isSo_137 (k := ?_)
      cases H1
      exact ev_zreturn (M := T12_isSo) (pc := 138) (Or.inl rfl) dX12_isSo_138
theorem E12_isSo_121 (n : Nat) : ∀ (l1 : Int) (l2 : Int) (h : JM) (res : (Int × JM)), F12_isSo_121 n l1 l2 h = some res → Ev j_W1 2 0 0 T12_isSo 121 [(0, .inr (.inr (some (12, 0)))), (1, .inl (l1)), (2, .inl (l2))] [] h (some (.inl res.1)) res.2 := by
  induction n with
  | zero =>
    intro l1 l2 h res H
    cases H
  | succ n ih =>
    intro l1 l2 h res H
    exact E12_isSo_121b (F12_isSo_121 n) ih l1 l2 h res H
set_option maxRecDepth 100000 in
set_option maxHeartbeats 4000000 in
theorem E12_isSo_117 (h : JM) (res : (Int × JM)) (H : F12_isSo_117 h = some res) : Ev j_W1 2 0 0 T12_isSo 117 [] [] h (some (.inl res.1)) res.2 := by
  unfold F12_isSo_117 at H
  refine ev_iconst (M := T12_isSo) (pc := 117) dX12_isSo_117 (k := ?_)
  cases H
  exact ev_zreturn (M := T12_isSo) (pc := 118) (Or.inl rfl) dX12_isSo_118
set_option maxRecDepth 100000 in
set_option maxHeartbeats 4000000 in
theorem E12_isSo_35 (h : JM) (res : (Int × JM)) (H : F12_isSo_35 h = some res) : Ev j_W1 2 0 0 T12_isSo 35 [] [] h (some (.inl res.1)) res.2 := by
  unfold F12_isSo_35 at H
  refine ev_iconst (M := T12_isSo) (pc := 35) dX12_isSo_35 (k := ?_)
  cases H
  exact ev_zreturn (M := T12_isSo) (pc := 36) (Or.inl rfl) dX12_isSo_36
set_option maxRecDepth 100000 in
set_option maxHeartbeats 4000000 in
theorem C12_isSo {l1 : Int} {h : JM} {res : (Int × JM)} (H : F12_isSo l1 h = some res) : Cn j_W1 2 0 0 yX12_isSo cX12_isSo 3 (some .boolean) [.inr (.inr (some (12, 0))), .inl (l1)] h (some (.inl res.1)) res.2 := by
  refine Cn.by (own := RX12) (b := false) [(0, .inr (.inr (some (12, 0)))), (1, .inl (l1))] rfl (fun z => by cases z) (by decide +kernel) (K := ?_)
  unfold F12_isSo at H
  refine ev_iload_n (M := T12_isSo) (pc := 0) 1 dX12_isSo_0 (k := ?_)
  refine ev_iconst (M := T12_isSo) (pc := 1) dX12_isSo_1 (k := ?_)
  refine ev_icmplt (M := T12_isSo) (pc := 2) 35 dX12_isSo_2 (kt := fun hc => ?_) (kf := fun hc => ?_)
  · replace H := if_pe hc H
    refine ev_lv [] [] (k := ?_)
    exact E12_isSo_35 h _ H
  · replace H := if_ne hc H
    refine ev_aload_n (M := T12_isSo) (pc := 5) 0 dX12_isSo_5 (k := ?_)
    refine ev_getR (M := T12_isSo) (pc := 6) (t := 168) (x := some (168, 0)) fl_X12_197 dX12_isSo_6 (hx := ry_12_68 _ _) (K := ?_)
    refine ev_iconst (M := T12_isSo) (pc := 9) dX12_isSo_9 (k := ?_)
    obtain ⟨⟨hi0, hi1⟩, H1⟩ := g_e H
    clear H
    refine ev_iaload (M := T12_isSo) (pc := 10) (k := 168) hi0 hi1 dX12_isSo_10 (hc := ac_168) (hlen := ln_168 _ _) (K := ?_)
    refine ev_aload_n (M := T12_isSo) (pc := 11) 0 dX12_isSo_11 (k := ?_)
    refine ev_getI (M := T12_isSo) (pc := 12) (x := h.1 12 0 0) fl_X12_255 dX12_isSo_12 (K := ?_)
    refine ev_icmpge (M := T12_isSo) (pc := 15) 35 dX12_isSo_15 (kt := fun hc => ?_) (kf := fun hc => ?_)
    · replace H1 := if_pe hc H1
      refine ev_lv [] [] (k := ?_)
      exact E12_isSo_35 h _ H1
    · replace H1 := if_ne hc H1
      refine ev_aload_n (M := T12_isSo) (pc := 18) 0 dX12_isSo_18 (k := ?_)
      refine ev_getR (M := T12_isSo) (pc := 19) (t := 168) (x := some (168, 0)) fl_X12_197 dX12_isSo_19 (hx := ry_12_68 _ _) (K := ?_)
      refine ev_iconst (M := T12_isSo) (pc := 22) dX12_isSo_22 (k := ?_)
      obtain ⟨⟨hi0, hi1⟩, H2⟩ := g_e H1
      clear H1
      refine ev_iaload (M := T12_isSo) (pc := 23) (k := 168) hi0 hi1 dX12_isSo_23 (hc := ac_168) (hlen := ln_168 _ _) (K := ?_)
      refine ev_i2l (M := T12_isSo) (pc := 24) dX12_isSo_24 (k := ?_)
      refine ev_lconst (M := T12_isSo) (pc := 25) (v := 1) dX12_isSo_25 (k := ?_)
      refine ev_ldc2 (M := T12_isSo) (pc := 26) (n := 5) cl_X12_410 dX12_isSo_26 (hv := cw_X12_410) (k := ?_)
      obtain ⟨q1, hq, H3⟩ := bd_e H2
      clear H2
      refine ev_callS (M := T12_isSo) (pc := 29) (mc := 0) (ms := 0) (st := []) (C12_in hq) md_X12_in ss_X12_in ml_X12_268 dX12_isSo_29 _ (by decide) (K := ?_)
      refine ev_ifne (M := T12_isSo) (pc := 32) 37 dX12_isSo_32 (kt := fun hc => ?_) (kf := fun hc => ?_)
      · replace H3 := if_ne hc H3
        refine ev_aload_n (M := T12_isSo) (pc := 37) 0 dX12_isSo_37 (k := ?_)
        refine ev_getR (M := T12_isSo) (pc := 38) (t := 168) (x := some (168, 0)) fl_X12_197 dX12_isSo_38 (hx := ry_12_68 _ _) (K := ?_)
        refine ev_iconst (M := T12_isSo) (pc := 41) dX12_isSo_41 (k := ?_)
        obtain ⟨⟨hi0, hi1⟩, H4⟩ := g_e H3
        clear H3
        refine ev_iaload (M := T12_isSo) (pc := 42) (k := 168) hi0 hi1 dX12_isSo_42 (hc := ac_168) (hlen := ln_168 _ _) (K := ?_)
        refine ev_iconst (M := T12_isSo) (pc := 43) dX12_isSo_43 (k := ?_)
        refine ev_icmpne (M := T12_isSo) (pc := 44) 58 dX12_isSo_44 (kt := fun hc => ?_) (kf := fun hc => ?_)
        · replace H4 := if_ne hc H4
          refine ev_aload_n (M := T12_isSo) (pc := 58) 0 dX12_isSo_58 (k := ?_)
          refine ev_getR (M := T12_isSo) (pc := 59) (t := 168) (x := some (168, 0)) fl_X12_197 dX12_isSo_59 (hx := ry_12_68 _ _) (K := ?_)
          refine ev_iconst (M := T12_isSo) (pc := 62) dX12_isSo_62 (k := ?_)
          obtain ⟨⟨hi0, hi1⟩, H5⟩ := g_e H4
          clear H4
          refine ev_iaload (M := T12_isSo) (pc := 63) (k := 168) hi0 hi1 dX12_isSo_63 (hc := ac_168) (hlen := ln_168 _ _) (K := ?_)
          refine ev_iconst (M := T12_isSo) (pc := 64) dX12_isSo_64 (k := ?_)
          refine ev_icmpeq (M := T12_isSo) (pc := 65) 79 dX12_isSo_65 (kt := fun hc => ?_) (kf := fun hc => ?_)
          · replace H5 := if_pe hc H5
            refine ev_iload_n (M := T12_isSo) (pc := 79) 1 dX12_isSo_79 (k := ?_)
            refine ev_iconst (M := T12_isSo) (pc := 80) dX12_isSo_80 (k := ?_)
            refine ev_icmplt (M := T12_isSo) (pc := 81) 117 dX12_isSo_81 (kt := fun hc => ?_) (kf := fun hc => ?_)
            · replace H5 := if_pe hc H5
              refine ev_lv [] [] (k := ?_)
              exact E12_isSo_117 q1.2 _ H5
            · replace H5 := if_ne hc H5
              refine ev_aload_n (M := T12_isSo) (pc := 84) 0 dX12_isSo_84 (k := ?_)
              refine ev_getR (M := T12_isSo) (pc := 85) (t := 168) (x := some (168, 0)) fl_X12_197 dX12_isSo_85 (hx := ry_12_68 _ _) (K := ?_)
              refine ev_iconst (M := T12_isSo) (pc := 88) dX12_isSo_88 (k := ?_)
              obtain ⟨⟨hi0, hi1⟩, H6⟩ := g_e H5
              clear H5
              refine ev_iaload (M := T12_isSo) (pc := 89) (k := 168) hi0 hi1 dX12_isSo_89 (hc := ac_168) (hlen := ln_168 _ _) (K := ?_)
              refine ev_iconst (M := T12_isSo) (pc := 90) dX12_isSo_90 (k := ?_)
              refine ev_icmpgt (M := T12_isSo) (pc := 91) 117 dX12_isSo_91 (kt := fun hc => ?_) (kf := fun hc => ?_)
              · replace H6 := if_pe hc H6
                refine ev_lv [] [] (k := ?_)
                exact E12_isSo_117 q1.2 _ H6
              · replace H6 := if_ne hc H6
                refine ev_aload_n (M := T12_isSo) (pc := 94) 0 dX12_isSo_94 (k := ?_)
                refine ev_getR (M := T12_isSo) (pc := 95) (t := 168) (x := some (168, 0)) fl_X12_197 dX12_isSo_95 (hx := ry_12_68 _ _) (K := ?_)
                refine ev_iconst (M := T12_isSo) (pc := 98) dX12_isSo_98 (k := ?_)
                obtain ⟨⟨hi0, hi1⟩, H7⟩ := g_e H6
                clear H6
                refine ev_iaload (M := T12_isSo) (pc := 99) (k := 168) hi0 hi1 dX12_isSo_99 (hc := ac_168) (hlen := ln_168 _ _) (K := ?_)
                refine ev_bipush (M := T12_isSo) (pc := 100) dX12_isSo_100 (k := ?_)
                refine ev_icmpgt (M := T12_isSo) (pc := 102) 117 dX12_isSo_102 (kt := fun hc => ?_) (kf := fun hc => ?_)
                · replace H7 := if_pe hc H7
                  refine ev_lv [] [] (k := ?_)
                  exact E12_isSo_117 q1.2 _ H7
                · replace H7 := if_ne hc H7
                  refine ev_iload_n (M := T12_isSo) (pc := 105) 1 dX12_isSo_105 (k := ?_)
                  refine ev_iconst (M := T12_isSo) (pc := 106) dX12_isSo_106 (k := ?_)
                  refine ev_aload_n (M := T12_isSo) (pc := 107) 0 dX12_isSo_107 (k := ?_)
                  refine ev_getR (M := T12_isSo) (pc := 108) (t := 168) (x := some (168, 0)) fl_X12_197 dX12_isSo_108 (hx := ry_12_68 _ _) (K := ?_)
                  refine ev_iconst (M := T12_isSo) (pc := 111) dX12_isSo_111 (k := ?_)
                  obtain ⟨⟨hi0, hi1⟩, H8⟩ := g_e H7
                  clear H7
                  refine ev_iaload (M := T12_isSo) (pc := 112) (k := 168) hi0 hi1 dX12_isSo_112 (hc := ac_168) (hlen := ln_168 _ _) (K := ?_)
                  refine ev_iadd (M := T12_isSo) (pc := 113) dX12_isSo_113 (k := ?_)
                  refine ev_icmpeq (M := T12_isSo) (pc := 114) 119 dX12_isSo_114 (kt := fun hc => ?_) (kf := fun hc => ?_)
                  · replace H8 := if_pe hc H8
                    refine ev_iconst (M := T12_isSo) (pc := 119) dX12_isSo_119 (k := ?_)
                    refine ev_istore_n (M := T12_isSo) (pc := 120) [(2, .inl (4)), (0, .inr (.inr (some (12, 0)))), (1, .inl (l1))] dX12_isSo_120 (k := ?_)
                    refine ev_lv [1, 2, 0] [(0, .inr (.inr (some (12, 0)))), (1, .inl (l1)), (2, .inl (4))] (k := ?_)
                    exact E12_isSo_121 j_fu l1 4 q1.2 _ H8
                  · replace H8 := if_ne hc H8
                    refine ev_lv [] [] (k := ?_)
                    exact E12_isSo_117 q1.2 _ H8
          · replace H5 := if_ne hc H5
            refine ev_iload_n (M := T12_isSo) (pc := 68) 1 dX12_isSo_68 (k := ?_)
            refine ev_iconst (M := T12_isSo) (pc := 69) dX12_isSo_69 (k := ?_)
            refine ev_icmpne (M := T12_isSo) (pc := 70) 77 dX12_isSo_70 (kt := fun hc => ?_) (kf := fun hc => ?_)
            · replace H5 := if_ne hc H5
              refine ev_iconst (M := T12_isSo) (pc := 77) dX12_isSo_77 (k := ?_)
              cases H5
              exact ev_zreturn (M := T12_isSo) (pc := 78) (Or.inl rfl) dX12_isSo_78
            · replace H5 := if_pe hc H5
              refine ev_iconst (M := T12_isSo) (pc := 73) dX12_isSo_73 (k := ?_)
              refine ev_goto (M := T12_isSo) (pc := 74) 78 dX12_isSo_74 (k := ?_)
              cases H5
              exact ev_zreturn (M := T12_isSo) (pc := 78) (Or.inr rfl) dX12_isSo_78
        · replace H4 := if_pe hc H4
          refine ev_iload_n (M := T12_isSo) (pc := 47) 1 dX12_isSo_47 (k := ?_)
          refine ev_iconst (M := T12_isSo) (pc := 48) dX12_isSo_48 (k := ?_)
          refine ev_icmpne (M := T12_isSo) (pc := 49) 56 dX12_isSo_49 (kt := fun hc => ?_) (kf := fun hc => ?_)
          · replace H4 := if_ne hc H4
            refine ev_iconst (M := T12_isSo) (pc := 56) dX12_isSo_56 (k := ?_)
            cases H4
            exact ev_zreturn (M := T12_isSo) (pc := 57) (Or.inl rfl) dX12_isSo_57
          · replace H4 := if_pe hc H4
            refine ev_iconst (M := T12_isSo) (pc := 52) dX12_isSo_52 (k := ?_)
            refine ev_goto (M := T12_isSo) (pc := 53) 57 dX12_isSo_53 (k := ?_)
            cases H4
            exact ev_zreturn (M := T12_isSo) (pc := 57) (Or.inr rfl) dX12_isSo_57
      · replace H3 := if_pe hc H3
        refine ev_lv [] [] (k := ?_)
        exact E12_isSo_35 q1.2 _ H3
