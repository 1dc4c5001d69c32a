-- X11_sendUnits
abbrev T11_sendUnits : JT := (RX11, cX11_sendUnits, 5, none, false)
set_option maxRecDepth 100000 in
set_option maxHeartbeats 4000000 in
theorem E11_sendUnits_164 (k2 : Int → JM → Option JM) (hk2 : ∀ (l1 : Int) (h : JM) (res : JM), k2 l1 h = some res → Ev j_W1 6 0 0 T11_sendUnits 2 [(0, .inr (.inr (some (11, 0)))), (1, .inl (l1))] [] h none res) (l1 : Int) (h : JM) (res : JM) (H : F11_sendUnits_164 k2 l1 h = some res) : Ev j_W1 6 0 0 T11_sendUnits 164 [(0, .inr (.inr (some (11, 0)))), (1, .inl (l1))] [] h none res := by
  unfold F11_sendUnits_164 at H
  refine ev_iinc (M := T11_sendUnits) (pc := 164) 1 [(1, .inl (w32 (l1 + 1))), (0, .inr (.inr (some (11, 0))))] dX11_sendUnits_164 (k := ?_)
  refine ev_goto (M := T11_sendUnits) (pc := 167) 2 dX11_sendUnits_167 (k := ?_)
  refine ev_lv [1, 0] [(0, .inr (.inr (some (11, 0)))), (1, .inl (w32 (l1 + 1)))] (k := ?_)
  exact hk2 (w32 (l1 + 1)) h _ H
set_option maxRecDepth 100000 in
set_option maxHeartbeats 4000000 in
theorem E11_sendUnits_131 (k2 : Int → JM → Option JM) (hk2 : ∀ (l1 : Int) (h : JM) (res : JM), k2 l1 h = some res → Ev j_W1 6 0 0 T11_sendUnits 2 [(0, .inr (.inr (some (11, 0)))), (1, .inl (l1))] [] h none res) (l1 : Int) (l4 : Option Int) (h : JM) (res : JM) (H : F11_sendUnits_131 k2 l1 l4 h = some res) : Ev j_W1 6 0 0 T11_sendUnits 131 [(0, .inr (.inr (some (11, 0)))), (1, .inl (l1)), (4, .inr (.inr (Option.map (Prod.mk 9) (l4))))] [] h none res := by
  unfold F11_sendUnits_131 at H
  refine ev_aload_n (M := T11_sendUnits) (pc := 131) 0 dX11_sendUnits_131 (k := ?_)
  refine ev_getR (M := T11_sendUnits) (pc := 132) (t := 7) (x := some (7, 1)) fl_X11_41 dX11_sendUnits_132 (hx := ry_11_7 _ _) (K := ?_)
  refine ev_iload_n (M := T11_sendUnits) (pc := 135) 1 dX11_sendUnits_135 (k := ?_)
  refine ev_aload_n (M := T11_sendUnits) (pc := 136) 0 dX11_sendUnits_136 (k := ?_)
  refine ev_getI (M := T11_sendUnits) (pc := 137) (x := h.1 11 0 10) fl_X11_177 dX11_sendUnits_137 (K := ?_)
  obtain ⟨q1, hq, H1⟩ := bd_e H
  clear H
  refine ev_callV (M := T11_sendUnits) (pc := 140) (mc := 0) (ms := 0) (st := []) (C7_concern hq) md_X7_concern im_X7_concern se_X7_concern ml_X11_592 dX11_sendUnits_140 _ (by decide) (K := ?_)
  refine ev_ifeq (M := T11_sendUnits) (pc := 143) 164 dX11_sendUnits_143 (kt := fun hc => ?_) (kf := fun hc => ?_)
  · replace H1 := if_pe hc H1
    refine ev_lv [0, 1] [(0, .inr (.inr (some (11, 0)))), (1, .inl (l1))] (k := ?_)
    exact E11_sendUnits_164 k2 hk2 l1 q1.2 _ H1
  · replace H1 := if_ne hc H1
    refine ev_aload_n (M := T11_sendUnits) (pc := 146) 0 dX11_sendUnits_146 (k := ?_)
    refine ev_getR (M := T11_sendUnits) (pc := 147) (t := 7) (x := some (7, 1)) fl_X11_41 dX11_sendUnits_147 (hx := ry_11_7 _ _) (K := ?_)
    refine ev_iload_n (M := T11_sendUnits) (pc := 150) 1 dX11_sendUnits_150 (k := ?_)
    refine ev_aload_n (M := T11_sendUnits) (pc := 151) 0 dX11_sendUnits_151 (k := ?_)
    refine ev_getI (M := T11_sendUnits) (pc := 152) (x := q1.2.1 11 0 10) fl_X11_177 dX11_sendUnits_152 (K := ?_)
    obtain ⟨h2, hq, H2⟩ := bd_e H1
    clear H1
    refine ev_callV (M := T11_sendUnits) (pc := 155) (mc := 0) (ms := 0) (st := []) (C7_forget hq) md_X7_forget im_X7_forget se_X7_forget ml_X11_598 dX11_sendUnits_155 _ (by decide) (K := ?_)
    refine ev_aload (M := T11_sendUnits) (pc := 158) 2 dX11_sendUnits_158 (k := ?_)
    refine ev_iconst (M := T11_sendUnits) (pc := 160) dX11_sendUnits_160 (k := ?_)
    obtain ⟨a3, ea3, H3⟩ := bd_e H2
    clear H2
    rw [ea3]
    obtain ⟨h4, eh4, H4⟩ := lt_e H3
    clear H3
    refine ev_putI (M := T11_sendUnits) (pc := 161) j_ok1 fl_X11_604 eh4 dX11_sendUnits_161 (K := ?_)
    refine ev_lv [0, 1] [(0, .inr (.inr (some (11, 0)))), (1, .inl (l1))] (k := ?_)
    exact E11_sendUnits_164 k2 hk2 l1 h4 _ H4
set_option maxRecDepth 100000 in
set_option maxHeartbeats 4000000 in
theorem E11_sendUnits_128 (k2 : Int → JM → Option JM) (hk2 : ∀ (l1 : Int) (h : JM) (res : JM), k2 l1 h = some res → Ev j_W1 6 0 0 T11_sendUnits 2 [(0, .inr (.inr (some (11, 0)))), (1, .inl (l1))] [] h none res) (l1 : Int) (l4 : Option Int) (s0 : Option Int) (s1 : Int) (h : JM) (res : JM) (H : F11_sendUnits_128 k2 l1 l4 s0 s1 h = some res) : Ev j_W1 6 0 0 T11_sendUnits 128 [(0, .inr (.inr (some (11, 0)))), (1, .inl (l1)), (4, .inr (.inr (Option.map (Prod.mk 9) (l4))))] [.inl (s1), .inr (.inr (Option.map (Prod.mk 9) (s0)))] h none res := by
  unfold F11_sendUnits_128 at H
  obtain ⟨a5, ea5, H1⟩ := bd_e H
  clear H
  rw [ea5]
  obtain ⟨h6, eh6, H2⟩ := lt_e H1
  clear H1
  refine ev_putI (M := T11_sendUnits) (pc := 128) j_ok1 fl_X11_604 eh6 dX11_sendUnits_128 (K := ?_)
  exact E11_sendUnits_131 k2 hk2 l1 l4 h6 _ H2
set_option maxRecDepth 100000 in
set_option maxHeartbeats 4000000 in
theorem E11_sendUnits_2b (k2 : Int → JM → Option JM) (hk2 : ∀ (l1 : Int) (h : JM) (res : JM), k2 l1 h = some res → Ev j_W1 6 0 0 T11_sendUnits 2 [(0, .inr (.inr (some (11, 0)))), (1, .inl (l1))] [] h none res) (l1 : Int) (h : JM) (res : JM) (H : F11_sendUnits_2b k2 l1 h = some res) : Ev j_W1 6 0 0 T11_sendUnits 2 [(0, .inr (.inr (some (11, 0)))), (1, .inl (l1))] [] h none res := by
  unfold F11_sendUnits_2b at H
  refine ev_iload_n (M := T11_sendUnits) (pc := 2) 1 dX11_sendUnits_2 (k := ?_)
  refine ev_iconst (M := T11_sendUnits) (pc := 3) dX11_sendUnits_3 (k := ?_)
  refine ev_icmpge (M := T11_sendUnits) (pc := 4) 170 dX11_sendUnits_4 (kt := fun hc => ?_) (kf := fun hc => ?_)
  · replace H := if_pe hc H
    cases H
    exact ev_return (M := T11_sendUnits) (pc := 170) dX11_sendUnits_170
  · replace H := if_ne hc H
    refine ev_aload_n (M := T11_sendUnits) (pc := 7) 0 dX11_sendUnits_7 (k := ?_)
    refine ev_getR (M := T11_sendUnits) (pc := 8) (t := 38) (x := some (38, 0)) fl_X11_11 dX11_sendUnits_8 (hx := ry_11_2 _ _) (K := ?_)
    refine ev_iload_n (M := T11_sendUnits) (pc := 11) 1 dX11_sendUnits_11 (k := ?_)
    obtain ⟨⟨hi0, hi1⟩, H1⟩ := g_e H
    clear H
    refine ev_aaload (M := T11_sendUnits) (pc := 12) (k := 38) 1 (x := some (1, l1)) hi0 hi1 dX11_sendUnits_12 (hc := ac_38) (hlen := ln_38 _ _) (hx := rz_38 _ _ _) (K := ?_)
    refine ev_getR (M := T11_sendUnits) (pc := 13) (t := 5) (x := some (5, l1)) fl_X11_261 dX11_sendUnits_13 (hx := ry_1_7 _ _) (K := ?_)
    refine ev_astore_n (M := T11_sendUnits) (pc := 16) [(2, .inr (.inr (some (5, l1)))), (0, .inr (.inr (some (11, 0)))), (1, .inl (l1))] dX11_sendUnits_16 (k := ?_)
    refine ev_aload_n (M := T11_sendUnits) (pc := 17) 0 dX11_sendUnits_17 (k := ?_)
    refine ev_getR (M := T11_sendUnits) (pc := 18) (t := 32) (x := some (32, l1)) fl_X11_288 dX11_sendUnits_18 (hx := ry_5_9 _ _) (K := ?_)
    refine ev_aload_n (M := T11_sendUnits) (pc := 21) 1 dX11_sendUnits_21 (k := ?_)
    refine ev_getI (M := T11_sendUnits) (pc := 22) (x := h.1 11 0 10) fl_X11_177 dX11_sendUnits_22 (K := ?_)
    refine ev_bipush (M := T11_sendUnits) (pc := 25) dX11_sendUnits_25 (k := ?_)
    refine ev_irem (M := T11_sendUnits) (pc := 27) dX11_sendUnits_27 (by decide) (k := ?_)
    obtain ⟨⟨hi0, hi1⟩, H2⟩ := g_e H1
    clear H1
    refine ev_aaload (M := T11_sendUnits) (pc := 28) (k := 32) 9 (x := some (9, (64 * l1 + (j_rem (h.1 11 0 10) 64)))) hi0 hi1 dX11_sendUnits_28 (hc := ac_32) (hlen := ln_32 _ _) (hx := rz_32 _ _ _) (K := ?_)
    refine ev_astore_n (M := T11_sendUnits) (pc := 29) [(3, .inr (.inr (some (9, (64 * l1 + (j_rem (h.1 11 0 10) 64)))))), (2, .inr (.inr (some (5, l1)))), (0, .inr (.inr (some (11, 0)))), (1, .inl (l1))] dX11_sendUnits_29 (k := ?_)
    refine ev_aload_n (M := T11_sendUnits) (pc := 30) 1 dX11_sendUnits_30 (k := ?_)
    refine ev_aload_n (M := T11_sendUnits) (pc := 31) 0 dX11_sendUnits_31 (k := ?_)
    obtain ⟨h7, hq, H3⟩ := bd_e H2
    clear H2
    refine ev_callV (M := T11_sendUnits) (pc := 32) (mc := 0) (ms := 0) (st := []) (C5_fill hq) md_X5_fill im_X5_fill se_X5_fill ml_X11_586 dX11_sendUnits_32 _ (by decide) (K := ?_)
    refine ev_aload_n (M := T11_sendUnits) (pc := 35) 1 dX11_sendUnits_35 (k := ?_)
    refine ev_getR (M := T11_sendUnits) (pc := 36) (t := 33) (x := some (33, l1)) fl_X11_323 dX11_sendUnits_36 (hx := ry_5_10 _ _) (K := ?_)
    refine ev_aload_n (M := T11_sendUnits) (pc := 39) 2 dX11_sendUnits_39 (k := ?_)
    refine ev_getI (M := T11_sendUnits) (pc := 40) (x := h7.1 11 0 10) fl_X11_177 dX11_sendUnits_40 (K := ?_)
    refine ev_iconst (M := T11_sendUnits) (pc := 43) dX11_sendUnits_43 (k := ?_)
    refine ev_iand (M := T11_sendUnits) (pc := 44) dX11_sendUnits_44 (k := ?_)
    obtain ⟨⟨hi0, hi1⟩, H4⟩ := g_e H3
    clear H3
    refine ev_aaload (M := T11_sendUnits) (pc := 45) (k := 33) 9 (x := some (9, (128 + 2 * l1 + (j_and (h7.1 11 0 10) 1)))) hi0 hi1 dX11_sendUnits_45 (hc := ac_33) (hlen := ln_33 _ _) (hx := rz_33 _ _ _) (K := ?_)
    refine ev_astore (M := T11_sendUnits) (pc := 46) [(4, .inr (.inr (some (9, (128 + 2 * l1 + (j_and (h7.1 11 0 10) 1)))))), (3, .inr (.inr (some (9, (64 * l1 + (j_rem (h.1 11 0 10) 64)))))), (2, .inr (.inr (some (5, l1)))), (0, .inr (.inr (some (11, 0)))), (1, .inl (l1))] dX11_sendUnits_46 (k := ?_)
    refine ev_aload (M := T11_sendUnits) (pc := 48) 0 dX11_sendUnits_48 (k := ?_)
    refine ev_aload_n (M := T11_sendUnits) (pc := 50) 1 dX11_sendUnits_50 (k := ?_)
    obtain ⟨h8, hq, H5⟩ := bd_e H4
    clear H4
    refine ev_callV (M := T11_sendUnits) (pc := 51) (mc := 0) (ms := 0) (st := []) (C9_copyOf hq) md_X9_copyOf im_X9_copyOf se_X9_copyOf ml_X11_589 dX11_sendUnits_51 _ (by decide) (K := ?_)
    refine ev_aload_n (M := T11_sendUnits) (pc := 54) 3 dX11_sendUnits_54 (k := ?_)
    refine ev_getR (M := T11_sendUnits) (pc := 55) (t := 7) (x := some (7, 0)) fl_X11_37 dX11_sendUnits_55 (hx := ry_11_6 _ _) (K := ?_)
    refine ev_iload_n (M := T11_sendUnits) (pc := 58) 4 dX11_sendUnits_58 (k := ?_)
    refine ev_aload_n (M := T11_sendUnits) (pc := 59) 3 dX11_sendUnits_59 (k := ?_)
    refine ev_getI (M := T11_sendUnits) (pc := 60) (x := h8.1 11 0 10) fl_X11_177 dX11_sendUnits_60 (K := ?_)
    obtain ⟨q9, hq, H6⟩ := bd_e H5
    clear H5
    refine ev_callV (M := T11_sendUnits) (pc := 63) (mc := 0) (ms := 0) (st := []) (C7_concern hq) md_X7_concern im_X7_concern se_X7_concern ml_X11_592 dX11_sendUnits_63 _ (by decide) (K := ?_)
    refine ev_ifeq (M := T11_sendUnits) (pc := 66) 131 dX11_sendUnits_66 (kt := fun hc => ?_) (kf := fun hc => ?_)
    · replace H6 := if_pe hc H6
      refine ev_lv [3, 4, 0] [(0, .inr (.inr (some (11, 0)))), (1, .inl (l1)), (4, .inr (.inr (some (9, (128 + 2 * l1 + (j_and (h7.1 11 0 10) 1))))))] (k := ?_)
      exact E11_sendUnits_131 k2 hk2 l1 (some (128 + 2 * l1 + (j_and (h7.1 11 0 10) 1))) q9.2 _ H6
    · replace H6 := if_ne hc H6
      refine ev_aload_n (M := T11_sendUnits) (pc := 69) 3 dX11_sendUnits_69 (k := ?_)
      refine ev_getR (M := T11_sendUnits) (pc := 70) (t := 10) (x := some (10, 0)) fl_X11_47 dX11_sendUnits_70 (hx := ry_11_8 _ _) (K := ?_)
      refine ev_aload_n (M := T11_sendUnits) (pc := 73) 1 dX11_sendUnits_73 (k := ?_)
      obtain ⟨h10, hq, H7⟩ := bd_e H6
      clear H6
      refine ev_callV (M := T11_sendUnits) (pc := 74) (mc := 0) (ms := 0) (st := []) (C10_write hq) md_X10_write im_X10_write se_X10_write ml_X11_292 dX11_sendUnits_74 _ (by decide) (K := ?_)
      refine ev_aload_n (M := T11_sendUnits) (pc := 77) 3 dX11_sendUnits_77 (k := ?_)
      refine ev_getR (M := T11_sendUnits) (pc := 78) (t := 7) (x := some (7, 0)) fl_X11_37 dX11_sendUnits_78 (hx := ry_11_6 _ _) (K := ?_)
      refine ev_iload_n (M := T11_sendUnits) (pc := 81) 4 dX11_sendUnits_81 (k := ?_)
      refine ev_aload_n (M := T11_sendUnits) (pc := 82) 3 dX11_sendUnits_82 (k := ?_)
      refine ev_getI (M := T11_sendUnits) (pc := 83) (x := h10.1 11 0 10) fl_X11_177 dX11_sendUnits_83 (K := ?_)
      refine ev_aload_n (M := T11_sendUnits) (pc := 86) 3 dX11_sendUnits_86 (k := ?_)
      refine ev_getR (M := T11_sendUnits) (pc := 87) (t := 10) (x := some (10, 0)) fl_X11_47 dX11_sendUnits_87 (hx := ry_11_8 _ _) (K := ?_)
      obtain ⟨h11, hq, H8⟩ := bd_e H7
      clear H7
      refine ev_callV (M := T11_sendUnits) (pc := 90) (mc := 0) (ms := 0) (st := []) (C7_turn hq) md_X7_turn im_X7_turn se_X7_turn ml_X11_595 dX11_sendUnits_90 _ (by decide) (K := ?_)
      refine ev_aload_n (M := T11_sendUnits) (pc := 93) 3 dX11_sendUnits_93 (k := ?_)
      refine ev_getR (M := T11_sendUnits) (pc := 94) (t := 7) (x := some (7, 0)) fl_X11_37 dX11_sendUnits_94 (hx := ry_11_6 _ _) (K := ?_)
      refine ev_iload_n (M := T11_sendUnits) (pc := 97) 4 dX11_sendUnits_97 (k := ?_)
      refine ev_aload_n (M := T11_sendUnits) (pc := 98) 3 dX11_sendUnits_98 (k := ?_)
      refine ev_getI (M := T11_sendUnits) (pc := 99) (x := h11.1 11 0 10) fl_X11_177 dX11_sendUnits_99 (K := ?_)
      obtain ⟨h12, hq, H9⟩ := bd_e H8
      clear H8
      refine ev_callV (M := T11_sendUnits) (pc := 102) (mc := 0) (ms := 0) (st := []) (C7_forget hq) md_X7_forget im_X7_forget se_X7_forget ml_X11_598 dX11_sendUnits_102 _ (by decide) (K := ?_)
      refine ev_aload (M := T11_sendUnits) (pc := 105) 0 dX11_sendUnits_105 (k := ?_)
      refine ev_aload_n (M := T11_sendUnits) (pc := 107) 3 dX11_sendUnits_107 (k := ?_)
      refine ev_getR (M := T11_sendUnits) (pc := 108) (t := 10) (x := some (10, 0)) fl_X11_47 dX11_sendUnits_108 (hx := ry_11_8 _ _) (K := ?_)
      refine ev_aload (M := T11_sendUnits) (pc := 111) 0 dX11_sendUnits_111 (k := ?_)
      refine ev_aload_n (M := T11_sendUnits) (pc := 113) 3 dX11_sendUnits_113 (k := ?_)
      refine ev_getI (M := T11_sendUnits) (pc := 114) (x := h12.1 11 0 0) fl_X11_55 dX11_sendUnits_114 (K := ?_)
      obtain ⟨q13, hq, H10⟩ := bd_e H9
      clear H9
      refine ev_callV (M := T11_sendUnits) (pc := 117) (mc := 0) (ms := 0) (st := [.inr (.inr (some (9, (128 + 2 * l1 + (j_and (h7.1 11 0 10) 1)))))]) (C10_read hq) md_X10_read im_X10_read se_X10_read ml_X11_601 dX11_sendUnits_117 _ (by decide) (K := ?_)
      refine ev_ifeq (M := T11_sendUnits) (pc := 120) 127 dX11_sendUnits_120 (kt := fun hc => ?_) (kf := fun hc => ?_)
      · replace H10 := if_pe hc H10
        refine ev_iconst (M := T11_sendUnits) (pc := 127) dX11_sendUnits_127 (k := ?_)
        refine ev_lv [3, 4, 0] [(0, .inr (.inr (some (11, 0)))), (1, .inl (l1)), (4, .inr (.inr (some (9, (128 + 2 * l1 + (j_and (h7.1 11 0 10) 1))))))] (k := ?_)
        exact E11_sendUnits_128 k2 hk2 l1 (some (128 + 2 * l1 + (j_and (h7.1 11 0 10) 1))) (some (128 + 2 * l1 + (j_and (h7.1 11 0 10) 1))) 1 q13.2 _ H10
      · replace H10 := if_ne hc H10
        refine ev_iconst (M := T11_sendUnits) (pc := 123) dX11_sendUnits_123 (k := ?_)
        refine ev_goto (M := T11_sendUnits) (pc := 124) 128 dX11_sendUnits_124 (k := ?_)
        refine ev_lv [3, 4, 0] [(0, .inr (.inr (some (11, 0)))), (1, .inl (l1)), (4, .inr (.inr (some (9, (128 + 2 * l1 + (j_and (h7.1 11 0 10) 1))))))] (k := ?_)
        exact E11_sendUnits_128 k2 hk2 l1 (some (128 + 2 * l1 + (j_and (h7.1 11 0 10) 1))) (some (128 + 2 * l1 + (j_and (h7.1 11 0 10) 1))) 0 q13.2 _ H10
theorem E11_sendUnits_2 (n : Nat) : ∀ (l1 : Int) (h : JM) (res : JM), F11_sendUnits_2 n l1 h = some res → Ev j_W1 6 0 0 T11_sendUnits 2 [(0, .inr (.inr (some (11, 0)))), (1, .inl (l1))] [] h none res := by
  induction n with
  | zero =>
    intro l1 h res H
    cases H
  | succ n ih =>
    intro l1 h res H
    exact E11_sendUnits_2b (F11_sendUnits_2 n) ih l1 h res H
set_option maxRecDepth 100000 in
set_option maxHeartbeats 4000000 in
theorem C11_sendUnits {h : JM} {res : JM} (H : F11_sendUnits h = some res) : Cn j_W1 6 0 0 yX11_sendUnits cX11_sendUnits 5 none [.inr (.inr (some (11, 0)))] h none res := by
  refine Cn.by (own := RX11) (b := false) [(0, .inr (.inr (some (11, 0))))] rfl (fun z => by cases z) (by decide +kernel) (K := ?_)
  unfold F11_sendUnits at H
  refine ev_iconst (M := T11_sendUnits) (pc := 0) dX11_sendUnits_0 (k := ?_)
  refine ev_istore_n (M := T11_sendUnits) (pc := 1) [(1, .inl (0)), (0, .inr (.inr (some (11, 0))))] dX11_sendUnits_1 (k := ?_)
  refine ev_lv [1, 0] [(0, .inr (.inr (some (11, 0)))), (1, .inl (0))] (k := ?_)
  exact E11_sendUnits_2 j_fu 0 h _ H
-- X11_serveGroups
abbrev T11_serveGroups : JT := (RX11, cX11_serveGroups, 6, none, false)
set_option maxRecDepth 100000 in
set_option maxHeartbeats 4000000 in
theorem E11_serveGroups_89 (k2 : Int → JM → Option JM) (hk2 : ∀ (l1 : Int) (h : JM) (res : JM), k2 l1 h = some res → Ev j_W1 3 0 0 T11_serveGroups 2 [(0, .inr (.inr (some (11, 0)))), (1, .inl (l1))] [] h none res) (l1 : Int) (h : JM) (res : JM) (H : F11_serveGroups_89 k2 l1 h = some res) : Ev j_W1 3 0 0 T11_serveGroups 89 [(0, .inr (.inr (some (11, 0)))), (1, .inl (l1))] [] h none res := by
  unfold F11_serveGroups_89 at H
  refine ev_iinc (M := T11_serveGroups) (pc := 89) 1 [(1, .inl (w32 (l1 + 1))), (0, .inr (.inr (some (11, 0))))] dX11_serveGroups_89 (k := ?_)
  refine ev_goto (M := T11_serveGroups) (pc := 92) 2 dX11_serveGroups_92 (k := ?_)
  refine ev_lv [1, 0] [(0, .inr (.inr (some (11, 0)))), (1, .inl (w32 (l1 + 1)))] (k := ?_)
  exact hk2 (w32 (l1 + 1)) h _ H
set_option maxRecDepth 100000 in
set_option maxHeartbeats 4000000 in
theorem E11_serveGroups_26b (k2 : Int → JM → Option JM) (hk2 : ∀ (l1 : Int) (h : JM) (res : JM), k2 l1 h = some res → Ev j_W1 3 0 0 T11_serveGroups 2 [(0, .inr (.inr (some (11, 0)))), (1, .inl (l1))] [] h none res) (k26 : Int → Option Int → Int → JM → Option JM) (hk26 : ∀ (l1 : Int) (l2 : Option Int) (l3 : Int) (h : JM) (res : JM), k26 l1 l2 l3 h = some res → Ev j_W1 3 0 0 T11_serveGroups 26 [(0, .inr (.inr (some (11, 0)))), (1, .inl (l1)), (2, .inr (.inr (Option.map (Prod.mk 2) (l2)))), (3, .inl (l3))] [] h none res) (l1 : Int) (l2 : Option Int) (l3 : Int) (h : JM) (res : JM) (H : F11_serveGroups_26b k2 k26 l1 l2 l3 h = some res) : Ev j_W1 3 0 0 T11_serveGroups 26 [(0, .inr (.inr (some (11, 0)))), (1, .inl (l1)), (2, .inr (.inr (Option.map (Prod.mk 2) (l2)))), (3, .inl (l3))] [] h none res := by
  unfold F11_serveGroups_26b at H
  refine ev_iload_n (M := T11_serveGroups) (pc := 26) 3 dX11_serveGroups_26 (k := ?_)
  refine ev_bipush (M := T11_serveGroups) (pc := 27) dX11_serveGroups_27 (k := ?_)
  refine ev_icmpge (M := T11_serveGroups) (pc := 29) 89 dX11_serveGroups_29 (kt := fun hc => ?_) (kf := fun hc => ?_)
  · replace H := if_pe hc H
    refine ev_lv [0, 1] [(0, .inr (.inr (some (11, 0)))), (1, .inl (l1))] (k := ?_)
    exact E11_serveGroups_89 k2 hk2 l1 h _ H
  · replace H := if_ne hc H
    refine ev_aload_n (M := T11_serveGroups) (pc := 32) 2 dX11_serveGroups_32 (k := ?_)
    obtain ⟨a1, ea1, H1⟩ := bd_e H
    clear H
    rw [ea1]
    refine ev_getI (M := T11_serveGroups) (pc := 33) (x := h.1 2 a1 3) fl_X11_254 dX11_serveGroups_33 (K := ?_)
    refine ev_ifle (M := T11_serveGroups) (pc := 36) 89 dX11_serveGroups_36 (kt := fun hc => ?_) (kf := fun hc => ?_)
    · replace H1 := if_pe hc H1
      refine ev_lv [0, 1] [(0, .inr (.inr (some (11, 0)))), (1, .inl (l1))] (k := ?_)
      exact E11_serveGroups_89 k2 hk2 l1 h _ H1
    · replace H1 := if_ne hc H1
      refine ev_aload_n (M := T11_serveGroups) (pc := 39) 2 dX11_serveGroups_39 (k := ?_)
      obtain ⟨q2, hq, H2⟩ := bd_e H1
      clear H1
      refine ev_callV (M := T11_serveGroups) (pc := 40) (mc := 0) (ms := 0) (st := []) (C2_nextMember hq) md_X2_nextMember im_X2_nextMember se_X2_nextMember ml_X11_509 dX11_serveGroups_40 _ (by decide) (K := ?_)
      refine ev_astore (M := T11_serveGroups) (pc := 43) [(4, .inr (.inr (Option.map (Prod.mk 4) (q2.1)))), (0, .inr (.inr (some (11, 0)))), (1, .inl (l1)), (2, .inr (.inr (some (2, a1)))), (3, .inl (l3))] dX11_serveGroups_43 (k := ?_)
      refine ev_aload_n (M := T11_serveGroups) (pc := 45) 1 dX11_serveGroups_45 (k := ?_)
      refine ev_aload_n (M := T11_serveGroups) (pc := 46) 3 dX11_serveGroups_46 (k := ?_)
      obtain ⟨q3, hq, H3⟩ := bd_e H2
      clear H2
      refine ev_callV (M := T11_serveGroups) (pc := 47) (mc := 0) (ms := 0) (st := []) (C11_firstWaiting hq) md_X11_firstWaiting im_X11_firstWaiting se_X11_firstWaiting ml_X11_544 dX11_serveGroups_47 _ (by decide) (K := ?_)
      refine ev_astore (M := T11_serveGroups) (pc := 50) [(5, .inr (.inr (Option.map (Prod.mk 0) (q3.1)))), (4, .inr (.inr (Option.map (Prod.mk 4) (q2.1)))), (0, .inr (.inr (some (11, 0)))), (1, .inl (l1)), (2, .inr (.inr (some (2, a1)))), (3, .inl (l3))] dX11_serveGroups_50 (k := ?_)
      refine ev_aload (M := T11_serveGroups) (pc := 52) 1 dX11_serveGroups_52 (k := ?_)
      refine ev_nullK (M := T11_serveGroups) (pc := 54) q2.1 89 dX11_serveGroups_54 (kt := fun hc => ?_) (kf := fun hc => ?_)
      · replace H3 := if_pe hc H3
        refine ev_lv [2, 3] [(0, .inr (.inr (some (11, 0)))), (1, .inl (l1))] (k := ?_)
        exact E11_serveGroups_89 k2 hk2 l1 q3.2 _ H3
      · replace H3 := if_ne hc H3
        refine ev_aload (M := T11_serveGroups) (pc := 57) 0 dX11_serveGroups_57 (k := ?_)
        refine ev_nonnullK (M := T11_serveGroups) (pc := 59) q3.1 65 dX11_serveGroups_59 (kt := fun hc => ?_) (kf := fun hc => ?_)
        · replace H3 := if_ne hc H3
          refine ev_aload_n (M := T11_serveGroups) (pc := 65) 4 dX11_serveGroups_65 (k := ?_)
          refine ev_dup (M := T11_serveGroups) (pc := 66) dX11_serveGroups_66 (k := ?_)
          refine ev_getI (M := T11_serveGroups) (pc := 67) (x := q3.2.1 2 a1 3) fl_X11_254 dX11_serveGroups_67 (K := ?_)
          refine ev_iconst (M := T11_serveGroups) (pc := 70) dX11_serveGroups_70 (k := ?_)
          refine ev_isub (M := T11_serveGroups) (pc := 71) dX11_serveGroups_71 (k := ?_)
          obtain ⟨h4, eh4, H4⟩ := lt_e H3
          clear H3
          refine ev_putI (M := T11_serveGroups) (pc := 72) j_ok1 fl_X11_254 eh4 dX11_serveGroups_72 (K := ?_)
          refine ev_aload_n (M := T11_serveGroups) (pc := 75) 2 dX11_serveGroups_75 (k := ?_)
          refine ev_aload (M := T11_serveGroups) (pc := 76) 0 dX11_serveGroups_76 (k := ?_)
          refine ev_aload (M := T11_serveGroups) (pc := 78) 1 dX11_serveGroups_78 (k := ?_)
          obtain ⟨h5, hq, H5⟩ := bd_e H4
          clear H4
          refine ev_callV (M := T11_serveGroups) (pc := 80) (mc := 0) (ms := 0) (st := []) (C11_ring hq) md_X11_ring im_X11_ring se_X11_ring ml_X11_502 dX11_serveGroups_80 _ (by decide) (K := ?_)
          refine ev_iinc (M := T11_serveGroups) (pc := 83) 5 [(3, .inl (w32 (l3 + 1))), (5, .inr (.inr (Option.map (Prod.mk 0) (q3.1)))), (4, .inr (.inr (Option.map (Prod.mk 4) (q2.1)))), (0, .inr (.inr (some (11, 0)))), (1, .inl (l1)), (2, .inr (.inr (some (2, a1))))] dX11_serveGroups_83 (k := ?_)
          refine ev_goto (M := T11_serveGroups) (pc := 86) 26 dX11_serveGroups_86 (k := ?_)
          refine ev_lv [3, 4, 5, 0] [(0, .inr (.inr (some (11, 0)))), (1, .inl (l1)), (2, .inr (.inr (some (2, a1)))), (3, .inl (w32 (l3 + 1)))] (k := ?_)
          exact hk26 l1 (some a1) (w32 (l3 + 1)) h5 _ H5
        · replace H3 := if_pe hc H3
          refine ev_goto (M := T11_serveGroups) (pc := 62) 89 dX11_serveGroups_62 (k := ?_)
          refine ev_lv [2, 3] [(0, .inr (.inr (some (11, 0)))), (1, .inl (l1))] (k := ?_)
          exact E11_serveGroups_89 k2 hk2 l1 q3.2 _ H3
theorem E11_serveGroups_26 (k2 : Int → JM → Option JM) (hk2 : ∀ (l1 : Int) (h : JM) (res : JM), k2 l1 h = some res → Ev j_W1 3 0 0 T11_serveGroups 2 [(0, .inr (.inr (some (11, 0)))), (1, .inl (l1))] [] h none res) (n : Nat) : ∀ (l1 : Int) (l2 : Option Int) (l3 : Int) (h : JM) (res : JM), F11_serveGroups_26 k2 n l1 l2 l3 h = some res → Ev j_W1 3 0 0 T11_serveGroups 26 [(0, .inr (.inr (some (11, 0)))), (1, .inl (l1)), (2, .inr (.inr (Option.map (Prod.mk 2) (l2)))), (3, .inl (l3))] [] h none res := by
  induction n with
  | zero =>
    intro l1 l2 l3 h res H
    cases H
  | succ n ih =>
    intro l1 l2 l3 h res H
    exact E11_serveGroups_26b k2 hk2 (F11_serveGroups_26 k2 n) ih l1 l2 l3 h res H
set_option maxRecDepth 100000 in
set_option maxHeartbeats 4000000 in
theorem E11_serveGroups_2b (k2 : Int → JM → Option JM) (hk2 : ∀ (l1 : Int) (h : JM) (res : JM), k2 l1 h = some res → Ev j_W1 3 0 0 T11_serveGroups 2 [(0, .inr (.inr (some (11, 0)))), (1, .inl (l1))] [] h none res) (l1 : Int) (h : JM) (res : JM) (H : F11_serveGroups_2b k2 l1 h = some res) : Ev j_W1 3 0 0 T11_serveGroups 2 [(0, .inr (.inr (some (11, 0)))), (1, .inl (l1))] [] h none res := by
  unfold F11_serveGroups_2b at H
  refine ev_iload_n (M := T11_serveGroups) (pc := 2) 1 dX11_serveGroups_2 (k := ?_)
  refine ev_bipush (M := T11_serveGroups) (pc := 3) dX11_serveGroups_3 (k := ?_)
  refine ev_icmpge (M := T11_serveGroups) (pc := 5) 95 dX11_serveGroups_5 (kt := fun hc => ?_) (kf := fun hc => ?_)
  · replace H := if_pe hc H
    cases H
    exact ev_return (M := T11_serveGroups) (pc := 95) dX11_serveGroups_95
  · replace H := if_ne hc H
    refine ev_aload_n (M := T11_serveGroups) (pc := 8) 0 dX11_serveGroups_8 (k := ?_)
    refine ev_getR (M := T11_serveGroups) (pc := 9) (t := 38) (x := some (38, 0)) fl_X11_11 dX11_serveGroups_9 (hx := ry_11_2 _ _) (K := ?_)
    refine ev_iload_n (M := T11_serveGroups) (pc := 12) 1 dX11_serveGroups_12 (k := ?_)
    refine ev_iconst (M := T11_serveGroups) (pc := 13) dX11_serveGroups_13 (k := ?_)
    refine ev_idiv (M := T11_serveGroups) (pc := 14) dX11_serveGroups_14 (by decide) (k := ?_)
    obtain ⟨⟨hi0, hi1⟩, H1⟩ := g_e H
    clear H
    refine ev_aaload (M := T11_serveGroups) (pc := 15) (k := 38) 1 (x := some (1, (j_div l1 3))) hi0 hi1 dX11_serveGroups_15 (hc := ac_38) (hlen := ln_38 _ _) (hx := rz_38 _ _ _) (K := ?_)
    refine ev_getR (M := T11_serveGroups) (pc := 16) (t := 21) (x := some (21, (j_div l1 3))) fl_X11_118 dX11_serveGroups_16 (hx := ry_1_2 _ _) (K := ?_)
    refine ev_iload_n (M := T11_serveGroups) (pc := 19) 1 dX11_serveGroups_19 (k := ?_)
    refine ev_iconst (M := T11_serveGroups) (pc := 20) dX11_serveGroups_20 (k := ?_)
    refine ev_irem (M := T11_serveGroups) (pc := 21) dX11_serveGroups_21 (by decide) (k := ?_)
    obtain ⟨⟨hi0, hi1⟩, H2⟩ := g_e H1
    clear H1
    refine ev_aaload (M := T11_serveGroups) (pc := 22) (k := 21) 2 (x := some (2, (3 * (j_div l1 3) + (j_rem l1 3)))) hi0 hi1 dX11_serveGroups_22 (hc := ac_21) (hlen := ln_21 _ _) (hx := rz_21 _ _ _) (K := ?_)
    refine ev_astore_n (M := T11_serveGroups) (pc := 23) [(2, .inr (.inr (some (2, (3 * (j_div l1 3) + (j_rem l1 3)))))), (0, .inr (.inr (some (11, 0)))), (1, .inl (l1))] dX11_serveGroups_23 (k := ?_)
    refine ev_iconst (M := T11_serveGroups) (pc := 24) dX11_serveGroups_24 (k := ?_)
    refine ev_istore_n (M := T11_serveGroups) (pc := 25) [(3, .inl (0)), (2, .inr (.inr (some (2, (3 * (j_div l1 3) + (j_rem l1 3)))))), (0, .inr (.inr (some (11, 0)))), (1, .inl (l1))] dX11_serveGroups_25 (k := ?_)
    refine ev_lv [2, 3, 1, 0] [(0, .inr (.inr (some (11, 0)))), (1, .inl (l1)), (2, .inr (.inr (some (2, (3 * (j_div l1 3) + (j_rem l1 3)))))), (3, .inl (0))] (k := ?_)
    exact E11_serveGroups_26 k2 hk2 j_fu l1 (some (3 * (j_div l1 3) + (j_rem l1 3))) 0 h _ H2
theorem E11_serveGroups_2 (n : Nat) : ∀ (l1 : Int) (h : JM) (res : JM), F11_serveGroups_2 n l1 h = some res → Ev j_W1 3 0 0 T11_serveGroups 2 [(0, .inr (.inr (some (11, 0)))), (1, .inl (l1))] [] h none res := by
  induction n with
  | zero =>
    intro l1 h res H
    cases H
  | succ n ih =>
    intro l1 h res H
    exact E11_serveGroups_2b (F11_serveGroups_2 n) ih l1 h res H
set_option maxRecDepth 100000 in
set_option maxHeartbeats 4000000 in
theorem C11_serveGroups {h : JM} {res : JM} (H : F11_serveGroups h = some res) : Cn j_W1 3 0 0 yX11_serveGroups cX11_serveGroups 6 none [.inr (.inr (some (11, 0)))] h none res := by
  refine Cn.by (own := RX11) (b := false) [(0, .inr (.inr (some (11, 0))))] rfl (fun z => by cases z) (by decide +kernel) (K := ?_)
  unfold F11_serveGroups at H
  refine ev_iconst (M := T11_serveGroups) (pc := 0) dX11_serveGroups_0 (k := ?_)
  refine ev_istore_n (M := T11_serveGroups) (pc := 1) [(1, .inl (0)), (0, .inr (.inr (some (11, 0))))] dX11_serveGroups_1 (k := ?_)
  refine ev_lv [1, 0] [(0, .inr (.inr (some (11, 0)))), (1, .inl (0))] (k := ?_)
  exact E11_serveGroups_2 j_fu 0 h _ H
-- X11_speech
abbrev T11_speech : JT := (RX11, cX11_speech, 3, some .int, false)
set_option maxRecDepth 100000 in
set_option maxHeartbeats 4000000 in
theorem C11_speech {l1 : Int} {l2 : Int} {h : JM} {res : (Int × JM)} (H : F11_speech l1 l2 h = some res) : Cn j_W1 3 0 0 yX11_speech cX11_speech 3 (some .int) [.inr (.inr (some (11, 0))), .inl (l1), .inl (l2)] h (some (.inl res.1)) res.2 := by
  refine Cn.by (own := RX11) (b := false) [(0, .inr (.inr (some (11, 0)))), (1, .inl (l1)), (2, .inl (l2))] rfl (fun z => by cases z) (by decide +kernel) (K := ?_)
  unfold F11_speech at H
  refine ev_aload_n (M := T11_speech) (pc := 0) 0 dX11_speech_0 (k := ?_)
  refine ev_iload_n (M := T11_speech) (pc := 1) 1 dX11_speech_1 (k := ?_)
  refine ev_iload_n (M := T11_speech) (pc := 2) 2 dX11_speech_2 (k := ?_)
  obtain ⟨q1, hq, H1⟩ := bd_e H
  clear H
  refine ev_callV (M := T11_speech) (pc := 3) (mc := 0) (ms := 0) (st := []) (C11_isTrunk hq) md_X11_isTrunk im_X11_isTrunk se_X11_isTrunk ml_X11_246 dX11_speech_3 _ (by decide) (K := ?_)
  refine ev_ifeq (M := T11_speech) (pc := 6) 26 dX11_speech_6 (kt := fun hc => ?_) (kf := fun hc => ?_)
  · replace H1 := if_pe hc H1
    refine ev_bipush (M := T11_speech) (pc := 26) dX11_speech_26 (k := ?_)
    cases H1
    exact ev_ireturn (M := T11_speech) (pc := 28) dX11_speech_28
  · replace H1 := if_ne hc H1
    refine ev_aload_n (M := T11_speech) (pc := 9) 0 dX11_speech_9 (k := ?_)
    refine ev_getR (M := T11_speech) (pc := 10) (t := 38) (x := some (38, 0)) fl_X11_11 dX11_speech_10 (hx := ry_11_2 _ _) (K := ?_)
    refine ev_iload_n (M := T11_speech) (pc := 13) 1 dX11_speech_13 (k := ?_)
    obtain ⟨⟨hi0, hi1⟩, H2⟩ := g_e H1
    clear H1
    refine ev_aaload (M := T11_speech) (pc := 14) (k := 38) 1 (x := some (1, l1)) hi0 hi1 dX11_speech_14 (hc := ac_38) (hlen := ln_38 _ _) (hx := rz_38 _ _ _) (K := ?_)
    refine ev_getR (M := T11_speech) (pc := 15) (t := 20) (x := some (20, l1)) fl_X11_65 dX11_speech_15 (hx := ry_1_1 _ _) (K := ?_)
    refine ev_iload_n (M := T11_speech) (pc := 18) 2 dX11_speech_18 (k := ?_)
    obtain ⟨⟨hi0, hi1⟩, H3⟩ := g_e H2
    clear H2
    refine ev_aaload (M := T11_speech) (pc := 19) (k := 20) 8 (x := some (8, (16 * l1 + l2))) hi0 hi1 dX11_speech_19 (hc := ac_20) (hlen := ln_20 _ _) (hx := rz_20 _ _ _) (K := ?_)
    refine ev_getI (M := T11_speech) (pc := 20) (x := q1.2.1 8 (16 * l1 + l2) 4) fl_X11_251 dX11_speech_20 (K := ?_)
    refine ev_goto (M := T11_speech) (pc := 23) 28 dX11_speech_23 (k := ?_)
    cases H3
    exact ev_ireturn (M := T11_speech) (pc := 28) dX11_speech_28
-- X11_spoil
abbrev T11_spoil : JT := (RX11, cX11_spoil, 4, some .int, false)
set_option maxRecDepth 100000 in
set_option maxHeartbeats 4000000 in
theorem E11_spoil_26 (h : JM) (res : (Int × JM)) (H : F11_spoil_26 h = some res) : Ev j_W1 2 0 0 T11_spoil 26 [] [] h (some (.inl res.1)) res.2 := by
  unfold F11_spoil_26 at H
  refine ev_bipush (M := T11_spoil) (pc := 26) dX11_spoil_26 (k := ?_)
  cases H
  exact ev_ireturn (M := T11_spoil) (pc := 28) dX11_spoil_28
set_option maxRecDepth 100000 in
set_option maxHeartbeats 4000000 in
theorem C11_spoil {l1 : Int} {l2 : Int} {l3 : Int} {h : JM} {res : (Int × JM)} (H : F11_spoil l1 l2 l3 h = some res) : Cn j_W1 2 0 0 yX11_spoil cX11_spoil 4 (some .int) [.inr (.inr (some (11, 0))), .inl (l1), .inl (l2), .inl (l3)] h (some (.inl res.1)) res.2 := by
  refine Cn.by (own := RX11) (b := false) [(0, .inr (.inr (some (11, 0)))), (1, .inl (l1)), (2, .inl (l2)), (3, .inl (l3))] rfl (fun z => by cases z) (by decide +kernel) (K := ?_)
  unfold F11_spoil at H
  refine ev_iload_n (M := T11_spoil) (pc := 0) 1 dX11_spoil_0 (k := ?_)
  obtain ⟨q1, hq, H1⟩ := bd_e H
  clear H
  refine ev_callS (M := T11_spoil) (pc := 1) (mc := 0) (ms := 0) (st := []) (C11_isExchange hq) md_X11_isExchange ss_X11_isExchange ml_X11_91 dX11_spoil_1 _ (by decide) (K := ?_)
  refine ev_ifeq (M := T11_spoil) (pc := 4) 26 dX11_spoil_4 (kt := fun hc => ?_) (kf := fun hc => ?_)
  · replace H1 := if_pe hc H1
    refine ev_lv [] [] (k := ?_)
    exact E11_spoil_26 q1.2 _ H1
  · replace H1 := if_ne hc H1
    refine ev_aload_n (M := T11_spoil) (pc := 7) 0 dX11_spoil_7 (k := ?_)
    refine ev_iload_n (M := T11_spoil) (pc := 8) 2 dX11_spoil_8 (k := ?_)
    obtain ⟨q2, hq, H2⟩ := bd_e H1
    clear H1
    refine ev_callV (M := T11_spoil) (pc := 9) (mc := 0) (ms := 0) (st := []) (C11_isUnitToCome hq) md_X11_isUnitToCome im_X11_isUnitToCome se_X11_isUnitToCome ml_X11_170 dX11_spoil_9 _ (by decide) (K := ?_)
    refine ev_ifeq (M := T11_spoil) (pc := 12) 26 dX11_spoil_12 (kt := fun hc => ?_) (kf := fun hc => ?_)
    · replace H2 := if_pe hc H2
      refine ev_lv [] [] (k := ?_)
      exact E11_spoil_26 q2.2 _ H2
    · replace H2 := if_ne hc H2
      refine ev_iload_n (M := T11_spoil) (pc := 15) 3 dX11_spoil_15 (k := ?_)
      refine ev_iconst (M := T11_spoil) (pc := 16) dX11_spoil_16 (k := ?_)
      refine ev_sipush (M := T11_spoil) (pc := 17) dX11_spoil_17 (k := ?_)
      obtain ⟨q3, hq, H3⟩ := bd_e H2
      clear H2
      refine ev_callS (M := T11_spoil) (pc := 20) (mc := 0) (ms := 0) (st := []) (C11_isWithin hq) md_X11_isWithin ss_X11_isWithin ml_X11_79 dX11_spoil_20 _ (by decide) (K := ?_)
      refine ev_ifne (M := T11_spoil) (pc := 23) 29 dX11_spoil_23 (kt := fun hc => ?_) (kf := fun hc => ?_)
      · replace H3 := if_ne hc H3
        refine ev_aload_n (M := T11_spoil) (pc := 29) 0 dX11_spoil_29 (k := ?_)
        refine ev_getR (M := T11_spoil) (pc := 30) (t := 7) (x := some (7, 0)) fl_X11_37 dX11_spoil_30 (hx := ry_11_6 _ _) (K := ?_)
        refine ev_iload_n (M := T11_spoil) (pc := 33) 1 dX11_spoil_33 (k := ?_)
        refine ev_iload_n (M := T11_spoil) (pc := 34) 2 dX11_spoil_34 (k := ?_)
        refine ev_iload_n (M := T11_spoil) (pc := 35) 3 dX11_spoil_35 (k := ?_)
        obtain ⟨q4, hq, H4⟩ := bd_e H3
        clear H3
        refine ev_callV (M := T11_spoil) (pc := 36) (mc := 0) (ms := 0) (st := []) (C7_add hq) md_X7_add im_X7_add se_X7_add ml_X11_173 dX11_spoil_36 _ (by decide) (K := ?_)
        cases H4
        exact ev_ireturn (M := T11_spoil) (pc := 39) dX11_spoil_39
      · replace H3 := if_pe hc H3
        refine ev_lv [] [] (k := ?_)
        exact E11_spoil_26 q3.2 _ H3
-- X11_sweepCalls
abbrev T11_sweepCalls : JT := (RX11, cX11_sweepCalls, 4, none, false)
set_option maxRecDepth 100000 in
set_option maxHeartbeats 4000000 in
theorem E11_sweepCalls_61 (k16 : Int → Int → JM → Option JM) (hk16 : ∀ (l1 : Int) (l2 : Int) (h : JM) (res : JM), k16 l1 l2 h = some res → Ev j_W1 1 0 0 T11_sweepCalls 16 [(0, .inr (.inr (some (11, 0)))), (1, .inl (l1)), (2, .inl (l2))] [] h none res) (l1 : Int) (l2 : Int) (h : JM) (res : JM) (H : F11_sweepCalls_61 k16 l1 l2 h = some res) : Ev j_W1 1 0 0 T11_sweepCalls 61 [(0, .inr (.inr (some (11, 0)))), (1, .inl (l1)), (2, .inl (l2))] [] h none res := by
  unfold F11_sweepCalls_61 at H
  refine ev_iinc (M := T11_sweepCalls) (pc := 61) 2 [(2, .inl (w32 (l2 + 1))), (0, .inr (.inr (some (11, 0)))), (1, .inl (l1))] dX11_sweepCalls_61 (k := ?_)
  refine ev_goto (M := T11_sweepCalls) (pc := 64) 16 dX11_sweepCalls_64 (k := ?_)
  refine ev_lv [1, 2, 0] [(0, .inr (.inr (some (11, 0)))), (1, .inl (l1)), (2, .inl (w32 (l2 + 1)))] (k := ?_)
  exact hk16 l1 (w32 (l2 + 1)) h _ H
set_option maxRecDepth 100000 in
set_option maxHeartbeats 4000000 in
theorem E11_sweepCalls_16b (k16 : Int → Int → JM → Option JM) (hk16 : ∀ (l1 : Int) (l2 : Int) (h : JM) (res : JM), k16 l1 l2 h = some res → Ev j_W1 1 0 0 T11_sweepCalls 16 [(0, .inr (.inr (some (11, 0)))), (1, .inl (l1)), (2, .inl (l2))] [] h none res) (l1 : Int) (l2 : Int) (h : JM) (res : JM) (H : F11_sweepCalls_16b k16 l1 l2 h = some res) : Ev j_W1 1 0 0 T11_sweepCalls 16 [(0, .inr (.inr (some (11, 0)))), (1, .inl (l1)), (2, .inl (l2))] [] h none res := by
  unfold F11_sweepCalls_16b at H
  refine ev_iload_n (M := T11_sweepCalls) (pc := 16) 2 dX11_sweepCalls_16 (k := ?_)
  refine ev_aload_n (M := T11_sweepCalls) (pc := 17) 0 dX11_sweepCalls_17 (k := ?_)
  refine ev_getI (M := T11_sweepCalls) (pc := 18) (x := h.1 11 0 11) fl_X11_452 dX11_sweepCalls_18 (K := ?_)
  refine ev_icmpge (M := T11_sweepCalls) (pc := 21) 67 dX11_sweepCalls_21 (kt := fun hc => ?_) (kf := fun hc => ?_)
  · replace H := if_pe hc H
    refine ev_aload_n (M := T11_sweepCalls) (pc := 67) 0 dX11_sweepCalls_67 (k := ?_)
    refine ev_iload_n (M := T11_sweepCalls) (pc := 68) 1 dX11_sweepCalls_68 (k := ?_)
    obtain ⟨h1, eh1, H1⟩ := lt_e H
    clear H
    refine ev_putI (M := T11_sweepCalls) (pc := 69) j_ok1 fl_X11_452 eh1 dX11_sweepCalls_69 (K := ?_)
    cases H1
    exact ev_return (M := T11_sweepCalls) (pc := 72) dX11_sweepCalls_72
  · replace H := if_ne hc H
    refine ev_aload_n (M := T11_sweepCalls) (pc := 24) 0 dX11_sweepCalls_24 (k := ?_)
    refine ev_getR (M := T11_sweepCalls) (pc := 25) (t := 40) (x := some (40, 0)) fl_X11_23 dX11_sweepCalls_25 (hx := ry_11_4 _ _) (K := ?_)
    refine ev_iload_n (M := T11_sweepCalls) (pc := 28) 2 dX11_sweepCalls_28 (k := ?_)
    obtain ⟨⟨hi0, hi1⟩, H1⟩ := g_e H
    clear H
    refine ev_aaload (M := T11_sweepCalls) (pc := 29) (k := 40) 0 (x := Option.map (Prod.mk 0) (h.2.2 40 0 l2)) hi0 hi1 dX11_sweepCalls_29 (hc := ac_40) (hlen := ln_40 _ _) (hx := rz_40 _ _ _) (K := ?_)
    refine ev_astore_n (M := T11_sweepCalls) (pc := 30) [(3, .inr (.inr (Option.map (Prod.mk 0) (h.2.2 40 0 l2)))), (0, .inr (.inr (some (11, 0)))), (1, .inl (l1)), (2, .inl (l2))] dX11_sweepCalls_30 (k := ?_)
    refine ev_aload_n (M := T11_sweepCalls) (pc := 31) 0 dX11_sweepCalls_31 (k := ?_)
    obtain ⟨a2, ea2, H2⟩ := bd_e H1
    clear H1
    rw [ea2]
    refine ev_getI (M := T11_sweepCalls) (pc := 32) (x := h.1 0 a2 9) fl_X11_210 dX11_sweepCalls_32 (K := ?_)
    refine ev_iconst (M := T11_sweepCalls) (pc := 35) dX11_sweepCalls_35 (k := ?_)
    refine ev_icmpeq (M := T11_sweepCalls) (pc := 36) 61 dX11_sweepCalls_36 (kt := fun hc => ?_) (kf := fun hc => ?_)
    · replace H2 := if_pe hc H2
      refine ev_lv [1, 2, 3] [(0, .inr (.inr (some (11, 0)))), (1, .inl (l1)), (2, .inl (l2))] (k := ?_)
      exact E11_sweepCalls_61 k16 hk16 l1 l2 h _ H2
    · replace H2 := if_ne hc H2
      refine ev_aload_n (M := T11_sweepCalls) (pc := 39) 1 dX11_sweepCalls_39 (k := ?_)
      refine ev_getR (M := T11_sweepCalls) (pc := 40) (t := 40) (x := some (40, 0)) fl_X11_23 dX11_sweepCalls_40 (hx := ry_11_4 _ _) (K := ?_)
      refine ev_iload_n (M := T11_sweepCalls) (pc := 43) 3 dX11_sweepCalls_43 (k := ?_)
      refine ev_aload_n (M := T11_sweepCalls) (pc := 44) 1 dX11_sweepCalls_44 (k := ?_)
      refine ev_getR (M := T11_sweepCalls) (pc := 45) (t := 40) (x := some (40, 0)) fl_X11_23 dX11_sweepCalls_45 (hx := ry_11_4 _ _) (K := ?_)
      refine ev_iload_n (M := T11_sweepCalls) (pc := 48) 2 dX11_sweepCalls_48 (k := ?_)
      obtain ⟨⟨hi0, hi1⟩, H3⟩ := g_e H2
      clear H2
      refine ev_aaload (M := T11_sweepCalls) (pc := 49) (k := 40) 0 (x := Option.map (Prod.mk 0) (h.2.2 40 0 l1)) hi0 hi1 dX11_sweepCalls_49 (hc := ac_40) (hlen := ln_40 _ _) (hx := rz_40 _ _ _) (K := ?_)
      obtain ⟨⟨hi0, hi1⟩, H4⟩ := g_e H3
      clear H3
      obtain ⟨h3, eh3, H5⟩ := lt_e H4
      clear H4
      refine ev_aastore (M := T11_sweepCalls) (pc := 50) (k := 40) j_ok1 0 (h.2.2 40 0 l1) hi0 hi1 eh3 dX11_sweepCalls_50 (hly := rm_40 _ _) (hc := ac_40) (hlen := ln_40 _ _) (K := ?_)
      refine ev_aload_n (M := T11_sweepCalls) (pc := 51) 1 dX11_sweepCalls_51 (k := ?_)
      refine ev_getR (M := T11_sweepCalls) (pc := 52) (t := 40) (x := some (40, 0)) fl_X11_23 dX11_sweepCalls_52 (hx := ry_11_4 _ _) (K := ?_)
      refine ev_iload_n (M := T11_sweepCalls) (pc := 55) 2 dX11_sweepCalls_55 (k := ?_)
      refine ev_aload_n (M := T11_sweepCalls) (pc := 56) 0 dX11_sweepCalls_56 (k := ?_)
      obtain ⟨⟨hi0, hi1⟩, H6⟩ := g_e H5
      clear H5
      obtain ⟨h4, eh4, H7⟩ := lt_e H6
      clear H6
      refine ev_aastore (M := T11_sweepCalls) (pc := 57) (k := 40) j_ok1 0 (some a2) hi0 hi1 eh4 dX11_sweepCalls_57 (hly := rm_40 _ _) (hc := ac_40) (hlen := ln_40 _ _) (K := ?_)
      refine ev_iinc (M := T11_sweepCalls) (pc := 58) 2 [(1, .inl (w32 (l1 + 1))), (3, .inr (.inr (some (0, a2)))), (0, .inr (.inr (some (11, 0)))), (2, .inl (l2))] dX11_sweepCalls_58 (k := ?_)
      refine ev_lv [2, 0, 3] [(0, .inr (.inr (some (11, 0)))), (1, .inl (w32 (l1 + 1))), (2, .inl (l2))] (k := ?_)
      exact E11_sweepCalls_61 k16 hk16 (w32 (l1 + 1)) l2 h4 _ H7
theorem E11_sweepCalls_16 (n : Nat) : ∀ (l1 : Int) (l2 : Int) (h : JM) (res : JM), F11_sweepCalls_16 n l1 l2 h = some res → Ev j_W1 1 0 0 T11_sweepCalls 16 [(0, .inr (.inr (some (11, 0)))), (1, .inl (l1)), (2, .inl (l2))] [] h none res := by
  induction n with
  | zero =>
    intro l1 l2 h res H
    cases H
  | succ n ih =>
    intro l1 l2 h res H
    exact E11_sweepCalls_16b (F11_sweepCalls_16 n) ih l1 l2 h res H
set_option maxRecDepth 100000 in
set_option maxHeartbeats 4000000 in
theorem C11_sweepCalls {h : JM} {res : JM} (H : F11_sweepCalls h = some res) : Cn j_W1 1 0 0 yX11_sweepCalls cX11_sweepCalls 4 none [.inr (.inr (some (11, 0)))] h none res := by
  refine Cn.by (own := RX11) (b := false) [(0, .inr (.inr (some (11, 0))))] rfl (fun z => by cases z) (by decide +kernel) (K := ?_)
  unfold F11_sweepCalls at H
  refine ev_aload_n (M := T11_sweepCalls) (pc := 0) 0 dX11_sweepCalls_0 (k := ?_)
  refine ev_getI (M := T11_sweepCalls) (pc := 1) (x := h.1 11 0 11) fl_X11_452 dX11_sweepCalls_1 (K := ?_)
  refine ev_aload_n (M := T11_sweepCalls) (pc := 4) 0 dX11_sweepCalls_4 (k := ?_)
  refine ev_getI (M := T11_sweepCalls) (pc := 5) (x := h.1 11 0 13) fl_X11_309 dX11_sweepCalls_5 (K := ?_)
  refine ev_icmpne (M := T11_sweepCalls) (pc := 8) 12 dX11_sweepCalls_8 (kt := fun hc => ?_) (kf := fun hc => ?_)
  · replace H := if_ne hc H
    refine ev_iconst (M := T11_sweepCalls) (pc := 12) dX11_sweepCalls_12 (k := ?_)
    refine ev_istore_n (M := T11_sweepCalls) (pc := 13) [(1, .inl (0)), (0, .inr (.inr (some (11, 0))))] dX11_sweepCalls_13 (k := ?_)
    refine ev_iconst (M := T11_sweepCalls) (pc := 14) dX11_sweepCalls_14 (k := ?_)
    refine ev_istore_n (M := T11_sweepCalls) (pc := 15) [(2, .inl (0)), (1, .inl (0)), (0, .inr (.inr (some (11, 0))))] dX11_sweepCalls_15 (k := ?_)
    refine ev_lv [2, 1, 0] [(0, .inr (.inr (some (11, 0)))), (1, .inl (0)), (2, .inl (0))] (k := ?_)
    exact E11_sweepCalls_16 j_fu 0 0 h _ H
  · replace H := if_pe hc H
    cases H
    exact ev_return (M := T11_sweepCalls) (pc := 11) dX11_sweepCalls_11
-- X11_takeIam
abbrev T11_takeIam : JT := (RX11, cX11_takeIam, 7, none, false)
set_option maxRecDepth 100000 in
set_option maxHeartbeats 4000000 in
theorem E11_takeIam_63 (l1 : Option Int) (l2 : Option Int) (l3 : Int) (h : JM) (res : JM) (H : F11_takeIam_63 l1 l2 l3 h = some res) : Ev j_W1 5 0 0 T11_takeIam 63 [(0, .inr (.inr (some (11, 0)))), (1, .inr (.inr (Option.map (Prod.mk 1) (l1)))), (2, .inr (.inr (Option.map (Prod.mk 8) (l2)))), (3, .inr (.inl (l3)))] [] h none res := by
  unfold F11_takeIam_63 at H
  refine ev_aload_n (M := T11_takeIam) (pc := 63) 2 dX11_takeIam_63 (k := ?_)
  refine ev_iconst (M := T11_takeIam) (pc := 64) dX11_takeIam_64 (k := ?_)
  obtain ⟨a1, ea1, H1⟩ := bd_e H
  clear H
  rw [ea1]
  obtain ⟨h2, eh2, H2⟩ := lt_e H1
  clear H1
  refine ev_putI (M := T11_takeIam) (pc := 65) j_ok1 fl_X11_250 eh2 dX11_takeIam_65 (K := ?_)
  refine ev_aload_n (M := T11_takeIam) (pc := 68) 0 dX11_takeIam_68 (k := ?_)
  refine ev_aload_n (M := T11_takeIam) (pc := 69) 1 dX11_takeIam_69 (k := ?_)
  obtain ⟨q3, hq, H3⟩ := bd_e H2
  clear H2
  refine ev_callV (M := T11_takeIam) (pc := 70) (mc := 0) (ms := 0) (st := []) (C11_makeCall hq) md_X11_makeCall im_X11_makeCall se_X11_makeCall ml_X11_359 dX11_takeIam_70 _ (by decide) (K := ?_)
  refine ev_astore (M := T11_takeIam) (pc := 73) [(5, .inr (.inr (Option.map (Prod.mk 0) (q3.1)))), (0, .inr (.inr (some (11, 0)))), (1, .inr (.inr (Option.map (Prod.mk 1) (l1)))), (2, .inr (.inr (some (8, a1)))), (3, .inr (.inl (l3)))] dX11_takeIam_73 (k := ?_)
  refine ev_aload (M := T11_takeIam) (pc := 75) 0 dX11_takeIam_75 (k := ?_)
  refine ev_nonnullK (M := T11_takeIam) (pc := 77) q3.1 81 dX11_takeIam_77 (kt := fun hc => ?_) (kf := fun hc => ?_)
  · replace H3 := if_ne hc H3
    refine ev_aload_n (M := T11_takeIam) (pc := 81) 3 dX11_takeIam_81 (k := ?_)
    refine ev_aload (M := T11_takeIam) (pc := 82) 0 dX11_takeIam_82 (k := ?_)
    obtain ⟨h4, eh4, H4⟩ := lt_e H3
    clear H3
    refine ev_putR (M := T11_takeIam) (pc := 84) (t := 0) j_ok1 q3.1 fl_X11_352 eh4 (hdg := dX11_takeIam_84) (hly := rl_8_3 _) (K := ?_)
    refine ev_aload (M := T11_takeIam) (pc := 87) 0 dX11_takeIam_87 (k := ?_)
    refine ev_aload_n (M := T11_takeIam) (pc := 89) 3 dX11_takeIam_89 (k := ?_)
    obtain ⟨a5, ea5, H5⟩ := bd_e H4
    clear H4
    rw [ea5]
    obtain ⟨h6, eh6, H6⟩ := lt_e H5
    clear H5
    refine ev_putR (M := T11_takeIam) (pc := 90) (t := 8) j_ok1 (some a1) fl_X11_227 eh6 (hdg := dX11_takeIam_90) (hly := rl_0_2 _) (K := ?_)
    refine ev_aload (M := T11_takeIam) (pc := 93) 0 dX11_takeIam_93 (k := ?_)
    refine ev_lload_n (M := T11_takeIam) (pc := 95) 4 dX11_takeIam_95 (k := ?_)
    obtain ⟨q7, hq, H7⟩ := bd_e H6
    clear H6
    refine ev_callS (M := T11_takeIam) (pc := 96) (mc := 0) (ms := 0) (st := [.inr (.inr (some (0, a5)))]) (C9_forwardsOf hq) md_X9_forwardsOf ss_X9_forwardsOf ml_X11_363 dX11_takeIam_96 _ (by decide) (K := ?_)
    obtain ⟨h8, eh8, H8⟩ := lt_e H7
    clear H7
    refine ev_putI (M := T11_takeIam) (pc := 99) j_ok1 fl_X11_366 eh8 dX11_takeIam_99 (K := ?_)
    refine ev_aload (M := T11_takeIam) (pc := 102) 0 dX11_takeIam_102 (k := ?_)
    refine ev_lload_n (M := T11_takeIam) (pc := 104) 4 dX11_takeIam_104 (k := ?_)
    obtain ⟨q9, hq, H9⟩ := bd_e H8
    clear H8
    refine ev_callS (M := T11_takeIam) (pc := 105) (mc := 0) (ms := 0) (st := [.inr (.inr (some (0, a5)))]) (C9_keysOf hq) md_X9_keysOf ss_X9_keysOf ml_X11_368 dX11_takeIam_105 _ (by decide) (K := ?_)
    obtain ⟨h10, eh10, H10⟩ := lt_e H9
    clear H9
    refine ev_putL (M := T11_takeIam) (pc := 108) j_ok1 fl_X11_222 eh10 dX11_takeIam_108 (K := ?_)
    refine ev_aload_n (M := T11_takeIam) (pc := 111) 2 dX11_takeIam_111 (k := ?_)
    refine ev_aload (M := T11_takeIam) (pc := 112) 0 dX11_takeIam_112 (k := ?_)
    refine ev_getL (M := T11_takeIam) (pc := 114) (x := h10.2.1 0 a5 8) fl_X11_222 dX11_takeIam_114 (K := ?_)
    obtain ⟨a11, ea11, H11⟩ := bd_e H10
    clear H10
    rw [ea11]
    obtain ⟨q12, hq, H12⟩ := bd_e H11
    clear H11
    refine ev_callV (M := T11_takeIam) (pc := 117) (mc := 0) (ms := 0) (st := []) (C1_analyse hq) md_X1_analyse im_X1_analyse se_X1_analyse ml_X11_372 dX11_takeIam_117 _ (by decide) (K := ?_)
    refine ev_istore (M := T11_takeIam) (pc := 120) [(6, .inl (q12.1)), (5, .inr (.inr (some (0, a5)))), (0, .inr (.inr (some (11, 0)))), (1, .inr (.inr (some (1, a11)))), (2, .inr (.inr (some (8, a1)))), (3, .inr (.inl (l3)))] dX11_takeIam_120 (k := ?_)
    refine ev_iload (M := T11_takeIam) (pc := 122) 0 dX11_takeIam_122 (k := ?_)
    refine ev_ifge (M := T11_takeIam) (pc := 124) 136 dX11_takeIam_124 (kt := fun hc => ?_) (kf := fun hc => ?_)
    · replace H12 := if_pe hc H12
      refine ev_aload (M := T11_takeIam) (pc := 136) 1 dX11_takeIam_136 (k := ?_)
      refine ev_aload_n (M := T11_takeIam) (pc := 138) 3 dX11_takeIam_138 (k := ?_)
      refine ev_getR (M := T11_takeIam) (pc := 139) (t := 22) (x := some (22, a11)) fl_X11_106 dX11_takeIam_139 (hx := ry_1_3 _ _) (K := ?_)
      refine ev_iload (M := T11_takeIam) (pc := 142) 0 dX11_takeIam_142 (k := ?_)
      obtain ⟨⟨hi0, hi1⟩, H13⟩ := g_e H12
      clear H12
      refine ev_aaload (M := T11_takeIam) (pc := 144) (k := 22) 6 (x := Option.map (Prod.mk 6) (q12.2.2.2 22 a11 q12.1)) hi0 hi1 dX11_takeIam_144 (hc := ac_22) (hlen := ln_22 _ _) (hx := rz_22 _ _ _) (K := ?_)
      obtain ⟨h13, eh13, H14⟩ := lt_e H13
      clear H13
      refine ev_putR (M := T11_takeIam) (pc := 145) (t := 6) j_ok1 (q12.2.2.2 22 a11 q12.1) fl_X11_379 eh13 (hdg := dX11_takeIam_145) (hly := rl_0_7 _) (K := ?_)
      refine ev_aload_n (M := T11_takeIam) (pc := 148) 2 dX11_takeIam_148 (k := ?_)
      refine ev_aload (M := T11_takeIam) (pc := 149) 1 dX11_takeIam_149 (k := ?_)
      refine ev_iconst (M := T11_takeIam) (pc := 151) dX11_takeIam_151 (k := ?_)
      obtain ⟨h14, hq, H15⟩ := bd_e H14
      clear H14
      refine ev_callV (M := T11_takeIam) (pc := 152) (mc := 0) (ms := 0) (st := []) (C11_place hq) md_X11_place im_X11_place se_X11_place ml_X11_355 dX11_takeIam_152 _ (by decide) (K := ?_)
      cases H15
      exact ev_return (M := T11_takeIam) (pc := 155) dX11_takeIam_155
    · replace H12 := if_ne hc H12
      refine ev_aload_n (M := T11_takeIam) (pc := 127) 2 dX11_takeIam_127 (k := ?_)
      refine ev_aload (M := T11_takeIam) (pc := 128) 1 dX11_takeIam_128 (k := ?_)
      refine ev_iconst (M := T11_takeIam) (pc := 130) dX11_takeIam_130 (k := ?_)
      refine ev_iconst (M := T11_takeIam) (pc := 131) dX11_takeIam_131 (k := ?_)
      obtain ⟨h15, hq, H13⟩ := bd_e H12
      clear H12
      refine ev_callV (M := T11_takeIam) (pc := 132) (mc := 0) (ms := 0) (st := []) (C11_end hq) md_X11_end im_X11_end se_X11_end ml_X11_375 dX11_takeIam_132 _ (by decide) (K := ?_)
      cases H13
      exact ev_return (M := T11_takeIam) (pc := 135) dX11_takeIam_135
  · replace H3 := if_pe hc H3
    cases H3
    exact ev_return (M := T11_takeIam) (pc := 80) dX11_takeIam_80
set_option maxRecDepth 100000 in
set_option maxHeartbeats 4000000 in
theorem E11_takeIam_55 (l1 : Option Int) (l2 : Option Int) (l3 : Int) (h : JM) (res : JM) (H : F11_takeIam_55 l1 l2 l3 h = some res) : Ev j_W1 5 0 0 T11_takeIam 55 [(0, .inr (.inr (some (11, 0)))), (1, .inr (.inr (Option.map (Prod.mk 1) (l1)))), (2, .inr (.inr (Option.map (Prod.mk 8) (l2)))), (3, .inr (.inl (l3)))] [] h none res := by
  unfold F11_takeIam_55 at H
  refine ev_aload_n (M := T11_takeIam) (pc := 55) 2 dX11_takeIam_55 (k := ?_)
  obtain ⟨a16, ea16, H1⟩ := bd_e H
  clear H
  rw [ea16]
  refine ev_getI (M := T11_takeIam) (pc := 56) (x := h.1 8 a16 2) fl_X11_250 dX11_takeIam_56 (K := ?_)
  refine ev_ifeq (M := T11_takeIam) (pc := 59) 63 dX11_takeIam_59 (kt := fun hc => ?_) (kf := fun hc => ?_)
  · replace H1 := if_pe hc H1
    exact E11_takeIam_63 l1 (some a16) l3 h _ H1
  · replace H1 := if_ne hc H1
    cases H1
    exact ev_return (M := T11_takeIam) (pc := 62) dX11_takeIam_62
set_option maxRecDepth 100000 in
set_option maxHeartbeats 4000000 in
theorem C11_takeIam {l1 : Option Int} {l2 : Option Int} {l3 : Int} {h : JM} {res : JM} (H : F11_takeIam l1 l2 l3 h = some res) : Cn j_W1 5 0 0 yX11_takeIam cX11_takeIam 7 none [.inr (.inr (some (11, 0))), .inr (.inr (Option.map (Prod.mk 1) (l1))), .inr (.inr (Option.map (Prod.mk 8) (l2))), .inr (.inl (l3))] h none res := by
  refine Cn.by (own := RX11) (b := false) [(0, .inr (.inr (some (11, 0)))), (1, .inr (.inr (Option.map (Prod.mk 1) (l1)))), (2, .inr (.inr (Option.map (Prod.mk 8) (l2)))), (3, .inr (.inl (l3)))] rfl (fun z => by cases z) (by decide +kernel) (K := ?_)
  unfold F11_takeIam at H
  refine ev_aload_n (M := T11_takeIam) (pc := 0) 2 dX11_takeIam_0 (k := ?_)
  obtain ⟨a17, ea17, H1⟩ := bd_e H
  clear H
  rw [ea17]
  refine ev_getI (M := T11_takeIam) (pc := 1) (x := h.1 8 a17 2) fl_X11_250 dX11_takeIam_1 (K := ?_)
  refine ev_iconst (M := T11_takeIam) (pc := 4) dX11_takeIam_4 (k := ?_)
  refine ev_icmpne (M := T11_takeIam) (pc := 5) 55 dX11_takeIam_5 (kt := fun hc => ?_) (kf := fun hc => ?_)
  · replace H1 := if_ne hc H1
    exact E11_takeIam_55 l1 (some a17) l3 h _ H1
  · replace H1 := if_pe hc H1
    refine ev_aload_n (M := T11_takeIam) (pc := 8) 2 dX11_takeIam_8 (k := ?_)
    obtain ⟨q18, hq, H2⟩ := bd_e H1
    clear H1
    refine ev_callV (M := T11_takeIam) (pc := 9) (mc := 0) (ms := 0) (st := []) (C8_isSent hq) md_X8_isSent im_X8_isSent se_X8_isSent ml_X11_347 dX11_takeIam_9 _ (by decide) (K := ?_)
    refine ev_ifeq (M := T11_takeIam) (pc := 12) 55 dX11_takeIam_12 (kt := fun hc => ?_) (kf := fun hc => ?_)
    · replace H2 := if_pe hc H2
      exact E11_takeIam_55 l1 (some a17) l3 q18.2 _ H2
    · replace H2 := if_ne hc H2
      refine ev_aload_n (M := T11_takeIam) (pc := 15) 2 dX11_takeIam_15 (k := ?_)
      refine ev_getI (M := T11_takeIam) (pc := 16) (x := q18.2.1 8 a17 0) fl_X11_320 dX11_takeIam_16 (K := ?_)
      refine ev_iconst (M := T11_takeIam) (pc := 19) dX11_takeIam_19 (k := ?_)
      refine ev_irem (M := T11_takeIam) (pc := 20) dX11_takeIam_20 (by decide) (k := ?_)
      refine ev_aload_n (M := T11_takeIam) (pc := 21) 1 dX11_takeIam_21 (k := ?_)
      obtain ⟨a19, ea19, H3⟩ := bd_e H2
      clear H2
      rw [ea19]
      refine ev_getI (M := T11_takeIam) (pc := 22) (x := q18.2.1 1 a19 0) fl_X11_351 dX11_takeIam_22 (K := ?_)
      refine ev_icmpeq (M := T11_takeIam) (pc := 25) 55 dX11_takeIam_25 (kt := fun hc => ?_) (kf := fun hc => ?_)
      · replace H3 := if_pe hc H3
        exact E11_takeIam_55 (some a19) (some a17) l3 q18.2 _ H3
      · replace H3 := if_ne hc H3
        refine ev_aload_n (M := T11_takeIam) (pc := 28) 2 dX11_takeIam_28 (k := ?_)
        refine ev_getR (M := T11_takeIam) (pc := 29) (t := 0) (x := Option.map (Prod.mk 0) (q18.2.2.2 8 a17 3)) fl_X11_352 dX11_takeIam_29 (hx := ry_8_3 _ _) (K := ?_)
        refine ev_astore (M := T11_takeIam) (pc := 32) [(5, .inr (.inr (Option.map (Prod.mk 0) (q18.2.2.2 8 a17 3)))), (0, .inr (.inr (some (11, 0)))), (1, .inr (.inr (some (1, a19)))), (2, .inr (.inr (some (8, a17)))), (3, .inr (.inl (l3)))] dX11_takeIam_32 (k := ?_)
        refine ev_aload_n (M := T11_takeIam) (pc := 34) 3 dX11_takeIam_34 (k := ?_)
        refine ev_null (M := T11_takeIam) (pc := 35) dX11_takeIam_35 (k := ?_)
        obtain ⟨h20, eh20, H4⟩ := lt_e H3
        clear H3
        refine ev_putR (M := T11_takeIam) (pc := 36) (t := 0) j_ok1 none fl_X11_352 eh20 (hdg := dX11_takeIam_36) (hly := rl_8_3 _) (K := ?_)
        refine ev_aload (M := T11_takeIam) (pc := 39) 0 dX11_takeIam_39 (k := ?_)
        refine ev_null (M := T11_takeIam) (pc := 41) dX11_takeIam_41 (k := ?_)
        obtain ⟨a21, ea21, H5⟩ := bd_e H4
        clear H4
        rw [ea21]
        obtain ⟨h22, eh22, H6⟩ := lt_e H5
        clear H5
        refine ev_putR (M := T11_takeIam) (pc := 42) (t := 8) j_ok1 none fl_X11_240 eh22 (hdg := dX11_takeIam_42) (hly := rl_0_4 _) (K := ?_)
        refine ev_aload_n (M := T11_takeIam) (pc := 45) 1 dX11_takeIam_45 (k := ?_)
        refine ev_aload (M := T11_takeIam) (pc := 46) 0 dX11_takeIam_46 (k := ?_)
        refine ev_iconst (M := T11_takeIam) (pc := 48) dX11_takeIam_48 (k := ?_)
        obtain ⟨h23, hq, H7⟩ := bd_e H6
        clear H6
        refine ev_callV (M := T11_takeIam) (pc := 49) (mc := 0) (ms := 0) (st := []) (C11_place hq) md_X11_place im_X11_place se_X11_place ml_X11_355 dX11_takeIam_49 _ (by decide) (K := ?_)
        refine ev_goto (M := T11_takeIam) (pc := 52) 63 dX11_takeIam_52 (k := ?_)
        refine ev_lv [1, 2, 3, 4] [(0, .inr (.inr (some (11, 0)))), (1, .inr (.inr (some (1, a19)))), (2, .inr (.inr (some (8, a17)))), (3, .inr (.inl (l3)))] (k := ?_)
        exact E11_takeIam_63 (some a19) (some a17) l3 h23 _ H7
