-- X11_takeSignal
abbrev T11_takeSignal : JT := (RX11, cX11_takeSignal, 6, none, false)
set_option maxRecDepth 100000 in
set_option maxHeartbeats 4000000 in
theorem E11_takeSignal_102 (l5 : Option Int) (h : JM) (res : JM) (H : F11_takeSignal_102 l5 h = some res) : Ev j_W1 5 0 0 T11_takeSignal 102 [(0, .inr (.inr (some (11, 0)))), (5, .inr (.inr (Option.map (Prod.mk 0) (l5))))] [] h none res := by
  unfold F11_takeSignal_102 at H
  refine ev_aload_n 0 dX11_takeSignal_102 (k := ?_)
  refine ev_aload 1 dX11_takeSignal_103 (k := ?_)
  refine ev_aload_n 0 dX11_takeSignal_105 (k := ?_)
  refine ev_aload 1 dX11_takeSignal_106 (k := ?_)
  obtain ⟨q1, hq, H1⟩ := bd_e H
  clear H
  refine ev_callV (mc := 0) (ms := 0) (st := [.inr (.inr (Option.map (Prod.mk 0) (l5))), .inr (.inr (some (11, 0)))]) (C11_answer hq) md_X11_answer im_X11_answer se_X11_answer ml_X11_390 dX11_takeSignal_108 _ (by decide) (K := ?_)
  obtain ⟨h2, hq, H2⟩ := bd_e H1
  clear H1
  refine ev_callV (mc := 0) (ms := 0) (st := []) (C11_endIf hq) md_X11_endIf im_X11_endIf se_X11_endIf ml_X11_394 dX11_takeSignal_111 _ (by decide) (K := ?_)
  refine ev_goto 146 dX11_takeSignal_114 (k := ?_)
  cases H2
  exact ev_return dX11_takeSignal_146
set_option maxRecDepth 100000 in
set_option maxHeartbeats 4000000 in
theorem C11_takeSignal {l1 : Option Int} {l2 : Option Int} {l3 : Int} {h : JM} {res : JM} (H : F11_takeSignal l1 l2 l3 h = some res) : Cn j_W1 5 0 0 yX11_takeSignal cX11_takeSignal 6 none [.inr (.inr (some (11, 0))), .inr (.inr (Option.map (Prod.mk 1) (l1))), .inr (.inr (Option.map (Prod.mk 8) (l2))), .inr (.inl (l3))] h none res := by
  refine Cn.by (own := RX11) (b := false) [(0, .inr (.inr (some (11, 0)))), (1, .inr (.inr (Option.map (Prod.mk 1) (l1)))), (2, .inr (.inr (Option.map (Prod.mk 8) (l2)))), (3, .inr (.inl (l3)))] rfl (fun z => by cases z) (by decide +kernel) (K := ?_)
  unfold F11_takeSignal at H
  refine ev_aload_n 2 dX11_takeSignal_0 (k := ?_)
  obtain ⟨a3, ea3, H1⟩ := bd_e H
  clear H
  rw [ea3]
  refine ev_getR (t := 0) (x := Option.map (Prod.mk 0) (h.2.2 8 a3 3)) fl_X11_352 dX11_takeSignal_1 (hx := ry_8_3 _ _) (K := ?_)
  refine ev_astore [(5, .inr (.inr (Option.map (Prod.mk 0) (h.2.2 8 a3 3)))), (0, .inr (.inr (some (11, 0)))), (1, .inr (.inr (Option.map (Prod.mk 1) (l1)))), (2, .inr (.inr (some (8, a3)))), (3, .inr (.inl (l3)))] dX11_takeSignal_4 (k := ?_)
  refine ev_lload_n 4 dX11_takeSignal_6 (k := ?_)
  obtain ⟨q4, hq, H2⟩ := bd_e H1
  clear H1
  refine ev_callS (mc := 0) (ms := 0) (st := []) (C9_typeOf hq) md_X9_typeOf ss_X9_typeOf ml_X11_337 dX11_takeSignal_7 _ (by decide) (K := ?_)
  by_cases hs0 : q4.1 = 2
  · replace H2 := if_pe hs0 H2
    refine ev_tableIn (off := 30) 40 dX11_takeSignal_10 (by omega) (by omega) (by rw [hs0]; rfl) (k := ?_)
    refine ev_aload_n 3 dX11_takeSignal_40 (k := ?_)
    refine ev_getI (x := q4.2.1 8 a3 2) fl_X11_250 dX11_takeSignal_41 (K := ?_)
    refine ev_iconst dX11_takeSignal_44 (k := ?_)
    refine ev_icmpne 146 dX11_takeSignal_45 (kt := fun hc => ?_) (kf := fun hc => ?_)
    · replace H2 := if_ne hc H2
      cases H2
      exact ev_return dX11_takeSignal_146
    · replace H2 := if_pe hc H2
      refine ev_aload_n 3 dX11_takeSignal_48 (k := ?_)
      obtain ⟨q5, hq, H3⟩ := bd_e H2
      clear H2
      refine ev_callV (mc := 0) (ms := 0) (st := []) (C8_isSent hq) md_X8_isSent im_X8_isSent se_X8_isSent ml_X11_347 dX11_takeSignal_49 _ (by decide) (K := ?_)
      refine ev_ifeq 146 dX11_takeSignal_52 (kt := fun hc => ?_) (kf := fun hc => ?_)
      · replace H3 := if_pe hc H3
        cases H3
        exact ev_return dX11_takeSignal_146
      · replace H3 := if_ne hc H3
        refine ev_aload_n 1 dX11_takeSignal_55 (k := ?_)
        refine ev_aload 0 dX11_takeSignal_56 (k := ?_)
        refine ev_iconst dX11_takeSignal_58 (k := ?_)
        obtain ⟨h6, hq, H4⟩ := bd_e H3
        clear H3
        refine ev_callV (mc := 0) (ms := 0) (st := []) (C11_enter hq) md_X11_enter im_X11_enter se_X11_enter ml_X11_383 dX11_takeSignal_59 _ (by decide) (K := ?_)
        refine ev_aload_n 1 dX11_takeSignal_62 (k := ?_)
        refine ev_aload 0 dX11_takeSignal_63 (k := ?_)
        obtain ⟨h7, hq, H5⟩ := bd_e H4
        clear H4
        refine ev_callV (mc := 0) (ms := 0) (st := []) (C11_announce hq) md_X11_announce im_X11_announce se_X11_announce ml_X11_386 dX11_takeSignal_65 _ (by decide) (K := ?_)
        refine ev_goto 146 dX11_takeSignal_68 (k := ?_)
        cases H5
        exact ev_return dX11_takeSignal_146
  · replace H2 := if_ne hs0 H2
    by_cases hs1 : q4.1 = 3
    · replace H2 := if_pe hs1 H2
      refine ev_tableIn (off := 61) 71 dX11_takeSignal_10 (by omega) (by omega) (by rw [hs1]; rfl) (k := ?_)
      refine ev_aload_n 3 dX11_takeSignal_71 (k := ?_)
      refine ev_getI (x := q4.2.1 8 a3 2) fl_X11_250 dX11_takeSignal_72 (K := ?_)
      refine ev_iconst dX11_takeSignal_75 (k := ?_)
      refine ev_icmpne 146 dX11_takeSignal_76 (kt := fun hc => ?_) (kf := fun hc => ?_)
      · replace H2 := if_ne hc H2
        cases H2
        exact ev_return dX11_takeSignal_146
      · replace H2 := if_pe hc H2
        refine ev_aload 0 dX11_takeSignal_79 (k := ?_)
        refine ev_nullK (h.2.2 8 a3 3) 146 dX11_takeSignal_81 (kt := fun hc => ?_) (kf := fun hc => ?_)
        · replace H2 := if_pe hc H2
          cases H2
          exact ev_return dX11_takeSignal_146
        · replace H2 := if_ne hc H2
          refine ev_aload 0 dX11_takeSignal_84 (k := ?_)
          obtain ⟨a8, ea8, H3⟩ := bd_e H2
          clear H2
          rw [ea8]
          refine ev_getI (x := q4.2.1 0 a8 9) fl_X11_210 dX11_takeSignal_86 (K := ?_)
          refine ev_iconst dX11_takeSignal_89 (k := ?_)
          refine ev_icmpeq 102 dX11_takeSignal_90 (kt := fun hc => ?_) (kf := fun hc => ?_)
          · replace H3 := if_pe hc H3
            refine ev_lv [1, 0] [(0, .inr (.inr (some (11, 0)))), (5, .inr (.inr (some (0, a8))))] (k := ?_)
            exact E11_takeSignal_102 (some a8) q4.2 _ H3
          · replace H3 := if_ne hc H3
            refine ev_aload 0 dX11_takeSignal_93 (k := ?_)
            refine ev_getI (x := q4.2.1 0 a8 9) fl_X11_210 dX11_takeSignal_95 (K := ?_)
            refine ev_iconst dX11_takeSignal_98 (k := ?_)
            refine ev_icmpne 146 dX11_takeSignal_99 (kt := fun hc => ?_) (kf := fun hc => ?_)
            · replace H3 := if_ne hc H3
              cases H3
              exact ev_return dX11_takeSignal_146
            · replace H3 := if_pe hc H3
              refine ev_lv [1, 0] [(0, .inr (.inr (some (11, 0)))), (5, .inr (.inr (some (0, a8))))] (k := ?_)
              exact E11_takeSignal_102 (some a8) q4.2 _ H3
    · replace H2 := if_ne hs1 H2
      by_cases hs2 : q4.1 = 4
      · replace H2 := if_pe hs2 H2
        refine ev_tableIn (off := 107) 117 dX11_takeSignal_10 (by omega) (by omega) (by rw [hs2]; rfl) (k := ?_)
        refine ev_aload_n 1 dX11_takeSignal_117 (k := ?_)
        refine ev_aload_n 2 dX11_takeSignal_118 (k := ?_)
        refine ev_aload_n 3 dX11_takeSignal_119 (k := ?_)
        refine ev_lload_n 4 dX11_takeSignal_120 (k := ?_)
        obtain ⟨q9, hq, H3⟩ := bd_e H2
        clear H2
        refine ev_callS (mc := 0) (ms := 0) (st := [.inr (.inr (some (8, a3))), .inr (.inr (Option.map (Prod.mk 1) (l1))), .inr (.inr (some (11, 0)))]) (C9_causeOf hq) md_X9_causeOf ss_X9_causeOf ml_X11_397 dX11_takeSignal_121 _ (by decide) (K := ?_)
        obtain ⟨h10, hq, H4⟩ := bd_e H3
        clear H3
        refine ev_callV (mc := 0) (ms := 0) (st := []) (C11_takeRelease hq) md_X11_takeRelease im_X11_takeRelease se_X11_takeRelease ml_X11_400 dX11_takeSignal_124 _ (by decide) (K := ?_)
        refine ev_goto 146 dX11_takeSignal_127 (k := ?_)
        cases H4
        exact ev_return dX11_takeSignal_146
      · replace H2 := if_ne hs2 H2
        by_cases hs3 : q4.1 = 5
        · replace H2 := if_pe hs3 H2
          refine ev_tableIn (off := 120) 130 dX11_takeSignal_10 (by omega) (by omega) (by rw [hs3]; rfl) (k := ?_)
          refine ev_aload_n 3 dX11_takeSignal_130 (k := ?_)
          refine ev_getI (x := q4.2.1 8 a3 2) fl_X11_250 dX11_takeSignal_131 (K := ?_)
          refine ev_iconst dX11_takeSignal_134 (k := ?_)
          refine ev_icmpne 146 dX11_takeSignal_135 (kt := fun hc => ?_) (kf := fun hc => ?_)
          · replace H2 := if_ne hc H2
            cases H2
            exact ev_return dX11_takeSignal_146
          · replace H2 := if_pe hc H2
            refine ev_aload_n 3 dX11_takeSignal_138 (k := ?_)
            refine ev_iconst dX11_takeSignal_139 (k := ?_)
            obtain ⟨h11, eh11, H3⟩ := lt_e H2
            clear H2
            refine ev_putI j_ok1 fl_X11_250 eh11 dX11_takeSignal_140 (K := ?_)
            refine ev_goto 146 dX11_takeSignal_143 (k := ?_)
            cases H3
            exact ev_return dX11_takeSignal_146
        · replace H2 := if_ne hs3 H2
          refine ev_tableOut 146 dX11_takeSignal_10 (by omega) (k := ?_)
          cases H2
          exact ev_return dX11_takeSignal_146
-- X11_takeUnits
abbrev T11_takeUnits : JT := (RX11, cX11_takeUnits, 7, none, false)
set_option maxRecDepth 100000 in
set_option maxHeartbeats 4000000 in
theorem E11_takeUnits_129 (k2 : Int → JM → Option JM) (hk2 : ∀ (l1 : Int) (h : JM) (res : JM), k2 l1 h = some res → Ev j_W1 6 0 0 T11_takeUnits 2 [(0, .inr (.inr (some (11, 0)))), (1, .inl (l1))] [] h none res) (l1 : Int) (h : JM) (res : JM) (H : F11_takeUnits_129 k2 l1 h = some res) : Ev j_W1 6 0 0 T11_takeUnits 129 [(0, .inr (.inr (some (11, 0)))), (1, .inl (l1))] [] h none res := by
  unfold F11_takeUnits_129 at H
  refine ev_iinc 1 [(1, .inl (w32 (l1 + 1))), (0, .inr (.inr (some (11, 0))))] dX11_takeUnits_129 (k := ?_)
  refine ev_goto 2 dX11_takeUnits_132 (k := ?_)
  refine ev_lv [1, 0] [(0, .inr (.inr (some (11, 0)))), (1, .inl (w32 (l1 + 1)))] (k := ?_)
  exact hk2 (w32 (l1 + 1)) h _ H
set_option maxRecDepth 100000 in
set_option maxHeartbeats 4000000 in
theorem E11_takeUnits_2b (k2 : Int → JM → Option JM) (hk2 : ∀ (l1 : Int) (h : JM) (res : JM), k2 l1 h = some res → Ev j_W1 6 0 0 T11_takeUnits 2 [(0, .inr (.inr (some (11, 0)))), (1, .inl (l1))] [] h none res) (l1 : Int) (h : JM) (res : JM) (H : F11_takeUnits_2b k2 l1 h = some res) : Ev j_W1 6 0 0 T11_takeUnits 2 [(0, .inr (.inr (some (11, 0)))), (1, .inl (l1))] [] h none res := by
  unfold F11_takeUnits_2b at H
  refine ev_iload_n 1 dX11_takeUnits_2 (k := ?_)
  refine ev_iconst dX11_takeUnits_3 (k := ?_)
  refine ev_icmpge 135 dX11_takeUnits_4 (kt := fun hc => ?_) (kf := fun hc => ?_)
  · replace H := if_pe hc H
    cases H
    exact ev_return dX11_takeUnits_135
  · replace H := if_ne hc H
    refine ev_aload_n 0 dX11_takeUnits_7 (k := ?_)
    refine ev_getR (t := 38) (x := some (38, 0)) fl_X11_11 dX11_takeUnits_8 (hx := ry_11_2 _ _) (K := ?_)
    refine ev_iconst dX11_takeUnits_11 (k := ?_)
    refine ev_iload_n 1 dX11_takeUnits_12 (k := ?_)
    refine ev_isub dX11_takeUnits_13 (k := ?_)
    obtain ⟨⟨hi0, hi1⟩, H1⟩ := g_e H
    clear H
    refine ev_aaload (k := 38) 1 (x := some (1, (w32 (1 - l1)))) hi0 hi1 dX11_takeUnits_14 (hc := ac_38) (hlen := ln_38 _ _) (hx := rz_38 _ _ _) (K := ?_)
    refine ev_getR (t := 5) (x := some (5, (w32 (1 - l1)))) fl_X11_261 dX11_takeUnits_15 (hx := ry_1_7 _ _) (K := ?_)
    refine ev_getR (t := 33) (x := some (33, (w32 (1 - l1)))) fl_X11_323 dX11_takeUnits_18 (hx := ry_5_10 _ _) (K := ?_)
    refine ev_aload_n 0 dX11_takeUnits_21 (k := ?_)
    refine ev_getI (x := h.1 11 0 10) fl_X11_177 dX11_takeUnits_22 (K := ?_)
    refine ev_iconst dX11_takeUnits_25 (k := ?_)
    refine ev_iand dX11_takeUnits_26 (k := ?_)
    obtain ⟨⟨hi0, hi1⟩, H2⟩ := g_e H1
    clear H1
    refine ev_aaload (k := 33) 9 (x := some (9, (128 + 2 * (w32 (1 - l1)) + (j_and (h.1 11 0 10) 1)))) hi0 hi1 dX11_takeUnits_27 (hc := ac_33) (hlen := ln_33 _ _) (hx := rz_33 _ _ _) (K := ?_)
    refine ev_astore_n [(2, .inr (.inr (some (9, (128 + 2 * (w32 (1 - l1)) + (j_and (h.1 11 0 10) 1)))))), (0, .inr (.inr (some (11, 0)))), (1, .inl (l1))] dX11_takeUnits_28 (k := ?_)
    refine ev_aload_n 1 dX11_takeUnits_29 (k := ?_)
    refine ev_getR (t := 38) (x := some (38, 0)) fl_X11_11 dX11_takeUnits_30 (hx := ry_11_2 _ _) (K := ?_)
    refine ev_iload_n 2 dX11_takeUnits_33 (k := ?_)
    obtain ⟨⟨hi0, hi1⟩, H3⟩ := g_e H2
    clear H2
    refine ev_aaload (k := 38) 1 (x := some (1, l1)) hi0 hi1 dX11_takeUnits_34 (hc := ac_38) (hlen := ln_38 _ _) (hx := rz_38 _ _ _) (K := ?_)
    refine ev_getR (t := 5) (x := some (5, l1)) fl_X11_261 dX11_takeUnits_35 (hx := ry_1_7 _ _) (K := ?_)
    refine ev_aload_n 0 dX11_takeUnits_38 (k := ?_)
    obtain ⟨q1, hq, H4⟩ := bd_e H3
    clear H3
    refine ev_callV (mc := 0) (ms := 0) (st := []) (C5_take hq) md_X5_take im_X5_take se_X5_take ml_X11_326 dX11_takeUnits_39 _ (by decide) (K := ?_)
    refine ev_lstore_n [(3, .inr (.inl (q1.1))), (2, .inr (.inr (some (9, (128 + 2 * (w32 (1 - l1)) + (j_and (h.1 11 0 10) 1)))))), (0, .inr (.inr (some (11, 0)))), (1, .inl (l1))] dX11_takeUnits_42 (k := ?_)
    refine ev_lload_n 0 dX11_takeUnits_43 (k := ?_)
    refine ev_ldc2 (n := (-1)) cl_X11_330 dX11_takeUnits_44 (k := ?_)
    refine ev_lcmp dX11_takeUnits_47 (k := ?_)
    refine ev_ifeq 129 dX11_takeUnits_48 (kt := fun hc => ?_) (kf := fun hc => ?_)
    · replace H4 := if_pe hc H4
      refine ev_lv [2, 3] [(0, .inr (.inr (some (11, 0)))), (1, .inl (l1))] (k := ?_)
      exact E11_takeUnits_129 k2 hk2 l1 q1.2 _ H4
    · replace H4 := if_ne hc H4
      refine ev_lload_n 0 dX11_takeUnits_51 (k := ?_)
      refine ev_lconst (v := 0) dX11_takeUnits_52 (k := ?_)
      refine ev_lcmp dX11_takeUnits_53 (k := ?_)
      refine ev_ifne 60 dX11_takeUnits_54 (kt := fun hc => ?_) (kf := fun hc => ?_)
      · replace H4 := if_ne hc H4
        refine ev_lload_n 0 dX11_takeUnits_60 (k := ?_)
        obtain ⟨q2, hq, H5⟩ := bd_e H4
        clear H4
        refine ev_callS (mc := 0) (ms := 0) (st := []) (C9_circuitOf hq) md_X9_circuitOf ss_X9_circuitOf ml_X11_332 dX11_takeUnits_61 _ (by decide) (K := ?_)
        refine ev_istore [(5, .inl (q2.1)), (3, .inr (.inl (q1.1))), (2, .inr (.inr (some (9, (128 + 2 * (w32 (1 - l1)) + (j_and (h.1 11 0 10) 1)))))), (0, .inr (.inr (some (11, 0)))), (1, .inl (l1))] dX11_takeUnits_64 (k := ?_)
        refine ev_iload 0 dX11_takeUnits_66 (k := ?_)
        refine ev_aload_n 3 dX11_takeUnits_68 (k := ?_)
        refine ev_getI (x := q2.2.1 11 0 0) fl_X11_55 dX11_takeUnits_69 (K := ?_)
        refine ev_icmplt 78 dX11_takeUnits_72 (kt := fun hc => ?_) (kf := fun hc => ?_)
        · replace H5 := if_pe hc H5
          refine ev_aload_n 3 dX11_takeUnits_78 (k := ?_)
          refine ev_getR (t := 38) (x := some (38, 0)) fl_X11_11 dX11_takeUnits_79 (hx := ry_11_2 _ _) (K := ?_)
          refine ev_iload_n 4 dX11_takeUnits_82 (k := ?_)
          obtain ⟨⟨hi0, hi1⟩, H6⟩ := g_e H5
          clear H5
          refine ev_aaload (k := 38) 1 (x := some (1, l1)) hi0 hi1 dX11_takeUnits_83 (hc := ac_38) (hlen := ln_38 _ _) (hx := rz_38 _ _ _) (K := ?_)
          refine ev_getR (t := 20) (x := some (20, l1)) fl_X11_65 dX11_takeUnits_84 (hx := ry_1_1 _ _) (K := ?_)
          refine ev_iload 0 dX11_takeUnits_87 (k := ?_)
          obtain ⟨⟨hi0, hi1⟩, H7⟩ := g_e H6
          clear H6
          refine ev_aaload (k := 20) 8 (x := some (8, (16 * l1 + q2.1))) hi0 hi1 dX11_takeUnits_89 (hc := ac_20) (hlen := ln_20 _ _) (hx := rz_20 _ _ _) (K := ?_)
          refine ev_astore [(6, .inr (.inr (some (8, (16 * l1 + q2.1))))), (5, .inl (q2.1)), (3, .inr (.inl (q1.1))), (2, .inr (.inr (some (9, (128 + 2 * (w32 (1 - l1)) + (j_and (h.1 11 0 10) 1)))))), (0, .inr (.inr (some (11, 0)))), (1, .inl (l1))] dX11_takeUnits_90 (k := ?_)
          refine ev_lload_n 2 dX11_takeUnits_92 (k := ?_)
          obtain ⟨q3, hq, H8⟩ := bd_e H7
          clear H7
          refine ev_callS (mc := 0) (ms := 0) (st := []) (C9_typeOf hq) md_X9_typeOf ss_X9_typeOf ml_X11_337 dX11_takeUnits_93 _ (by decide) (K := ?_)
          refine ev_iconst dX11_takeUnits_96 (k := ?_)
          refine ev_icmpne 116 dX11_takeUnits_97 (kt := fun hc => ?_) (kf := fun hc => ?_)
          · replace H8 := if_ne hc H8
            refine ev_aload_n 4 dX11_takeUnits_116 (k := ?_)
            refine ev_aload_n 4 dX11_takeUnits_117 (k := ?_)
            refine ev_getR (t := 38) (x := some (38, 0)) fl_X11_11 dX11_takeUnits_118 (hx := ry_11_2 _ _) (K := ?_)
            refine ev_iload_n 5 dX11_takeUnits_121 (k := ?_)
            obtain ⟨⟨hi0, hi1⟩, H9⟩ := g_e H8
            clear H8
            refine ev_aaload (k := 38) 1 (x := some (1, l1)) hi0 hi1 dX11_takeUnits_122 (hc := ac_38) (hlen := ln_38 _ _) (hx := rz_38 _ _ _) (K := ?_)
            refine ev_aload 0 dX11_takeUnits_123 (k := ?_)
            refine ev_lload_n 2 dX11_takeUnits_125 (k := ?_)
            obtain ⟨h4, hq, H10⟩ := bd_e H9
            clear H9
            refine ev_callV (mc := 0) (ms := 0) (st := []) (C11_takeSignal hq) md_X11_takeSignal im_X11_takeSignal se_X11_takeSignal ml_X11_344 dX11_takeUnits_126 _ (by decide) (K := ?_)
            refine ev_lv [4, 5] [(0, .inr (.inr (some (11, 0)))), (1, .inl (l1))] (k := ?_)
            exact E11_takeUnits_129 k2 hk2 l1 h4 _ H10
          · replace H8 := if_pe hc H8
            refine ev_aload_n 4 dX11_takeUnits_100 (k := ?_)
            refine ev_aload_n 4 dX11_takeUnits_101 (k := ?_)
            refine ev_getR (t := 38) (x := some (38, 0)) fl_X11_11 dX11_takeUnits_102 (hx := ry_11_2 _ _) (K := ?_)
            refine ev_iload_n 5 dX11_takeUnits_105 (k := ?_)
            obtain ⟨⟨hi0, hi1⟩, H9⟩ := g_e H8
            clear H8
            refine ev_aaload (k := 38) 1 (x := some (1, l1)) hi0 hi1 dX11_takeUnits_106 (hc := ac_38) (hlen := ln_38 _ _) (hx := rz_38 _ _ _) (K := ?_)
            refine ev_aload 0 dX11_takeUnits_107 (k := ?_)
            refine ev_lload_n 2 dX11_takeUnits_109 (k := ?_)
            obtain ⟨h5, hq, H10⟩ := bd_e H9
            clear H9
            refine ev_callV (mc := 0) (ms := 0) (st := []) (C11_takeIam hq) md_X11_takeIam im_X11_takeIam se_X11_takeIam ml_X11_340 dX11_takeUnits_110 _ (by decide) (K := ?_)
            refine ev_goto 129 dX11_takeUnits_113 (k := ?_)
            refine ev_lv [4, 5] [(0, .inr (.inr (some (11, 0)))), (1, .inl (l1))] (k := ?_)
            exact E11_takeUnits_129 k2 hk2 l1 h5 _ H10
        · replace H5 := if_ne hc H5
          refine ev_goto 129 dX11_takeUnits_75 (k := ?_)
          refine ev_lv [3, 4] [(0, .inr (.inr (some (11, 0)))), (1, .inl (l1))] (k := ?_)
          exact E11_takeUnits_129 k2 hk2 l1 q2.2 _ H5
      · replace H4 := if_pe hc H4
        refine ev_goto 129 dX11_takeUnits_57 (k := ?_)
        refine ev_lv [2, 3] [(0, .inr (.inr (some (11, 0)))), (1, .inl (l1))] (k := ?_)
        exact E11_takeUnits_129 k2 hk2 l1 q1.2 _ H4
theorem E11_takeUnits_2 (n : Nat) : ∀ (l1 : Int) (h : JM) (res : JM), F11_takeUnits_2 n l1 h = some res → Ev j_W1 6 0 0 T11_takeUnits 2 [(0, .inr (.inr (some (11, 0)))), (1, .inl (l1))] [] h none res := by
  induction n with
  | zero =>
    intro l1 h res H
    cases H
  | succ n ih =>
    intro l1 h res H
    exact E11_takeUnits_2b (F11_takeUnits_2 n) ih l1 h res H
set_option maxRecDepth 100000 in
set_option maxHeartbeats 4000000 in
theorem C11_takeUnits {h : JM} {res : JM} (H : F11_takeUnits h = some res) : Cn j_W1 6 0 0 yX11_takeUnits cX11_takeUnits 7 none [.inr (.inr (some (11, 0)))] h none res := by
  refine Cn.by (own := RX11) (b := false) [(0, .inr (.inr (some (11, 0))))] rfl (fun z => by cases z) (by decide +kernel) (K := ?_)
  unfold F11_takeUnits at H
  refine ev_iconst dX11_takeUnits_0 (k := ?_)
  refine ev_istore_n [(1, .inl (0)), (0, .inr (.inr (some (11, 0))))] dX11_takeUnits_1 (k := ?_)
  refine ev_lv [1, 0] [(0, .inr (.inr (some (11, 0)))), (1, .inl (0))] (k := ?_)
  exact E11_takeUnits_2 j_fu 0 h _ H
-- X11_tariff
abbrev T11_tariff : JT := (RX11, cX11_tariff, 6, some .int, false)
set_option maxRecDepth 100000 in
set_option maxHeartbeats 4000000 in
theorem E11_tariff_55 (h : JM) (res : (Int × JM)) (H : F11_tariff_55 h = some res) : Ev j_W1 2 0 0 T11_tariff 55 [] [] h (some (.inl res.1)) res.2 := by
  unfold F11_tariff_55 at H
  refine ev_bipush dX11_tariff_55 (k := ?_)
  cases H
  exact ev_ireturn dX11_tariff_57
set_option maxRecDepth 100000 in
set_option maxHeartbeats 4000000 in
theorem C11_tariff {l1 : Int} {l2 : Int} {l3 : Int} {l4 : Int} {l5 : Int} {h : JM} {res : (Int × JM)} (H : F11_tariff l1 l2 l3 l4 l5 h = some res) : Cn j_W1 2 0 0 yX11_tariff cX11_tariff 6 (some .int) [.inr (.inr (some (11, 0))), .inl (l1), .inl (l2), .inl (l3), .inl (l4), .inl (l5)] h (some (.inl res.1)) res.2 := by
  refine Cn.by (own := RX11) (b := false) [(0, .inr (.inr (some (11, 0)))), (1, .inl (l1)), (2, .inl (l2)), (3, .inl (l3)), (4, .inl (l4)), (5, .inl (l5))] rfl (fun z => by cases z) (by decide +kernel) (K := ?_)
  unfold F11_tariff at H
  refine ev_iload_n 1 dX11_tariff_0 (k := ?_)
  refine ev_iconst dX11_tariff_1 (k := ?_)
  refine ev_iconst dX11_tariff_2 (k := ?_)
  obtain ⟨q1, hq, H1⟩ := bd_e H
  clear H
  refine ev_callS (mc := 0) (ms := 0) (st := []) (C11_isWithin hq) md_X11_isWithin ss_X11_isWithin ml_X11_79 dX11_tariff_3 _ (by decide) (K := ?_)
  refine ev_ifeq 55 dX11_tariff_6 (kt := fun hc => ?_) (kf := fun hc => ?_)
  · replace H1 := if_pe hc H1
    refine ev_lv [] [] (k := ?_)
    exact E11_tariff_55 q1.2 _ H1
  · replace H1 := if_ne hc H1
    refine ev_iload_n 2 dX11_tariff_9 (k := ?_)
    refine ev_iconst dX11_tariff_10 (k := ?_)
    refine ev_sipush dX11_tariff_11 (k := ?_)
    obtain ⟨q2, hq, H2⟩ := bd_e H1
    clear H1
    refine ev_callS (mc := 0) (ms := 0) (st := []) (C11_isWithin hq) md_X11_isWithin ss_X11_isWithin ml_X11_79 dX11_tariff_14 _ (by decide) (K := ?_)
    refine ev_ifeq 55 dX11_tariff_17 (kt := fun hc => ?_) (kf := fun hc => ?_)
    · replace H2 := if_pe hc H2
      refine ev_lv [] [] (k := ?_)
      exact E11_tariff_55 q2.2 _ H2
    · replace H2 := if_ne hc H2
      refine ev_iload_n 3 dX11_tariff_20 (k := ?_)
      refine ev_iconst dX11_tariff_21 (k := ?_)
      refine ev_sipush dX11_tariff_22 (k := ?_)
      obtain ⟨q3, hq, H3⟩ := bd_e H2
      clear H2
      refine ev_callS (mc := 0) (ms := 0) (st := []) (C11_isWithin hq) md_X11_isWithin ss_X11_isWithin ml_X11_79 dX11_tariff_25 _ (by decide) (K := ?_)
      refine ev_ifeq 55 dX11_tariff_28 (kt := fun hc => ?_) (kf := fun hc => ?_)
      · replace H3 := if_pe hc H3
        refine ev_lv [] [] (k := ?_)
        exact E11_tariff_55 q3.2 _ H3
      · replace H3 := if_ne hc H3
        refine ev_iload 4 dX11_tariff_31 (k := ?_)
        refine ev_iconst dX11_tariff_33 (k := ?_)
        refine ev_sipush dX11_tariff_34 (k := ?_)
        obtain ⟨q4, hq, H4⟩ := bd_e H3
        clear H3
        refine ev_callS (mc := 0) (ms := 0) (st := []) (C11_isWithin hq) md_X11_isWithin ss_X11_isWithin ml_X11_79 dX11_tariff_37 _ (by decide) (K := ?_)
        refine ev_ifeq 55 dX11_tariff_40 (kt := fun hc => ?_) (kf := fun hc => ?_)
        · replace H4 := if_pe hc H4
          refine ev_lv [] [] (k := ?_)
          exact E11_tariff_55 q4.2 _ H4
        · replace H4 := if_ne hc H4
          refine ev_iload 5 dX11_tariff_43 (k := ?_)
          refine ev_iconst dX11_tariff_45 (k := ?_)
          refine ev_sipush dX11_tariff_46 (k := ?_)
          obtain ⟨q5, hq, H5⟩ := bd_e H4
          clear H4
          refine ev_callS (mc := 0) (ms := 0) (st := []) (C11_isWithin hq) md_X11_isWithin ss_X11_isWithin ml_X11_79 dX11_tariff_49 _ (by decide) (K := ?_)
          refine ev_ifne 58 dX11_tariff_52 (kt := fun hc => ?_) (kf := fun hc => ?_)
          · replace H5 := if_ne hc H5
            refine ev_aload_n 0 dX11_tariff_58 (k := ?_)
            refine ev_getR (t := 3) (x := some (3, 0)) fl_X11_30 dX11_tariff_59 (hx := ry_11_5 _ _) (K := ?_)
            refine ev_iload_n 1 dX11_tariff_62 (k := ?_)
            refine ev_iload_n 2 dX11_tariff_63 (k := ?_)
            refine ev_iload_n 3 dX11_tariff_64 (k := ?_)
            refine ev_iload 4 dX11_tariff_65 (k := ?_)
            refine ev_iload 5 dX11_tariff_67 (k := ?_)
            obtain ⟨h6, hq, H6⟩ := bd_e H5
            clear H5
            refine ev_callV (mc := 0) (ms := 0) (st := []) (C3_setTariff hq) md_X3_setTariff im_X3_setTariff se_X3_setTariff ml_X11_145 dX11_tariff_69 _ (by decide) (K := ?_)
            refine ev_iconst dX11_tariff_72 (k := ?_)
            cases H6
            exact ev_ireturn dX11_tariff_73
          · replace H5 := if_pe hc H5
            refine ev_lv [] [] (k := ?_)
            exact E11_tariff_55 q5.2 _ H5
-- X11_watchLines
abbrev T11_watchLines : JT := (RX11, cX11_watchLines, 5, none, false)
set_option maxRecDepth 100000 in
set_option maxHeartbeats 4000000 in
theorem E11_watchLines_75 (k2 : Int → JM → Option JM) (hk2 : ∀ (l1 : Int) (h : JM) (res : JM), k2 l1 h = some res → Ev j_W1 6 0 0 T11_watchLines 2 [(0, .inr (.inr (some (11, 0)))), (1, .inl (l1))] [] h none res) (l1 : Int) (h : JM) (res : JM) (H : F11_watchLines_75 k2 l1 h = some res) : Ev j_W1 6 0 0 T11_watchLines 75 [(0, .inr (.inr (some (11, 0)))), (1, .inl (l1))] [] h none res := by
  unfold F11_watchLines_75 at H
  refine ev_iinc 1 [(1, .inl (w32 (l1 + 1))), (0, .inr (.inr (some (11, 0))))] dX11_watchLines_75 (k := ?_)
  refine ev_goto 2 dX11_watchLines_78 (k := ?_)
  refine ev_lv [1, 0] [(0, .inr (.inr (some (11, 0)))), (1, .inl (w32 (l1 + 1)))] (k := ?_)
  exact hk2 (w32 (l1 + 1)) h _ H
set_option maxRecDepth 100000 in
set_option maxHeartbeats 4000000 in
theorem E11_watchLines_56 (k2 : Int → JM → Option JM) (hk2 : ∀ (l1 : Int) (h : JM) (res : JM), k2 l1 h = some res → Ev j_W1 6 0 0 T11_watchLines 2 [(0, .inr (.inr (some (11, 0)))), (1, .inl (l1))] [] h none res) (l1 : Int) (l2 : Option Int) (h : JM) (res : JM) (H : F11_watchLines_56 k2 l1 l2 h = some res) : Ev j_W1 6 0 0 T11_watchLines 56 [(0, .inr (.inr (some (11, 0)))), (1, .inl (l1)), (2, .inr (.inr (Option.map (Prod.mk 4) (l2))))] [] h none res := by
  unfold F11_watchLines_56 at H
  refine ev_aload_n 2 dX11_watchLines_56 (k := ?_)
  obtain ⟨a1, ea1, H1⟩ := bd_e H
  clear H
  rw [ea1]
  obtain ⟨q2, hq, H2⟩ := bd_e H1
  clear H1
  refine ev_callV (mc := 0) (ms := 0) (st := []) (C4_keyOfThisTick hq) md_X4_keyOfThisTick im_X4_keyOfThisTick se_X4_keyOfThisTick ml_X11_425 dX11_watchLines_57 _ (by decide) (K := ?_)
  refine ev_istore [(4, .inl (q2.1)), (0, .inr (.inr (some (11, 0)))), (1, .inl (l1)), (2, .inr (.inr (some (4, a1))))] dX11_watchLines_60 (k := ?_)
  refine ev_iload 0 dX11_watchLines_62 (k := ?_)
  refine ev_iconst dX11_watchLines_64 (k := ?_)
  refine ev_icmpeq 75 dX11_watchLines_65 (kt := fun hc => ?_) (kf := fun hc => ?_)
  · replace H2 := if_pe hc H2
    refine ev_lv [1, 2] [(0, .inr (.inr (some (11, 0)))), (1, .inl (l1))] (k := ?_)
    exact E11_watchLines_75 k2 hk2 l1 q2.2 _ H2
  · replace H2 := if_ne hc H2
    refine ev_aload_n 1 dX11_watchLines_68 (k := ?_)
    refine ev_aload_n 3 dX11_watchLines_69 (k := ?_)
    refine ev_iload 0 dX11_watchLines_70 (k := ?_)
    obtain ⟨h3, hq, H3⟩ := bd_e H2
    clear H2
    refine ev_callV (mc := 0) (ms := 0) (st := []) (C11_takeKey hq) md_X11_takeKey im_X11_takeKey se_X11_takeKey ml_X11_428 dX11_watchLines_72 _ (by decide) (K := ?_)
    refine ev_lv [1, 2] [(0, .inr (.inr (some (11, 0)))), (1, .inl (l1))] (k := ?_)
    exact E11_watchLines_75 k2 hk2 l1 h3 _ H3
set_option maxRecDepth 100000 in
set_option maxHeartbeats 4000000 in
theorem E11_watchLines_2b (k2 : Int → JM → Option JM) (hk2 : ∀ (l1 : Int) (h : JM) (res : JM), k2 l1 h = some res → Ev j_W1 6 0 0 T11_watchLines 2 [(0, .inr (.inr (some (11, 0)))), (1, .inl (l1))] [] h none res) (l1 : Int) (h : JM) (res : JM) (H : F11_watchLines_2b k2 l1 h = some res) : Ev j_W1 6 0 0 T11_watchLines 2 [(0, .inr (.inr (some (11, 0)))), (1, .inl (l1))] [] h none res := by
  unfold F11_watchLines_2b at H
  refine ev_iload_n 1 dX11_watchLines_2 (k := ?_)
  refine ev_bipush dX11_watchLines_3 (k := ?_)
  refine ev_icmpge 81 dX11_watchLines_5 (kt := fun hc => ?_) (kf := fun hc => ?_)
  · replace H := if_pe hc H
    cases H
    exact ev_return dX11_watchLines_81
  · replace H := if_ne hc H
    refine ev_aload_n 0 dX11_watchLines_8 (k := ?_)
    refine ev_getR (t := 39) (x := some (39, 0)) fl_X11_17 dX11_watchLines_9 (hx := ry_11_3 _ _) (K := ?_)
    refine ev_iload_n 1 dX11_watchLines_12 (k := ?_)
    obtain ⟨⟨hi0, hi1⟩, H1⟩ := g_e H
    clear H
    refine ev_aaload (k := 39) 4 (x := some (4, l1)) hi0 hi1 dX11_watchLines_13 (hc := ac_39) (hlen := ln_39 _ _) (hx := rz_39 _ _ _) (K := ?_)
    refine ev_astore_n [(2, .inr (.inr (some (4, l1)))), (0, .inr (.inr (some (11, 0)))), (1, .inl (l1))] dX11_watchLines_14 (k := ?_)
    refine ev_aload_n 0 dX11_watchLines_15 (k := ?_)
    obtain ⟨q4, hq, H2⟩ := bd_e H1
    clear H1
    refine ev_callV (mc := 0) (ms := 0) (st := []) (C4_lookAtLoop hq) md_X4_lookAtLoop im_X4_lookAtLoop se_X4_lookAtLoop ml_X11_412 dX11_watchLines_16 _ (by decide) (K := ?_)
    refine ev_istore_n [(3, .inl (q4.1)), (2, .inr (.inr (some (4, l1)))), (0, .inr (.inr (some (11, 0)))), (1, .inl (l1))] dX11_watchLines_19 (k := ?_)
    refine ev_iload_n 0 dX11_watchLines_20 (k := ?_)
    refine ev_iconst dX11_watchLines_21 (k := ?_)
    refine ev_icmpne 33 dX11_watchLines_22 (kt := fun hc => ?_) (kf := fun hc => ?_)
    · replace H2 := if_ne hc H2
      refine ev_iload_n 0 dX11_watchLines_33 (k := ?_)
      refine ev_iconst dX11_watchLines_34 (k := ?_)
      refine ev_icmpne 46 dX11_watchLines_35 (kt := fun hc => ?_) (kf := fun hc => ?_)
      · replace H2 := if_ne hc H2
        refine ev_iload_n 0 dX11_watchLines_46 (k := ?_)
        refine ev_iconst dX11_watchLines_47 (k := ?_)
        refine ev_icmpne 56 dX11_watchLines_48 (kt := fun hc => ?_) (kf := fun hc => ?_)
        · replace H2 := if_ne hc H2
          refine ev_lv [2, 3, 1] [(0, .inr (.inr (some (11, 0)))), (1, .inl (l1)), (2, .inr (.inr (some (4, l1))))] (k := ?_)
          exact E11_watchLines_56 k2 hk2 l1 (some l1) q4.2 _ H2
        · replace H2 := if_pe hc H2
          refine ev_aload_n 2 dX11_watchLines_51 (k := ?_)
          refine ev_aload_n 1 dX11_watchLines_52 (k := ?_)
          obtain ⟨h5, hq, H3⟩ := bd_e H2
          clear H2
          refine ev_callV (mc := 0) (ms := 0) (st := []) (C11_flash hq) md_X11_flash im_X11_flash se_X11_flash ml_X11_422 dX11_watchLines_53 _ (by decide) (K := ?_)
          refine ev_lv [2, 3, 1] [(0, .inr (.inr (some (11, 0)))), (1, .inl (l1)), (2, .inr (.inr (some (4, l1))))] (k := ?_)
          exact E11_watchLines_56 k2 hk2 l1 (some l1) h5 _ H3
      · replace H2 := if_pe hc H2
        refine ev_aload_n 2 dX11_watchLines_38 (k := ?_)
        refine ev_aload_n 1 dX11_watchLines_39 (k := ?_)
        obtain ⟨h6, hq, H3⟩ := bd_e H2
        clear H2
        refine ev_callV (mc := 0) (ms := 0) (st := []) (C11_hang hq) md_X11_hang im_X11_hang se_X11_hang ml_X11_419 dX11_watchLines_40 _ (by decide) (K := ?_)
        refine ev_goto 75 dX11_watchLines_43 (k := ?_)
        refine ev_lv [2, 3] [(0, .inr (.inr (some (11, 0)))), (1, .inl (l1))] (k := ?_)
        exact E11_watchLines_75 k2 hk2 l1 h6 _ H3
    · replace H2 := if_pe hc H2
      refine ev_aload_n 2 dX11_watchLines_25 (k := ?_)
      refine ev_aload_n 1 dX11_watchLines_26 (k := ?_)
      obtain ⟨h7, hq, H3⟩ := bd_e H2
      clear H2
      refine ev_callV (mc := 0) (ms := 0) (st := []) (C11_lift hq) md_X11_lift im_X11_lift se_X11_lift ml_X11_415 dX11_watchLines_27 _ (by decide) (K := ?_)
      refine ev_goto 75 dX11_watchLines_30 (k := ?_)
      refine ev_lv [2, 3] [(0, .inr (.inr (some (11, 0)))), (1, .inl (l1))] (k := ?_)
      exact E11_watchLines_75 k2 hk2 l1 h7 _ H3
theorem E11_watchLines_2 (n : Nat) : ∀ (l1 : Int) (h : JM) (res : JM), F11_watchLines_2 n l1 h = some res → Ev j_W1 6 0 0 T11_watchLines 2 [(0, .inr (.inr (some (11, 0)))), (1, .inl (l1))] [] h none res := by
  induction n with
  | zero =>
    intro l1 h res H
    cases H
  | succ n ih =>
    intro l1 h res H
    exact E11_watchLines_2b (F11_watchLines_2 n) ih l1 h res H
set_option maxRecDepth 100000 in
set_option maxHeartbeats 4000000 in
theorem C11_watchLines {h : JM} {res : JM} (H : F11_watchLines h = some res) : Cn j_W1 6 0 0 yX11_watchLines cX11_watchLines 5 none [.inr (.inr (some (11, 0)))] h none res := by
  refine Cn.by (own := RX11) (b := false) [(0, .inr (.inr (some (11, 0))))] rfl (fun z => by cases z) (by decide +kernel) (K := ?_)
  unfold F11_watchLines at H
  refine ev_iconst dX11_watchLines_0 (k := ?_)
  refine ev_istore_n [(1, .inl (0)), (0, .inr (.inr (some (11, 0))))] dX11_watchLines_1 (k := ?_)
  refine ev_lv [1, 0] [(0, .inr (.inr (some (11, 0)))), (1, .inl (0))] (k := ?_)
  exact E11_watchLines_2 j_fu 0 h _ H
-- X11_tick
abbrev T11_tick : JT := (RX11, cX11_tick, 3, some .int, false)
set_option maxRecDepth 100000 in
set_option maxHeartbeats 4000000 in
theorem E11_tick_30b (k30 : Int → Int → JM → Option (Int × JM)) (hk30 : ∀ (l1 : Int) (l2 : Int) (h : JM) (res : (Int × JM)), k30 l1 l2 h = some res → Ev j_W1 7 0 0 T11_tick 30 [(0, .inr (.inr (some (11, 0)))), (1, .inl (l1)), (2, .inl (l2))] [] h (some (.inl res.1)) res.2) (l1 : Int) (l2 : Int) (h : JM) (res : (Int × JM)) (H : F11_tick_30b k30 l1 l2 h = some res) : Ev j_W1 7 0 0 T11_tick 30 [(0, .inr (.inr (some (11, 0)))), (1, .inl (l1)), (2, .inl (l2))] [] h (some (.inl res.1)) res.2 := by
  unfold F11_tick_30b at H
  refine ev_iload_n 2 dX11_tick_30 (k := ?_)
  refine ev_iload_n 1 dX11_tick_31 (k := ?_)
  refine ev_icmpge 79 dX11_tick_32 (kt := fun hc => ?_) (kf := fun hc => ?_)
  · replace H := if_pe hc H
    refine ev_aload_n 0 dX11_tick_79 (k := ?_)
    refine ev_getI (x := h.1 11 0 10) fl_X11_177 dX11_tick_80 (K := ?_)
    cases H
    exact ev_ireturn dX11_tick_83
  · replace H := if_ne hc H
    refine ev_aload_n 0 dX11_tick_35 (k := ?_)
    obtain ⟨h1, hq, H1⟩ := bd_e H
    clear H
    refine ev_callV (mc := 0) (ms := 0) (st := []) (C11_takeUnits hq) md_X11_takeUnits im_X11_takeUnits se_X11_takeUnits ml_X11_181 dX11_tick_36 _ (by decide) (K := ?_)
    refine ev_aload_n 0 dX11_tick_39 (k := ?_)
    obtain ⟨h2, hq, H2⟩ := bd_e H1
    clear H1
    refine ev_callV (mc := 0) (ms := 0) (st := []) (C11_watchLines hq) md_X11_watchLines im_X11_watchLines se_X11_watchLines ml_X11_184 dX11_tick_40 _ (by decide) (K := ?_)
    refine ev_aload_n 0 dX11_tick_43 (k := ?_)
    obtain ⟨h3, hq, H3⟩ := bd_e H2
    clear H2
    refine ev_callV (mc := 0) (ms := 0) (st := []) (C11_checkTimes hq) md_X11_checkTimes im_X11_checkTimes se_X11_checkTimes ml_X11_187 dX11_tick_44 _ (by decide) (K := ?_)
    refine ev_aload_n 0 dX11_tick_47 (k := ?_)
    obtain ⟨h4, hq, H4⟩ := bd_e H3
    clear H3
    refine ev_callV (mc := 0) (ms := 0) (st := []) (C11_serveGroups hq) md_X11_serveGroups im_X11_serveGroups se_X11_serveGroups ml_X11_190 dX11_tick_48 _ (by decide) (K := ?_)
    refine ev_aload_n 0 dX11_tick_51 (k := ?_)
    obtain ⟨h5, hq, H5⟩ := bd_e H4
    clear H4
    refine ev_callV (mc := 0) (ms := 0) (st := []) (C11_carrySpeech hq) md_X11_carrySpeech im_X11_carrySpeech se_X11_carrySpeech ml_X11_193 dX11_tick_52 _ (by decide) (K := ?_)
    refine ev_aload_n 0 dX11_tick_55 (k := ?_)
    obtain ⟨h6, hq, H6⟩ := bd_e H5
    clear H5
    refine ev_callV (mc := 0) (ms := 0) (st := []) (C11_sendUnits hq) md_X11_sendUnits im_X11_sendUnits se_X11_sendUnits ml_X11_196 dX11_tick_56 _ (by decide) (K := ?_)
    refine ev_aload_n 0 dX11_tick_59 (k := ?_)
    obtain ⟨h7, hq, H7⟩ := bd_e H6
    clear H6
    refine ev_callV (mc := 0) (ms := 0) (st := []) (C11_sweepCalls hq) md_X11_sweepCalls im_X11_sweepCalls se_X11_sweepCalls ml_X11_199 dX11_tick_60 _ (by decide) (K := ?_)
    refine ev_aload_n 0 dX11_tick_63 (k := ?_)
    refine ev_dup dX11_tick_64 (k := ?_)
    refine ev_getI (x := h7.1 11 0 10) fl_X11_177 dX11_tick_65 (K := ?_)
    refine ev_iconst dX11_tick_68 (k := ?_)
    refine ev_iadd dX11_tick_69 (k := ?_)
    obtain ⟨h8, eh8, H8⟩ := lt_e H7
    clear H7
    refine ev_putI j_ok1 fl_X11_177 eh8 dX11_tick_70 (K := ?_)
    refine ev_iinc 2 [(2, .inl (w32 (l2 + 1))), (0, .inr (.inr (some (11, 0)))), (1, .inl (l1))] dX11_tick_73 (k := ?_)
    refine ev_goto 30 dX11_tick_76 (k := ?_)
    refine ev_lv [1, 2, 0] [(0, .inr (.inr (some (11, 0)))), (1, .inl (l1)), (2, .inl (w32 (l2 + 1)))] (k := ?_)
    exact hk30 l1 (w32 (l2 + 1)) h8 _ H8
theorem E11_tick_30 (n : Nat) : ∀ (l1 : Int) (l2 : Int) (h : JM) (res : (Int × JM)), F11_tick_30 n l1 l2 h = some res → Ev j_W1 7 0 0 T11_tick 30 [(0, .inr (.inr (some (11, 0)))), (1, .inl (l1)), (2, .inl (l2))] [] h (some (.inl res.1)) res.2 := by
  induction n with
  | zero =>
    intro l1 l2 h res H
    cases H
  | succ n ih =>
    intro l1 l2 h res H
    exact E11_tick_30b (F11_tick_30 n) ih l1 l2 h res H
set_option maxRecDepth 100000 in
set_option maxHeartbeats 4000000 in
theorem C11_tick {l1 : Int} {h : JM} {res : (Int × JM)} (H : F11_tick l1 h = some res) : Cn j_W1 7 0 0 yX11_tick cX11_tick 3 (some .int) [.inr (.inr (some (11, 0))), .inl (l1)] h (some (.inl res.1)) res.2 := by
  refine Cn.by (own := RX11) (b := false) [(0, .inr (.inr (some (11, 0)))), (1, .inl (l1))] rfl (fun z => by cases z) (by decide +kernel) (K := ?_)
  unfold F11_tick at H
  refine ev_iload_n 1 dX11_tick_0 (k := ?_)
  refine ev_iconst dX11_tick_1 (k := ?_)
  refine ev_sipush dX11_tick_2 (k := ?_)
  obtain ⟨q9, hq, H1⟩ := bd_e H
  clear H
  refine ev_callS (mc := 0) (ms := 0) (st := []) (C11_isWithin hq) md_X11_isWithin ss_X11_isWithin ml_X11_79 dX11_tick_5 _ (by decide) (K := ?_)
  refine ev_ifne 14 dX11_tick_8 (kt := fun hc => ?_) (kf := fun hc => ?_)
  · replace H1 := if_ne hc H1
    refine ev_aload_n 0 dX11_tick_14 (k := ?_)
    refine ev_getI (x := q9.2.1 11 0 10) fl_X11_177 dX11_tick_15 (K := ?_)
    refine ev_ldc (n := 10000000) ct_X11_180 dX11_tick_18 (k := ?_)
    refine ev_iload_n 1 dX11_tick_20 (k := ?_)
    refine ev_isub dX11_tick_21 (k := ?_)
    refine ev_icmple 28 dX11_tick_22 (kt := fun hc => ?_) (kf := fun hc => ?_)
    · replace H1 := if_pe hc H1
      refine ev_iconst dX11_tick_28 (k := ?_)
      refine ev_istore_n [(2, .inl (0)), (0, .inr (.inr (some (11, 0)))), (1, .inl (l1))] dX11_tick_29 (k := ?_)
      refine ev_lv [1, 2, 0] [(0, .inr (.inr (some (11, 0)))), (1, .inl (l1)), (2, .inl (0))] (k := ?_)
      exact E11_tick_30 j_fu l1 0 q9.2 _ H1
    · replace H1 := if_ne hc H1
      refine ev_bipush dX11_tick_25 (k := ?_)
      cases H1
      exact ev_ireturn dX11_tick_27
  · replace H1 := if_pe hc H1
    refine ev_bipush dX11_tick_11 (k := ?_)
    cases H1
    exact ev_ireturn dX11_tick_13
-- X11_told
abbrev T11_told : JT := (RX11, cX11_told, 2, some .int, false)
set_option maxRecDepth 100000 in
set_option maxHeartbeats 4000000 in
theorem C11_told {l1 : Int} {h : JM} {res : (Int × JM)} (H : F11_told l1 h = some res) : Cn j_W1 2 0 0 yX11_told cX11_told 2 (some .int) [.inr (.inr (some (11, 0))), .inl (l1)] h (some (.inl res.1)) res.2 := by
  refine Cn.by (own := RX11) (b := false) [(0, .inr (.inr (some (11, 0)))), (1, .inl (l1))] rfl (fun z => by cases z) (by decide +kernel) (K := ?_)
  unfold F11_told at H
  refine ev_iload_n 1 dX11_told_0 (k := ?_)
  by_cases hs0 : l1 = 0
  · replace H := if_pe hs0 H
    refine ev_tableIn (off := 35) 36 dX11_told_1 (by omega) (by omega) (by rw [hs0]; rfl) (k := ?_)
    refine ev_aload_n 0 dX11_told_36 (k := ?_)
    refine ev_getI (x := h.1 11 0 10) fl_X11_177 dX11_told_37 (K := ?_)
    cases H
    exact ev_ireturn dX11_told_40
  · replace H := if_ne hs0 H
    by_cases hs1 : l1 = 1
    · replace H := if_pe hs1 H
      refine ev_tableIn (off := 40) 41 dX11_told_1 (by omega) (by omega) (by rw [hs1]; rfl) (k := ?_)
      refine ev_aload_n 0 dX11_told_41 (k := ?_)
      refine ev_getI (x := h.1 11 0 12) fl_X11_306 dX11_told_42 (K := ?_)
      cases H
      exact ev_ireturn dX11_told_45
    · replace H := if_ne hs1 H
      by_cases hs2 : l1 = 2
      · replace H := if_pe hs2 H
        refine ev_tableIn (off := 45) 46 dX11_told_1 (by omega) (by omega) (by rw [hs2]; rfl) (k := ?_)
        refine ev_aload_n 0 dX11_told_46 (k := ?_)
        refine ev_getI (x := h.1 11 0 13) fl_X11_309 dX11_told_47 (K := ?_)
        cases H
        exact ev_ireturn dX11_told_50
      · replace H := if_ne hs2 H
        by_cases hs3 : l1 = 3
        · replace H := if_pe hs3 H
          refine ev_tableIn (off := 50) 51 dX11_told_1 (by omega) (by omega) (by rw [hs3]; rfl) (k := ?_)
          refine ev_aload_n 0 dX11_told_51 (k := ?_)
          refine ev_getR (t := 3) (x := some (3, 0)) fl_X11_30 dX11_told_52 (hx := ry_11_5 _ _) (K := ?_)
          refine ev_getI (x := h.1 3 0 2) fl_X11_312 dX11_told_55 (K := ?_)
          cases H
          exact ev_ireturn dX11_told_58
        · replace H := if_ne hs3 H
          by_cases hs4 : l1 = 4
          · replace H := if_pe hs4 H
            refine ev_tableIn (off := 58) 59 dX11_told_1 (by omega) (by omega) (by rw [hs4]; rfl) (k := ?_)
            refine ev_aload_n 0 dX11_told_59 (k := ?_)
            obtain ⟨q1, hq, H1⟩ := bd_e H
            clear H
            refine ev_callV (mc := 0) (ms := 0) (st := []) (C11_idleAtBothEnds hq) md_X11_idleAtBothEnds im_X11_idleAtBothEnds se_X11_idleAtBothEnds ml_X11_313 dX11_told_60 _ (by decide) (K := ?_)
            cases H1
            exact ev_ireturn dX11_told_63
          · replace H := if_ne hs4 H
            refine ev_tableOut 64 dX11_told_1 (by omega) (k := ?_)
            refine ev_bipush dX11_told_64 (k := ?_)
            cases H
            exact ev_ireturn dX11_told_66
-- X11_waiting
abbrev T11_waiting : JT := (RX11, cX11_waiting, 6, some .int, false)
set_option maxRecDepth 100000 in
set_option maxHeartbeats 4000000 in
theorem E11_waiting_26 (h : JM) (res : (Int × JM)) (H : F11_waiting_26 h = some res) : Ev j_W1 2 0 0 T11_waiting 26 [] [] h (some (.inl res.1)) res.2 := by
  unfold F11_waiting_26 at H
  refine ev_bipush dX11_waiting_26 (k := ?_)
  cases H
  exact ev_ireturn dX11_waiting_28
set_option maxRecDepth 100000 in
set_option maxHeartbeats 4000000 in
theorem C11_waiting {l1 : Int} {l2 : Int} {l3 : Int} {h : JM} {res : (Int × JM)} (H : F11_waiting l1 l2 l3 h = some res) : Cn j_W1 2 0 0 yX11_waiting cX11_waiting 6 (some .int) [.inr (.inr (some (11, 0))), .inl (l1), .inl (l2), .inl (l3)] h (some (.inl res.1)) res.2 := by
  refine Cn.by (own := RX11) (b := false) [(0, .inr (.inr (some (11, 0)))), (1, .inl (l1)), (2, .inl (l2)), (3, .inl (l3))] rfl (fun z => by cases z) (by decide +kernel) (K := ?_)
  unfold F11_waiting at H
  refine ev_iload_n 1 dX11_waiting_0 (k := ?_)
  obtain ⟨q1, hq, H1⟩ := bd_e H
  clear H
  refine ev_callS (mc := 0) (ms := 0) (st := []) (C11_isExchange hq) md_X11_isExchange ss_X11_isExchange ml_X11_91 dX11_waiting_1 _ (by decide) (K := ?_)
  refine ev_ifeq 26 dX11_waiting_4 (kt := fun hc => ?_) (kf := fun hc => ?_)
  · replace H1 := if_pe hc H1
    refine ev_lv [] [] (k := ?_)
    exact E11_waiting_26 q1.2 _ H1
  · replace H1 := if_ne hc H1
    refine ev_iload_n 2 dX11_waiting_7 (k := ?_)
    refine ev_iconst dX11_waiting_8 (k := ?_)
    refine ev_iconst dX11_waiting_9 (k := ?_)
    obtain ⟨q2, hq, H2⟩ := bd_e H1
    clear H1
    refine ev_callS (mc := 0) (ms := 0) (st := []) (C11_isWithin hq) md_X11_isWithin ss_X11_isWithin ml_X11_79 dX11_waiting_10 _ (by decide) (K := ?_)
    refine ev_ifeq 26 dX11_waiting_13 (kt := fun hc => ?_) (kf := fun hc => ?_)
    · replace H2 := if_pe hc H2
      refine ev_lv [] [] (k := ?_)
      exact E11_waiting_26 q2.2 _ H2
    · replace H2 := if_ne hc H2
      refine ev_iload_n 3 dX11_waiting_16 (k := ?_)
      refine ev_iconst dX11_waiting_17 (k := ?_)
      refine ev_bipush dX11_waiting_18 (k := ?_)
      obtain ⟨q3, hq, H3⟩ := bd_e H2
      clear H2
      refine ev_callS (mc := 0) (ms := 0) (st := []) (C11_isWithin hq) md_X11_isWithin ss_X11_isWithin ml_X11_79 dX11_waiting_20 _ (by decide) (K := ?_)
      refine ev_ifne 29 dX11_waiting_23 (kt := fun hc => ?_) (kf := fun hc => ?_)
      · replace H3 := if_ne hc H3
        refine ev_aload_n 0 dX11_waiting_29 (k := ?_)
        refine ev_getR (t := 38) (x := some (38, 0)) fl_X11_11 dX11_waiting_30 (hx := ry_11_2 _ _) (K := ?_)
        refine ev_iload_n 1 dX11_waiting_33 (k := ?_)
        obtain ⟨⟨hi0, hi1⟩, H4⟩ := g_e H3
        clear H3
        refine ev_aaload (k := 38) 1 (x := some (1, l1)) hi0 hi1 dX11_waiting_34 (hc := ac_38) (hlen := ln_38 _ _) (hx := rz_38 _ _ _) (K := ?_)
        refine ev_getR (t := 21) (x := some (21, l1)) fl_X11_118 dX11_waiting_35 (hx := ry_1_2 _ _) (K := ?_)
        refine ev_iload_n 2 dX11_waiting_38 (k := ?_)
        obtain ⟨⟨hi0, hi1⟩, H5⟩ := g_e H4
        clear H4
        refine ev_aaload (k := 21) 2 (x := some (2, (3 * l1 + l2))) hi0 hi1 dX11_waiting_39 (hc := ac_21) (hlen := ln_21 _ _) (hx := rz_21 _ _ _) (K := ?_)
        refine ev_astore [(4, .inr (.inr (some (2, (3 * l1 + l2))))), (0, .inr (.inr (some (11, 0)))), (1, .inl (l1)), (2, .inl (l2)), (3, .inl (l3))] dX11_waiting_40 (k := ?_)
        refine ev_aload 0 dX11_waiting_42 (k := ?_)
        refine ev_getI (x := q3.2.1 2 (3 * l1 + l2) 2) fl_X11_134 dX11_waiting_44 (K := ?_)
        obtain ⟨x4, ex4, H6⟩ := lt_e H5
        clear H5
        refine ev_topI ex4 ?_
        refine ev_istore [(5, .inl (x4)), (4, .inr (.inr (some (2, (3 * l1 + l2))))), (0, .inr (.inr (some (11, 0)))), (1, .inl (l1)), (2, .inl (l2)), (3, .inl (l3))] dX11_waiting_47 (k := ?_)
        refine ev_aload 1 dX11_waiting_49 (k := ?_)
        refine ev_iload_n 5 dX11_waiting_51 (k := ?_)
        obtain ⟨h5, eh5, H7⟩ := lt_e H6
        clear H6
        refine ev_putI j_ok1 fl_X11_134 eh5 dX11_waiting_52 (K := ?_)
        refine ev_iload 0 dX11_waiting_55 (k := ?_)
        cases H7
        exact ev_ireturn dX11_waiting_57
      · replace H3 := if_pe hc H3
        refine ev_lv [] [] (k := ?_)
        exact E11_waiting_26 q3.2 _ H3
-- X12_begins
abbrev T12_begins : JT := (RX12, cX12_begins, 3, none, false)
set_option maxRecDepth 100000 in
set_option maxHeartbeats 4000000 in
theorem C12_begins {l1 : Int} {l2 : Int} {h : JM} {res : JM} (H : F12_begins l1 l2 h = some res) : Cn j_W1 1 0 0 yX12_begins cX12_begins 3 none [.inr (.inr (some (12, 0))), .inl (l1), .inl (l2)] h none res := by
  refine Cn.by (own := RX12) (b := false) [(0, .inr (.inr (some (12, 0)))), (1, .inl (l1)), (2, .inl (l2))] rfl (fun z => by cases z) (by decide +kernel) (K := ?_)
  unfold F12_begins at H
  refine ev_aload_n 0 dX12_begins_0 (k := ?_)
  refine ev_getR (t := 156) (x := some (156, 0)) fl_X12_164 dX12_begins_1 (hx := ry_12_56 _ _) (K := ?_)
  refine ev_iconst dX12_begins_4 (k := ?_)
  refine ev_iload_n 1 dX12_begins_5 (k := ?_)
  obtain ⟨⟨hi0, hi1⟩, H1⟩ := g_e H
  clear H
  obtain ⟨h1, eh1, H2⟩ := lt_e H1
  clear H1
  refine ev_iastore (k := 156) j_ok1 hi0 hi1 eh1 dX12_begins_6 (hc := ac_156) (hlen := ln_156 _ _) (K := ?_)
  refine ev_aload_n 0 dX12_begins_7 (k := ?_)
  refine ev_getR (t := 156) (x := some (156, 0)) fl_X12_164 dX12_begins_8 (hx := ry_12_56 _ _) (K := ?_)
  refine ev_iconst dX12_begins_11 (k := ?_)
  refine ev_iload_n 2 dX12_begins_12 (k := ?_)
  obtain ⟨⟨hi0, hi1⟩, H3⟩ := g_e H2
  clear H2
  obtain ⟨h2, eh2, H4⟩ := lt_e H3
  clear H3
  refine ev_iastore (k := 156) j_ok1 hi0 hi1 eh2 dX12_begins_13 (hc := ac_156) (hlen := ln_156 _ _) (K := ?_)
  refine ev_aload_n 0 dX12_begins_14 (k := ?_)
  refine ev_iconst dX12_begins_15 (k := ?_)
  obtain ⟨h3, eh3, H5⟩ := lt_e H4
  clear H4
  refine ev_putI j_ok1 fl_X12_355 eh3 dX12_begins_16 (K := ?_)
  cases H5
  exact ev_return dX12_begins_19
-- X12_goes
abbrev T12_goes : JT := (RX12, cX12_goes, 4, none, false)
set_option maxRecDepth 100000 in
set_option maxHeartbeats 4000000 in
theorem E12_goes_39b (k39 : Int → Int → Int → JM → Option JM) (hk39 : ∀ (l1 : Int) (l2 : Int) (l3 : Int) (h : JM) (res : JM), k39 l1 l2 l3 h = some res → Ev j_W1 1 0 0 T12_goes 39 [(0, .inr (.inr (some (12, 0)))), (1, .inl (l1)), (2, .inl (l2)), (3, .inl (l3))] [] h none res) (l1 : Int) (l2 : Int) (l3 : Int) (h : JM) (res : JM) (H : F12_goes_39b k39 l1 l2 l3 h = some res) : Ev j_W1 1 0 0 T12_goes 39 [(0, .inr (.inr (some (12, 0)))), (1, .inl (l1)), (2, .inl (l2)), (3, .inl (l3))] [] h none res := by
  unfold F12_goes_39b at H
  refine ev_iload_n 3 dX12_goes_39 (k := ?_)
  refine ev_aload_n 0 dX12_goes_40 (k := ?_)
  refine ev_getI (x := h.1 12 0 57) fl_X12_355 dX12_goes_41 (K := ?_)
  refine ev_icmpge 70 dX12_goes_44 (kt := fun hc => ?_) (kf := fun hc => ?_)
  · replace H := if_pe hc H
    refine ev_aload_n 0 dX12_goes_70 (k := ?_)
    refine ev_getR (t := 159) (x := some (159, 0)) fl_X12_170 dX12_goes_71 (hx := ry_12_59 _ _) (K := ?_)
    refine ev_iload_n 2 dX12_goes_74 (k := ?_)
    refine ev_aload_n 0 dX12_goes_75 (k := ?_)
    refine ev_getI (x := h.1 12 0 57) fl_X12_355 dX12_goes_76 (K := ?_)
    obtain ⟨⟨hi0, hi1⟩, H1⟩ := g_e H
    clear H
    obtain ⟨h1, eh1, H2⟩ := lt_e H1
    clear H1
    refine ev_iastore (k := 159) j_ok1 hi0 hi1 eh1 dX12_goes_79 (hc := ac_159) (hlen := ln_159 _ _) (K := ?_)
    refine ev_aload_n 0 dX12_goes_80 (k := ?_)
    refine ev_getR (t := 160) (x := some (160, 0)) fl_X12_173 dX12_goes_81 (hx := ry_12_60 _ _) (K := ?_)
    refine ev_iload_n 1 dX12_goes_84 (k := ?_)
    refine ev_dup2 dX12_goes_85 (k := ?_)
    obtain ⟨⟨hi0, hi1⟩, H3⟩ := g_e H2
    clear H2
    refine ev_iaload (k := 160) hi0 hi1 dX12_goes_86 (hc := ac_160) (hlen := ln_160 _ _) (K := ?_)
    refine ev_iconst dX12_goes_87 (k := ?_)
    refine ev_iadd dX12_goes_88 (k := ?_)
    obtain ⟨⟨hi0, hi1⟩, H4⟩ := g_e H3
    clear H3
    obtain ⟨h2, eh2, H5⟩ := lt_e H4
    clear H4
    refine ev_iastore (k := 160) j_ok1 hi0 hi1 eh2 dX12_goes_89 (hc := ac_160) (hlen := ln_160 _ _) (K := ?_)
    cases H5
    exact ev_return dX12_goes_90
  · replace H := if_ne hc H
    refine ev_aload_n 0 dX12_goes_47 (k := ?_)
    refine ev_getR (t := 158) (x := some (158, 0)) fl_X12_167 dX12_goes_48 (hx := ry_12_58 _ _) (K := ?_)
    refine ev_bipush dX12_goes_51 (k := ?_)
    refine ev_iload_n 2 dX12_goes_53 (k := ?_)
    refine ev_imul dX12_goes_54 (k := ?_)
    refine ev_iload_n 3 dX12_goes_55 (k := ?_)
    refine ev_iadd dX12_goes_56 (k := ?_)
    refine ev_aload_n 0 dX12_goes_57 (k := ?_)
    refine ev_getR (t := 156) (x := some (156, 0)) fl_X12_164 dX12_goes_58 (hx := ry_12_56 _ _) (K := ?_)
    refine ev_iload_n 3 dX12_goes_61 (k := ?_)
    obtain ⟨⟨hi0, hi1⟩, H1⟩ := g_e H
    clear H
    refine ev_iaload (k := 156) hi0 hi1 dX12_goes_62 (hc := ac_156) (hlen := ln_156 _ _) (K := ?_)
    obtain ⟨⟨hi0, hi1⟩, H2⟩ := g_e H1
    clear H1
    obtain ⟨h3, eh3, H3⟩ := lt_e H2
    clear H2
    refine ev_iastore (k := 158) j_ok1 hi0 hi1 eh3 dX12_goes_63 (hc := ac_158) (hlen := ln_158 _ _) (K := ?_)
    refine ev_iinc 3 [(3, .inl (w32 (l3 + 1))), (0, .inr (.inr (some (12, 0)))), (1, .inl (l1)), (2, .inl (l2))] dX12_goes_64 (k := ?_)
    refine ev_goto 39 dX12_goes_67 (k := ?_)
    refine ev_lv [1, 2, 3, 0] [(0, .inr (.inr (some (12, 0)))), (1, .inl (l1)), (2, .inl (l2)), (3, .inl (w32 (l3 + 1)))] (k := ?_)
    exact hk39 l1 l2 (w32 (l3 + 1)) h3 _ H3
theorem E12_goes_39 (n : Nat) : ∀ (l1 : Int) (l2 : Int) (l3 : Int) (h : JM) (res : JM), F12_goes_39 n l1 l2 l3 h = some res → Ev j_W1 1 0 0 T12_goes 39 [(0, .inr (.inr (some (12, 0)))), (1, .inl (l1)), (2, .inl (l2)), (3, .inl (l3))] [] h none res := by
  induction n with
  | zero =>
    intro l1 l2 l3 h res H
    cases H
  | succ n ih =>
    intro l1 l2 l3 h res H
    exact E12_goes_39b (F12_goes_39 n) ih l1 l2 l3 h res H
set_option maxRecDepth 100000 in
set_option maxHeartbeats 4000000 in
theorem C12_goes {l1 : Int} {h : JM} {res : JM} (H : F12_goes l1 h = some res) : Cn j_W1 1 0 0 yX12_goes cX12_goes 4 none [.inr (.inr (some (12, 0))), .inl (l1)] h none res := by
  refine Cn.by (own := RX12) (b := false) [(0, .inr (.inr (some (12, 0)))), (1, .inl (l1))] rfl (fun z => by cases z) (by decide +kernel) (K := ?_)
  unfold F12_goes at H
  refine ev_aload_n 0 dX12_goes_0 (k := ?_)
  refine ev_getR (t := 160) (x := some (160, 0)) fl_X12_173 dX12_goes_1 (hx := ry_12_60 _ _) (K := ?_)
  refine ev_iload_n 1 dX12_goes_4 (k := ?_)
  obtain ⟨⟨hi0, hi1⟩, H1⟩ := g_e H
  clear H
  refine ev_iaload (k := 160) hi0 hi1 dX12_goes_5 (hc := ac_160) (hlen := ln_160 _ _) (K := ?_)
  refine ev_aload_n 0 dX12_goes_6 (k := ?_)
  refine ev_getR (t := 161) (x := some (161, 0)) fl_X12_176 dX12_goes_7 (hx := ry_12_61 _ _) (K := ?_)
  refine ev_iload_n 1 dX12_goes_10 (k := ?_)
  obtain ⟨⟨hi0, hi1⟩, H2⟩ := g_e H1
  clear H1
  refine ev_iaload (k := 161) hi0 hi1 dX12_goes_11 (hc := ac_161) (hlen := ln_161 _ _) (K := ?_)
  refine ev_isub dX12_goes_12 (k := ?_)
  refine ev_sipush dX12_goes_13 (k := ?_)
  refine ev_icmplt 20 dX12_goes_16 (kt := fun hc => ?_) (kf := fun hc => ?_)
  · replace H2 := if_pe hc H2
    refine ev_sipush dX12_goes_20 (k := ?_)
    refine ev_iload_n 1 dX12_goes_23 (k := ?_)
    refine ev_imul dX12_goes_24 (k := ?_)
    refine ev_aload_n 0 dX12_goes_25 (k := ?_)
    refine ev_getR (t := 160) (x := some (160, 0)) fl_X12_173 dX12_goes_26 (hx := ry_12_60 _ _) (K := ?_)
    refine ev_iload_n 1 dX12_goes_29 (k := ?_)
    obtain ⟨⟨hi0, hi1⟩, H3⟩ := g_e H2
    clear H2
    refine ev_iaload (k := 160) hi0 hi1 dX12_goes_30 (hc := ac_160) (hlen := ln_160 _ _) (K := ?_)
    refine ev_sipush dX12_goes_31 (k := ?_)
    refine ev_irem dX12_goes_34 (by decide) (k := ?_)
    refine ev_iadd dX12_goes_35 (k := ?_)
    obtain ⟨x4, ex4, H4⟩ := lt_e H3
    clear H3
    refine ev_topI ex4 ?_
    refine ev_istore_n [(2, .inl (x4)), (0, .inr (.inr (some (12, 0)))), (1, .inl (l1))] dX12_goes_36 (k := ?_)
    refine ev_iconst dX12_goes_37 (k := ?_)
    refine ev_istore_n [(3, .inl (0)), (2, .inl (x4)), (0, .inr (.inr (some (12, 0)))), (1, .inl (l1))] dX12_goes_38 (k := ?_)
    refine ev_lv [2, 3, 1, 0] [(0, .inr (.inr (some (12, 0)))), (1, .inl (l1)), (2, .inl (x4)), (3, .inl (0))] (k := ?_)
    exact E12_goes_39 j_fu l1 x4 0 h _ H4
  · replace H2 := if_ne hc H2
    cases H2
    exact ev_return dX12_goes_19
-- X12_isCircuit
abbrev T12_isCircuit : JT := (RX12, cX12_isCircuit, 1, some .boolean, false)
set_option maxRecDepth 100000 in
set_option maxHeartbeats 4000000 in
theorem E12_isCircuit_17 (h : JM) (res : (Int × JM)) (H : F12_isCircuit_17 h = some res) : Ev j_W1 1 0 0 T12_isCircuit 17 [] [] h (some (.inl res.1)) res.2 := by
  unfold F12_isCircuit_17 at H
  refine ev_iconst dX12_isCircuit_17 (k := ?_)
  cases H
  exact ev_zreturn (Or.inl rfl) dX12_isCircuit_18
set_option maxRecDepth 100000 in
set_option maxHeartbeats 4000000 in
theorem C12_isCircuit {l0 : Int} {h : JM} {res : (Int × JM)} (H : F12_isCircuit l0 h = some res) : Cn j_W1 1 0 0 yX12_isCircuit cX12_isCircuit 1 (some .boolean) [.inl (l0)] h (some (.inl res.1)) res.2 := by
  refine Cn.by (own := RX12) (b := false) [(0, .inl (l0))] rfl (fun z => by cases z) (by decide +kernel) (K := ?_)
  unfold F12_isCircuit at H
  refine ev_iload_n 0 dX12_isCircuit_0 (k := ?_)
  refine ev_bipush dX12_isCircuit_1 (k := ?_)
  refine ev_icmplt 17 dX12_isCircuit_3 (kt := fun hc => ?_) (kf := fun hc => ?_)
  · replace H := if_pe hc H
    refine ev_lv [] [] (k := ?_)
    exact E12_isCircuit_17 h _ H
  · replace H := if_ne hc H
    refine ev_iload_n 0 dX12_isCircuit_6 (k := ?_)
    refine ev_sipush dX12_isCircuit_7 (k := ?_)
    refine ev_icmpge 17 dX12_isCircuit_10 (kt := fun hc => ?_) (kf := fun hc => ?_)
    · replace H := if_pe hc H
      refine ev_lv [] [] (k := ?_)
      exact E12_isCircuit_17 h _ H
    · replace H := if_ne hc H
      refine ev_iconst dX12_isCircuit_13 (k := ?_)
      refine ev_goto 18 dX12_isCircuit_14 (k := ?_)
      cases H
      exact ev_zreturn (Or.inr rfl) dX12_isCircuit_18
