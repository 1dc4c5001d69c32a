-- X11_given
abbrev T11_given : JT := (RX11, cX11_given, 3, some .int, false)
set_option maxRecDepth 100000 in
set_option maxHeartbeats 4000000 in
theorem E11_given_55 (h : JM) (res : (Int × JM)) (H : F11_given_55 h = some res) : Ev j_W1 3 0 0 T11_given 55 [] [] h (some (.inl res.1)) res.2 := by
  unfold F11_given_55 at H
  refine ev_iconst dX11_given_55 (k := ?_)
  cases H
  exact ev_ireturn dX11_given_56
set_option maxRecDepth 100000 in
set_option maxHeartbeats 4000000 in
theorem C11_given {l0 : Option Int} {l1 : Option Int} {l2 : Option Int} {h : JM} {res : (Int × JM)} (H : F11_given l0 l1 l2 h = some res) : Cn j_W1 3 0 0 yX11_given cX11_given 3 (some .int) [.inr (.inr (Option.map (Prod.mk 0) (l0))), .inr (.inr (Option.map (Prod.mk 4) (l1))), .inr (.inr (Option.map (Prod.mk 8) (l2)))] h (some (.inl res.1)) res.2 := by
  refine Cn.by (own := RX11) (b := false) [(0, .inr (.inr (Option.map (Prod.mk 0) (l0)))), (1, .inr (.inr (Option.map (Prod.mk 4) (l1)))), (2, .inr (.inr (Option.map (Prod.mk 8) (l2))))] rfl (fun z => by cases z) (by decide +kernel) (K := ?_)
  unfold F11_given at H
  refine ev_aload_n 1 dX11_given_0 (k := ?_)
  refine ev_nullK l1 31 dX11_given_1 (kt := fun hc => ?_) (kf := fun hc => ?_)
  · rw [if_pos hc] at H
    refine ev_aload_n 2 dX11_given_31 (k := ?_)
    refine ev_nullK l2 55 dX11_given_32 (kt := fun hc => ?_) (kf := fun hc => ?_)
    · rw [if_pos hc] at H
      refine ev_lv [] [] (k := ?_)
      exact E11_given_55 h _ H
    · rw [if_neg hc] at H
      refine ev_aload_n 2 dX11_given_35 (k := ?_)
      obtain ⟨a1, ea1, H⟩ := bd_e H
      rw [ea1]
      refine ev_getR (t := 8) (x := some (8, (if a1 < 16 then a1 + 16 else a1 - 16))) fl_X11_69 dX11_given_36 (hx := ry_8_1 _ _) (K := ?_)
      refine ev_nullK (some (if a1 < 16 then a1 + 16 else a1 - 16)) 55 dX11_given_39 (kt := fun hc => ?_) (kf := fun hc => ?_)
      · rw [if_pos hc] at H
        refine ev_lv [] [] (k := ?_)
        exact E11_given_55 h _ H
      · rw [if_neg hc] at H
        refine ev_aload_n 2 dX11_given_42 (k := ?_)
        refine ev_getR (t := 8) (x := some (8, (if a1 < 16 then a1 + 16 else a1 - 16))) fl_X11_69 dX11_given_43 (hx := ry_8_1 _ _) (K := ?_)
        refine ev_getI (x := h.1 8 (if a1 < 16 then a1 + 16 else a1 - 16) 5) fl_X11_570 dX11_given_46 (K := ?_)
        obtain ⟨q2, hq, H⟩ := bd_e H
        refine ev_callS (mc := 0) (ms := 0) (st := []) (C11_fromLaw0 hq) md_X11_fromLaw0 ss_X11_fromLaw0 ml_X11_573 dX11_given_49 _ (by decide) (K := ?_)
        refine ev_goto 56 dX11_given_52 (k := ?_)
        cases H
        exact ev_ireturn dX11_given_56
  · rw [if_neg hc] at H
    refine ev_aload_n 1 dX11_given_4 (k := ?_)
    obtain ⟨a3, ea3, H⟩ := bd_e H
    rw [ea3]
    refine ev_getR (t := 0) (x := Option.map (Prod.mk 0) (h.2.2 4 a3 11)) fl_X11_206 dX11_given_5 (hx := ry_4_11 _ _) (K := ?_)
    refine ev_aload_n 0 dX11_given_8 (k := ?_)
    refine ev_acmpneK (h.2.2 4 a3 11) l0 29 dX11_given_9 (kt := fun hc => ?_) (kf := fun hc => ?_)
    · rw [if_neg hc] at H
      refine ev_iconst dX11_given_29 (k := ?_)
      cases H
      exact ev_ireturn dX11_given_30
    · rw [if_pos hc] at H
      refine ev_aload_n 1 dX11_given_12 (k := ?_)
      refine ev_getI (x := h.1 4 a3 0) fl_X11_317 dX11_given_13 (K := ?_)
      refine ev_bipush dX11_given_16 (k := ?_)
      refine ev_idiv dX11_given_18 (by decide) (k := ?_)
      refine ev_aload_n 1 dX11_given_19 (k := ?_)
      refine ev_getI (x := h.1 4 a3 18) fl_X11_167 dX11_given_20 (K := ?_)
      obtain ⟨q4, hq, H⟩ := bd_e H
      refine ev_callS (mc := 0) (ms := 0) (st := []) (C11_asHeard hq) md_X11_asHeard ss_X11_asHeard ml_X11_567 dX11_given_23 _ (by decide) (K := ?_)
      refine ev_goto 30 dX11_given_26 (k := ?_)
      cases H
      exact ev_ireturn dX11_given_30
-- X11_hand
abbrev T11_hand : JT := (RX11, cX11_hand, 4, none, false)
set_option maxRecDepth 100000 in
set_option maxHeartbeats 4000000 in
theorem E11_hand_27 (l2 : Option Int) (l3 : Int) (h : JM) (res : JM) (H : F11_hand_27 l2 l3 h = some res) : Ev j_W1 3 0 0 T11_hand 27 [(2, .inr (.inr (Option.map (Prod.mk 8) (l2)))), (3, .inl (l3))] [] h none res := by
  unfold F11_hand_27 at H
  refine ev_aload_n 0 dX11_hand_27 (k := ?_)
  refine ev_nullK l2 39 dX11_hand_28 (kt := fun hc => ?_) (kf := fun hc => ?_)
  · rw [if_pos hc] at H
    cases H
    exact ev_return dX11_hand_39
  · rw [if_neg hc] at H
    refine ev_aload_n 0 dX11_hand_31 (k := ?_)
    refine ev_iload_n 1 dX11_hand_32 (k := ?_)
    obtain ⟨q1, hq, H⟩ := bd_e H
    refine ev_callS (mc := 0) (ms := 0) (st := [.inr (.inr (Option.map (Prod.mk 8) (l2)))]) (C11_byLaw0 hq) md_X11_byLaw0 ss_X11_byLaw0 ml_X11_577 dX11_hand_33 _ (by decide) (K := ?_)
    obtain ⟨a2, ea2, H⟩ := bd_e H
    rw [ea2]
    obtain ⟨h3, eh3, H⟩ := lt_e H
    refine ev_putI j_ok1 fl_X11_251 eh3 dX11_hand_36 (K := ?_)
    cases H
    exact ev_return dX11_hand_39
set_option maxRecDepth 100000 in
set_option maxHeartbeats 4000000 in
theorem C11_hand {l0 : Option Int} {l1 : Option Int} {l2 : Option Int} {l3 : Int} {h : JM} {res : JM} (H : F11_hand l0 l1 l2 l3 h = some res) : Cn j_W1 3 0 0 yX11_hand cX11_hand 4 none [.inr (.inr (Option.map (Prod.mk 0) (l0))), .inr (.inr (Option.map (Prod.mk 4) (l1))), .inr (.inr (Option.map (Prod.mk 8) (l2))), .inl (l3)] h none res := by
  refine Cn.by (own := RX11) (b := false) [(0, .inr (.inr (Option.map (Prod.mk 0) (l0)))), (1, .inr (.inr (Option.map (Prod.mk 4) (l1)))), (2, .inr (.inr (Option.map (Prod.mk 8) (l2)))), (3, .inl (l3))] rfl (fun z => by cases z) (by decide +kernel) (K := ?_)
  unfold F11_hand at H
  refine ev_aload_n 1 dX11_hand_0 (k := ?_)
  refine ev_nullK l1 27 dX11_hand_1 (kt := fun hc => ?_) (kf := fun hc => ?_)
  · rw [if_pos hc] at H
    refine ev_lv [2, 3] [(2, .inr (.inr (Option.map (Prod.mk 8) (l2)))), (3, .inl (l3))] (k := ?_)
    exact E11_hand_27 l2 l3 h _ H
  · rw [if_neg hc] at H
    refine ev_aload_n 1 dX11_hand_4 (k := ?_)
    obtain ⟨a4, ea4, H⟩ := bd_e H
    rw [ea4]
    refine ev_getR (t := 0) (x := Option.map (Prod.mk 0) (h.2.2 4 a4 11)) fl_X11_206 dX11_hand_5 (hx := ry_4_11 _ _) (K := ?_)
    refine ev_aload_n 0 dX11_hand_8 (k := ?_)
    refine ev_acmpneK (h.2.2 4 a4 11) l0 27 dX11_hand_9 (kt := fun hc => ?_) (kf := fun hc => ?_)
    · rw [if_neg hc] at H
      refine ev_lv [2, 3] [(2, .inr (.inr (Option.map (Prod.mk 8) (l2)))), (3, .inl (l3))] (k := ?_)
      exact E11_hand_27 l2 l3 h _ H
    · rw [if_pos hc] at H
      refine ev_aload_n 1 dX11_hand_12 (k := ?_)
      refine ev_aload_n 1 dX11_hand_13 (k := ?_)
      refine ev_getI (x := h.1 4 a4 0) fl_X11_317 dX11_hand_14 (K := ?_)
      refine ev_bipush dX11_hand_17 (k := ?_)
      refine ev_idiv dX11_hand_19 (by decide) (k := ?_)
      refine ev_iload_n 3 dX11_hand_20 (k := ?_)
      obtain ⟨q5, hq, H⟩ := bd_e H
      refine ev_callS (mc := 0) (ms := 0) (st := [.inr (.inr (some (4, a4)))]) (C11_asHeard hq) md_X11_asHeard ss_X11_asHeard ml_X11_567 dX11_hand_21 _ (by decide) (K := ?_)
      obtain ⟨h6, eh6, H⟩ := lt_e H
      refine ev_putI j_ok1 fl_X11_243 eh6 dX11_hand_24 (K := ?_)
      refine ev_lv [2, 3] [(2, .inr (.inr (Option.map (Prod.mk 8) (l2)))), (3, .inl (l3))] (k := ?_)
      exact E11_hand_27 l2 l3 h6 _ H
-- X11_carryBetweenSides
abbrev T11_carryBetweenSides : JT := (RX11, cX11_carryBetweenSides, 4, none, false)
set_option maxRecDepth 100000 in
set_option maxHeartbeats 4000000 in
theorem E11_carryBetweenSides_63 (l0 : Option Int) (s0 : Int) (h : JM) (res : JM) (H : F11_carryBetweenSides_63 l0 s0 h = some res) : Ev j_W1 4 0 0 T11_carryBetweenSides 63 [(0, .inr (.inr (Option.map (Prod.mk 0) (l0))))] [.inl (s0)] h none res := by
  unfold F11_carryBetweenSides_63 at H
  refine ev_istore_n [(3, .inl (s0)), (0, .inr (.inr (Option.map (Prod.mk 0) (l0))))] dX11_carryBetweenSides_63 (k := ?_)
  refine ev_aload_n 1 dX11_carryBetweenSides_64 (k := ?_)
  refine ev_aload_n 1 dX11_carryBetweenSides_65 (k := ?_)
  obtain ⟨a1, ea1, H⟩ := bd_e H
  rw [ea1]
  refine ev_getR (t := 4) (x := Option.map (Prod.mk 4) (h.2.2 0 a1 1)) fl_X11_223 dX11_carryBetweenSides_66 (hx := ry_0_1 _ _) (K := ?_)
  refine ev_aload_n 1 dX11_carryBetweenSides_69 (k := ?_)
  refine ev_getR (t := 8) (x := Option.map (Prod.mk 8) (h.2.2 0 a1 2)) fl_X11_227 dX11_carryBetweenSides_70 (hx := ry_0_2 _ _) (K := ?_)
  refine ev_iload_n 0 dX11_carryBetweenSides_73 (k := ?_)
  obtain ⟨h2, hq, H⟩ := bd_e H
  refine ev_callS (mc := 0) (ms := 0) (st := []) (C11_hand hq) md_X11_hand ss_X11_hand ml_X11_564 dX11_carryBetweenSides_74 _ (by decide) (K := ?_)
  cases H
  exact ev_return dX11_carryBetweenSides_77
set_option maxRecDepth 100000 in
set_option maxHeartbeats 4000000 in
theorem C11_carryBetweenSides {l0 : Option Int} {h : JM} {res : JM} (H : F11_carryBetweenSides l0 h = some res) : Cn j_W1 4 0 0 yX11_carryBetweenSides cX11_carryBetweenSides 4 none [.inr (.inr (Option.map (Prod.mk 0) (l0)))] h none res := by
  refine Cn.by (own := RX11) (b := false) [(0, .inr (.inr (Option.map (Prod.mk 0) (l0))))] rfl (fun z => by cases z) (by decide +kernel) (K := ?_)
  unfold F11_carryBetweenSides at H
  refine ev_aload_n 0 dX11_carryBetweenSides_0 (k := ?_)
  refine ev_aload_n 0 dX11_carryBetweenSides_1 (k := ?_)
  obtain ⟨a3, ea3, H⟩ := bd_e H
  rw [ea3]
  refine ev_getR (t := 4) (x := Option.map (Prod.mk 4) (h.2.2 0 a3 1)) fl_X11_223 dX11_carryBetweenSides_2 (hx := ry_0_1 _ _) (K := ?_)
  refine ev_aload_n 0 dX11_carryBetweenSides_5 (k := ?_)
  refine ev_getR (t := 8) (x := Option.map (Prod.mk 8) (h.2.2 0 a3 2)) fl_X11_227 dX11_carryBetweenSides_6 (hx := ry_0_2 _ _) (K := ?_)
  obtain ⟨q4, hq, H⟩ := bd_e H
  refine ev_callS (mc := 0) (ms := 0) (st := []) (C11_given hq) md_X11_given ss_X11_given ml_X11_557 dX11_carryBetweenSides_9 _ (by decide) (K := ?_)
  refine ev_istore_n [(1, .inl (q4.1)), (0, .inr (.inr (some (0, a3))))] dX11_carryBetweenSides_12 (k := ?_)
  refine ev_aload_n 1 dX11_carryBetweenSides_13 (k := ?_)
  refine ev_getI (x := q4.2.1 0 a3 6) fl_X11_234 dX11_carryBetweenSides_14 (K := ?_)
  refine ev_iconst dX11_carryBetweenSides_17 (k := ?_)
  refine ev_icmpeq 78 dX11_carryBetweenSides_18 (kt := fun hc => ?_) (kf := fun hc => ?_)
  · rw [if_pos hc] at H
    refine ev_aload_n 1 dX11_carryBetweenSides_78 (k := ?_)
    refine ev_aload_n 1 dX11_carryBetweenSides_79 (k := ?_)
    refine ev_getR (t := 4) (x := Option.map (Prod.mk 4) (q4.2.2.2 0 a3 1)) fl_X11_223 dX11_carryBetweenSides_80 (hx := ry_0_1 _ _) (K := ?_)
    refine ev_aload_n 1 dX11_carryBetweenSides_83 (k := ?_)
    refine ev_getR (t := 8) (x := Option.map (Prod.mk 8) (q4.2.2.2 0 a3 2)) fl_X11_227 dX11_carryBetweenSides_84 (hx := ry_0_2 _ _) (K := ?_)
    refine ev_aload_n 1 dX11_carryBetweenSides_87 (k := ?_)
    refine ev_aload_n 1 dX11_carryBetweenSides_88 (k := ?_)
    refine ev_getR (t := 4) (x := Option.map (Prod.mk 4) (q4.2.2.2 0 a3 3)) fl_X11_237 dX11_carryBetweenSides_89 (hx := ry_0_3 _ _) (K := ?_)
    refine ev_aload_n 1 dX11_carryBetweenSides_92 (k := ?_)
    refine ev_getR (t := 8) (x := Option.map (Prod.mk 8) (q4.2.2.2 0 a3 4)) fl_X11_240 dX11_carryBetweenSides_93 (hx := ry_0_4 _ _) (K := ?_)
    obtain ⟨q5, hq, H⟩ := bd_e H
    refine ev_callS (mc := 0) (ms := 0) (st := [.inr (.inr (Option.map (Prod.mk 8) (q4.2.2.2 0 a3 2))), .inr (.inr (Option.map (Prod.mk 4) (q4.2.2.2 0 a3 1))), .inr (.inr (some (0, a3)))]) (C11_given hq) md_X11_given ss_X11_given ml_X11_557 dX11_carryBetweenSides_96 _ (by decide) (K := ?_)
    obtain ⟨h6, hq, H⟩ := bd_e H
    refine ev_callS (mc := 0) (ms := 0) (st := []) (C11_hand hq) md_X11_hand ss_X11_hand ml_X11_564 dX11_carryBetweenSides_99 _ (by decide) (K := ?_)
    refine ev_aload_n 1 dX11_carryBetweenSides_102 (k := ?_)
    refine ev_aload_n 1 dX11_carryBetweenSides_103 (k := ?_)
    refine ev_getR (t := 4) (x := Option.map (Prod.mk 4) (h6.2.2 0 a3 3)) fl_X11_237 dX11_carryBetweenSides_104 (hx := ry_0_3 _ _) (K := ?_)
    refine ev_aload_n 1 dX11_carryBetweenSides_107 (k := ?_)
    refine ev_getR (t := 8) (x := Option.map (Prod.mk 8) (h6.2.2 0 a3 4)) fl_X11_240 dX11_carryBetweenSides_108 (hx := ry_0_4 _ _) (K := ?_)
    refine ev_iload_n 0 dX11_carryBetweenSides_111 (k := ?_)
    obtain ⟨h7, hq, H⟩ := bd_e H
    refine ev_callS (mc := 0) (ms := 0) (st := []) (C11_hand hq) md_X11_hand ss_X11_hand ml_X11_564 dX11_carryBetweenSides_112 _ (by decide) (K := ?_)
    cases H
    exact ev_return dX11_carryBetweenSides_115
  · rw [if_neg hc] at H
    refine ev_aload_n 1 dX11_carryBetweenSides_21 (k := ?_)
    refine ev_getR (t := 1) (x := Option.map (Prod.mk 1) (q4.2.2.2 0 a3 0)) fl_X11_444 dX11_carryBetweenSides_22 (hx := ry_0_0 _ _) (K := ?_)
    obtain ⟨a8, ea8, H⟩ := bd_e H
    rw [ea8]
    refine ev_getR (t := 24) (x := some (24, a8)) fl_X11_554 dX11_carryBetweenSides_25 (hx := ry_1_6 _ _) (K := ?_)
    refine ev_aload_n 1 dX11_carryBetweenSides_28 (k := ?_)
    refine ev_getI (x := q4.2.1 0 a3 6) fl_X11_234 dX11_carryBetweenSides_29 (K := ?_)
    obtain ⟨⟨hi0, hi1⟩, H⟩ := g_e H
    refine ev_iaload (k := 24) hi0 hi1 dX11_carryBetweenSides_32 (hc := ac_24) (hlen := ln_24 _ _) (K := ?_)
    refine ev_iload_n 0 dX11_carryBetweenSides_33 (k := ?_)
    refine ev_isub dX11_carryBetweenSides_34 (k := ?_)
    obtain ⟨x9, ex9, H⟩ := lt_e H
    refine ev_topI ex9 ?_
    refine ev_istore_n [(2, .inl (x9)), (1, .inl (q4.1)), (0, .inr (.inr (some (0, a3))))] dX11_carryBetweenSides_35 (k := ?_)
    refine ev_iload_n 0 dX11_carryBetweenSides_36 (k := ?_)
    refine ev_sipush dX11_carryBetweenSides_37 (k := ?_)
    refine ev_icmple 49 dX11_carryBetweenSides_40 (kt := fun hc => ?_) (kf := fun hc => ?_)
    · rw [if_pos hc] at H
      refine ev_iload_n 0 dX11_carryBetweenSides_49 (k := ?_)
      refine ev_sipush dX11_carryBetweenSides_50 (k := ?_)
      refine ev_icmpge 62 dX11_carryBetweenSides_53 (kt := fun hc => ?_) (kf := fun hc => ?_)
      · rw [if_pos hc] at H
        refine ev_iload_n 0 dX11_carryBetweenSides_62 (k := ?_)
        refine ev_lv [2] [(0, .inr (.inr (some (0, a3))))] (k := ?_)
        exact E11_carryBetweenSides_63 (some a3) x9 q4.2 _ H
      · rw [if_neg hc] at H
        refine ev_sipush dX11_carryBetweenSides_56 (k := ?_)
        refine ev_goto 63 dX11_carryBetweenSides_59 (k := ?_)
        refine ev_lv [2] [(0, .inr (.inr (some (0, a3))))] (k := ?_)
        exact E11_carryBetweenSides_63 (some a3) (-8000) q4.2 _ H
    · rw [if_neg hc] at H
      refine ev_sipush dX11_carryBetweenSides_43 (k := ?_)
      refine ev_goto 63 dX11_carryBetweenSides_46 (k := ?_)
      refine ev_lv [2] [(0, .inr (.inr (some (0, a3))))] (k := ?_)
      exact E11_carryBetweenSides_63 (some a3) 8000 q4.2 _ H
-- X11_carrySpeech
abbrev T11_carrySpeech : JT := (RX11, cX11_carrySpeech, 3, none, false)
set_option maxRecDepth 100000 in
set_option maxHeartbeats 4000000 in
theorem E11_carrySpeech_144 (k114 : Int → JM → Option JM) (hk114 : ∀ (l1 : Int) (h : JM) (res : JM), k114 l1 h = some res → Ev j_W1 5 0 0 T11_carrySpeech 114 [(0, .inr (.inr (some (11, 0)))), (1, .inl (l1))] [] h none res) (l1 : Int) (h : JM) (res : JM) (H : F11_carrySpeech_144 k114 l1 h = some res) : Ev j_W1 5 0 0 T11_carrySpeech 144 [(0, .inr (.inr (some (11, 0)))), (1, .inl (l1))] [] h none res := by
  unfold F11_carrySpeech_144 at H
  refine ev_iinc 1 [(1, .inl (w32 (l1 + 1))), (0, .inr (.inr (some (11, 0))))] dX11_carrySpeech_144 (k := ?_)
  refine ev_goto 114 dX11_carrySpeech_147 (k := ?_)
  refine ev_lv [1, 0] [(0, .inr (.inr (some (11, 0)))), (1, .inl (w32 (l1 + 1)))] (k := ?_)
  exact hk114 (w32 (l1 + 1)) h _ H
set_option maxRecDepth 100000 in
set_option maxHeartbeats 4000000 in
theorem E11_carrySpeech_114b (k114 : Int → JM → Option JM) (hk114 : ∀ (l1 : Int) (h : JM) (res : JM), k114 l1 h = some res → Ev j_W1 5 0 0 T11_carrySpeech 114 [(0, .inr (.inr (some (11, 0)))), (1, .inl (l1))] [] h none res) (l1 : Int) (h : JM) (res : JM) (H : F11_carrySpeech_114b k114 l1 h = some res) : Ev j_W1 5 0 0 T11_carrySpeech 114 [(0, .inr (.inr (some (11, 0)))), (1, .inl (l1))] [] h none res := by
  unfold F11_carrySpeech_114b at H
  refine ev_iload_n 1 dX11_carrySpeech_114 (k := ?_)
  refine ev_aload_n 0 dX11_carrySpeech_115 (k := ?_)
  refine ev_getI (x := h.1 11 0 11) fl_X11_452 dX11_carrySpeech_116 (K := ?_)
  refine ev_icmpge 150 dX11_carrySpeech_119 (kt := fun hc => ?_) (kf := fun hc => ?_)
  · rw [if_pos hc] at H
    cases H
    exact ev_return dX11_carrySpeech_150
  · rw [if_neg hc] at H
    refine ev_aload_n 0 dX11_carrySpeech_122 (k := ?_)
    refine ev_getR (t := 40) (x := some (40, 0)) fl_X11_23 dX11_carrySpeech_123 (hx := ry_11_4 _ _) (K := ?_)
    refine ev_iload_n 1 dX11_carrySpeech_126 (k := ?_)
    obtain ⟨⟨hi0, hi1⟩, H⟩ := g_e H
    refine ev_aaload (k := 40) 0 (x := Option.map (Prod.mk 0) (h.2.2 40 0 l1)) hi0 hi1 dX11_carrySpeech_127 (hc := ac_40) (hlen := ln_40 _ _) (hx := rz_40 _ _ _) (K := ?_)
    obtain ⟨a1, ea1, H⟩ := bd_e H
    rw [ea1]
    refine ev_getI (x := h.1 0 a1 9) fl_X11_210 dX11_carrySpeech_128 (K := ?_)
    refine ev_iconst dX11_carrySpeech_131 (k := ?_)
    refine ev_icmpne 144 dX11_carrySpeech_132 (kt := fun hc => ?_) (kf := fun hc => ?_)
    · rw [if_neg hc] at H
      exact E11_carrySpeech_144 k114 hk114 l1 h _ H
    · rw [if_pos hc] at H
      refine ev_aload_n 0 dX11_carrySpeech_135 (k := ?_)
      refine ev_getR (t := 40) (x := some (40, 0)) fl_X11_23 dX11_carrySpeech_136 (hx := ry_11_4 _ _) (K := ?_)
      refine ev_iload_n 1 dX11_carrySpeech_139 (k := ?_)
      obtain ⟨⟨hi0, hi1⟩, H⟩ := g_e H
      refine ev_aaload (k := 40) 0 (x := Option.map (Prod.mk 0) (h.2.2 40 0 l1)) hi0 hi1 dX11_carrySpeech_140 (hc := ac_40) (hlen := ln_40 _ _) (hx := rz_40 _ _ _) (K := ?_)
      obtain ⟨h2, hq, H⟩ := bd_e H
      refine ev_callS (mc := 0) (ms := 0) (st := []) (C11_carryBetweenSides hq) md_X11_carryBetweenSides ss_X11_carryBetweenSides ml_X11_561 dX11_carrySpeech_141 _ (by decide) (K := ?_)
      exact E11_carrySpeech_144 k114 hk114 l1 h2 _ H
theorem E11_carrySpeech_114 (n : Nat) : ∀ (l1 : Int) (h : JM) (res : JM), F11_carrySpeech_114 n l1 h = some res → Ev j_W1 5 0 0 T11_carrySpeech 114 [(0, .inr (.inr (some (11, 0)))), (1, .inl (l1))] [] h none res := by
  induction n with
  | zero =>
    intro l1 h res H
    cases H
  | succ n ih =>
    intro l1 h res H
    exact E11_carrySpeech_114b (F11_carrySpeech_114 n) ih l1 h res H
set_option maxRecDepth 100000 in
set_option maxHeartbeats 4000000 in
theorem E11_carrySpeech_106 (k48 : Int → JM → Option JM) (hk48 : ∀ (l1 : Int) (h : JM) (res : JM), k48 l1 h = some res → Ev j_W1 5 0 0 T11_carrySpeech 48 [(0, .inr (.inr (some (11, 0)))), (1, .inl (l1))] [] h none res) (l1 : Int) (h : JM) (res : JM) (H : F11_carrySpeech_106 k48 l1 h = some res) : Ev j_W1 5 0 0 T11_carrySpeech 106 [(0, .inr (.inr (some (11, 0)))), (1, .inl (l1))] [] h none res := by
  unfold F11_carrySpeech_106 at H
  refine ev_iinc 1 [(1, .inl (w32 (l1 + 1))), (0, .inr (.inr (some (11, 0))))] dX11_carrySpeech_106 (k := ?_)
  refine ev_goto 48 dX11_carrySpeech_109 (k := ?_)
  refine ev_lv [1, 0] [(0, .inr (.inr (some (11, 0)))), (1, .inl (w32 (l1 + 1)))] (k := ?_)
  exact hk48 (w32 (l1 + 1)) h _ H
set_option maxRecDepth 100000 in
set_option maxHeartbeats 4000000 in
theorem E11_carrySpeech_48b (k48 : Int → JM → Option JM) (hk48 : ∀ (l1 : Int) (h : JM) (res : JM), k48 l1 h = some res → Ev j_W1 5 0 0 T11_carrySpeech 48 [(0, .inr (.inr (some (11, 0)))), (1, .inl (l1))] [] h none res) (l1 : Int) (h : JM) (res : JM) (H : F11_carrySpeech_48b k48 l1 h = some res) : Ev j_W1 5 0 0 T11_carrySpeech 48 [(0, .inr (.inr (some (11, 0)))), (1, .inl (l1))] [] h none res := by
  unfold F11_carrySpeech_48b at H
  refine ev_iload_n 1 dX11_carrySpeech_48 (k := ?_)
  refine ev_aload_n 0 dX11_carrySpeech_49 (k := ?_)
  refine ev_getI (x := h.1 11 0 11) fl_X11_452 dX11_carrySpeech_50 (K := ?_)
  refine ev_icmpge 112 dX11_carrySpeech_53 (kt := fun hc => ?_) (kf := fun hc => ?_)
  · rw [if_pos hc] at H
    refine ev_iconst dX11_carrySpeech_112 (k := ?_)
    refine ev_istore_n [(1, .inl (0)), (0, .inr (.inr (some (11, 0))))] dX11_carrySpeech_113 (k := ?_)
    refine ev_lv [1, 0] [(0, .inr (.inr (some (11, 0)))), (1, .inl (0))] (k := ?_)
    exact E11_carrySpeech_114 j_fu 0 h _ H
  · rw [if_neg hc] at H
    refine ev_aload_n 0 dX11_carrySpeech_56 (k := ?_)
    refine ev_getR (t := 40) (x := some (40, 0)) fl_X11_23 dX11_carrySpeech_57 (hx := ry_11_4 _ _) (K := ?_)
    refine ev_iload_n 1 dX11_carrySpeech_60 (k := ?_)
    obtain ⟨⟨hi0, hi1⟩, H⟩ := g_e H
    refine ev_aaload (k := 40) 0 (x := Option.map (Prod.mk 0) (h.2.2 40 0 l1)) hi0 hi1 dX11_carrySpeech_61 (hc := ac_40) (hlen := ln_40 _ _) (hx := rz_40 _ _ _) (K := ?_)
    refine ev_astore_n [(2, .inr (.inr (Option.map (Prod.mk 0) (h.2.2 40 0 l1)))), (0, .inr (.inr (some (11, 0)))), (1, .inl (l1))] dX11_carrySpeech_62 (k := ?_)
    refine ev_aload_n 0 dX11_carrySpeech_63 (k := ?_)
    obtain ⟨a3, ea3, H⟩ := bd_e H
    rw [ea3]
    refine ev_getI (x := h.1 0 a3 9) fl_X11_210 dX11_carrySpeech_64 (K := ?_)
    refine ev_iconst dX11_carrySpeech_67 (k := ?_)
    refine ev_icmpne 106 dX11_carrySpeech_68 (kt := fun hc => ?_) (kf := fun hc => ?_)
    · rw [if_neg hc] at H
      refine ev_lv [1, 2] [(0, .inr (.inr (some (11, 0)))), (1, .inl (l1))] (k := ?_)
      exact E11_carrySpeech_106 k48 hk48 l1 h _ H
    · rw [if_pos hc] at H
      refine ev_aload_n 0 dX11_carrySpeech_71 (k := ?_)
      refine ev_getI (x := h.1 0 a3 6) fl_X11_234 dX11_carrySpeech_72 (K := ?_)
      refine ev_iconst dX11_carrySpeech_75 (k := ?_)
      refine ev_icmpeq 106 dX11_carrySpeech_76 (kt := fun hc => ?_) (kf := fun hc => ?_)
      · rw [if_pos hc] at H
        refine ev_lv [1, 2] [(0, .inr (.inr (some (11, 0)))), (1, .inl (l1))] (k := ?_)
        exact E11_carrySpeech_106 k48 hk48 l1 h _ H
      · rw [if_neg hc] at H
        refine ev_aload_n 0 dX11_carrySpeech_79 (k := ?_)
        refine ev_getR (t := 1) (x := Option.map (Prod.mk 1) (h.2.2 0 a3 0)) fl_X11_444 dX11_carrySpeech_80 (hx := ry_0_0 _ _) (K := ?_)
        obtain ⟨a4, ea4, H⟩ := bd_e H
        rw [ea4]
        refine ev_getR (t := 24) (x := some (24, a4)) fl_X11_554 dX11_carrySpeech_83 (hx := ry_1_6 _ _) (K := ?_)
        refine ev_aload_n 0 dX11_carrySpeech_86 (k := ?_)
        refine ev_getI (x := h.1 0 a3 6) fl_X11_234 dX11_carrySpeech_87 (K := ?_)
        refine ev_dup2 dX11_carrySpeech_90 (k := ?_)
        obtain ⟨⟨hi0, hi1⟩, H⟩ := g_e H
        refine ev_iaload (k := 24) hi0 hi1 dX11_carrySpeech_91 (hc := ac_24) (hlen := ln_24 _ _) (K := ?_)
        refine ev_aload_n 0 dX11_carrySpeech_92 (k := ?_)
        refine ev_aload_n 0 dX11_carrySpeech_93 (k := ?_)
        refine ev_getR (t := 4) (x := Option.map (Prod.mk 4) (h.2.2 0 a3 1)) fl_X11_223 dX11_carrySpeech_94 (hx := ry_0_1 _ _) (K := ?_)
        refine ev_aload_n 0 dX11_carrySpeech_97 (k := ?_)
        refine ev_getR (t := 8) (x := Option.map (Prod.mk 8) (h.2.2 0 a3 2)) fl_X11_227 dX11_carrySpeech_98 (hx := ry_0_2 _ _) (K := ?_)
        obtain ⟨q5, hq, H⟩ := bd_e H
        refine ev_callS (mc := 0) (ms := 0) (st := [.inl (h.1 24 a4 (h.1 0 a3 6)), .inl (h.1 0 a3 6), .inr (.inr (some (24, a4)))]) (C11_given hq) md_X11_given ss_X11_given ml_X11_557 dX11_carrySpeech_101 _ (by decide) (K := ?_)
        refine ev_iadd dX11_carrySpeech_104 (k := ?_)
        obtain ⟨⟨hi0, hi1⟩, H⟩ := g_e H
        obtain ⟨h6, eh6, H⟩ := lt_e H
        refine ev_iastore (k := 24) j_ok1 hi0 hi1 eh6 dX11_carrySpeech_105 (hc := ac_24) (hlen := ln_24 _ _) (K := ?_)
        refine ev_lv [1, 2] [(0, .inr (.inr (some (11, 0)))), (1, .inl (l1))] (k := ?_)
        exact E11_carrySpeech_106 k48 hk48 l1 h6 _ H
theorem E11_carrySpeech_48 (n : Nat) : ∀ (l1 : Int) (h : JM) (res : JM), F11_carrySpeech_48 n l1 h = some res → Ev j_W1 5 0 0 T11_carrySpeech 48 [(0, .inr (.inr (some (11, 0)))), (1, .inl (l1))] [] h none res := by
  induction n with
  | zero =>
    intro l1 h res H
    cases H
  | succ n ih =>
    intro l1 h res H
    exact E11_carrySpeech_48b (F11_carrySpeech_48 n) ih l1 h res H
set_option maxRecDepth 100000 in
set_option maxHeartbeats 4000000 in
theorem E11_carrySpeech_26b (k26 : Int → JM → Option JM) (hk26 : ∀ (l1 : Int) (h : JM) (res : JM), k26 l1 h = some res → Ev j_W1 5 0 0 T11_carrySpeech 26 [(0, .inr (.inr (some (11, 0)))), (1, .inl (l1))] [] h none res) (l1 : Int) (h : JM) (res : JM) (H : F11_carrySpeech_26b k26 l1 h = some res) : Ev j_W1 5 0 0 T11_carrySpeech 26 [(0, .inr (.inr (some (11, 0)))), (1, .inl (l1))] [] h none res := by
  unfold F11_carrySpeech_26b at H
  refine ev_iload_n 1 dX11_carrySpeech_26 (k := ?_)
  refine ev_iconst dX11_carrySpeech_27 (k := ?_)
  refine ev_icmpge 46 dX11_carrySpeech_28 (kt := fun hc => ?_) (kf := fun hc => ?_)
  · rw [if_pos hc] at H
    refine ev_iconst dX11_carrySpeech_46 (k := ?_)
    refine ev_istore_n [(1, .inl (0)), (0, .inr (.inr (some (11, 0))))] dX11_carrySpeech_47 (k := ?_)
    refine ev_lv [1, 0] [(0, .inr (.inr (some (11, 0)))), (1, .inl (0))] (k := ?_)
    exact E11_carrySpeech_48 j_fu 0 h _ H
  · rw [if_neg hc] at H
    refine ev_aload_n 0 dX11_carrySpeech_31 (k := ?_)
    refine ev_getR (t := 38) (x := some (38, 0)) fl_X11_11 dX11_carrySpeech_32 (hx := ry_11_2 _ _) (K := ?_)
    refine ev_iload_n 1 dX11_carrySpeech_35 (k := ?_)
    obtain ⟨⟨hi0, hi1⟩, H⟩ := g_e H
    refine ev_aaload (k := 38) 1 (x := some (1, l1)) hi0 hi1 dX11_carrySpeech_36 (hc := ac_38) (hlen := ln_38 _ _) (hx := rz_38 _ _ _) (K := ?_)
    obtain ⟨h7, hq, H⟩ := bd_e H
    refine ev_callV (mc := 0) (ms := 0) (st := []) (C1_hush hq) md_X1_hush im_X1_hush se_X1_hush ml_X11_551 dX11_carrySpeech_37 _ (by decide) (K := ?_)
    refine ev_iinc 1 [(1, .inl (w32 (l1 + 1))), (0, .inr (.inr (some (11, 0))))] dX11_carrySpeech_40 (k := ?_)
    refine ev_goto 26 dX11_carrySpeech_43 (k := ?_)
    refine ev_lv [1, 0] [(0, .inr (.inr (some (11, 0)))), (1, .inl (w32 (l1 + 1)))] (k := ?_)
    exact hk26 (w32 (l1 + 1)) h7 _ H
theorem E11_carrySpeech_26 (n : Nat) : ∀ (l1 : Int) (h : JM) (res : JM), F11_carrySpeech_26 n l1 h = some res → Ev j_W1 5 0 0 T11_carrySpeech 26 [(0, .inr (.inr (some (11, 0)))), (1, .inl (l1))] [] h none res := by
  induction n with
  | zero =>
    intro l1 h res H
    cases H
  | succ n ih =>
    intro l1 h res H
    exact E11_carrySpeech_26b (F11_carrySpeech_26 n) ih l1 h res H
set_option maxRecDepth 100000 in
set_option maxHeartbeats 4000000 in
theorem E11_carrySpeech_2b (k2 : Int → JM → Option JM) (hk2 : ∀ (l1 : Int) (h : JM) (res : JM), k2 l1 h = some res → Ev j_W1 5 0 0 T11_carrySpeech 2 [(0, .inr (.inr (some (11, 0)))), (1, .inl (l1))] [] h none res) (l1 : Int) (h : JM) (res : JM) (H : F11_carrySpeech_2b k2 l1 h = some res) : Ev j_W1 5 0 0 T11_carrySpeech 2 [(0, .inr (.inr (some (11, 0)))), (1, .inl (l1))] [] h none res := by
  unfold F11_carrySpeech_2b at H
  refine ev_iload_n 1 dX11_carrySpeech_2 (k := ?_)
  refine ev_bipush dX11_carrySpeech_3 (k := ?_)
  refine ev_icmpge 24 dX11_carrySpeech_5 (kt := fun hc => ?_) (kf := fun hc => ?_)
  · rw [if_pos hc] at H
    refine ev_iconst dX11_carrySpeech_24 (k := ?_)
    refine ev_istore_n [(1, .inl (0)), (0, .inr (.inr (some (11, 0))))] dX11_carrySpeech_25 (k := ?_)
    refine ev_lv [1, 0] [(0, .inr (.inr (some (11, 0)))), (1, .inl (0))] (k := ?_)
    exact E11_carrySpeech_26 j_fu 0 h _ H
  · rw [if_neg hc] at H
    refine ev_aload_n 0 dX11_carrySpeech_8 (k := ?_)
    refine ev_getR (t := 39) (x := some (39, 0)) fl_X11_17 dX11_carrySpeech_9 (hx := ry_11_3 _ _) (K := ?_)
    refine ev_iload_n 1 dX11_carrySpeech_12 (k := ?_)
    obtain ⟨⟨hi0, hi1⟩, H⟩ := g_e H
    refine ev_aaload (k := 39) 4 (x := some (4, l1)) hi0 hi1 dX11_carrySpeech_13 (hc := ac_39) (hlen := ln_39 _ _) (hx := rz_39 _ _ _) (K := ?_)
    refine ev_iconst dX11_carrySpeech_14 (k := ?_)
    obtain ⟨h8, eh8, H⟩ := lt_e H
    refine ev_putI j_ok1 fl_X11_243 eh8 dX11_carrySpeech_15 (K := ?_)
    refine ev_iinc 1 [(1, .inl (w32 (l1 + 1))), (0, .inr (.inr (some (11, 0))))] dX11_carrySpeech_18 (k := ?_)
    refine ev_goto 2 dX11_carrySpeech_21 (k := ?_)
    refine ev_lv [1, 0] [(0, .inr (.inr (some (11, 0)))), (1, .inl (w32 (l1 + 1)))] (k := ?_)
    exact hk2 (w32 (l1 + 1)) h8 _ H
theorem E11_carrySpeech_2 (n : Nat) : ∀ (l1 : Int) (h : JM) (res : JM), F11_carrySpeech_2 n l1 h = some res → Ev j_W1 5 0 0 T11_carrySpeech 2 [(0, .inr (.inr (some (11, 0)))), (1, .inl (l1))] [] h none res := by
  induction n with
  | zero =>
    intro l1 h res H
    cases H
  | succ n ih =>
    intro l1 h res H
    exact E11_carrySpeech_2b (F11_carrySpeech_2 n) ih l1 h res H
set_option maxRecDepth 100000 in
set_option maxHeartbeats 4000000 in
theorem C11_carrySpeech {h : JM} {res : JM} (H : F11_carrySpeech h = some res) : Cn j_W1 5 0 0 yX11_carrySpeech cX11_carrySpeech 3 none [.inr (.inr (some (11, 0)))] h none res := by
  refine Cn.by (own := RX11) (b := false) [(0, .inr (.inr (some (11, 0))))] rfl (fun z => by cases z) (by decide +kernel) (K := ?_)
  unfold F11_carrySpeech at H
  refine ev_iconst dX11_carrySpeech_0 (k := ?_)
  refine ev_istore_n [(1, .inl (0)), (0, .inr (.inr (some (11, 0))))] dX11_carrySpeech_1 (k := ?_)
  refine ev_lv [1, 0] [(0, .inr (.inr (some (11, 0)))), (1, .inl (0))] (k := ?_)
  exact E11_carrySpeech_2 j_fu 0 h _ H
-- X11_causeByTime
abbrev T11_causeByTime : JT := (RX11, cX11_causeByTime, 3, some .int, false)
set_option maxRecDepth 100000 in
set_option maxHeartbeats 4000000 in
theorem E11_causeByTime_108 (h : JM) (res : (Int × JM)) (H : F11_causeByTime_108 h = some res) : Ev j_W1 2 0 0 T11_causeByTime 108 [] [] h (some (.inl res.1)) res.2 := by
  unfold F11_causeByTime_108 at H
  refine ev_iconst dX11_causeByTime_108 (k := ?_)
  refine ev_goto 113 dX11_causeByTime_109 (k := ?_)
  cases H
  exact ev_ireturn dX11_causeByTime_113
set_option maxRecDepth 100000 in
set_option maxHeartbeats 4000000 in
theorem C11_causeByTime {l1 : Option Int} {l2 : Int} {h : JM} {res : (Int × JM)} (H : F11_causeByTime l1 l2 h = some res) : Cn j_W1 2 0 0 yX11_causeByTime cX11_causeByTime 3 (some .int) [.inr (.inr (some (11, 0))), .inr (.inr (Option.map (Prod.mk 0) (l1))), .inl (l2)] h (some (.inl res.1)) res.2 := by
  refine Cn.by (own := RX11) (b := false) [(0, .inr (.inr (some (11, 0)))), (1, .inr (.inr (Option.map (Prod.mk 0) (l1)))), (2, .inl (l2))] rfl (fun z => by cases z) (by decide +kernel) (K := ?_)
  unfold F11_causeByTime at H
  refine ev_aload_n 1 dX11_causeByTime_0 (k := ?_)
  obtain ⟨a1, ea1, H⟩ := bd_e H
  rw [ea1]
  refine ev_getI (x := h.1 0 a1 9) fl_X11_210 dX11_causeByTime_1 (K := ?_)
  by_cases hs0 : h.1 0 a1 9 = 0
  · rw [if_pos hs0] at H
    refine ev_tableIn (off := 36) 40 dX11_causeByTime_4 (by omega) (by omega) (by rw [hs0]; rfl) (k := ?_)
    refine ev_iload_n 2 dX11_causeByTime_40 (k := ?_)
    refine ev_sipush dX11_causeByTime_41 (k := ?_)
    refine ev_icmpne 51 dX11_causeByTime_44 (kt := fun hc => ?_) (kf := fun hc => ?_)
    · rw [if_neg hc] at H
      refine ev_iconst dX11_causeByTime_51 (k := ?_)
      cases H
      exact ev_ireturn dX11_causeByTime_52
    · rw [if_pos hc] at H
      refine ev_iconst dX11_causeByTime_47 (k := ?_)
      refine ev_goto 52 dX11_causeByTime_48 (k := ?_)
      cases H
      exact ev_ireturn dX11_causeByTime_52
  · rw [if_neg hs0] at H
    by_cases hs1 : h.1 0 a1 9 = 1
    · rw [if_pos hs1] at H
      refine ev_tableIn (off := 49) 53 dX11_causeByTime_4 (by omega) (by omega) (by rw [hs1]; rfl) (k := ?_)
      refine ev_iload_n 2 dX11_causeByTime_53 (k := ?_)
      refine ev_sipush dX11_causeByTime_54 (k := ?_)
      refine ev_icmpne 65 dX11_causeByTime_57 (kt := fun hc => ?_) (kf := fun hc => ?_)
      · rw [if_neg hc] at H
        refine ev_iconst dX11_causeByTime_65 (k := ?_)
        cases H
        exact ev_ireturn dX11_causeByTime_66
      · rw [if_pos hc] at H
        refine ev_bipush dX11_causeByTime_60 (k := ?_)
        refine ev_goto 66 dX11_causeByTime_62 (k := ?_)
        cases H
        exact ev_ireturn dX11_causeByTime_66
    · rw [if_neg hs1] at H
      by_cases hs2 : h.1 0 a1 9 = 3
      · rw [if_pos hs2] at H
        refine ev_tableIn (off := 76) 80 dX11_causeByTime_4 (by omega) (by omega) (by rw [hs2]; rfl) (k := ?_)
        refine ev_aload_n 0 dX11_causeByTime_80 (k := ?_)
        refine ev_getR (t := 3) (x := some (3, 0)) fl_X11_30 dX11_causeByTime_81 (hx := ry_11_5 _ _) (K := ?_)
        refine ev_aload_n 1 dX11_causeByTime_84 (k := ?_)
        refine ev_iload_n 2 dX11_causeByTime_85 (k := ?_)
        obtain ⟨q2, hq, H⟩ := bd_e H
        refine ev_callV (mc := 0) (ms := 0) (st := []) (C3_isStep hq) md_X3_isStep im_X3_isStep se_X3_isStep ml_X11_540 dX11_causeByTime_86 _ (by decide) (K := ?_)
        refine ev_ifeq 108 dX11_causeByTime_89 (kt := fun hc => ?_) (kf := fun hc => ?_)
        · rw [if_pos hc] at H
          refine ev_lv [] [] (k := ?_)
          exact E11_causeByTime_108 q2.2 _ H
        · rw [if_neg hc] at H
          refine ev_aload_n 0 dX11_causeByTime_92 (k := ?_)
          refine ev_getR (t := 3) (x := some (3, 0)) fl_X11_30 dX11_causeByTime_93 (hx := ry_11_5 _ _) (K := ?_)
          refine ev_aload_n 1 dX11_causeByTime_96 (k := ?_)
          refine ev_iconst dX11_causeByTime_97 (k := ?_)
          refine ev_aload_n 0 dX11_causeByTime_98 (k := ?_)
          refine ev_getI (x := q2.2.1 11 0 10) fl_X11_177 dX11_causeByTime_99 (K := ?_)
          obtain ⟨q3, hq, H⟩ := bd_e H
          refine ev_callV (mc := 0) (ms := 0) (st := []) (C3_charge hq) md_X3_charge im_X3_charge se_X3_charge ml_X11_520 dX11_causeByTime_102 _ (by decide) (K := ?_)
          refine ev_ifeq 112 dX11_causeByTime_105 (kt := fun hc => ?_) (kf := fun hc => ?_)
          · rw [if_pos hc] at H
            refine ev_iconst dX11_causeByTime_112 (k := ?_)
            cases H
            exact ev_ireturn dX11_causeByTime_113
          · rw [if_neg hc] at H
            refine ev_lv [] [] (k := ?_)
            exact E11_causeByTime_108 q3.2 _ H
      · rw [if_neg hs2] at H
        by_cases hs3 : h.1 0 a1 9 = 4
        · rw [if_pos hs3] at H
          refine ev_tableIn (off := 63) 67 dX11_causeByTime_4 (by omega) (by omega) (by rw [hs3]; rfl) (k := ?_)
          refine ev_iload_n 2 dX11_causeByTime_67 (k := ?_)
          refine ev_sipush dX11_causeByTime_68 (k := ?_)
          refine ev_icmpne 78 dX11_causeByTime_71 (kt := fun hc => ?_) (kf := fun hc => ?_)
          · rw [if_neg hc] at H
            refine ev_iconst dX11_causeByTime_78 (k := ?_)
            cases H
            exact ev_ireturn dX11_causeByTime_79
          · rw [if_pos hc] at H
            refine ev_iconst dX11_causeByTime_74 (k := ?_)
            refine ev_goto 79 dX11_causeByTime_75 (k := ?_)
            cases H
            exact ev_ireturn dX11_causeByTime_79
        · rw [if_neg hs3] at H
          rcases (show (h.1 0 a1 9 < 0 ∨ 4 < h.1 0 a1 9) ∨ (h.1 0 a1 9 = 2) by omega) with hz | hz
          · refine ev_tableOut 114 dX11_causeByTime_4 hz (k := ?_)
            refine ev_iconst dX11_causeByTime_114 (k := ?_)
            cases H
            exact ev_ireturn dX11_causeByTime_115
          · refine ev_tableIn (off := 110) 114 dX11_causeByTime_4 (by omega) (by omega) (by rw [hz]; rfl) (k := ?_)
            refine ev_iconst dX11_causeByTime_114 (k := ?_)
            cases H
            exact ev_ireturn dX11_causeByTime_115
-- X11_ringNoMore
abbrev T11_ringNoMore : JT := (RX11, cX11_ringNoMore, 3, none, false)
set_option maxRecDepth 100000 in
set_option maxHeartbeats 4000000 in
theorem E11_ringNoMore_21 (l1 : Option Int) (l2 : Option Int) (h : JM) (res : JM) (H : F11_ringNoMore_21 l1 l2 h = some res) : Ev j_W1 1 0 0 T11_ringNoMore 21 [(1, .inr (.inr (Option.map (Prod.mk 0) (l1)))), (2, .inr (.inr (Option.map (Prod.mk 4) (l2))))] [] h none res := by
  unfold F11_ringNoMore_21 at H
  refine ev_aload_n 1 dX11_ringNoMore_21 (k := ?_)
  obtain ⟨a1, ea1, H⟩ := bd_e H
  rw [ea1]
  refine ev_getR (t := 0) (x := Option.map (Prod.mk 0) (h.2.2 4 a1 12)) fl_X11_213 dX11_ringNoMore_22 (hx := ry_4_12 _ _) (K := ?_)
  refine ev_aload_n 0 dX11_ringNoMore_25 (k := ?_)
  refine ev_acmpneK (h.2.2 4 a1 12) l1 34 dX11_ringNoMore_26 (kt := fun hc => ?_) (kf := fun hc => ?_)
  · rw [if_neg hc] at H
    cases H
    exact ev_return dX11_ringNoMore_34
  · rw [if_pos hc] at H
    refine ev_aload_n 1 dX11_ringNoMore_29 (k := ?_)
    refine ev_null dX11_ringNoMore_30 (k := ?_)
    obtain ⟨h2, eh2, H⟩ := lt_e H
    refine ev_putR (t := 0) j_ok1 none fl_X11_213 eh2 (hdg := dX11_ringNoMore_31) (hly := rl_4_12 _) (K := ?_)
    cases H
    exact ev_return dX11_ringNoMore_34
set_option maxRecDepth 100000 in
set_option maxHeartbeats 4000000 in
theorem C11_ringNoMore {l1 : Option Int} {l2 : Option Int} {h : JM} {res : JM} (H : F11_ringNoMore l1 l2 h = some res) : Cn j_W1 1 0 0 yX11_ringNoMore cX11_ringNoMore 3 none [.inr (.inr (some (11, 0))), .inr (.inr (Option.map (Prod.mk 0) (l1))), .inr (.inr (Option.map (Prod.mk 4) (l2)))] h none res := by
  refine Cn.by (own := RX11) (b := false) [(0, .inr (.inr (some (11, 0)))), (1, .inr (.inr (Option.map (Prod.mk 0) (l1)))), (2, .inr (.inr (Option.map (Prod.mk 4) (l2))))] rfl (fun z => by cases z) (by decide +kernel) (K := ?_)
  unfold F11_ringNoMore at H
  refine ev_aload_n 2 dX11_ringNoMore_0 (k := ?_)
  obtain ⟨a3, ea3, H⟩ := bd_e H
  rw [ea3]
  refine ev_getR (t := 0) (x := Option.map (Prod.mk 0) (h.2.2 4 a3 13)) fl_X11_432 dX11_ringNoMore_1 (hx := ry_4_13 _ _) (K := ?_)
  refine ev_aload_n 1 dX11_ringNoMore_4 (k := ?_)
  refine ev_acmpneK (h.2.2 4 a3 13) l1 21 dX11_ringNoMore_5 (kt := fun hc => ?_) (kf := fun hc => ?_)
  · rw [if_neg hc] at H
    refine ev_lv [1, 2] [(1, .inr (.inr (Option.map (Prod.mk 0) (l1)))), (2, .inr (.inr (some (4, a3))))] (k := ?_)
    exact E11_ringNoMore_21 l1 (some a3) h _ H
  · rw [if_pos hc] at H
    refine ev_aload_n 2 dX11_ringNoMore_8 (k := ?_)
    refine ev_null dX11_ringNoMore_9 (k := ?_)
    obtain ⟨h4, eh4, H⟩ := lt_e H
    refine ev_putR (t := 0) j_ok1 none fl_X11_432 eh4 (hdg := dX11_ringNoMore_10) (hly := rl_4_13 _) (K := ?_)
    refine ev_aload_n 2 dX11_ringNoMore_13 (k := ?_)
    refine ev_aload_n 0 dX11_ringNoMore_14 (k := ?_)
    refine ev_getI (x := h4.1 11 0 10) fl_X11_177 dX11_ringNoMore_15 (K := ?_)
    obtain ⟨h5, eh5, H⟩ := lt_e H
    refine ev_putI j_ok1 fl_X11_438 eh5 dX11_ringNoMore_18 (K := ?_)
    refine ev_lv [1, 2] [(1, .inr (.inr (Option.map (Prod.mk 0) (l1)))), (2, .inr (.inr (some (4, a3))))] (k := ?_)
    exact E11_ringNoMore_21 l1 (some a3) h5 _ H
-- X11_tellEnd
abbrev T11_tellEnd : JT := (RX11, cX11_tellEnd, 5, none, false)
set_option maxRecDepth 100000 in
set_option maxHeartbeats 4000000 in
theorem E11_tellEnd_44 (l1 : Option Int) (l3 : Option Int) (l4 : Int) (h : JM) (res : JM) (H : F11_tellEnd_44 l1 l3 l4 h = some res) : Ev j_W1 2 0 0 T11_tellEnd 44 [(1, .inr (.inr (Option.map (Prod.mk 0) (l1)))), (3, .inr (.inr (Option.map (Prod.mk 8) (l3)))), (4, .inl (l4))] [] h none res := by
  unfold F11_tellEnd_44 at H
  refine ev_aload_n 1 dX11_tellEnd_44 (k := ?_)
  refine ev_nullK l3 79 dX11_tellEnd_45 (kt := fun hc => ?_) (kf := fun hc => ?_)
  · rw [if_pos hc] at H
    cases H
    exact ev_return dX11_tellEnd_79
  · rw [if_neg hc] at H
    refine ev_aload_n 1 dX11_tellEnd_48 (k := ?_)
    refine ev_iconst dX11_tellEnd_49 (k := ?_)
    obtain ⟨a1, ea1, H⟩ := bd_e H
    rw [ea1]
    obtain ⟨h2, eh2, H⟩ := lt_e H
    refine ev_putI j_ok1 fl_X11_250 eh2 dX11_tellEnd_50 (K := ?_)
    refine ev_aload_n 1 dX11_tellEnd_53 (k := ?_)
    refine ev_null dX11_tellEnd_54 (k := ?_)
    obtain ⟨h3, eh3, H⟩ := lt_e H
    refine ev_putR (t := 0) j_ok1 none fl_X11_352 eh3 (hdg := dX11_tellEnd_55) (hly := rl_8_3 _) (K := ?_)
    refine ev_aload_n 0 dX11_tellEnd_58 (k := ?_)
    obtain ⟨a4, ea4, H⟩ := bd_e H
    rw [ea4]
    refine ev_getR (t := 1) (x := Option.map (Prod.mk 1) (h3.2.2 0 a4 0)) fl_X11_444 dX11_tellEnd_59 (hx := ry_0_0 _ _) (K := ?_)
    obtain ⟨a5, ea5, H⟩ := bd_e H
    rw [ea5]
    refine ev_getR (t := 5) (x := some (5, a5)) fl_X11_261 dX11_tellEnd_62 (hx := ry_1_7 _ _) (K := ?_)
    refine ev_iconst dX11_tellEnd_65 (k := ?_)
    refine ev_aload_n 1 dX11_tellEnd_66 (k := ?_)
    refine ev_getI (x := h3.1 8 a1 0) fl_X11_320 dX11_tellEnd_67 (K := ?_)
    refine ev_iload 2 dX11_tellEnd_70 (k := ?_)
    refine ev_i2l dX11_tellEnd_72 (k := ?_)
    obtain ⟨q6, hq, H⟩ := bd_e H
    refine ev_callS (mc := 0) (ms := 0) (st := [.inr (.inr (some (5, a5)))]) (C9_pack hq) md_X9_pack ss_X9_pack ml_X11_404 dX11_tellEnd_73 _ (by decide) (K := ?_)
    obtain ⟨h7, hq, H⟩ := bd_e H
    refine ev_callV (mc := 0) (ms := 0) (st := []) (C5_post hq) md_X5_post im_X5_post se_X5_post ml_X11_408 dX11_tellEnd_76 _ (by decide) (K := ?_)
    cases H
    exact ev_return dX11_tellEnd_79
set_option maxRecDepth 100000 in
set_option maxHeartbeats 4000000 in
theorem E11_tellEnd_41 (l1 : Option Int) (l3 : Option Int) (l4 : Int) (s0 : Option Int) (s1 : Int) (h : JM) (res : JM) (H : F11_tellEnd_41 l1 l3 l4 s0 s1 h = some res) : Ev j_W1 2 0 0 T11_tellEnd 41 [(1, .inr (.inr (Option.map (Prod.mk 0) (l1)))), (3, .inr (.inr (Option.map (Prod.mk 8) (l3)))), (4, .inl (l4))] [.inl (s1), .inr (.inr (Option.map (Prod.mk 4) (s0)))] h none res := by
  unfold F11_tellEnd_41 at H
  obtain ⟨a8, ea8, H⟩ := bd_e H
  rw [ea8]
  obtain ⟨h9, eh9, H⟩ := lt_e H
  refine ev_putI j_ok1 fl_X11_435 eh9 dX11_tellEnd_41 (K := ?_)
  exact E11_tellEnd_44 l1 l3 l4 h9 _ H
set_option maxRecDepth 100000 in
set_option maxHeartbeats 4000000 in
theorem C11_tellEnd {l1 : Option Int} {l2 : Option Int} {l3 : Option Int} {l4 : Int} {h : JM} {res : JM} (H : F11_tellEnd l1 l2 l3 l4 h = some res) : Cn j_W1 2 0 0 yX11_tellEnd cX11_tellEnd 5 none [.inr (.inr (some (11, 0))), .inr (.inr (Option.map (Prod.mk 0) (l1))), .inr (.inr (Option.map (Prod.mk 4) (l2))), .inr (.inr (Option.map (Prod.mk 8) (l3))), .inl (l4)] h none res := by
  refine Cn.by (own := RX11) (b := false) [(0, .inr (.inr (some (11, 0)))), (1, .inr (.inr (Option.map (Prod.mk 0) (l1)))), (2, .inr (.inr (Option.map (Prod.mk 4) (l2)))), (3, .inr (.inr (Option.map (Prod.mk 8) (l3)))), (4, .inl (l4))] rfl (fun z => by cases z) (by decide +kernel) (K := ?_)
  unfold F11_tellEnd at H
  refine ev_aload_n 2 dX11_tellEnd_0 (k := ?_)
  refine ev_nullK l2 44 dX11_tellEnd_1 (kt := fun hc => ?_) (kf := fun hc => ?_)
  · rw [if_pos hc] at H
    refine ev_lv [1, 3, 4] [(1, .inr (.inr (Option.map (Prod.mk 0) (l1)))), (3, .inr (.inr (Option.map (Prod.mk 8) (l3)))), (4, .inl (l4))] (k := ?_)
    exact E11_tellEnd_44 l1 l3 l4 h _ H
  · rw [if_neg hc] at H
    refine ev_aload_n 0 dX11_tellEnd_4 (k := ?_)
    refine ev_aload_n 1 dX11_tellEnd_5 (k := ?_)
    refine ev_aload_n 2 dX11_tellEnd_6 (k := ?_)
    obtain ⟨h10, hq, H⟩ := bd_e H
    refine ev_callV (mc := 0) (ms := 0) (st := []) (C11_ringNoMore hq) md_X11_ringNoMore im_X11_ringNoMore se_X11_ringNoMore ml_X11_530 dX11_tellEnd_7 _ (by decide) (K := ?_)
    refine ev_aload_n 2 dX11_tellEnd_10 (k := ?_)
    obtain ⟨a11, ea11, H⟩ := bd_e H
    rw [ea11]
    refine ev_getR (t := 0) (x := Option.map (Prod.mk 0) (h10.2.2 4 a11 11)) fl_X11_206 dX11_tellEnd_11 (hx := ry_4_11 _ _) (K := ?_)
    refine ev_aload_n 1 dX11_tellEnd_14 (k := ?_)
    refine ev_acmpneK (h10.2.2 4 a11 11) l1 44 dX11_tellEnd_15 (kt := fun hc => ?_) (kf := fun hc => ?_)
    · rw [if_neg hc] at H
      refine ev_lv [1, 3, 4] [(1, .inr (.inr (Option.map (Prod.mk 0) (l1)))), (3, .inr (.inr (Option.map (Prod.mk 8) (l3)))), (4, .inl (l4))] (k := ?_)
      exact E11_tellEnd_44 l1 l3 l4 h10 _ H
    · rw [if_pos hc] at H
      refine ev_aload_n 2 dX11_tellEnd_18 (k := ?_)
      refine ev_null dX11_tellEnd_19 (k := ?_)
      obtain ⟨h12, eh12, H⟩ := lt_e H
      refine ev_putR (t := 0) j_ok1 none fl_X11_206 eh12 (hdg := dX11_tellEnd_20) (hly := rl_4_11 _) (K := ?_)
      refine ev_aload_n 2 dX11_tellEnd_23 (k := ?_)
      refine ev_iload 4 dX11_tellEnd_24 (k := ?_)
      obtain ⟨h13, eh13, H⟩ := lt_e H
      refine ev_putI j_ok1 fl_X11_216 eh13 dX11_tellEnd_26 (K := ?_)
      refine ev_aload_n 2 dX11_tellEnd_29 (k := ?_)
      refine ev_iload 4 dX11_tellEnd_30 (k := ?_)
      refine ev_iconst dX11_tellEnd_32 (k := ?_)
      refine ev_icmpne 40 dX11_tellEnd_33 (kt := fun hc => ?_) (kf := fun hc => ?_)
      · rw [if_neg hc] at H
        refine ev_iconst dX11_tellEnd_40 (k := ?_)
        refine ev_lv [1, 3, 4] [(1, .inr (.inr (Option.map (Prod.mk 0) (l1)))), (3, .inr (.inr (Option.map (Prod.mk 8) (l3)))), (4, .inl (l4))] (k := ?_)
        exact E11_tellEnd_41 l1 l3 l4 (some a11) 3 h13 _ H
      · rw [if_pos hc] at H
        refine ev_iconst dX11_tellEnd_36 (k := ?_)
        refine ev_goto 41 dX11_tellEnd_37 (k := ?_)
        refine ev_lv [1, 3, 4] [(1, .inr (.inr (Option.map (Prod.mk 0) (l1)))), (3, .inr (.inr (Option.map (Prod.mk 8) (l3)))), (4, .inl (l4))] (k := ?_)
        exact E11_tellEnd_41 l1 l3 l4 (some a11) 4 h13 _ H
-- X11_end
abbrev T11_end : JT := (RX11, cX11_end, 4, none, false)
set_option maxRecDepth 100000 in
set_option maxHeartbeats 4000000 in
theorem E11_end_117 (l1 : Option Int) (h : JM) (res : JM) (H : F11_end_117 l1 h = some res) : Ev j_W1 3 0 0 T11_end 117 [(0, .inr (.inr (some (11, 0)))), (1, .inr (.inr (Option.map (Prod.mk 0) (l1))))] [] h none res := by
  unfold F11_end_117 at H
  refine ev_aload_n 1 dX11_end_117 (k := ?_)
  refine ev_iconst dX11_end_118 (k := ?_)
  obtain ⟨a1, ea1, H⟩ := bd_e H
  rw [ea1]
  obtain ⟨h2, eh2, H⟩ := lt_e H
  refine ev_putI j_ok1 fl_X11_210 eh2 dX11_end_119 (K := ?_)
  refine ev_aload_n 0 dX11_end_122 (k := ?_)
  refine ev_dup dX11_end_123 (k := ?_)
  refine ev_getI (x := h2.1 11 0 13) fl_X11_309 dX11_end_124 (K := ?_)
  refine ev_iconst dX11_end_127 (k := ?_)
  refine ev_isub dX11_end_128 (k := ?_)
  obtain ⟨h3, eh3, H⟩ := lt_e H
  refine ev_putI j_ok1 fl_X11_309 eh3 dX11_end_129 (K := ?_)
  cases H
  exact ev_return dX11_end_132
set_option maxRecDepth 100000 in
set_option maxHeartbeats 4000000 in
theorem E11_end_90 (l1 : Option Int) (h : JM) (res : JM) (H : F11_end_90 l1 h = some res) : Ev j_W1 3 0 0 T11_end 90 [(0, .inr (.inr (some (11, 0)))), (1, .inr (.inr (Option.map (Prod.mk 0) (l1))))] [] h none res := by
  unfold F11_end_90 at H
  refine ev_aload_n 1 dX11_end_90 (k := ?_)
  obtain ⟨a4, ea4, H⟩ := bd_e H
  rw [ea4]
  refine ev_getI (x := h.1 0 a4 9) fl_X11_210 dX11_end_91 (K := ?_)
  refine ev_iconst dX11_end_94 (k := ?_)
  refine ev_icmpne 117 dX11_end_95 (kt := fun hc => ?_) (kf := fun hc => ?_)
  · rw [if_neg hc] at H
    exact E11_end_117 (some a4) h _ H
  · rw [if_pos hc] at H
    refine ev_aload_n 1 dX11_end_98 (k := ?_)
    refine ev_getR (t := 4) (x := Option.map (Prod.mk 4) (h.2.2 0 a4 1)) fl_X11_223 dX11_end_99 (hx := ry_0_1 _ _) (K := ?_)
    refine ev_nullK (h.2.2 0 a4 1) 117 dX11_end_102 (kt := fun hc => ?_) (kf := fun hc => ?_)
    · rw [if_pos hc] at H
      exact E11_end_117 (some a4) h _ H
    · rw [if_neg hc] at H
      refine ev_aload_n 0 dX11_end_105 (k := ?_)
      refine ev_getR (t := 3) (x := some (3, 0)) fl_X11_30 dX11_end_106 (hx := ry_11_5 _ _) (K := ?_)
      refine ev_aload_n 1 dX11_end_109 (k := ?_)
      refine ev_aload_n 0 dX11_end_110 (k := ?_)
      refine ev_getI (x := h.1 11 0 10) fl_X11_177 dX11_end_111 (K := ?_)
      obtain ⟨h5, hq, H⟩ := bd_e H
      refine ev_callV (mc := 0) (ms := 0) (st := []) (C3_write hq) md_X3_write im_X3_write se_X3_write ml_X11_528 dX11_end_114 _ (by decide) (K := ?_)
      exact E11_end_117 (some a4) h5 _ H
set_option maxRecDepth 100000 in
set_option maxHeartbeats 4000000 in
theorem E11_end_66 (l1 : Option Int) (h : JM) (res : JM) (H : F11_end_66 l1 h = some res) : Ev j_W1 3 0 0 T11_end 66 [(0, .inr (.inr (some (11, 0)))), (1, .inr (.inr (Option.map (Prod.mk 0) (l1))))] [] h none res := by
  unfold F11_end_66 at H
  refine ev_aload_n 1 dX11_end_66 (k := ?_)
  obtain ⟨a6, ea6, H⟩ := bd_e H
  rw [ea6]
  refine ev_getI (x := h.1 0 a6 6) fl_X11_234 dX11_end_67 (K := ?_)
  refine ev_iconst dX11_end_70 (k := ?_)
  refine ev_icmpeq 90 dX11_end_71 (kt := fun hc => ?_) (kf := fun hc => ?_)
  · rw [if_pos hc] at H
    exact E11_end_90 (some a6) h _ H
  · rw [if_neg hc] at H
    refine ev_aload_n 1 dX11_end_74 (k := ?_)
    refine ev_getR (t := 1) (x := Option.map (Prod.mk 1) (h.2.2 0 a6 0)) fl_X11_444 dX11_end_75 (hx := ry_0_0 _ _) (K := ?_)
    obtain ⟨a7, ea7, H⟩ := bd_e H
    rw [ea7]
    refine ev_getR (t := 23) (x := some (23, a7)) fl_X11_257 dX11_end_78 (hx := ry_1_5 _ _) (K := ?_)
    refine ev_aload_n 1 dX11_end_81 (k := ?_)
    refine ev_getI (x := h.1 0 a6 6) fl_X11_234 dX11_end_82 (K := ?_)
    refine ev_dup2 dX11_end_85 (k := ?_)
    obtain ⟨⟨hi0, hi1⟩, H⟩ := g_e H
    refine ev_iaload (k := 23) hi0 hi1 dX11_end_86 (hc := ac_23) (hlen := ln_23 _ _) (K := ?_)
    refine ev_iconst dX11_end_87 (k := ?_)
    refine ev_isub dX11_end_88 (k := ?_)
    obtain ⟨⟨hi0, hi1⟩, H⟩ := g_e H
    obtain ⟨h8, eh8, H⟩ := lt_e H
    refine ev_iastore (k := 23) j_ok1 hi0 hi1 eh8 dX11_end_89 (hc := ac_23) (hlen := ln_23 _ _) (K := ?_)
    exact E11_end_90 (some a6) h8 _ H
set_option maxRecDepth 100000 in
set_option maxHeartbeats 4000000 in
theorem E11_end_38 (l1 : Option Int) (h : JM) (res : JM) (H : F11_end_38 l1 h = some res) : Ev j_W1 3 0 0 T11_end 38 [(0, .inr (.inr (some (11, 0)))), (1, .inr (.inr (Option.map (Prod.mk 0) (l1))))] [] h none res := by
  unfold F11_end_38 at H
  refine ev_aload_n 1 dX11_end_38 (k := ?_)
  obtain ⟨a9, ea9, H⟩ := bd_e H
  rw [ea9]
  refine ev_getI (x := h.1 0 a9 9) fl_X11_210 dX11_end_39 (K := ?_)
  refine ev_iconst dX11_end_42 (k := ?_)
  refine ev_icmpne 66 dX11_end_43 (kt := fun hc => ?_) (kf := fun hc => ?_)
  · rw [if_neg hc] at H
    exact E11_end_66 (some a9) h _ H
  · rw [if_pos hc] at H
    refine ev_aload_n 1 dX11_end_46 (k := ?_)
    refine ev_getR (t := 2) (x := Option.map (Prod.mk 2) (h.2.2 0 a9 5)) fl_X11_495 dX11_end_47 (hx := ry_0_5 _ _) (K := ?_)
    refine ev_nullK (h.2.2 0 a9 5) 66 dX11_end_50 (kt := fun hc => ?_) (kf := fun hc => ?_)
    · rw [if_pos hc] at H
      exact E11_end_66 (some a9) h _ H
    · rw [if_neg hc] at H
      refine ev_aload_n 1 dX11_end_53 (k := ?_)
      refine ev_getR (t := 2) (x := Option.map (Prod.mk 2) (h.2.2 0 a9 5)) fl_X11_495 dX11_end_54 (hx := ry_0_5 _ _) (K := ?_)
      refine ev_dup dX11_end_57 (k := ?_)
      obtain ⟨a10, ea10, H⟩ := bd_e H
      rw [ea10]
      refine ev_getI (x := h.1 2 a10 3) fl_X11_254 dX11_end_58 (K := ?_)
      refine ev_iconst dX11_end_61 (k := ?_)
      refine ev_isub dX11_end_62 (k := ?_)
      obtain ⟨h11, eh11, H⟩ := lt_e H
      refine ev_putI j_ok1 fl_X11_254 eh11 dX11_end_63 (K := ?_)
      exact E11_end_66 (some a9) h11 _ H
set_option maxRecDepth 100000 in
set_option maxHeartbeats 4000000 in
theorem E11_end_19 (l1 : Option Int) (l2 : Int) (l3 : Int) (h : JM) (res : JM) (H : F11_end_19 l1 l2 l3 h = some res) : Ev j_W1 3 0 0 T11_end 19 [(0, .inr (.inr (some (11, 0)))), (1, .inr (.inr (Option.map (Prod.mk 0) (l1)))), (2, .inl (l2)), (3, .inl (l3))] [] h none res := by
  unfold F11_end_19 at H
  refine ev_iload_n 3 dX11_end_19 (k := ?_)
  refine ev_iconst dX11_end_20 (k := ?_)
  refine ev_icmpeq 38 dX11_end_21 (kt := fun hc => ?_) (kf := fun hc => ?_)
  · rw [if_pos hc] at H
    refine ev_lv [0, 1] [(0, .inr (.inr (some (11, 0)))), (1, .inr (.inr (Option.map (Prod.mk 0) (l1))))] (k := ?_)
    exact E11_end_38 l1 h _ H
  · rw [if_neg hc] at H
    refine ev_aload_n 0 dX11_end_24 (k := ?_)
    refine ev_aload_n 1 dX11_end_25 (k := ?_)
    refine ev_aload_n 1 dX11_end_26 (k := ?_)
    obtain ⟨a12, ea12, H⟩ := bd_e H
    rw [ea12]
    refine ev_getR (t := 4) (x := Option.map (Prod.mk 4) (h.2.2 0 a12 3)) fl_X11_237 dX11_end_27 (hx := ry_0_3 _ _) (K := ?_)
    refine ev_aload_n 1 dX11_end_30 (k := ?_)
    refine ev_getR (t := 8) (x := Option.map (Prod.mk 8) (h.2.2 0 a12 4)) fl_X11_240 dX11_end_31 (hx := ry_0_4 _ _) (K := ?_)
    refine ev_iload_n 2 dX11_end_34 (k := ?_)
    obtain ⟨h13, hq, H⟩ := bd_e H
    refine ev_callV (mc := 0) (ms := 0) (st := []) (C11_tellEnd hq) md_X11_tellEnd im_X11_tellEnd se_X11_tellEnd ml_X11_524 dX11_end_35 _ (by decide) (K := ?_)
    refine ev_lv [0, 1] [(0, .inr (.inr (some (11, 0)))), (1, .inr (.inr (some (0, a12))))] (k := ?_)
    exact E11_end_38 (some a12) h13 _ H
set_option maxRecDepth 100000 in
set_option maxHeartbeats 4000000 in
theorem C11_end {l1 : Option Int} {l2 : Int} {l3 : Int} {h : JM} {res : JM} (H : F11_end l1 l2 l3 h = some res) : Cn j_W1 3 0 0 yX11_end cX11_end 4 none [.inr (.inr (some (11, 0))), .inr (.inr (Option.map (Prod.mk 0) (l1))), .inl (l2), .inl (l3)] h none res := by
  refine Cn.by (own := RX11) (b := false) [(0, .inr (.inr (some (11, 0)))), (1, .inr (.inr (Option.map (Prod.mk 0) (l1)))), (2, .inl (l2)), (3, .inl (l3))] rfl (fun z => by cases z) (by decide +kernel) (K := ?_)
  unfold F11_end at H
  refine ev_iload_n 3 dX11_end_0 (k := ?_)
  refine ev_iconst dX11_end_1 (k := ?_)
  refine ev_icmpeq 19 dX11_end_2 (kt := fun hc => ?_) (kf := fun hc => ?_)
  · rw [if_pos hc] at H
    exact E11_end_19 l1 l2 l3 h _ H
  · rw [if_neg hc] at H
    refine ev_aload_n 0 dX11_end_5 (k := ?_)
    refine ev_aload_n 1 dX11_end_6 (k := ?_)
    refine ev_aload_n 1 dX11_end_7 (k := ?_)
    obtain ⟨a14, ea14, H⟩ := bd_e H
    rw [ea14]
    refine ev_getR (t := 4) (x := Option.map (Prod.mk 4) (h.2.2 0 a14 1)) fl_X11_223 dX11_end_8 (hx := ry_0_1 _ _) (K := ?_)
    refine ev_aload_n 1 dX11_end_11 (k := ?_)
    refine ev_getR (t := 8) (x := Option.map (Prod.mk 8) (h.2.2 0 a14 2)) fl_X11_227 dX11_end_12 (hx := ry_0_2 _ _) (K := ?_)
    refine ev_iload_n 2 dX11_end_15 (k := ?_)
    obtain ⟨h15, hq, H⟩ := bd_e H
    refine ev_callV (mc := 0) (ms := 0) (st := []) (C11_tellEnd hq) md_X11_tellEnd im_X11_tellEnd se_X11_tellEnd ml_X11_524 dX11_end_16 _ (by decide) (K := ?_)
    exact E11_end_19 (some a14) l2 l3 h15 _ H
-- X11_findRowAnew
abbrev T11_findRowAnew : JT := (RX11, cX11_findRowAnew, 3, some .int, false)
set_option maxRecDepth 100000 in
set_option maxHeartbeats 4000000 in
theorem C11_findRowAnew {l1 : Option Int} {h : JM} {res : (Int × JM)} (H : F11_findRowAnew l1 h = some res) : Cn j_W1 3 0 0 yX11_findRowAnew cX11_findRowAnew 3 (some .int) [.inr (.inr (some (11, 0))), .inr (.inr (Option.map (Prod.mk 0) (l1)))] h (some (.inl res.1)) res.2 := by
  refine Cn.by (own := RX11) (b := false) [(0, .inr (.inr (some (11, 0)))), (1, .inr (.inr (Option.map (Prod.mk 0) (l1))))] rfl (fun z => by cases z) (by decide +kernel) (K := ?_)
  unfold F11_findRowAnew at H
  refine ev_aload_n 1 dX11_findRowAnew_0 (k := ?_)
  refine ev_dup dX11_findRowAnew_1 (k := ?_)
  obtain ⟨a1, ea1, H⟩ := bd_e H
  rw [ea1]
  refine ev_getI (x := h.1 0 a1 12) fl_X11_366 dX11_findRowAnew_2 (K := ?_)
  refine ev_iconst dX11_findRowAnew_5 (k := ?_)
  refine ev_iadd dX11_findRowAnew_6 (k := ?_)
  obtain ⟨h2, eh2, H⟩ := lt_e H
  refine ev_putI j_ok1 fl_X11_366 eh2 dX11_findRowAnew_7 (K := ?_)
  refine ev_aload_n 1 dX11_findRowAnew_10 (k := ?_)
  refine ev_getI (x := h2.1 0 a1 12) fl_X11_366 dX11_findRowAnew_11 (K := ?_)
  refine ev_iconst dX11_findRowAnew_14 (k := ?_)
  refine ev_icmple 20 dX11_findRowAnew_15 (kt := fun hc => ?_) (kf := fun hc => ?_)
  · rw [if_pos hc] at H
    refine ev_aload_n 1 dX11_findRowAnew_20 (k := ?_)
    refine ev_getR (t := 1) (x := Option.map (Prod.mk 1) (h2.2.2 0 a1 0)) fl_X11_444 dX11_findRowAnew_21 (hx := ry_0_0 _ _) (K := ?_)
    refine ev_aload_n 1 dX11_findRowAnew_24 (k := ?_)
    refine ev_getL (x := h2.2.1 0 a1 8) fl_X11_222 dX11_findRowAnew_25 (K := ?_)
    obtain ⟨a3, ea3, H⟩ := bd_e H
    rw [ea3]
    obtain ⟨q4, hq, H⟩ := bd_e H
    refine ev_callV (mc := 0) (ms := 0) (st := []) (C1_analyse hq) md_X1_analyse im_X1_analyse se_X1_analyse ml_X11_372 dX11_findRowAnew_28 _ (by decide) (K := ?_)
    refine ev_istore_n [(2, .inl (q4.1)), (0, .inr (.inr (some (11, 0)))), (1, .inr (.inr (some (0, a1))))] dX11_findRowAnew_31 (k := ?_)
    refine ev_iload_n 0 dX11_findRowAnew_32 (k := ?_)
    refine ev_ifge 38 dX11_findRowAnew_33 (kt := fun hc => ?_) (kf := fun hc => ?_)
    · rw [if_pos hc] at H
      refine ev_aload_n 2 dX11_findRowAnew_38 (k := ?_)
      refine ev_aload_n 2 dX11_findRowAnew_39 (k := ?_)
      refine ev_getR (t := 1) (x := Option.map (Prod.mk 1) (q4.2.2.2 0 a1 0)) fl_X11_444 dX11_findRowAnew_40 (hx := ry_0_0 _ _) (K := ?_)
      obtain ⟨a5, ea5, H⟩ := bd_e H
      rw [ea5]
      refine ev_getR (t := 22) (x := some (22, a5)) fl_X11_106 dX11_findRowAnew_43 (hx := ry_1_3 _ _) (K := ?_)
      refine ev_iload_n 0 dX11_findRowAnew_46 (k := ?_)
      obtain ⟨⟨hi0, hi1⟩, H⟩ := g_e H
      refine ev_aaload (k := 22) 6 (x := Option.map (Prod.mk 6) (q4.2.2.2 22 a5 q4.1)) hi0 hi1 dX11_findRowAnew_47 (hc := ac_22) (hlen := ln_22 _ _) (hx := rz_22 _ _ _) (K := ?_)
      obtain ⟨h6, eh6, H⟩ := lt_e H
      refine ev_putR (t := 6) j_ok1 (q4.2.2.2 22 a5 q4.1) fl_X11_379 eh6 (hdg := dX11_findRowAnew_48) (hly := rl_0_7 _) (K := ?_)
      refine ev_iconst dX11_findRowAnew_51 (k := ?_)
      cases H
      exact ev_ireturn dX11_findRowAnew_52
    · rw [if_neg hc] at H
      refine ev_iconst dX11_findRowAnew_36 (k := ?_)
      cases H
      exact ev_ireturn dX11_findRowAnew_37
  · rw [if_neg hc] at H
    refine ev_iconst dX11_findRowAnew_18 (k := ?_)
    cases H
    exact ev_ireturn dX11_findRowAnew_19
-- X11_withoutFirst
abbrev T11_withoutFirst : JT := (RX11, cX11_withoutFirst, 4, some .long, false)
set_option maxRecDepth 100000 in
set_option maxHeartbeats 4000000 in
theorem C11_withoutFirst {l0 : Int} {l2 : Int} {h : JM} {res : (Int × JM)} (H : F11_withoutFirst l0 l2 h = some res) : Cn j_W1 2 0 0 yX11_withoutFirst cX11_withoutFirst 4 (some .long) [.inr (.inl (l0)), .inl (l2)] h (some (.inr (.inl res.1))) res.2 := by
  refine Cn.by (own := RX11) (b := false) [(0, .inr (.inl (l0))), (2, .inl (l2))] rfl (fun z => by cases z) (by decide +kernel) (K := ?_)
  unfold F11_withoutFirst at H
  refine ev_lload_n 0 dX11_withoutFirst_0 (k := ?_)
  obtain ⟨q1, hq, H⟩ := bd_e H
  refine ev_callS (mc := 0) (ms := 0) (st := []) (C11_countOf hq) md_X11_countOf ss_X11_countOf ml_X11_83 dX11_withoutFirst_1 _ (by decide) (K := ?_)
  refine ev_istore_n [(3, .inl (q1.1)), (0, .inr (.inl (l0))), (2, .inl (l2))] dX11_withoutFirst_4 (k := ?_)
  refine ev_iload_n 2 dX11_withoutFirst_5 (k := ?_)
  refine ev_iload_n 0 dX11_withoutFirst_6 (k := ?_)
  refine ev_icmplt 12 dX11_withoutFirst_7 (kt := fun hc => ?_) (kf := fun hc => ?_)
  · rw [if_pos hc] at H
    refine ev_lload_n 1 dX11_withoutFirst_12 (k := ?_)
    refine ev_ldc2 (n := 281474976710655) cl_X11_321 dX11_withoutFirst_13 (k := ?_)
    refine ev_land dX11_withoutFirst_16 (k := ?_)
    refine ev_iconst dX11_withoutFirst_17 (k := ?_)
    refine ev_iload_n 2 dX11_withoutFirst_18 (k := ?_)
    refine ev_imul dX11_withoutFirst_19 (k := ?_)
    refine ev_lshr dX11_withoutFirst_20 (k := ?_)
    refine ev_iload_n 0 dX11_withoutFirst_21 (k := ?_)
    refine ev_iload_n 2 dX11_withoutFirst_22 (k := ?_)
    refine ev_isub dX11_withoutFirst_23 (k := ?_)
    refine ev_i2l dX11_withoutFirst_24 (k := ?_)
    refine ev_bipush dX11_withoutFirst_25 (k := ?_)
    refine ev_lshl dX11_withoutFirst_27 (k := ?_)
    refine ev_lor dX11_withoutFirst_28 (k := ?_)
    cases H
    exact ev_lreturn dX11_withoutFirst_29
  · rw [if_neg hc] at H
    refine ev_lconst (v := 0) dX11_withoutFirst_10 (k := ?_)
    cases H
    exact ev_lreturn dX11_withoutFirst_11
