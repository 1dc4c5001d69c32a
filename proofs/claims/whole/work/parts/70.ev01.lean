-- X3_charge
abbrev T3_charge : JT := (RX3, cX3_charge, 7, some .boolean, false)
set_option maxRecDepth 100000 in
set_option maxHeartbeats 4000000 in
theorem E3_charge_104 (l1 : Option Int) (l6 : Int) (h : JM) (res : (Int × JM)) (H : F3_charge_104 l1 l6 h = some res) : Ev j_W1 1 0 0 T3_charge 104 [(1, .inr (.inr (Option.map (Prod.mk 0) (l1)))), (6, .inl (l6))] [] h (some (.inl res.1)) res.2 := by
  unfold F3_charge_104 at H
  refine ev_aload_n 0 dX3_charge_104 (k := ?_)
  refine ev_dup dX3_charge_105 (k := ?_)
  obtain ⟨a1, ea1, H1⟩ := bd_e H
  clear H
  rw [ea1]
  refine ev_getI (x := h.1 0 a1 13) fl_X3_33 dX3_charge_106 (K := ?_)
  refine ev_iload 1 dX3_charge_109 (k := ?_)
  refine ev_iadd dX3_charge_111 (k := ?_)
  obtain ⟨h2, eh2, H2⟩ := lt_e H1
  clear H1
  refine ev_putI j_ok1 fl_X3_33 eh2 dX3_charge_112 (K := ?_)
  refine ev_iconst dX3_charge_115 (k := ?_)
  cases H2
  exact ev_zreturn (Or.inr rfl) dX3_charge_116
set_option maxRecDepth 100000 in
set_option maxHeartbeats 4000000 in
theorem E3_charge_71 (l1 : Option Int) (l4 : Option Int) (l6 : Int) (h : JM) (res : (Int × JM)) (H : F3_charge_71 l1 l4 l6 h = some res) : Ev j_W1 1 0 0 T3_charge 71 [(1, .inr (.inr (Option.map (Prod.mk 0) (l1)))), (4, .inr (.inr (Option.map (Prod.mk 4) (l4)))), (6, .inl (l6))] [] h (some (.inl res.1)) res.2 := by
  unfold F3_charge_71 at H
  refine ev_aload 1 dX3_charge_71 (k := ?_)
  obtain ⟨a3, ea3, H1⟩ := bd_e H
  clear H
  rw [ea3]
  refine ev_getI (x := h.1 4 a3 17) fl_X3_28 dX3_charge_73 (K := ?_)
  refine ev_iconst dX3_charge_76 (k := ?_)
  refine ev_icmpeq 104 dX3_charge_77 (kt := fun hc => ?_) (kf := fun hc => ?_)
  · replace H1 := if_pe hc H1
    refine ev_lv [0, 2] [(1, .inr (.inr (Option.map (Prod.mk 0) (l1)))), (6, .inl (l6))] (k := ?_)
    exact E3_charge_104 l1 l6 h _ H1
  · replace H1 := if_ne hc H1
    refine ev_aload 1 dX3_charge_80 (k := ?_)
    refine ev_getI (x := h.1 4 a3 17) fl_X3_28 dX3_charge_82 (K := ?_)
    refine ev_iload 2 dX3_charge_85 (k := ?_)
    refine ev_icmpge 92 dX3_charge_87 (kt := fun hc => ?_) (kf := fun hc => ?_)
    · replace H1 := if_pe hc H1
      refine ev_aload 1 dX3_charge_92 (k := ?_)
      refine ev_dup dX3_charge_94 (k := ?_)
      refine ev_getI (x := h.1 4 a3 17) fl_X3_28 dX3_charge_95 (K := ?_)
      refine ev_iload 2 dX3_charge_98 (k := ?_)
      refine ev_isub dX3_charge_100 (k := ?_)
      obtain ⟨h4, eh4, H2⟩ := lt_e H1
      clear H1
      refine ev_putI j_ok1 fl_X3_28 eh4 dX3_charge_101 (K := ?_)
      refine ev_lv [0, 2] [(1, .inr (.inr (Option.map (Prod.mk 0) (l1)))), (6, .inl (l6))] (k := ?_)
      exact E3_charge_104 l1 l6 h4 _ H2
    · replace H1 := if_ne hc H1
      refine ev_iconst dX3_charge_90 (k := ?_)
      cases H1
      exact ev_zreturn (Or.inl rfl) dX3_charge_91
set_option maxRecDepth 100000 in
set_option maxHeartbeats 4000000 in
theorem E3_charge_53 (l1 : Option Int) (l2 : Int) (l4 : Option Int) (l5 : Int) (s0 : Int) (h : JM) (res : (Int × JM)) (H : F3_charge_53 l1 l2 l4 l5 s0 h = some res) : Ev j_W1 1 0 0 T3_charge 53 [(0, .inr (.inr (some (3, 0)))), (1, .inr (.inr (Option.map (Prod.mk 0) (l1)))), (2, .inl (l2)), (4, .inr (.inr (Option.map (Prod.mk 4) (l4)))), (5, .inl (l5))] [.inl (s0)] h (some (.inl res.1)) res.2 := by
  unfold F3_charge_53 at H
  refine ev_istore [(6, .inl (s0)), (0, .inr (.inr (some (3, 0)))), (1, .inr (.inr (Option.map (Prod.mk 0) (l1)))), (2, .inl (l2)), (4, .inr (.inr (Option.map (Prod.mk 4) (l4)))), (5, .inl (l5))] dX3_charge_53 (k := ?_)
  refine ev_iload_n 3 dX3_charge_55 (k := ?_)
  refine ev_ifeq 71 dX3_charge_56 (kt := fun hc => ?_) (kf := fun hc => ?_)
  · replace H := if_pe hc H
    refine ev_lv [2, 4, 0] [(1, .inr (.inr (Option.map (Prod.mk 0) (l1)))), (4, .inr (.inr (Option.map (Prod.mk 4) (l4)))), (6, .inl (s0))] (k := ?_)
    exact E3_charge_71 l1 l4 s0 h _ H
  · replace H := if_ne hc H
    refine ev_iload 0 dX3_charge_59 (k := ?_)
    refine ev_aload_n 1 dX3_charge_61 (k := ?_)
    refine ev_getR (t := 26) (x := some (26, 0)) fl_X3_9 dX3_charge_62 (hx := ry_3_0 _ _) (K := ?_)
    refine ev_iload 5 dX3_charge_65 (k := ?_)
    obtain ⟨⟨hi0, hi1⟩, H1⟩ := g_e H
    clear H
    refine ev_iaload (k := 26) hi0 hi1 dX3_charge_67 (hc := ac_26) (hlen := ln_26 _ _) (K := ?_)
    refine ev_iadd dX3_charge_68 (k := ?_)
    obtain ⟨x5, ex5, H2⟩ := lt_e H1
    clear H1
    refine ev_topI ex5 ?_
    refine ev_istore [(6, .inl (x5)), (0, .inr (.inr (some (3, 0)))), (1, .inr (.inr (Option.map (Prod.mk 0) (l1)))), (2, .inl (l2)), (4, .inr (.inr (Option.map (Prod.mk 4) (l4)))), (5, .inl (l5))] dX3_charge_69 (k := ?_)
    refine ev_lv [2, 4, 0] [(1, .inr (.inr (Option.map (Prod.mk 0) (l1)))), (4, .inr (.inr (Option.map (Prod.mk 4) (l4)))), (6, .inl (x5))] (k := ?_)
    exact E3_charge_71 l1 l4 x5 h _ H2
set_option maxRecDepth 100000 in
set_option maxHeartbeats 4000000 in
theorem C3_charge {l1 : Option Int} {l2 : Int} {l3 : Int} {h : JM} {res : (Int × JM)} (H : F3_charge l1 l2 l3 h = some res) : Cn j_W1 1 0 0 yX3_charge cX3_charge 7 (some .boolean) [.inr (.inr (some (3, 0))), .inr (.inr (Option.map (Prod.mk 0) (l1))), .inl (l2), .inl (l3)] h (some (.inl res.1)) res.2 := by
  refine Cn.by (own := RX3) (b := false) [(0, .inr (.inr (some (3, 0)))), (1, .inr (.inr (Option.map (Prod.mk 0) (l1)))), (2, .inl (l2)), (3, .inl (l3))] rfl (fun z => by cases z) (by decide +kernel) (K := ?_)
  unfold F3_charge at H
  refine ev_aload_n 1 dX3_charge_0 (k := ?_)
  obtain ⟨a6, ea6, H1⟩ := bd_e H
  clear H
  rw [ea6]
  refine ev_getR (t := 4) (x := Option.map (Prod.mk 4) (h.2.2 0 a6 1)) fl_X3_24 dX3_charge_1 (hx := ry_0_1 _ _) (K := ?_)
  refine ev_astore [(4, .inr (.inr (Option.map (Prod.mk 4) (h.2.2 0 a6 1)))), (0, .inr (.inr (some (3, 0)))), (1, .inr (.inr (some (0, a6)))), (2, .inl (l2)), (3, .inl (l3))] dX3_charge_4 (k := ?_)
  refine ev_aload 0 dX3_charge_6 (k := ?_)
  refine ev_nonnullK (h.2.2 0 a6 1) 13 dX3_charge_8 (kt := fun hc => ?_) (kf := fun hc => ?_)
  · replace H1 := if_ne hc H1
    refine ev_aload_n 2 dX3_charge_13 (k := ?_)
    refine ev_getI (x := h.1 0 a6 11) fl_X3_18 dX3_charge_14 (K := ?_)
    refine ev_iconst dX3_charge_17 (k := ?_)
    refine ev_imul dX3_charge_18 (k := ?_)
    obtain ⟨x7, ex7, H2⟩ := lt_e H1
    clear H1
    refine ev_topI ex7 ?_
    refine ev_istore [(5, .inl (x7)), (4, .inr (.inr (Option.map (Prod.mk 4) (h.2.2 0 a6 1)))), (0, .inr (.inr (some (3, 0)))), (1, .inr (.inr (some (0, a6)))), (2, .inl (l2)), (3, .inl (l3))] dX3_charge_19 (k := ?_)
    refine ev_iload_n 5 dX3_charge_21 (k := ?_)
    refine ev_sipush dX3_charge_22 (k := ?_)
    refine ev_irem dX3_charge_25 (by decide) (k := ?_)
    refine ev_sipush dX3_charge_26 (k := ?_)
    refine ev_icmpge 44 dX3_charge_29 (kt := fun hc => ?_) (kf := fun hc => ?_)
    · replace H2 := if_pe hc H2
      refine ev_aload_n 2 dX3_charge_44 (k := ?_)
      refine ev_getR (t := 26) (x := some (26, 0)) fl_X3_9 dX3_charge_45 (hx := ry_3_0 _ _) (K := ?_)
      refine ev_iload 0 dX3_charge_48 (k := ?_)
      refine ev_iconst dX3_charge_50 (k := ?_)
      refine ev_iadd dX3_charge_51 (k := ?_)
      obtain ⟨⟨hi0, hi1⟩, H3⟩ := g_e H2
      clear H2
      refine ev_iaload (k := 26) hi0 hi1 dX3_charge_52 (hc := ac_26) (hlen := ln_26 _ _) (K := ?_)
      refine ev_lv [2, 3, 4, 1, 0] [(0, .inr (.inr (some (3, 0)))), (1, .inr (.inr (some (0, a6)))), (2, .inl (l2)), (4, .inr (.inr (Option.map (Prod.mk 4) (h.2.2 0 a6 1)))), (5, .inl (x7))] (k := ?_)
      exact E3_charge_53 (some a6) l2 (h.2.2 0 a6 1) x7 (h.1 26 0 (w32 (x7 + 2))) h _ H3
    · replace H2 := if_ne hc H2
      refine ev_aload_n 2 dX3_charge_32 (k := ?_)
      refine ev_getR (t := 26) (x := some (26, 0)) fl_X3_9 dX3_charge_33 (hx := ry_3_0 _ _) (K := ?_)
      refine ev_iload 0 dX3_charge_36 (k := ?_)
      refine ev_iconst dX3_charge_38 (k := ?_)
      refine ev_iadd dX3_charge_39 (k := ?_)
      obtain ⟨⟨hi0, hi1⟩, H3⟩ := g_e H2
      clear H2
      refine ev_iaload (k := 26) hi0 hi1 dX3_charge_40 (hc := ac_26) (hlen := ln_26 _ _) (K := ?_)
      refine ev_goto 53 dX3_charge_41 (k := ?_)
      refine ev_lv [2, 3, 4, 1, 0] [(0, .inr (.inr (some (3, 0)))), (1, .inr (.inr (some (0, a6)))), (2, .inl (l2)), (4, .inr (.inr (Option.map (Prod.mk 4) (h.2.2 0 a6 1)))), (5, .inl (x7))] (k := ?_)
      exact E3_charge_53 (some a6) l2 (h.2.2 0 a6 1) x7 (h.1 26 0 (w32 (x7 + 3))) h _ H3
  · replace H1 := if_pe hc H1
    refine ev_iconst dX3_charge_11 (k := ?_)
    cases H1
    exact ev_zreturn (Or.inr rfl) dX3_charge_12
-- X3_isStep
abbrev T3_isStep : JT := (RX3, cX3_isStep, 4, some .boolean, false)
set_option maxRecDepth 100000 in
set_option maxHeartbeats 4000000 in
theorem E3_isStep_39 (h : JM) (res : (Int × JM)) (H : F3_isStep_39 h = some res) : Ev j_W1 1 0 0 T3_isStep 39 [] [] h (some (.inl res.1)) res.2 := by
  unfold F3_isStep_39 at H
  refine ev_iconst dX3_isStep_39 (k := ?_)
  cases H
  exact ev_zreturn (Or.inl rfl) dX3_isStep_40
set_option maxRecDepth 100000 in
set_option maxHeartbeats 4000000 in
theorem C3_isStep {l1 : Option Int} {l2 : Int} {h : JM} {res : (Int × JM)} (H : F3_isStep l1 l2 h = some res) : Cn j_W1 1 0 0 yX3_isStep cX3_isStep 4 (some .boolean) [.inr (.inr (some (3, 0))), .inr (.inr (Option.map (Prod.mk 0) (l1))), .inl (l2)] h (some (.inl res.1)) res.2 := by
  refine Cn.by (own := RX3) (b := false) [(0, .inr (.inr (some (3, 0)))), (1, .inr (.inr (Option.map (Prod.mk 0) (l1)))), (2, .inl (l2))] rfl (fun z => by cases z) (by decide +kernel) (K := ?_)
  unfold F3_isStep at H
  refine ev_aload_n 0 dX3_isStep_0 (k := ?_)
  refine ev_getR (t := 26) (x := some (26, 0)) fl_X3_9 dX3_isStep_1 (hx := ry_3_0 _ _) (K := ?_)
  refine ev_aload_n 1 dX3_isStep_4 (k := ?_)
  obtain ⟨a1, ea1, H1⟩ := bd_e H
  clear H
  rw [ea1]
  refine ev_getI (x := h.1 0 a1 11) fl_X3_18 dX3_isStep_5 (K := ?_)
  refine ev_iconst dX3_isStep_8 (k := ?_)
  refine ev_imul dX3_isStep_9 (k := ?_)
  refine ev_iconst dX3_isStep_10 (k := ?_)
  refine ev_iadd dX3_isStep_11 (k := ?_)
  obtain ⟨⟨hi0, hi1⟩, H2⟩ := g_e H1
  clear H1
  refine ev_iaload (k := 26) hi0 hi1 dX3_isStep_12 (hc := ac_26) (hlen := ln_26 _ _) (K := ?_)
  obtain ⟨x2, ex2, H3⟩ := lt_e H2
  clear H2
  refine ev_topI ex2 ?_
  refine ev_istore_n [(3, .inl (x2)), (0, .inr (.inr (some (3, 0)))), (1, .inr (.inr (some (0, a1)))), (2, .inl (l2))] dX3_isStep_13 (k := ?_)
  refine ev_aload_n 2 dX3_isStep_14 (k := ?_)
  refine ev_getR (t := 4) (x := Option.map (Prod.mk 4) (h.2.2 0 a1 1)) fl_X3_24 dX3_isStep_15 (hx := ry_0_1 _ _) (K := ?_)
  refine ev_nullK (h.2.2 0 a1 1) 39 dX3_isStep_18 (kt := fun hc => ?_) (kf := fun hc => ?_)
  · replace H3 := if_pe hc H3
    refine ev_lv [] [] (k := ?_)
    exact E3_isStep_39 h _ H3
  · replace H3 := if_ne hc H3
    refine ev_iload_n 3 dX3_isStep_21 (k := ?_)
    refine ev_ifle 39 dX3_isStep_22 (kt := fun hc => ?_) (kf := fun hc => ?_)
    · replace H3 := if_pe hc H3
      refine ev_lv [] [] (k := ?_)
      exact E3_isStep_39 h _ H3
    · replace H3 := if_ne hc H3
      refine ev_iload_n 0 dX3_isStep_25 (k := ?_)
      refine ev_ifle 39 dX3_isStep_26 (kt := fun hc => ?_) (kf := fun hc => ?_)
      · replace H3 := if_pe hc H3
        refine ev_lv [] [] (k := ?_)
        exact E3_isStep_39 h _ H3
      · replace H3 := if_ne hc H3
        refine ev_iload_n 3 dX3_isStep_29 (k := ?_)
        refine ev_iload_n 0 dX3_isStep_30 (k := ?_)
        obtain ⟨hne, H4⟩ := g_e H3
        clear H3
        refine ev_irem dX3_isStep_31 hne (k := ?_)
        refine ev_ifne 39 dX3_isStep_32 (kt := fun hc => ?_) (kf := fun hc => ?_)
        · replace H4 := if_ne hc H4
          refine ev_lv [] [] (k := ?_)
          exact E3_isStep_39 h _ H4
        · replace H4 := if_pe hc H4
          refine ev_iconst dX3_isStep_35 (k := ?_)
          refine ev_goto 40 dX3_isStep_36 (k := ?_)
          cases H4
          exact ev_zreturn (Or.inr rfl) dX3_isStep_40
-- X3_read
abbrev T3_read : JT := (RX3, cX3_read, 3, some .int, false)
set_option maxRecDepth 100000 in
set_option maxHeartbeats 4000000 in
theorem E3_read_24 (h : JM) (res : (Int × JM)) (H : F3_read_24 h = some res) : Ev j_W1 1 0 0 T3_read 24 [] [] h (some (.inl res.1)) res.2 := by
  unfold F3_read_24 at H
  refine ev_iconst dX3_read_24 (k := ?_)
  cases H
  exact ev_ireturn dX3_read_25
set_option maxRecDepth 100000 in
set_option maxHeartbeats 4000000 in
theorem C3_read {l1 : Int} {l2 : Int} {h : JM} {res : (Int × JM)} (H : F3_read l1 l2 h = some res) : Cn j_W1 1 0 0 yX3_read cX3_read 3 (some .int) [.inr (.inr (some (3, 0))), .inl (l1), .inl (l2)] h (some (.inl res.1)) res.2 := by
  refine Cn.by (own := RX3) (b := false) [(0, .inr (.inr (some (3, 0)))), (1, .inl (l1)), (2, .inl (l2))] rfl (fun z => by cases z) (by decide +kernel) (K := ?_)
  unfold F3_read at H
  refine ev_iload_n 1 dX3_read_0 (k := ?_)
  refine ev_iflt 24 dX3_read_1 (kt := fun hc => ?_) (kf := fun hc => ?_)
  · replace H := if_pe hc H
    refine ev_lv [] [] (k := ?_)
    exact E3_read_24 h _ H
  · replace H := if_ne hc H
    refine ev_iload_n 1 dX3_read_4 (k := ?_)
    refine ev_aload_n 0 dX3_read_5 (k := ?_)
    refine ev_getI (x := h.1 3 0 2) fl_X3_36 dX3_read_6 (K := ?_)
    refine ev_icmpge 24 dX3_read_9 (kt := fun hc => ?_) (kf := fun hc => ?_)
    · replace H := if_pe hc H
      refine ev_lv [] [] (k := ?_)
      exact E3_read_24 h _ H
    · replace H := if_ne hc H
      refine ev_iload_n 1 dX3_read_12 (k := ?_)
      refine ev_aload_n 0 dX3_read_13 (k := ?_)
      refine ev_getI (x := h.1 3 0 2) fl_X3_36 dX3_read_14 (K := ?_)
      refine ev_sipush dX3_read_17 (k := ?_)
      refine ev_isub dX3_read_20 (k := ?_)
      refine ev_icmpge 26 dX3_read_21 (kt := fun hc => ?_) (kf := fun hc => ?_)
      · replace H := if_pe hc H
        refine ev_aload_n 0 dX3_read_26 (k := ?_)
        refine ev_getR (t := 27) (x := some (27, 0)) fl_X3_15 dX3_read_27 (hx := ry_3_1 _ _) (K := ?_)
        refine ev_iload_n 1 dX3_read_30 (k := ?_)
        refine ev_sipush dX3_read_31 (k := ?_)
        refine ev_irem dX3_read_34 (by decide) (k := ?_)
        refine ev_iconst dX3_read_35 (k := ?_)
        refine ev_imul dX3_read_36 (k := ?_)
        refine ev_iload_n 2 dX3_read_37 (k := ?_)
        refine ev_iadd dX3_read_38 (k := ?_)
        obtain ⟨⟨hi0, hi1⟩, H1⟩ := g_e H
        clear H
        refine ev_iaload (k := 27) hi0 hi1 dX3_read_39 (hc := ac_27) (hlen := ln_27 _ _) (K := ?_)
        cases H1
        exact ev_ireturn dX3_read_40
      · replace H := if_ne hc H
        refine ev_lv [] [] (k := ?_)
        exact E3_read_24 h _ H
-- X3_setTariff
abbrev T3_setTariff : JT := (RX3, cX3_setTariff, 7, none, false)
set_option maxRecDepth 100000 in
set_option maxHeartbeats 4000000 in
theorem C3_setTariff {l1 : Int} {l2 : Int} {l3 : Int} {l4 : Int} {l5 : Int} {h : JM} {res : JM} (H : F3_setTariff l1 l2 l3 l4 l5 h = some res) : Cn j_W1 1 0 0 yX3_setTariff cX3_setTariff 7 none [.inr (.inr (some (3, 0))), .inl (l1), .inl (l2), .inl (l3), .inl (l4), .inl (l5)] h none res := by
  refine Cn.by (own := RX3) (b := false) [(0, .inr (.inr (some (3, 0)))), (1, .inl (l1)), (2, .inl (l2)), (3, .inl (l3)), (4, .inl (l4)), (5, .inl (l5))] rfl (fun z => by cases z) (by decide +kernel) (K := ?_)
  unfold F3_setTariff at H
  refine ev_iload_n 1 dX3_setTariff_0 (k := ?_)
  refine ev_iconst dX3_setTariff_1 (k := ?_)
  refine ev_imul dX3_setTariff_2 (k := ?_)
  obtain ⟨x1, ex1, H1⟩ := lt_e H
  clear H
  refine ev_topI ex1 ?_
  refine ev_istore [(6, .inl (x1)), (0, .inr (.inr (some (3, 0)))), (1, .inl (l1)), (2, .inl (l2)), (3, .inl (l3)), (4, .inl (l4)), (5, .inl (l5))] dX3_setTariff_3 (k := ?_)
  refine ev_aload_n 1 dX3_setTariff_5 (k := ?_)
  refine ev_getR (t := 26) (x := some (26, 0)) fl_X3_9 dX3_setTariff_6 (hx := ry_3_0 _ _) (K := ?_)
  refine ev_iload 0 dX3_setTariff_9 (k := ?_)
  refine ev_iload_n 3 dX3_setTariff_11 (k := ?_)
  obtain ⟨⟨hi0, hi1⟩, H2⟩ := g_e H1
  clear H1
  obtain ⟨h2, eh2, H3⟩ := lt_e H2
  clear H2
  refine ev_iastore (k := 26) j_ok1 hi0 hi1 eh2 dX3_setTariff_12 (hc := ac_26) (hlen := ln_26 _ _) (K := ?_)
  refine ev_aload_n 1 dX3_setTariff_13 (k := ?_)
  refine ev_getR (t := 26) (x := some (26, 0)) fl_X3_9 dX3_setTariff_14 (hx := ry_3_0 _ _) (K := ?_)
  refine ev_iload 0 dX3_setTariff_17 (k := ?_)
  refine ev_iconst dX3_setTariff_19 (k := ?_)
  refine ev_iadd dX3_setTariff_20 (k := ?_)
  refine ev_iload_n 4 dX3_setTariff_21 (k := ?_)
  obtain ⟨⟨hi0, hi1⟩, H4⟩ := g_e H3
  clear H3
  obtain ⟨h3, eh3, H5⟩ := lt_e H4
  clear H4
  refine ev_iastore (k := 26) j_ok1 hi0 hi1 eh3 dX3_setTariff_22 (hc := ac_26) (hlen := ln_26 _ _) (K := ?_)
  refine ev_aload_n 1 dX3_setTariff_23 (k := ?_)
  refine ev_getR (t := 26) (x := some (26, 0)) fl_X3_9 dX3_setTariff_24 (hx := ry_3_0 _ _) (K := ?_)
  refine ev_iload 0 dX3_setTariff_27 (k := ?_)
  refine ev_iconst dX3_setTariff_29 (k := ?_)
  refine ev_iadd dX3_setTariff_30 (k := ?_)
  refine ev_iload 5 dX3_setTariff_31 (k := ?_)
  obtain ⟨⟨hi0, hi1⟩, H6⟩ := g_e H5
  clear H5
  obtain ⟨h4, eh4, H7⟩ := lt_e H6
  clear H6
  refine ev_iastore (k := 26) j_ok1 hi0 hi1 eh4 dX3_setTariff_33 (hc := ac_26) (hlen := ln_26 _ _) (K := ?_)
  refine ev_aload_n 1 dX3_setTariff_34 (k := ?_)
  refine ev_getR (t := 26) (x := some (26, 0)) fl_X3_9 dX3_setTariff_35 (hx := ry_3_0 _ _) (K := ?_)
  refine ev_iload 0 dX3_setTariff_38 (k := ?_)
  refine ev_iconst dX3_setTariff_40 (k := ?_)
  refine ev_iadd dX3_setTariff_41 (k := ?_)
  refine ev_iload 6 dX3_setTariff_42 (k := ?_)
  obtain ⟨⟨hi0, hi1⟩, H8⟩ := g_e H7
  clear H7
  obtain ⟨h5, eh5, H9⟩ := lt_e H8
  clear H8
  refine ev_iastore (k := 26) j_ok1 hi0 hi1 eh5 dX3_setTariff_44 (hc := ac_26) (hlen := ln_26 _ _) (K := ?_)
  cases H9
  exact ev_return dX3_setTariff_45
-- X3_write
abbrev T3_write : JT := (RX3, cX3_write, 4, none, false)
set_option maxRecDepth 100000 in
set_option maxHeartbeats 4000000 in
theorem E3_write_34 (l1 : Option Int) (l2 : Int) (l3 : Int) (s0 : Option Int) (s1 : Int) (s2 : Int) (h : JM) (res : JM) (H : F3_write_34 l1 l2 l3 s0 s1 s2 h = some res) : Ev j_W1 1 0 0 T3_write 34 [(0, .inr (.inr (some (3, 0)))), (1, .inr (.inr (Option.map (Prod.mk 0) (l1)))), (2, .inl (l2)), (3, .inl (l3))] [.inl (s2), .inl (s1), .inr (.inr (Option.map (Prod.mk 27) (s0)))] h none res := by
  unfold F3_write_34 at H
  obtain ⟨a1, ea1, H1⟩ := bd_e H
  clear H
  rw [ea1]
  obtain ⟨⟨hi0, hi1⟩, H2⟩ := g_e H1
  clear H1
  obtain ⟨h2, eh2, H3⟩ := lt_e H2
  clear H2
  refine ev_iastore (k := 27) j_ok1 hi0 hi1 eh2 dX3_write_34 (hc := ac_27) (hlen := ln_27 _ _) (K := ?_)
  refine ev_aload_n 0 dX3_write_35 (k := ?_)
  refine ev_getR (t := 27) (x := some (27, 0)) fl_X3_15 dX3_write_36 (hx := ry_3_1 _ _) (K := ?_)
  refine ev_iload_n 3 dX3_write_39 (k := ?_)
  refine ev_iconst dX3_write_40 (k := ?_)
  refine ev_iadd dX3_write_41 (k := ?_)
  refine ev_aload_n 1 dX3_write_42 (k := ?_)
  obtain ⟨a3, ea3, H4⟩ := bd_e H3
  clear H3
  rw [ea3]
  refine ev_getI (x := h2.1 0 a3 11) fl_X3_18 dX3_write_43 (K := ?_)
  obtain ⟨⟨hi0, hi1⟩, H5⟩ := g_e H4
  clear H4
  obtain ⟨h4, eh4, H6⟩ := lt_e H5
  clear H5
  refine ev_iastore (k := 27) j_ok1 hi0 hi1 eh4 dX3_write_46 (hc := ac_27) (hlen := ln_27 _ _) (K := ?_)
  refine ev_aload_n 0 dX3_write_47 (k := ?_)
  refine ev_getR (t := 27) (x := some (27, 0)) fl_X3_15 dX3_write_48 (hx := ry_3_1 _ _) (K := ?_)
  refine ev_iload_n 3 dX3_write_51 (k := ?_)
  refine ev_iconst dX3_write_52 (k := ?_)
  refine ev_iadd dX3_write_53 (k := ?_)
  refine ev_aload_n 1 dX3_write_54 (k := ?_)
  refine ev_getI (x := h4.1 0 a3 10) fl_X3_42 dX3_write_55 (K := ?_)
  obtain ⟨⟨hi0, hi1⟩, H7⟩ := g_e H6
  clear H6
  obtain ⟨h5, eh5, H8⟩ := lt_e H7
  clear H7
  refine ev_iastore (k := 27) j_ok1 hi0 hi1 eh5 dX3_write_58 (hc := ac_27) (hlen := ln_27 _ _) (K := ?_)
  refine ev_aload_n 0 dX3_write_59 (k := ?_)
  refine ev_getR (t := 27) (x := some (27, 0)) fl_X3_15 dX3_write_60 (hx := ry_3_1 _ _) (K := ?_)
  refine ev_iload_n 3 dX3_write_63 (k := ?_)
  refine ev_iconst dX3_write_64 (k := ?_)
  refine ev_iadd dX3_write_65 (k := ?_)
  refine ev_iload_n 2 dX3_write_66 (k := ?_)
  obtain ⟨⟨hi0, hi1⟩, H9⟩ := g_e H8
  clear H8
  obtain ⟨h6, eh6, H10⟩ := lt_e H9
  clear H9
  refine ev_iastore (k := 27) j_ok1 hi0 hi1 eh6 dX3_write_67 (hc := ac_27) (hlen := ln_27 _ _) (K := ?_)
  refine ev_aload_n 0 dX3_write_68 (k := ?_)
  refine ev_getR (t := 27) (x := some (27, 0)) fl_X3_15 dX3_write_69 (hx := ry_3_1 _ _) (K := ?_)
  refine ev_iload_n 3 dX3_write_72 (k := ?_)
  refine ev_iconst dX3_write_73 (k := ?_)
  refine ev_iadd dX3_write_74 (k := ?_)
  refine ev_aload_n 1 dX3_write_75 (k := ?_)
  refine ev_getI (x := h6.1 0 a3 13) fl_X3_33 dX3_write_76 (K := ?_)
  obtain ⟨⟨hi0, hi1⟩, H11⟩ := g_e H10
  clear H10
  obtain ⟨h7, eh7, H12⟩ := lt_e H11
  clear H11
  refine ev_iastore (k := 27) j_ok1 hi0 hi1 eh7 dX3_write_79 (hc := ac_27) (hlen := ln_27 _ _) (K := ?_)
  refine ev_aload_n 0 dX3_write_80 (k := ?_)
  refine ev_dup dX3_write_81 (k := ?_)
  refine ev_getI (x := h7.1 3 0 2) fl_X3_36 dX3_write_82 (K := ?_)
  refine ev_iconst dX3_write_85 (k := ?_)
  refine ev_iadd dX3_write_86 (k := ?_)
  obtain ⟨h8, eh8, H13⟩ := lt_e H12
  clear H12
  refine ev_putI j_ok1 fl_X3_36 eh8 dX3_write_87 (K := ?_)
  cases H13
  exact ev_return dX3_write_90
set_option maxRecDepth 100000 in
set_option maxHeartbeats 4000000 in
theorem C3_write {l1 : Option Int} {l2 : Int} {h : JM} {res : JM} (H : F3_write l1 l2 h = some res) : Cn j_W1 1 0 0 yX3_write cX3_write 4 none [.inr (.inr (some (3, 0))), .inr (.inr (Option.map (Prod.mk 0) (l1))), .inl (l2)] h none res := by
  refine Cn.by (own := RX3) (b := false) [(0, .inr (.inr (some (3, 0)))), (1, .inr (.inr (Option.map (Prod.mk 0) (l1)))), (2, .inl (l2))] rfl (fun z => by cases z) (by decide +kernel) (K := ?_)
  unfold F3_write at H
  refine ev_aload_n 0 dX3_write_0 (k := ?_)
  refine ev_getI (x := h.1 3 0 2) fl_X3_36 dX3_write_1 (K := ?_)
  refine ev_sipush dX3_write_4 (k := ?_)
  refine ev_irem dX3_write_7 (by decide) (k := ?_)
  refine ev_iconst dX3_write_8 (k := ?_)
  refine ev_imul dX3_write_9 (k := ?_)
  obtain ⟨x9, ex9, H1⟩ := lt_e H
  clear H
  refine ev_topI ex9 ?_
  refine ev_istore_n [(3, .inl (x9)), (0, .inr (.inr (some (3, 0)))), (1, .inr (.inr (Option.map (Prod.mk 0) (l1)))), (2, .inl (l2))] dX3_write_10 (k := ?_)
  refine ev_aload_n 1 dX3_write_11 (k := ?_)
  refine ev_getR (t := 27) (x := some (27, 0)) fl_X3_15 dX3_write_12 (hx := ry_3_1 _ _) (K := ?_)
  refine ev_iload_n 0 dX3_write_15 (k := ?_)
  refine ev_aload_n 2 dX3_write_16 (k := ?_)
  obtain ⟨a10, ea10, H2⟩ := bd_e H1
  clear H1
  rw [ea10]
  refine ev_getR (t := 4) (x := Option.map (Prod.mk 4) (h.2.2 0 a10 1)) fl_X3_24 dX3_write_17 (hx := ry_0_1 _ _) (K := ?_)
  refine ev_nonnullK (h.2.2 0 a10 1) 27 dX3_write_20 (kt := fun hc => ?_) (kf := fun hc => ?_)
  · replace H2 := if_ne hc H2
    refine ev_aload_n 2 dX3_write_27 (k := ?_)
    refine ev_getR (t := 4) (x := Option.map (Prod.mk 4) (h.2.2 0 a10 1)) fl_X3_24 dX3_write_28 (hx := ry_0_1 _ _) (K := ?_)
    obtain ⟨a11, ea11, H3⟩ := bd_e H2
    clear H2
    rw [ea11]
    refine ev_getI (x := h.1 4 a11 0) fl_X3_39 dX3_write_31 (K := ?_)
    refine ev_lv [1, 2, 3, 0] [(0, .inr (.inr (some (3, 0)))), (1, .inr (.inr (some (0, a10)))), (2, .inl (l2)), (3, .inl (x9))] (k := ?_)
    exact E3_write_34 (some a10) l2 x9 (some 0) x9 (h.1 4 a11 0) h _ H3
  · replace H2 := if_pe hc H2
    refine ev_iconst dX3_write_23 (k := ?_)
    refine ev_goto 34 dX3_write_24 (k := ?_)
    refine ev_lv [1, 2, 3, 0] [(0, .inr (.inr (some (3, 0)))), (1, .inr (.inr (some (0, a10)))), (2, .inl (l2)), (3, .inl (x9))] (k := ?_)
    exact E3_write_34 (some a10) l2 x9 (some 0) x9 (-1) h _ H2
-- X4_canTakeOther
abbrev T4_canTakeOther : JT := (RX4, cX4_canTakeOther, 1, some .boolean, false)
set_option maxRecDepth 100000 in
set_option maxHeartbeats 4000000 in
theorem E4_canTakeOther_38 (h : JM) (res : (Int × JM)) (H : F4_canTakeOther_38 h = some res) : Ev j_W1 1 0 0 T4_canTakeOther 38 [] [] h (some (.inl res.1)) res.2 := by
  unfold F4_canTakeOther_38 at H
  refine ev_iconst dX4_canTakeOther_38 (k := ?_)
  cases H
  exact ev_zreturn (Or.inl rfl) dX4_canTakeOther_39
set_option maxRecDepth 100000 in
set_option maxHeartbeats 4000000 in
theorem C4_canTakeOther {l0 : Int} {h : JM} {res : (Int × JM)} (H : F4_canTakeOther l0 h = some res) : Cn j_W1 1 0 0 yX4_canTakeOther cX4_canTakeOther 1 (some .boolean) [.inr (.inr (some (4, l0)))] h (some (.inl res.1)) res.2 := by
  refine Cn.by (own := RX4) (b := false) [(0, .inr (.inr (some (4, l0))))] rfl (fun z => by cases z) (by decide +kernel) (K := ?_)
  unfold F4_canTakeOther at H
  refine ev_aload_n 0 dX4_canTakeOther_0 (k := ?_)
  refine ev_getR (t := 28) (x := some (28, l0)) fl_X4_9 dX4_canTakeOther_1 (hx := ry_4_1 _ _) (K := ?_)
  refine ev_iconst dX4_canTakeOther_4 (k := ?_)
  obtain ⟨⟨hi0, hi1⟩, H1⟩ := g_e H
  clear H
  refine ev_zaload (k := 28) hi0 hi1 dX4_canTakeOther_5 (hc := ac_28) (hlen := ln_28 _ _) (K := ?_)
  refine ev_ifeq 38 dX4_canTakeOther_6 (kt := fun hc => ?_) (kf := fun hc => ?_)
  · replace H1 := if_pe hc H1
    refine ev_lv [] [] (k := ?_)
    exact E4_canTakeOther_38 h _ H1
  · replace H1 := if_ne hc H1
    refine ev_aload_n 0 dX4_canTakeOther_9 (k := ?_)
    refine ev_getR (t := 0) (x := Option.map (Prod.mk 0) (h.2.2 4 l0 11)) fl_X4_38 dX4_canTakeOther_10 (hx := ry_4_11 _ _) (K := ?_)
    refine ev_nullK (h.2.2 4 l0 11) 38 dX4_canTakeOther_13 (kt := fun hc => ?_) (kf := fun hc => ?_)
    · replace H1 := if_pe hc H1
      refine ev_lv [] [] (k := ?_)
      exact E4_canTakeOther_38 h _ H1
    · replace H1 := if_ne hc H1
      refine ev_aload_n 0 dX4_canTakeOther_16 (k := ?_)
      refine ev_getR (t := 0) (x := Option.map (Prod.mk 0) (h.2.2 4 l0 11)) fl_X4_38 dX4_canTakeOther_17 (hx := ry_4_11 _ _) (K := ?_)
      obtain ⟨a1, ea1, H2⟩ := bd_e H1
      clear H1
      rw [ea1]
      refine ev_getI (x := h.1 0 a1 9) fl_X4_41 dX4_canTakeOther_20 (K := ?_)
      refine ev_iconst dX4_canTakeOther_23 (k := ?_)
      refine ev_icmpne 38 dX4_canTakeOther_24 (kt := fun hc => ?_) (kf := fun hc => ?_)
      · replace H2 := if_ne hc H2
        refine ev_lv [] [] (k := ?_)
        exact E4_canTakeOther_38 h _ H2
      · replace H2 := if_pe hc H2
        refine ev_aload_n 0 dX4_canTakeOther_27 (k := ?_)
        refine ev_getR (t := 0) (x := Option.map (Prod.mk 0) (h.2.2 4 l0 12)) fl_X4_46 dX4_canTakeOther_28 (hx := ry_4_12 _ _) (K := ?_)
        refine ev_nonnullK (h.2.2 4 l0 12) 38 dX4_canTakeOther_31 (kt := fun hc => ?_) (kf := fun hc => ?_)
        · replace H2 := if_ne hc H2
          refine ev_lv [] [] (k := ?_)
          exact E4_canTakeOther_38 h _ H2
        · replace H2 := if_pe hc H2
          refine ev_iconst dX4_canTakeOther_34 (k := ?_)
          refine ev_goto 39 dX4_canTakeOther_35 (k := ?_)
          cases H2
          exact ev_zreturn (Or.inr rfl) dX4_canTakeOther_39
-- X4_change
abbrev T4_change : JT := (RX4, cX4_change, 3, some .int, false)
set_option maxRecDepth 100000 in
set_option maxHeartbeats 4000000 in
theorem C4_change {l0 : Int} {l1 : Int} {l2 : Int} {h : JM} {res : (Int × JM)} (H : F4_change l0 l1 l2 h = some res) : Cn j_W1 1 0 0 yX4_change cX4_change 3 (some .int) [.inr (.inr (some (4, l0))), .inl (l1), .inl (l2)] h (some (.inl res.1)) res.2 := by
  refine Cn.by (own := RX4) (b := false) [(0, .inr (.inr (some (4, l0)))), (1, .inl (l1)), (2, .inl (l2))] rfl (fun z => by cases z) (by decide +kernel) (K := ?_)
  unfold F4_change at H
  refine ev_aload_n 0 dX4_change_0 (k := ?_)
  refine ev_iload_n 1 dX4_change_1 (k := ?_)
  obtain ⟨hz, H1⟩ := g_e H
  clear H
  obtain ⟨h1, eh1, H2⟩ := lt_e H1
  clear H1
  refine ev_putZ j_ok1 hz fl_X4_30 eh1 dX4_change_2 (K := ?_)
  refine ev_aload_n 0 dX4_change_5 (k := ?_)
  refine ev_iconst dX4_change_6 (k := ?_)
  obtain ⟨h2, eh2, H3⟩ := lt_e H2
  clear H2
  refine ev_putI j_ok1 fl_X4_56 eh2 dX4_change_7 (K := ?_)
  refine ev_aload_n 0 dX4_change_10 (k := ?_)
  refine ev_iconst dX4_change_11 (k := ?_)
  obtain ⟨h3, eh3, H4⟩ := lt_e H3
  clear H3
  refine ev_putI j_ok1 fl_X4_62 eh3 dX4_change_12 (K := ?_)
  refine ev_aload_n 0 dX4_change_15 (k := ?_)
  refine ev_iconst dX4_change_16 (k := ?_)
  obtain ⟨h4, eh4, H5⟩ := lt_e H4
  clear H4
  refine ev_putI j_ok1 fl_X4_59 eh4 dX4_change_17 (K := ?_)
  refine ev_aload_n 0 dX4_change_20 (k := ?_)
  refine ev_iconst dX4_change_21 (k := ?_)
  obtain ⟨h5, eh5, H6⟩ := lt_e H5
  clear H5
  refine ev_putI j_ok1 fl_X4_65 eh5 dX4_change_22 (K := ?_)
  refine ev_iload_n 2 dX4_change_25 (k := ?_)
  cases H6
  exact ev_ireturn dX4_change_26
-- X4_keyOfThisTick
abbrev T4_keyOfThisTick : JT := (RX4, cX4_keyOfThisTick, 3, some .int, false)
set_option maxRecDepth 100000 in
set_option maxHeartbeats 4000000 in
theorem E4_keyOfThisTick_97b (k97 : Int → Int → Int → JM → Option (Int × JM)) (hk97 : ∀ (l0 : Int) (l1 : Int) (l2 : Int) (h : JM) (res : (Int × JM)), k97 l0 l1 l2 h = some res → Ev j_W1 1 0 0 T4_keyOfThisTick 97 [(0, .inr (.inr (some (4, l0)))), (1, .inl (l1)), (2, .inl (l2))] [] h (some (.inl res.1)) res.2) (l0 : Int) (l1 : Int) (l2 : Int) (h : JM) (res : (Int × JM)) (H : F4_keyOfThisTick_97b k97 l0 l1 l2 h = some res) : Ev j_W1 1 0 0 T4_keyOfThisTick 97 [(0, .inr (.inr (some (4, l0)))), (1, .inl (l1)), (2, .inl (l2))] [] h (some (.inl res.1)) res.2 := by
  unfold F4_keyOfThisTick_97b at H
  refine ev_iload_n 2 dX4_keyOfThisTick_97 (k := ?_)
  refine ev_aload_n 0 dX4_keyOfThisTick_98 (k := ?_)
  refine ev_getI (x := h.1 4 l0 4) fl_X4_65 dX4_keyOfThisTick_99 (K := ?_)
  refine ev_icmpge 125 dX4_keyOfThisTick_102 (kt := fun hc => ?_) (kf := fun hc => ?_)
  · replace H := if_pe hc H
    refine ev_iload_n 1 dX4_keyOfThisTick_125 (k := ?_)
    cases H
    exact ev_ireturn dX4_keyOfThisTick_126
  · replace H := if_ne hc H
    refine ev_aload_n 0 dX4_keyOfThisTick_105 (k := ?_)
    refine ev_getR (t := 30) (x := some (30, l0)) fl_X4_19 dX4_keyOfThisTick_106 (hx := ry_4_3 _ _) (K := ?_)
    refine ev_iload_n 2 dX4_keyOfThisTick_109 (k := ?_)
    refine ev_aload_n 0 dX4_keyOfThisTick_110 (k := ?_)
    refine ev_getR (t := 30) (x := some (30, l0)) fl_X4_19 dX4_keyOfThisTick_111 (hx := ry_4_3 _ _) (K := ?_)
    refine ev_iload_n 2 dX4_keyOfThisTick_114 (k := ?_)
    refine ev_iconst dX4_keyOfThisTick_115 (k := ?_)
    refine ev_iadd dX4_keyOfThisTick_116 (k := ?_)
    obtain ⟨⟨hi0, hi1⟩, H1⟩ := g_e H
    clear H
    refine ev_baload (k := 30) hi0 hi1 dX4_keyOfThisTick_117 (hc := ac_30) (hlen := ln_30 _ _) (K := ?_)
    obtain ⟨⟨hi0, hi1⟩, H2⟩ := g_e H1
    clear H1
    obtain ⟨h1, eh1, H3⟩ := lt_e H2
    clear H2
    refine ev_bastore (k := 30) j_ok1 hi0 hi1 eh1 dX4_keyOfThisTick_118 (hc := ac_30) (hlen := ln_30 _ _) (K := ?_)
    refine ev_iinc 2 [(2, .inl (w32 (l2 + 1))), (0, .inr (.inr (some (4, l0)))), (1, .inl (l1))] dX4_keyOfThisTick_119 (k := ?_)
    refine ev_goto 97 dX4_keyOfThisTick_122 (k := ?_)
    refine ev_lv [1, 2, 0] [(0, .inr (.inr (some (4, l0)))), (1, .inl (l1)), (2, .inl (w32 (l2 + 1)))] (k := ?_)
    exact hk97 l0 l1 (w32 (l2 + 1)) h1 _ H3
theorem E4_keyOfThisTick_97 (n : Nat) : ∀ (l0 : Int) (l1 : Int) (l2 : Int) (h : JM) (res : (Int × JM)), F4_keyOfThisTick_97 n l0 l1 l2 h = some res → Ev j_W1 1 0 0 T4_keyOfThisTick 97 [(0, .inr (.inr (some (4, l0)))), (1, .inl (l1)), (2, .inl (l2))] [] h (some (.inl res.1)) res.2 := by
  induction n with
  | zero =>
    intro l0 l1 l2 h res H
    cases H
  | succ n ih =>
    intro l0 l1 l2 h res H
    exact E4_keyOfThisTick_97b (F4_keyOfThisTick_97 n) ih l0 l1 l2 h res H
set_option maxRecDepth 100000 in
set_option maxHeartbeats 4000000 in
theorem E4_keyOfThisTick_14 (h : JM) (res : (Int × JM)) (H : F4_keyOfThisTick_14 h = some res) : Ev j_W1 1 0 0 T4_keyOfThisTick 14 [] [] h (some (.inl res.1)) res.2 := by
  unfold F4_keyOfThisTick_14 at H
  refine ev_iconst dX4_keyOfThisTick_14 (k := ?_)
  cases H
  exact ev_ireturn dX4_keyOfThisTick_15
set_option maxRecDepth 100000 in
set_option maxHeartbeats 4000000 in
theorem C4_keyOfThisTick {l0 : Int} {h : JM} {res : (Int × JM)} (H : F4_keyOfThisTick l0 h = some res) : Cn j_W1 1 0 0 yX4_keyOfThisTick cX4_keyOfThisTick 3 (some .int) [.inr (.inr (some (4, l0)))] h (some (.inl res.1)) res.2 := by
  refine Cn.by (own := RX4) (b := false) [(0, .inr (.inr (some (4, l0))))] rfl (fun z => by cases z) (by decide +kernel) (K := ?_)
  unfold F4_keyOfThisTick at H
  refine ev_aload_n 0 dX4_keyOfThisTick_0 (k := ?_)
  refine ev_getI (x := h.1 4 l0 6) fl_X4_30 dX4_keyOfThisTick_1 (K := ?_)
  refine ev_ifeq 14 dX4_keyOfThisTick_4 (kt := fun hc => ?_) (kf := fun hc => ?_)
  · replace H := if_pe hc H
    refine ev_lv [] [] (k := ?_)
    exact E4_keyOfThisTick_14 h _ H
  · replace H := if_ne hc H
    refine ev_aload_n 0 dX4_keyOfThisTick_7 (k := ?_)
    refine ev_getI (x := h.1 4 l0 5) fl_X4_49 dX4_keyOfThisTick_8 (K := ?_)
    refine ev_ifne 16 dX4_keyOfThisTick_11 (kt := fun hc => ?_) (kf := fun hc => ?_)
    · replace H := if_ne hc H
      refine ev_aload_n 0 dX4_keyOfThisTick_16 (k := ?_)
      refine ev_getI (x := h.1 4 l0 10) fl_X4_59 dX4_keyOfThisTick_17 (K := ?_)
      refine ev_ifle 69 dX4_keyOfThisTick_20 (kt := fun hc => ?_) (kf := fun hc => ?_)
      · replace H := if_pe hc H
        refine ev_aload_n 0 dX4_keyOfThisTick_69 (k := ?_)
        refine ev_getI (x := h.1 4 l0 4) fl_X4_65 dX4_keyOfThisTick_70 (K := ?_)
        refine ev_ifne 78 dX4_keyOfThisTick_73 (kt := fun hc => ?_) (kf := fun hc => ?_)
        · replace H := if_ne hc H
          refine ev_aload_n 0 dX4_keyOfThisTick_78 (k := ?_)
          refine ev_getR (t := 30) (x := some (30, l0)) fl_X4_19 dX4_keyOfThisTick_79 (hx := ry_4_3 _ _) (K := ?_)
          refine ev_iconst dX4_keyOfThisTick_82 (k := ?_)
          obtain ⟨⟨hi0, hi1⟩, H1⟩ := g_e H
          clear H
          refine ev_baload (k := 30) hi0 hi1 dX4_keyOfThisTick_83 (hc := ac_30) (hlen := ln_30 _ _) (K := ?_)
          obtain ⟨x2, ex2, H2⟩ := lt_e H1
          clear H1
          refine ev_topI ex2 ?_
          refine ev_istore_n [(1, .inl (x2)), (0, .inr (.inr (some (4, l0))))] dX4_keyOfThisTick_84 (k := ?_)
          refine ev_aload_n 1 dX4_keyOfThisTick_85 (k := ?_)
          refine ev_dup dX4_keyOfThisTick_86 (k := ?_)
          refine ev_getI (x := h.1 4 l0 4) fl_X4_65 dX4_keyOfThisTick_87 (K := ?_)
          refine ev_iconst dX4_keyOfThisTick_90 (k := ?_)
          refine ev_isub dX4_keyOfThisTick_91 (k := ?_)
          obtain ⟨h3, eh3, H3⟩ := lt_e H2
          clear H2
          refine ev_putI j_ok1 fl_X4_65 eh3 dX4_keyOfThisTick_92 (K := ?_)
          refine ev_iconst dX4_keyOfThisTick_95 (k := ?_)
          refine ev_istore_n [(2, .inl (0)), (1, .inl (x2)), (0, .inr (.inr (some (4, l0))))] dX4_keyOfThisTick_96 (k := ?_)
          refine ev_lv [2, 1, 0] [(0, .inr (.inr (some (4, l0)))), (1, .inl (x2)), (2, .inl (0))] (k := ?_)
          exact E4_keyOfThisTick_97 j_fu l0 x2 0 h3 _ H3
        · replace H := if_pe hc H
          refine ev_iconst dX4_keyOfThisTick_76 (k := ?_)
          cases H
          exact ev_ireturn dX4_keyOfThisTick_77
      · replace H := if_ne hc H
        refine ev_aload_n 0 dX4_keyOfThisTick_23 (k := ?_)
        refine ev_dup dX4_keyOfThisTick_24 (k := ?_)
        refine ev_getI (x := h.1 4 l0 9) fl_X4_62 dX4_keyOfThisTick_25 (K := ?_)
        refine ev_iconst dX4_keyOfThisTick_28 (k := ?_)
        refine ev_iadd dX4_keyOfThisTick_29 (k := ?_)
        obtain ⟨h4, eh4, H1⟩ := lt_e H
        clear H
        refine ev_putI j_ok1 fl_X4_62 eh4 dX4_keyOfThisTick_30 (K := ?_)
        refine ev_aload_n 0 dX4_keyOfThisTick_33 (k := ?_)
        refine ev_getI (x := h4.1 4 l0 9) fl_X4_62 dX4_keyOfThisTick_34 (K := ?_)
        refine ev_bipush dX4_keyOfThisTick_37 (k := ?_)
        refine ev_icmpge 44 dX4_keyOfThisTick_39 (kt := fun hc => ?_) (kf := fun hc => ?_)
        · replace H1 := if_pe hc H1
          refine ev_aload_n 0 dX4_keyOfThisTick_44 (k := ?_)
          refine ev_getI (x := h4.1 4 l0 10) fl_X4_59 dX4_keyOfThisTick_45 (K := ?_)
          obtain ⟨x5, ex5, H2⟩ := lt_e H1
          clear H1
          refine ev_topI ex5 ?_
          refine ev_istore_n [(1, .inl (x5)), (0, .inr (.inr (some (4, l0))))] dX4_keyOfThisTick_48 (k := ?_)
          refine ev_aload_n 1 dX4_keyOfThisTick_49 (k := ?_)
          refine ev_iconst dX4_keyOfThisTick_50 (k := ?_)
          obtain ⟨h6, eh6, H3⟩ := lt_e H2
          clear H2
          refine ev_putI j_ok1 fl_X4_59 eh6 dX4_keyOfThisTick_51 (K := ?_)
          refine ev_iload_n 0 dX4_keyOfThisTick_54 (k := ?_)
          refine ev_bipush dX4_keyOfThisTick_55 (k := ?_)
          refine ev_icmpgt 67 dX4_keyOfThisTick_57 (kt := fun hc => ?_) (kf := fun hc => ?_)
          · replace H3 := if_pe hc H3
            refine ev_iconst dX4_keyOfThisTick_67 (k := ?_)
            cases H3
            exact ev_ireturn dX4_keyOfThisTick_68
          · replace H3 := if_ne hc H3
            refine ev_iload_n 0 dX4_keyOfThisTick_60 (k := ?_)
            refine ev_bipush dX4_keyOfThisTick_61 (k := ?_)
            refine ev_irem dX4_keyOfThisTick_63 (by decide) (k := ?_)
            refine ev_goto 68 dX4_keyOfThisTick_64 (k := ?_)
            cases H3
            exact ev_ireturn dX4_keyOfThisTick_68
        · replace H1 := if_ne hc H1
          refine ev_iconst dX4_keyOfThisTick_42 (k := ?_)
          cases H1
          exact ev_ireturn dX4_keyOfThisTick_43
    · replace H := if_pe hc H
      refine ev_lv [] [] (k := ?_)
      exact E4_keyOfThisTick_14 h _ H
-- X4_lookAtLoop
abbrev T4_lookAtLoop : JT := (RX4, cX4_lookAtLoop, 2, some .int, false)
set_option maxRecDepth 100000 in
set_option maxHeartbeats 4000000 in
theorem E4_lookAtLoop_104 (h : JM) (res : (Int × JM)) (H : F4_lookAtLoop_104 h = some res) : Ev j_W1 2 0 0 T4_lookAtLoop 104 [] [] h (some (.inl res.1)) res.2 := by
  unfold F4_lookAtLoop_104 at H
  refine ev_iconst dX4_lookAtLoop_104 (k := ?_)
  cases H
  exact ev_ireturn dX4_lookAtLoop_105
set_option maxRecDepth 100000 in
set_option maxHeartbeats 4000000 in
theorem C4_lookAtLoop {l0 : Int} {h : JM} {res : (Int × JM)} (H : F4_lookAtLoop l0 h = some res) : Cn j_W1 2 0 0 yX4_lookAtLoop cX4_lookAtLoop 2 (some .int) [.inr (.inr (some (4, l0)))] h (some (.inl res.1)) res.2 := by
  refine Cn.by (own := RX4) (b := false) [(0, .inr (.inr (some (4, l0))))] rfl (fun z => by cases z) (by decide +kernel) (K := ?_)
  unfold F4_lookAtLoop at H
  refine ev_aload_n 0 dX4_lookAtLoop_0 (k := ?_)
  refine ev_getI (x := h.1 4 l0 6) fl_X4_30 dX4_lookAtLoop_1 (K := ?_)
  refine ev_ifne 25 dX4_lookAtLoop_4 (kt := fun hc => ?_) (kf := fun hc => ?_)
  · replace H := if_ne hc H
    refine ev_aload_n 0 dX4_lookAtLoop_25 (k := ?_)
    refine ev_getI (x := h.1 4 l0 5) fl_X4_49 dX4_lookAtLoop_26 (K := ?_)
    refine ev_ifne 62 dX4_lookAtLoop_29 (kt := fun hc => ?_) (kf := fun hc => ?_)
    · replace H := if_ne hc H
      refine ev_aload_n 0 dX4_lookAtLoop_62 (k := ?_)
      refine ev_getI (x := h.1 4 l0 8) fl_X4_56 dX4_lookAtLoop_63 (K := ?_)
      obtain ⟨x1, ex1, H1⟩ := lt_e H
      clear H
      refine ev_topI ex1 ?_
      refine ev_istore_n [(1, .inl (x1)), (0, .inr (.inr (some (4, l0))))] dX4_lookAtLoop_66 (k := ?_)
      refine ev_aload_n 1 dX4_lookAtLoop_67 (k := ?_)
      refine ev_iconst dX4_lookAtLoop_68 (k := ?_)
      obtain ⟨h2, eh2, H2⟩ := lt_e H1
      clear H1
      refine ev_putI j_ok1 fl_X4_56 eh2 dX4_lookAtLoop_69 (K := ?_)
      refine ev_iload_n 0 dX4_lookAtLoop_72 (k := ?_)
      refine ev_bipush dX4_lookAtLoop_73 (k := ?_)
      refine ev_icmplt 85 dX4_lookAtLoop_75 (kt := fun hc => ?_) (kf := fun hc => ?_)
      · replace H2 := if_pe hc H2
        refine ev_iload_n 0 dX4_lookAtLoop_85 (k := ?_)
        refine ev_ifle 104 dX4_lookAtLoop_86 (kt := fun hc => ?_) (kf := fun hc => ?_)
        · replace H2 := if_pe hc H2
          refine ev_lv [] [] (k := ?_)
          exact E4_lookAtLoop_104 h2 _ H2
        · replace H2 := if_ne hc H2
          refine ev_aload_n 1 dX4_lookAtLoop_89 (k := ?_)
          refine ev_dup dX4_lookAtLoop_90 (k := ?_)
          refine ev_getI (x := h2.1 4 l0 10) fl_X4_59 dX4_lookAtLoop_91 (K := ?_)
          refine ev_iconst dX4_lookAtLoop_94 (k := ?_)
          refine ev_iadd dX4_lookAtLoop_95 (k := ?_)
          obtain ⟨h3, eh3, H3⟩ := lt_e H2
          clear H2
          refine ev_putI j_ok1 fl_X4_59 eh3 dX4_lookAtLoop_96 (K := ?_)
          refine ev_aload_n 1 dX4_lookAtLoop_99 (k := ?_)
          refine ev_iconst dX4_lookAtLoop_100 (k := ?_)
          obtain ⟨h4, eh4, H4⟩ := lt_e H3
          clear H3
          refine ev_putI j_ok1 fl_X4_62 eh4 dX4_lookAtLoop_101 (K := ?_)
          refine ev_lv [] [] (k := ?_)
          exact E4_lookAtLoop_104 h4 _ H4
      · replace H2 := if_ne hc H2
        refine ev_aload_n 1 dX4_lookAtLoop_78 (k := ?_)
        refine ev_iconst dX4_lookAtLoop_79 (k := ?_)
        obtain ⟨h5, eh5, H3⟩ := lt_e H2
        clear H2
        refine ev_putI j_ok1 fl_X4_59 eh5 dX4_lookAtLoop_80 (K := ?_)
        refine ev_iconst dX4_lookAtLoop_83 (k := ?_)
        cases H3
        exact ev_ireturn dX4_lookAtLoop_84
    · replace H := if_pe hc H
      refine ev_aload_n 0 dX4_lookAtLoop_32 (k := ?_)
      refine ev_dup dX4_lookAtLoop_33 (k := ?_)
      refine ev_getI (x := h.1 4 l0 8) fl_X4_56 dX4_lookAtLoop_34 (K := ?_)
      refine ev_iconst dX4_lookAtLoop_37 (k := ?_)
      refine ev_iadd dX4_lookAtLoop_38 (k := ?_)
      obtain ⟨h6, eh6, H1⟩ := lt_e H
      clear H
      refine ev_putI j_ok1 fl_X4_56 eh6 dX4_lookAtLoop_39 (K := ?_)
      refine ev_aload_n 0 dX4_lookAtLoop_42 (k := ?_)
      refine ev_getI (x := h6.1 4 l0 8) fl_X4_56 dX4_lookAtLoop_43 (K := ?_)
      refine ev_bipush dX4_lookAtLoop_46 (k := ?_)
      refine ev_icmplt 60 dX4_lookAtLoop_48 (kt := fun hc => ?_) (kf := fun hc => ?_)
      · replace H1 := if_pe hc H1
        refine ev_iconst dX4_lookAtLoop_60 (k := ?_)
        cases H1
        exact ev_ireturn dX4_lookAtLoop_61
      · replace H1 := if_ne hc H1
        refine ev_aload_n 0 dX4_lookAtLoop_51 (k := ?_)
        refine ev_iconst dX4_lookAtLoop_52 (k := ?_)
        refine ev_iconst dX4_lookAtLoop_53 (k := ?_)
        obtain ⟨q7, hq, H2⟩ := bd_e H1
        clear H1
        refine ev_callV (mc := 0) (ms := 0) (st := []) (C4_change hq) md_X4_change im_X4_change se_X4_change ml_X4_52 dX4_lookAtLoop_54 _ (by decide) (K := ?_)
        refine ev_goto 61 dX4_lookAtLoop_57 (k := ?_)
        cases H2
        exact ev_ireturn dX4_lookAtLoop_61
  · replace H := if_pe hc H
    refine ev_aload_n 0 dX4_lookAtLoop_7 (k := ?_)
    refine ev_getI (x := h.1 4 l0 5) fl_X4_49 dX4_lookAtLoop_8 (K := ?_)
    refine ev_ifeq 23 dX4_lookAtLoop_11 (kt := fun hc => ?_) (kf := fun hc => ?_)
    · replace H := if_pe hc H
      refine ev_iconst dX4_lookAtLoop_23 (k := ?_)
      cases H
      exact ev_ireturn dX4_lookAtLoop_24
    · replace H := if_ne hc H
      refine ev_aload_n 0 dX4_lookAtLoop_14 (k := ?_)
      refine ev_iconst dX4_lookAtLoop_15 (k := ?_)
      refine ev_iconst dX4_lookAtLoop_16 (k := ?_)
      obtain ⟨q8, hq, H1⟩ := bd_e H
      clear H
      refine ev_callV (mc := 0) (ms := 0) (st := []) (C4_change hq) md_X4_change im_X4_change se_X4_change ml_X4_52 dX4_lookAtLoop_17 _ (by decide) (K := ?_)
      refine ev_goto 24 dX4_lookAtLoop_20 (k := ?_)
      cases H1
      exact ev_ireturn dX4_lookAtLoop_24
-- X4_sound
abbrev T4_sound : JT := (RX4, cX4_sound, 1, some .int, false)
set_option maxRecDepth 100000 in
set_option maxHeartbeats 4000000 in
theorem E4_sound_118 (h : JM) (res : (Int × JM)) (H : F4_sound_118 h = some res) : Ev j_W1 1 0 0 T4_sound 118 [] [] h (some (.inl res.1)) res.2 := by
  unfold F4_sound_118 at H
  refine ev_bipush dX4_sound_118 (k := ?_)
  cases H
  exact ev_ireturn dX4_sound_120
set_option maxRecDepth 100000 in
set_option maxHeartbeats 4000000 in
theorem C4_sound {l0 : Int} {h : JM} {res : (Int × JM)} (H : F4_sound l0 h = some res) : Cn j_W1 1 0 0 yX4_sound cX4_sound 1 (some .int) [.inr (.inr (some (4, l0)))] h (some (.inl res.1)) res.2 := by
  refine Cn.by (own := RX4) (b := false) [(0, .inr (.inr (some (4, l0))))] rfl (fun z => by cases z) (by decide +kernel) (K := ?_)
  unfold F4_sound at H
  refine ev_aload_n 0 dX4_sound_0 (k := ?_)
  refine ev_getI (x := h.1 4 l0 6) fl_X4_30 dX4_sound_1 (K := ?_)
  refine ev_ifne 20 dX4_sound_4 (kt := fun hc => ?_) (kf := fun hc => ?_)
  · replace H := if_ne hc H
    refine ev_aload_n 0 dX4_sound_20 (k := ?_)
    refine ev_getR (t := 0) (x := Option.map (Prod.mk 0) (h.2.2 4 l0 11)) fl_X4_38 dX4_sound_21 (hx := ry_4_11 _ _) (K := ?_)
    refine ev_nonnullK (h.2.2 4 l0 11) 32 dX4_sound_24 (kt := fun hc => ?_) (kf := fun hc => ?_)
    · replace H := if_ne hc H
      refine ev_aload_n 0 dX4_sound_32 (k := ?_)
      refine ev_getR (t := 0) (x := Option.map (Prod.mk 0) (h.2.2 4 l0 11)) fl_X4_38 dX4_sound_33 (hx := ry_4_11 _ _) (K := ?_)
      obtain ⟨a1, ea1, H1⟩ := bd_e H
      clear H
      rw [ea1]
      refine ev_getI (x := h.1 0 a1 9) fl_X4_41 dX4_sound_36 (K := ?_)
      by_cases hs0 : h.1 0 a1 9 = 0
      · replace H1 := if_pe hs0 H1
        refine ev_tableIn (off := 33) 72 dX4_sound_39 (by omega) (by omega) (by rw [hs0]; rfl) (k := ?_)
        refine ev_aload_n 0 dX4_sound_72 (k := ?_)
        refine ev_getR (t := 0) (x := Option.map (Prod.mk 0) (h.2.2 4 l0 11)) fl_X4_38 dX4_sound_73 (hx := ry_4_11 _ _) (K := ?_)
        obtain ⟨a2, ea2, H2⟩ := bd_e H1
        clear H1
        rw [ea2]
        refine ev_getL (x := h.2.1 0 a2 8) fl_X4_71 dX4_sound_76 (K := ?_)
        refine ev_lconst (v := 0) dX4_sound_79 (k := ?_)
        refine ev_lcmp dX4_sound_80 (k := ?_)
        refine ev_ifne 88 dX4_sound_81 (kt := fun hc => ?_) (kf := fun hc => ?_)
        · replace H2 := if_ne hc H2
          refine ev_iconst dX4_sound_88 (k := ?_)
          cases H2
          exact ev_ireturn dX4_sound_89
        · replace H2 := if_pe hc H2
          refine ev_iconst dX4_sound_84 (k := ?_)
          refine ev_goto 89 dX4_sound_85 (k := ?_)
          cases H2
          exact ev_ireturn dX4_sound_89
      · replace H1 := if_ne hs0 H1
        by_cases hs1 : h.1 0 a1 9 = 2
        · replace H1 := if_pe hs1 H1
          refine ev_tableIn (off := 51) 90 dX4_sound_39 (by omega) (by omega) (by rw [hs1]; rfl) (k := ?_)
          refine ev_iconst dX4_sound_90 (k := ?_)
          cases H1
          exact ev_ireturn dX4_sound_91
        · replace H1 := if_ne hs1 H1
          by_cases hs2 : h.1 0 a1 9 = 3
          · replace H1 := if_pe hs2 H1
            refine ev_tableIn (off := 56) 95 dX4_sound_39 (by omega) (by omega) (by rw [hs2]; rfl) (k := ?_)
            refine ev_aload_n 0 dX4_sound_95 (k := ?_)
            refine ev_getR (t := 0) (x := Option.map (Prod.mk 0) (h.2.2 4 l0 12)) fl_X4_46 dX4_sound_96 (hx := ry_4_12 _ _) (K := ?_)
            refine ev_nullK (h.2.2 4 l0 12) 118 dX4_sound_99 (kt := fun hc => ?_) (kf := fun hc => ?_)
            · replace H1 := if_pe hc H1
              refine ev_lv [] [] (k := ?_)
              exact E4_sound_118 h _ H1
            · replace H1 := if_ne hc H1
              refine ev_aload_n 0 dX4_sound_102 (k := ?_)
              refine ev_getR (t := 0) (x := Option.map (Prod.mk 0) (h.2.2 4 l0 12)) fl_X4_46 dX4_sound_103 (hx := ry_4_12 _ _) (K := ?_)
              obtain ⟨a3, ea3, H2⟩ := bd_e H1
              clear H1
              rw [ea3]
              refine ev_getI (x := h.1 0 a3 9) fl_X4_41 dX4_sound_106 (K := ?_)
              refine ev_iconst dX4_sound_109 (k := ?_)
              refine ev_icmpne 118 dX4_sound_110 (kt := fun hc => ?_) (kf := fun hc => ?_)
              · replace H2 := if_ne hc H2
                refine ev_lv [] [] (k := ?_)
                exact E4_sound_118 h _ H2
              · replace H2 := if_pe hc H2
                refine ev_bipush dX4_sound_113 (k := ?_)
                refine ev_goto 120 dX4_sound_115 (k := ?_)
                cases H2
                exact ev_ireturn dX4_sound_120
          · replace H1 := if_ne hs2 H1
            by_cases hs3 : h.1 0 a1 9 = 4
            · replace H1 := if_pe hs3 H1
              refine ev_tableIn (off := 53) 92 dX4_sound_39 (by omega) (by omega) (by rw [hs3]; rfl) (k := ?_)
              refine ev_bipush dX4_sound_92 (k := ?_)
              cases H1
              exact ev_ireturn dX4_sound_94
            · replace H1 := if_ne hs3 H1
              rcases (show (h.1 0 a1 9 < 0 ∨ 4 < h.1 0 a1 9) ∨ (h.1 0 a1 9 = 1) by omega) with hz | hz
              · refine ev_tableOut 121 dX4_sound_39 hz (k := ?_)
                refine ev_iconst dX4_sound_121 (k := ?_)
                cases H1
                exact ev_ireturn dX4_sound_122
              · refine ev_tableIn (off := 82) 121 dX4_sound_39 (by omega) (by omega) (by rw [hz]; rfl) (k := ?_)
                refine ev_iconst dX4_sound_121 (k := ?_)
                cases H1
                exact ev_ireturn dX4_sound_122
    · replace H := if_pe hc H
      refine ev_aload_n 0 dX4_sound_27 (k := ?_)
      refine ev_getI (x := h.1 4 l0 15) fl_X4_68 dX4_sound_28 (K := ?_)
      cases H
      exact ev_ireturn dX4_sound_31
  · replace H := if_pe hc H
    refine ev_aload_n 0 dX4_sound_7 (k := ?_)
    refine ev_getR (t := 0) (x := Option.map (Prod.mk 0) (h.2.2 4 l0 13)) fl_X4_34 dX4_sound_8 (hx := ry_4_13 _ _) (K := ?_)
    refine ev_nullK (h.2.2 4 l0 13) 18 dX4_sound_11 (kt := fun hc => ?_) (kf := fun hc => ?_)
    · replace H := if_pe hc H
      refine ev_iconst dX4_sound_18 (k := ?_)
      cases H
      exact ev_ireturn dX4_sound_19
    · replace H := if_ne hc H
      refine ev_iconst dX4_sound_14 (k := ?_)
      refine ev_goto 19 dX4_sound_15 (k := ?_)
      cases H
      exact ev_ireturn dX4_sound_19
