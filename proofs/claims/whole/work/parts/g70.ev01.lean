-- X2_nextMember
abbrev T2_nextMember : JT := (RX2, cX2_nextMember, 4, some (.object "TelephoneTown$Line"), false)
set_option maxRecDepth 100000 in
set_option maxHeartbeats 4000000 in
theorem E2_nextMember_50 (k4 : Int → Option Int → Int → JM → Option (Option Int × JM)) (hk4 : ∀ (l0 : Int) (l1 : Option Int) (l2 : Int) (h : JM) (res : (Option Int × JM)), k4 l0 l1 l2 h = some res → Ev j_W1 2 0 0 T2_nextMember 4 [(0, .inr (.inr (some (2, l0)))), (1, .inr (.inr (Option.map (Prod.mk 4) (l1)))), (2, .inl (l2))] [] h (some (.inr (.inr (Option.map (Prod.mk 4) res.1)))) res.2) (l0 : Int) (l1 : Option Int) (l2 : Int) (h : JM) (res : (Option Int × JM)) (H : F2_nextMember_50 k4 l0 l1 l2 h = some res) : Ev j_W1 2 0 0 T2_nextMember 50 [(0, .inr (.inr (some (2, l0)))), (1, .inr (.inr (Option.map (Prod.mk 4) (l1)))), (2, .inl (l2))] [] h (some (.inr (.inr (Option.map (Prod.mk 4) res.1)))) res.2 := by
  unfold F2_nextMember_50 at H
  refine ev_iinc (M := T2_nextMember) (pc := 50) 2 [(2, .inl (w32 (l2 + 1))), (0, .inr (.inr (some (2, l0)))), (1, .inr (.inr (Option.map (Prod.mk 4) (l1))))] dX2_nextMember_50 (k := ?_)
  refine ev_goto (M := T2_nextMember) (pc := 53) 4 dX2_nextMember_53 (k := ?_)
  refine ev_lv [1, 2, 0] [(0, .inr (.inr (some (2, l0)))), (1, .inr (.inr (Option.map (Prod.mk 4) (l1)))), (2, .inl (w32 (l2 + 1)))] (k := ?_)
  exact hk4 l0 l1 (w32 (l2 + 1)) h _ H
set_option maxRecDepth 100000 in
set_option maxHeartbeats 4000000 in
theorem E2_nextMember_48 (k4 : Int → Option Int → Int → JM → Option (Option Int × JM)) (hk4 : ∀ (l0 : Int) (l1 : Option Int) (l2 : Int) (h : JM) (res : (Option Int × JM)), k4 l0 l1 l2 h = some res → Ev j_W1 2 0 0 T2_nextMember 4 [(0, .inr (.inr (some (2, l0)))), (1, .inr (.inr (Option.map (Prod.mk 4) (l1)))), (2, .inl (l2))] [] h (some (.inr (.inr (Option.map (Prod.mk 4) res.1)))) res.2) (l0 : Int) (l2 : Int) (l3 : Option Int) (h : JM) (res : (Option Int × JM)) (H : F2_nextMember_48 k4 l0 l2 l3 h = some res) : Ev j_W1 2 0 0 T2_nextMember 48 [(0, .inr (.inr (some (2, l0)))), (2, .inl (l2)), (3, .inr (.inr (Option.map (Prod.mk 4) (l3))))] [] h (some (.inr (.inr (Option.map (Prod.mk 4) res.1)))) res.2 := by
  unfold F2_nextMember_48 at H
  refine ev_aload_n (M := T2_nextMember) (pc := 48) 2 dX2_nextMember_48 (k := ?_)
  refine ev_astore_n (M := T2_nextMember) (pc := 49) [(1, .inr (.inr (Option.map (Prod.mk 4) (l3)))), (0, .inr (.inr (some (2, l0)))), (2, .inl (l2)), (3, .inr (.inr (Option.map (Prod.mk 4) (l3))))] dX2_nextMember_49 (k := ?_)
  refine ev_lv [1, 0, 2] [(0, .inr (.inr (some (2, l0)))), (1, .inr (.inr (Option.map (Prod.mk 4) (l3)))), (2, .inl (l2))] (k := ?_)
  exact E2_nextMember_50 k4 hk4 l0 l3 l2 h _ H
set_option maxRecDepth 100000 in
set_option maxHeartbeats 4000000 in
theorem E2_nextMember_4b (k4 : Int → Option Int → Int → JM → Option (Option Int × JM)) (hk4 : ∀ (l0 : Int) (l1 : Option Int) (l2 : Int) (h : JM) (res : (Option Int × JM)), k4 l0 l1 l2 h = some res → Ev j_W1 2 0 0 T2_nextMember 4 [(0, .inr (.inr (some (2, l0)))), (1, .inr (.inr (Option.map (Prod.mk 4) (l1)))), (2, .inl (l2))] [] h (some (.inr (.inr (Option.map (Prod.mk 4) res.1)))) res.2) (l0 : Int) (l1 : Option Int) (l2 : Int) (h : JM) (res : (Option Int × JM)) (H : F2_nextMember_4b k4 l0 l1 l2 h = some res) : Ev j_W1 2 0 0 T2_nextMember 4 [(0, .inr (.inr (some (2, l0)))), (1, .inr (.inr (Option.map (Prod.mk 4) (l1)))), (2, .inl (l2))] [] h (some (.inr (.inr (Option.map (Prod.mk 4) res.1)))) res.2 := by
  unfold F2_nextMember_4b at H
  refine ev_iload_n (M := T2_nextMember) (pc := 4) 2 dX2_nextMember_4 (k := ?_)
  refine ev_aload_n (M := T2_nextMember) (pc := 5) 0 dX2_nextMember_5 (k := ?_)
  refine ev_getI (M := T2_nextMember) (pc := 6) (x := h.1 2 l0 1) fl_X2_24 dX2_nextMember_6 (K := ?_)
  refine ev_icmpge (M := T2_nextMember) (pc := 9) 56 dX2_nextMember_9 (kt := fun hc => ?_) (kf := fun hc => ?_)
  · replace H := if_pe hc H
    refine ev_aload_n (M := T2_nextMember) (pc := 56) 1 dX2_nextMember_56 (k := ?_)
    cases H
    exact ev_areturn (M := T2_nextMember) (pc := 57) dX2_nextMember_57
  · replace H := if_ne hc H
    refine ev_aload_n (M := T2_nextMember) (pc := 12) 0 dX2_nextMember_12 (k := ?_)
    refine ev_getR (M := T2_nextMember) (pc := 13) (t := 25) (x := some (25, l0)) fl_X2_11 dX2_nextMember_13 (hx := ry_2_0 _ _) (K := ?_)
    refine ev_iload_n (M := T2_nextMember) (pc := 16) 2 dX2_nextMember_16 (k := ?_)
    obtain ⟨⟨hi0, hi1⟩, H1⟩ := g_e H
    clear H
    refine ev_aaload (M := T2_nextMember) (pc := 17) (k := 25) 4 (x := Option.map (Prod.mk 4) (h.2.2 25 l0 l2)) hi0 hi1 dX2_nextMember_17 (hc := ac_25) (hlen := ln_25 _ _) (hx := rz_25 _ _ _) (K := ?_)
    refine ev_astore_n (M := T2_nextMember) (pc := 18) [(3, .inr (.inr (Option.map (Prod.mk 4) (h.2.2 25 l0 l2)))), (0, .inr (.inr (some (2, l0)))), (1, .inr (.inr (Option.map (Prod.mk 4) (l1)))), (2, .inl (l2))] dX2_nextMember_18 (k := ?_)
    refine ev_aload_n (M := T2_nextMember) (pc := 19) 0 dX2_nextMember_19 (k := ?_)
    obtain ⟨a1, ea1, H2⟩ := bd_e H1
    clear H1
    rw [ea1]
    obtain ⟨q2, hq, H3⟩ := bd_e H2
    clear H2
    refine ev_callV (M := T2_nextMember) (pc := 20) (mc := 0) (ms := 0) (st := []) (C4_isFree hq) md_X4_isFree im_X4_isFree se_X4_isFree ml_X2_27 dX2_nextMember_20 _ (by decide) (K := ?_)
    refine ev_ifeq (M := T2_nextMember) (pc := 23) 50 dX2_nextMember_23 (kt := fun hc => ?_) (kf := fun hc => ?_)
    · replace H3 := if_pe hc H3
      refine ev_lv [1, 2, 3] [(0, .inr (.inr (some (2, l0)))), (1, .inr (.inr (Option.map (Prod.mk 4) (l1)))), (2, .inl (l2))] (k := ?_)
      exact E2_nextMember_50 k4 hk4 l0 l1 l2 q2.2 _ H3
    · replace H3 := if_ne hc H3
      refine ev_aload_n (M := T2_nextMember) (pc := 26) 0 dX2_nextMember_26 (k := ?_)
      refine ev_getI (M := T2_nextMember) (pc := 27) (x := q2.2.1 4 a1 7) fl_X2_31 dX2_nextMember_27 (K := ?_)
      refine ev_ifne (M := T2_nextMember) (pc := 30) 50 dX2_nextMember_30 (kt := fun hc => ?_) (kf := fun hc => ?_)
      · replace H3 := if_ne hc H3
        refine ev_lv [1, 2, 3] [(0, .inr (.inr (some (2, l0)))), (1, .inr (.inr (Option.map (Prod.mk 4) (l1)))), (2, .inl (l2))] (k := ?_)
        exact E2_nextMember_50 k4 hk4 l0 l1 l2 q2.2 _ H3
      · replace H3 := if_pe hc H3
        refine ev_aload_n (M := T2_nextMember) (pc := 33) 2 dX2_nextMember_33 (k := ?_)
        refine ev_nullK (M := T2_nextMember) (pc := 34) l1 48 dX2_nextMember_34 (kt := fun hc => ?_) (kf := fun hc => ?_)
        · replace H3 := if_pe hc H3
          refine ev_lv [1, 3, 0] [(0, .inr (.inr (some (2, l0)))), (2, .inl (l2)), (3, .inr (.inr (some (4, a1))))] (k := ?_)
          exact E2_nextMember_48 k4 hk4 l0 l2 (some a1) q2.2 _ H3
        · replace H3 := if_ne hc H3
          refine ev_aload_n (M := T2_nextMember) (pc := 37) 0 dX2_nextMember_37 (k := ?_)
          refine ev_getI (M := T2_nextMember) (pc := 38) (x := q2.2.1 4 a1 16) fl_X2_35 dX2_nextMember_38 (K := ?_)
          refine ev_aload_n (M := T2_nextMember) (pc := 41) 2 dX2_nextMember_41 (k := ?_)
          obtain ⟨a3, ea3, H4⟩ := bd_e H3
          clear H3
          rw [ea3]
          refine ev_getI (M := T2_nextMember) (pc := 42) (x := q2.2.1 4 a3 16) fl_X2_35 dX2_nextMember_42 (K := ?_)
          refine ev_icmpge (M := T2_nextMember) (pc := 45) 50 dX2_nextMember_45 (kt := fun hc => ?_) (kf := fun hc => ?_)
          · replace H4 := if_pe hc H4
            refine ev_lv [1, 2, 3] [(0, .inr (.inr (some (2, l0)))), (1, .inr (.inr (some (4, a3)))), (2, .inl (l2))] (k := ?_)
            exact E2_nextMember_50 k4 hk4 l0 (some a3) l2 q2.2 _ H4
          · replace H4 := if_ne hc H4
            refine ev_lv [1, 3, 0] [(0, .inr (.inr (some (2, l0)))), (2, .inl (l2)), (3, .inr (.inr (some (4, a1))))] (k := ?_)
            exact E2_nextMember_48 k4 hk4 l0 l2 (some a1) q2.2 _ H4
theorem E2_nextMember_4 (n : Nat) : ∀ (l0 : Int) (l1 : Option Int) (l2 : Int) (h : JM) (res : (Option Int × JM)), F2_nextMember_4 n l0 l1 l2 h = some res → Ev j_W1 2 0 0 T2_nextMember 4 [(0, .inr (.inr (some (2, l0)))), (1, .inr (.inr (Option.map (Prod.mk 4) (l1)))), (2, .inl (l2))] [] h (some (.inr (.inr (Option.map (Prod.mk 4) res.1)))) res.2 := by
  induction n with
  | zero =>
    intro l0 l1 l2 h res H
    cases H
  | succ n ih =>
    intro l0 l1 l2 h res H
    exact E2_nextMember_4b (F2_nextMember_4 n) ih l0 l1 l2 h res H
set_option maxRecDepth 100000 in
set_option maxHeartbeats 4000000 in
theorem C2_nextMember {l0 : Int} {h : JM} {res : (Option Int × JM)} (H : F2_nextMember l0 h = some res) : Cn j_W1 2 0 0 yX2_nextMember cX2_nextMember 4 (some (.object "TelephoneTown$Line")) [.inr (.inr (some (2, l0)))] h (some (.inr (.inr (Option.map (Prod.mk 4) res.1)))) res.2 := by
  refine Cn.by (own := RX2) (b := false) [(0, .inr (.inr (some (2, l0))))] rfl (fun z => by cases z) (by decide +kernel) (K := ?_)
  unfold F2_nextMember at H
  refine ev_null (M := T2_nextMember) (pc := 0) dX2_nextMember_0 (k := ?_)
  refine ev_astore_n (M := T2_nextMember) (pc := 1) [(1, .inr (.inr none)), (0, .inr (.inr (some (2, l0))))] dX2_nextMember_1 (k := ?_)
  refine ev_iconst (M := T2_nextMember) (pc := 2) dX2_nextMember_2 (k := ?_)
  refine ev_istore_n (M := T2_nextMember) (pc := 3) [(2, .inl (0)), (1, .inr (.inr none)), (0, .inr (.inr (some (2, l0))))] dX2_nextMember_3 (k := ?_)
  refine ev_lv [2, 1, 0] [(0, .inr (.inr (some (2, l0)))), (1, .inr (.inr none)), (2, .inl (0))] (k := ?_)
  exact E2_nextMember_4 j_fu l0 none 0 h _ H
-- X3_charge
abbrev T3_charge : JT := (RX3, cX3_charge, 7, some .boolean, false)
set_option maxRecDepth 100000 in
set_option maxHeartbeats 4000000 in
theorem E3_charge_104 (l1 : Option Int) (l6 : Int) (h : JM) (res : (Int × JM)) (H : F3_charge_104 l1 l6 h = some res) : Ev j_W1 1 0 0 T3_charge 104 [(1, .inr (.inr (Option.map (Prod.mk 0) (l1)))), (6, .inl (l6))] [] h (some (.inl res.1)) res.2 := by
  unfold F3_charge_104 at H
  refine ev_aload_n (M := T3_charge) (pc := 104) 0 dX3_charge_104 (k := ?_)
  refine ev_dup (M := T3_charge) (pc := 105) dX3_charge_105 (k := ?_)
  obtain ⟨a1, ea1, H1⟩ := bd_e H
  clear H
  rw [ea1]
  refine ev_getI (M := T3_charge) (pc := 106) (x := h.1 0 a1 13) fl_X3_33 dX3_charge_106 (K := ?_)
  refine ev_iload (M := T3_charge) (pc := 109) 1 dX3_charge_109 (k := ?_)
  refine ev_iadd (M := T3_charge) (pc := 111) dX3_charge_111 (k := ?_)
  obtain ⟨h2, eh2, H2⟩ := lt_e H1
  clear H1
  refine ev_putI (M := T3_charge) (pc := 112) j_ok1 fl_X3_33 eh2 dX3_charge_112 (K := ?_)
  refine ev_iconst (M := T3_charge) (pc := 115) dX3_charge_115 (k := ?_)
  cases H2
  exact ev_zreturn (M := T3_charge) (pc := 116) (Or.inr rfl) dX3_charge_116
set_option maxRecDepth 100000 in
set_option maxHeartbeats 4000000 in
theorem E3_charge_71 (l1 : Option Int) (l4 : Option Int) (l6 : Int) (h : JM) (res : (Int × JM)) (H : F3_charge_71 l1 l4 l6 h = some res) : Ev j_W1 1 0 0 T3_charge 71 [(1, .inr (.inr (Option.map (Prod.mk 0) (l1)))), (4, .inr (.inr (Option.map (Prod.mk 4) (l4)))), (6, .inl (l6))] [] h (some (.inl res.1)) res.2 := by
  unfold F3_charge_71 at H
  refine ev_aload (M := T3_charge) (pc := 71) 1 dX3_charge_71 (k := ?_)
  obtain ⟨a3, ea3, H1⟩ := bd_e H
  clear H
  rw [ea3]
  refine ev_getI (M := T3_charge) (pc := 73) (x := h.1 4 a3 17) fl_X3_28 dX3_charge_73 (K := ?_)
  refine ev_iconst (M := T3_charge) (pc := 76) dX3_charge_76 (k := ?_)
  refine ev_icmpeq (M := T3_charge) (pc := 77) 104 dX3_charge_77 (kt := fun hc => ?_) (kf := fun hc => ?_)
  · replace H1 := if_pe hc H1
    refine ev_lv [0, 2] [(1, .inr (.inr (Option.map (Prod.mk 0) (l1)))), (6, .inl (l6))] (k := ?_)
    exact E3_charge_104 l1 l6 h _ H1
  · replace H1 := if_ne hc H1
    refine ev_aload (M := T3_charge) (pc := 80) 1 dX3_charge_80 (k := ?_)
    refine ev_getI (M := T3_charge) (pc := 82) (x := h.1 4 a3 17) fl_X3_28 dX3_charge_82 (K := ?_)
    refine ev_iload (M := T3_charge) (pc := 85) 2 dX3_charge_85 (k := ?_)
    refine ev_icmpge (M := T3_charge) (pc := 87) 92 dX3_charge_87 (kt := fun hc => ?_) (kf := fun hc => ?_)
    · replace H1 := if_pe hc H1
      refine ev_aload (M := T3_charge) (pc := 92) 1 dX3_charge_92 (k := ?_)
      refine ev_dup (M := T3_charge) (pc := 94) dX3_charge_94 (k := ?_)
      refine ev_getI (M := T3_charge) (pc := 95) (x := h.1 4 a3 17) fl_X3_28 dX3_charge_95 (K := ?_)
      refine ev_iload (M := T3_charge) (pc := 98) 2 dX3_charge_98 (k := ?_)
      refine ev_isub (M := T3_charge) (pc := 100) dX3_charge_100 (k := ?_)
      obtain ⟨h4, eh4, H2⟩ := lt_e H1
      clear H1
      refine ev_putI (M := T3_charge) (pc := 101) j_ok1 fl_X3_28 eh4 dX3_charge_101 (K := ?_)
      refine ev_lv [0, 2] [(1, .inr (.inr (Option.map (Prod.mk 0) (l1)))), (6, .inl (l6))] (k := ?_)
      exact E3_charge_104 l1 l6 h4 _ H2
    · replace H1 := if_ne hc H1
      refine ev_iconst (M := T3_charge) (pc := 90) dX3_charge_90 (k := ?_)
      cases H1
      exact ev_zreturn (M := T3_charge) (pc := 91) (Or.inl rfl) dX3_charge_91
set_option maxRecDepth 100000 in
set_option maxHeartbeats 4000000 in
theorem E3_charge_53 (l1 : Option Int) (l2 : Int) (l4 : Option Int) (l5 : Int) (s0 : Int) (h : JM) (res : (Int × JM)) (H : F3_charge_53 l1 l2 l4 l5 s0 h = some res) : Ev j_W1 1 0 0 T3_charge 53 [(0, .inr (.inr (some (3, 0)))), (1, .inr (.inr (Option.map (Prod.mk 0) (l1)))), (2, .inl (l2)), (4, .inr (.inr (Option.map (Prod.mk 4) (l4)))), (5, .inl (l5))] [.inl (s0)] h (some (.inl res.1)) res.2 := by
  unfold F3_charge_53 at H
  refine ev_istore (M := T3_charge) (pc := 53) [(6, .inl (s0)), (0, .inr (.inr (some (3, 0)))), (1, .inr (.inr (Option.map (Prod.mk 0) (l1)))), (2, .inl (l2)), (4, .inr (.inr (Option.map (Prod.mk 4) (l4)))), (5, .inl (l5))] dX3_charge_53 (k := ?_)
  refine ev_iload_n (M := T3_charge) (pc := 55) 3 dX3_charge_55 (k := ?_)
  refine ev_ifeq (M := T3_charge) (pc := 56) 71 dX3_charge_56 (kt := fun hc => ?_) (kf := fun hc => ?_)
  · replace H := if_pe hc H
    refine ev_lv [2, 4, 0] [(1, .inr (.inr (Option.map (Prod.mk 0) (l1)))), (4, .inr (.inr (Option.map (Prod.mk 4) (l4)))), (6, .inl (s0))] (k := ?_)
    exact E3_charge_71 l1 l4 s0 h _ H
  · replace H := if_ne hc H
    refine ev_iload (M := T3_charge) (pc := 59) 0 dX3_charge_59 (k := ?_)
    refine ev_aload_n (M := T3_charge) (pc := 61) 1 dX3_charge_61 (k := ?_)
    refine ev_getR (M := T3_charge) (pc := 62) (t := 26) (x := some (26, 0)) fl_X3_9 dX3_charge_62 (hx := ry_3_0 _ _) (K := ?_)
    refine ev_iload (M := T3_charge) (pc := 65) 5 dX3_charge_65 (k := ?_)
    obtain ⟨⟨hi0, hi1⟩, H1⟩ := g_e H
    clear H
    refine ev_iaload (M := T3_charge) (pc := 67) (k := 26) hi0 hi1 dX3_charge_67 (hc := ac_26) (hlen := ln_26 _ _) (K := ?_)
    refine ev_iadd (M := T3_charge) (pc := 68) dX3_charge_68 (k := ?_)
    obtain ⟨x5, ex5, H2⟩ := lt_e H1
    clear H1
    refine ev_topI ex5 ?_
    refine ev_istore (M := T3_charge) (pc := 69) [(6, .inl (x5)), (0, .inr (.inr (some (3, 0)))), (1, .inr (.inr (Option.map (Prod.mk 0) (l1)))), (2, .inl (l2)), (4, .inr (.inr (Option.map (Prod.mk 4) (l4)))), (5, .inl (l5))] dX3_charge_69 (k := ?_)
    refine ev_lv [2, 4, 0] [(1, .inr (.inr (Option.map (Prod.mk 0) (l1)))), (4, .inr (.inr (Option.map (Prod.mk 4) (l4)))), (6, .inl (x5))] (k := ?_)
    exact E3_charge_71 l1 l4 x5 h _ H2
set_option maxRecDepth 100000 in
set_option maxHeartbeats 4000000 in
theorem C3_charge {l1 : Option Int} {l2 : Int} {l3 : Int} {h : JM} {res : (Int × JM)} (H : F3_charge l1 l2 l3 h = some res) : Cn j_W1 1 0 0 yX3_charge cX3_charge 7 (some .boolean) [.inr (.inr (some (3, 0))), .inr (.inr (Option.map (Prod.mk 0) (l1))), .inl (l2), .inl (l3)] h (some (.inl res.1)) res.2 := by
  refine Cn.by (own := RX3) (b := false) [(0, .inr (.inr (some (3, 0)))), (1, .inr (.inr (Option.map (Prod.mk 0) (l1)))), (2, .inl (l2)), (3, .inl (l3))] rfl (fun z => by cases z) (by decide +kernel) (K := ?_)
  unfold F3_charge at H
  refine ev_aload_n (M := T3_charge) (pc := 0) 1 dX3_charge_0 (k := ?_)
  obtain ⟨a6, ea6, H1⟩ := bd_e H
  clear H
  rw [ea6]
  refine ev_getR (M := T3_charge) (pc := 1) (t := 4) (x := Option.map (Prod.mk 4) (h.2.2 0 a6 1)) fl_X3_24 dX3_charge_1 (hx := ry_0_1 _ _) (K := ?_)
  refine ev_astore (M := T3_charge) (pc := 4) [(4, .inr (.inr (Option.map (Prod.mk 4) (h.2.2 0 a6 1)))), (0, .inr (.inr (some (3, 0)))), (1, .inr (.inr (some (0, a6)))), (2, .inl (l2)), (3, .inl (l3))] dX3_charge_4 (k := ?_)
  refine ev_aload (M := T3_charge) (pc := 6) 0 dX3_charge_6 (k := ?_)
  refine ev_nonnullK (M := T3_charge) (pc := 8) (h.2.2 0 a6 1) 13 dX3_charge_8 (kt := fun hc => ?_) (kf := fun hc => ?_)
  · replace H1 := if_ne hc H1
    refine ev_aload_n (M := T3_charge) (pc := 13) 2 dX3_charge_13 (k := ?_)
    refine ev_getI (M := T3_charge) (pc := 14) (x := h.1 0 a6 11) fl_X3_18 dX3_charge_14 (K := ?_)
    refine ev_iconst (M := T3_charge) (pc := 17) dX3_charge_17 (k := ?_)
    refine ev_imul (M := T3_charge) (pc := 18) dX3_charge_18 (k := ?_)
    obtain ⟨x7, ex7, H2⟩ := lt_e H1
    clear H1
    refine ev_topI ex7 ?_
    refine ev_istore (M := T3_charge) (pc := 19) [(5, .inl (x7)), (4, .inr (.inr (Option.map (Prod.mk 4) (h.2.2 0 a6 1)))), (0, .inr (.inr (some (3, 0)))), (1, .inr (.inr (some (0, a6)))), (2, .inl (l2)), (3, .inl (l3))] dX3_charge_19 (k := ?_)
    refine ev_iload_n (M := T3_charge) (pc := 21) 5 dX3_charge_21 (k := ?_)
    refine ev_sipush (M := T3_charge) (pc := 22) dX3_charge_22 (k := ?_)
    refine ev_irem (M := T3_charge) (pc := 25) dX3_charge_25 (by decide) (k := ?_)
    refine ev_sipush (M := T3_charge) (pc := 26) dX3_charge_26 (k := ?_)
    refine ev_icmpge (M := T3_charge) (pc := 29) 44 dX3_charge_29 (kt := fun hc => ?_) (kf := fun hc => ?_)
    · replace H2 := if_pe hc H2
      refine ev_aload_n (M := T3_charge) (pc := 44) 2 dX3_charge_44 (k := ?_)
      refine ev_getR (M := T3_charge) (pc := 45) (t := 26) (x := some (26, 0)) fl_X3_9 dX3_charge_45 (hx := ry_3_0 _ _) (K := ?_)
      refine ev_iload (M := T3_charge) (pc := 48) 0 dX3_charge_48 (k := ?_)
      refine ev_iconst (M := T3_charge) (pc := 50) dX3_charge_50 (k := ?_)
      refine ev_iadd (M := T3_charge) (pc := 51) dX3_charge_51 (k := ?_)
      obtain ⟨⟨hi0, hi1⟩, H3⟩ := g_e H2
      clear H2
      refine ev_iaload (M := T3_charge) (pc := 52) (k := 26) hi0 hi1 dX3_charge_52 (hc := ac_26) (hlen := ln_26 _ _) (K := ?_)
      refine ev_lv [2, 3, 4, 1, 0] [(0, .inr (.inr (some (3, 0)))), (1, .inr (.inr (some (0, a6)))), (2, .inl (l2)), (4, .inr (.inr (Option.map (Prod.mk 4) (h.2.2 0 a6 1)))), (5, .inl (x7))] (k := ?_)
      exact E3_charge_53 (some a6) l2 (h.2.2 0 a6 1) x7 (h.1 26 0 (w32 (x7 + 2))) h _ H3
    · replace H2 := if_ne hc H2
      refine ev_aload_n (M := T3_charge) (pc := 32) 2 dX3_charge_32 (k := ?_)
      refine ev_getR (M := T3_charge) (pc := 33) (t := 26) (x := some (26, 0)) fl_X3_9 dX3_charge_33 (hx := ry_3_0 _ _) (K := ?_)
      refine ev_iload (M := T3_charge) (pc := 36) 0 dX3_charge_36 (k := ?_)
      refine ev_iconst (M := T3_charge) (pc := 38) dX3_charge_38 (k := ?_)
      refine ev_iadd (M := T3_charge) (pc := 39) dX3_charge_39 (k := ?_)
      obtain ⟨⟨hi0, hi1⟩, H3⟩ := g_e H2
      clear H2
      refine ev_iaload (M := T3_charge) (pc := 40) (k := 26) hi0 hi1 dX3_charge_40 (hc := ac_26) (hlen := ln_26 _ _) (K := ?_)
      refine ev_goto (M := T3_charge) (pc := 41) 53 dX3_charge_41 (k := ?_)
      refine ev_lv [2, 3, 4, 1, 0] [(0, .inr (.inr (some (3, 0)))), (1, .inr (.inr (some (0, a6)))), (2, .inl (l2)), (4, .inr (.inr (Option.map (Prod.mk 4) (h.2.2 0 a6 1)))), (5, .inl (x7))] (k := ?_)
      exact E3_charge_53 (some a6) l2 (h.2.2 0 a6 1) x7 (h.1 26 0 (w32 (x7 + 3))) h _ H3
  · replace H1 := if_pe hc H1
    refine ev_iconst (M := T3_charge) (pc := 11) dX3_charge_11 (k := ?_)
    cases H1
    exact ev_zreturn (M := T3_charge) (pc := 12) (Or.inr rfl) dX3_charge_12
-- X3_isStep
abbrev T3_isStep : JT := (RX3, cX3_isStep, 4, some .boolean, false)
set_option maxRecDepth 100000 in
set_option maxHeartbeats 4000000 in
theorem E3_isStep_39 (h : JM) (res : (Int × JM)) (H : F3_isStep_39 h = some res) : Ev j_W1 1 0 0 T3_isStep 39 [] [] h (some (.inl res.1)) res.2 := by
  unfold F3_isStep_39 at H
  refine ev_iconst (M := T3_isStep) (pc := 39) dX3_isStep_39 (k := ?_)
  cases H
  exact ev_zreturn (M := T3_isStep) (pc := 40) (Or.inl rfl) dX3_isStep_40
set_option maxRecDepth 100000 in
set_option maxHeartbeats 4000000 in
theorem C3_isStep {l1 : Option Int} {l2 : Int} {h : JM} {res : (Int × JM)} (H : F3_isStep l1 l2 h = some res) : Cn j_W1 1 0 0 yX3_isStep cX3_isStep 4 (some .boolean) [.inr (.inr (some (3, 0))), .inr (.inr (Option.map (Prod.mk 0) (l1))), .inl (l2)] h (some (.inl res.1)) res.2 := by
  refine Cn.by (own := RX3) (b := false) [(0, .inr (.inr (some (3, 0)))), (1, .inr (.inr (Option.map (Prod.mk 0) (l1)))), (2, .inl (l2))] rfl (fun z => by cases z) (by decide +kernel) (K := ?_)
  unfold F3_isStep at H
  refine ev_aload_n (M := T3_isStep) (pc := 0) 0 dX3_isStep_0 (k := ?_)
  refine ev_getR (M := T3_isStep) (pc := 1) (t := 26) (x := some (26, 0)) fl_X3_9 dX3_isStep_1 (hx := ry_3_0 _ _) (K := ?_)
  refine ev_aload_n (M := T3_isStep) (pc := 4) 1 dX3_isStep_4 (k := ?_)
  obtain ⟨a1, ea1, H1⟩ := bd_e H
  clear H
  rw [ea1]
  refine ev_getI (M := T3_isStep) (pc := 5) (x := h.1 0 a1 11) fl_X3_18 dX3_isStep_5 (K := ?_)
  refine ev_iconst (M := T3_isStep) (pc := 8) dX3_isStep_8 (k := ?_)
  refine ev_imul (M := T3_isStep) (pc := 9) dX3_isStep_9 (k := ?_)
  refine ev_iconst (M := T3_isStep) (pc := 10) dX3_isStep_10 (k := ?_)
  refine ev_iadd (M := T3_isStep) (pc := 11) dX3_isStep_11 (k := ?_)
  obtain ⟨⟨hi0, hi1⟩, H2⟩ := g_e H1
  clear H1
  refine ev_iaload (M := T3_isStep) (pc := 12) (k := 26) hi0 hi1 dX3_isStep_12 (hc := ac_26) (hlen := ln_26 _ _) (K := ?_)
  obtain ⟨x2, ex2, H3⟩ := lt_e H2
  clear H2
  refine ev_topI ex2 ?_
  refine ev_istore_n (M := T3_isStep) (pc := 13) [(3, .inl (x2)), (0, .inr (.inr (some (3, 0)))), (1, .inr (.inr (some (0, a1)))), (2, .inl (l2))] dX3_isStep_13 (k := ?_)
  refine ev_aload_n (M := T3_isStep) (pc := 14) 2 dX3_isStep_14 (k := ?_)
  refine ev_getR (M := T3_isStep) (pc := 15) (t := 4) (x := Option.map (Prod.mk 4) (h.2.2 0 a1 1)) fl_X3_24 dX3_isStep_15 (hx := ry_0_1 _ _) (K := ?_)
  refine ev_nullK (M := T3_isStep) (pc := 18) (h.2.2 0 a1 1) 39 dX3_isStep_18 (kt := fun hc => ?_) (kf := fun hc => ?_)
  · replace H3 := if_pe hc H3
    refine ev_lv [] [] (k := ?_)
    exact E3_isStep_39 h _ H3
  · replace H3 := if_ne hc H3
    refine ev_iload_n (M := T3_isStep) (pc := 21) 3 dX3_isStep_21 (k := ?_)
    refine ev_ifle (M := T3_isStep) (pc := 22) 39 dX3_isStep_22 (kt := fun hc => ?_) (kf := fun hc => ?_)
    · replace H3 := if_pe hc H3
      refine ev_lv [] [] (k := ?_)
      exact E3_isStep_39 h _ H3
    · replace H3 := if_ne hc H3
      refine ev_iload_n (M := T3_isStep) (pc := 25) 0 dX3_isStep_25 (k := ?_)
      refine ev_ifle (M := T3_isStep) (pc := 26) 39 dX3_isStep_26 (kt := fun hc => ?_) (kf := fun hc => ?_)
      · replace H3 := if_pe hc H3
        refine ev_lv [] [] (k := ?_)
        exact E3_isStep_39 h _ H3
      · replace H3 := if_ne hc H3
        refine ev_iload_n (M := T3_isStep) (pc := 29) 3 dX3_isStep_29 (k := ?_)
        refine ev_iload_n (M := T3_isStep) (pc := 30) 0 dX3_isStep_30 (k := ?_)
        obtain ⟨hne, H4⟩ := g_e H3
        clear H3
        refine ev_irem (M := T3_isStep) (pc := 31) dX3_isStep_31 hne (k := ?_)
        refine ev_ifne (M := T3_isStep) (pc := 32) 39 dX3_isStep_32 (kt := fun hc => ?_) (kf := fun hc => ?_)
        · replace H4 := if_ne hc H4
          refine ev_lv [] [] (k := ?_)
          exact E3_isStep_39 h _ H4
        · replace H4 := if_pe hc H4
          refine ev_iconst (M := T3_isStep) (pc := 35) dX3_isStep_35 (k := ?_)
          refine ev_goto (M := T3_isStep) (pc := 36) 40 dX3_isStep_36 (k := ?_)
          cases H4
          exact ev_zreturn (M := T3_isStep) (pc := 40) (Or.inr rfl) dX3_isStep_40
-- X3_read
abbrev T3_read : JT := (RX3, cX3_read, 3, some .int, false)
set_option maxRecDepth 100000 in
set_option maxHeartbeats 4000000 in
theorem E3_read_24 (h : JM) (res : (Int × JM)) (H : F3_read_24 h = some res) : Ev j_W1 1 0 0 T3_read 24 [] [] h (some (.inl res.1)) res.2 := by
  unfold F3_read_24 at H
  refine ev_iconst (M := T3_read) (pc := 24) dX3_read_24 (k := ?_)
  cases H
  exact ev_ireturn (M := T3_read) (pc := 25) dX3_read_25
set_option maxRecDepth 100000 in
set_option maxHeartbeats 4000000 in
theorem C3_read {l1 : Int} {l2 : Int} {h : JM} {res : (Int × JM)} (H : F3_read l1 l2 h = some res) : Cn j_W1 1 0 0 yX3_read cX3_read 3 (some .int) [.inr (.inr (some (3, 0))), .inl (l1), .inl (l2)] h (some (.inl res.1)) res.2 := by
  refine Cn.by (own := RX3) (b := false) [(0, .inr (.inr (some (3, 0)))), (1, .inl (l1)), (2, .inl (l2))] rfl (fun z => by cases z) (by decide +kernel) (K := ?_)
  unfold F3_read at H
  refine ev_iload_n (M := T3_read) (pc := 0) 1 dX3_read_0 (k := ?_)
  refine ev_iflt (M := T3_read) (pc := 1) 24 dX3_read_1 (kt := fun hc => ?_) (kf := fun hc => ?_)
  · replace H := if_pe hc H
    refine ev_lv [] [] (k := ?_)
    exact E3_read_24 h _ H
  · replace H := if_ne hc H
    refine ev_iload_n (M := T3_read) (pc := 4) 1 dX3_read_4 (k := ?_)
    refine ev_aload_n (M := T3_read) (pc := 5) 0 dX3_read_5 (k := ?_)
    refine ev_getI (M := T3_read) (pc := 6) (x := h.1 3 0 2) fl_X3_36 dX3_read_6 (K := ?_)
    refine ev_icmpge (M := T3_read) (pc := 9) 24 dX3_read_9 (kt := fun hc => ?_) (kf := fun hc => ?_)
    · replace H := if_pe hc H
      refine ev_lv [] [] (k := ?_)
      exact E3_read_24 h _ H
    · replace H := if_ne hc H
      refine ev_iload_n (M := T3_read) (pc := 12) 1 dX3_read_12 (k := ?_)
      refine ev_aload_n (M := T3_read) (pc := 13) 0 dX3_read_13 (k := ?_)
      refine ev_getI (M := T3_read) (pc := 14) (x := h.1 3 0 2) fl_X3_36 dX3_read_14 (K := ?_)
      refine ev_sipush (M := T3_read) (pc := 17) dX3_read_17 (k := ?_)
      refine ev_isub (M := T3_read) (pc := 20) dX3_read_20 (k := ?_)
      refine ev_icmpge (M := T3_read) (pc := 21) 26 dX3_read_21 (kt := fun hc => ?_) (kf := fun hc => ?_)
      · replace H := if_pe hc H
        refine ev_aload_n (M := T3_read) (pc := 26) 0 dX3_read_26 (k := ?_)
        refine ev_getR (M := T3_read) (pc := 27) (t := 27) (x := some (27, 0)) fl_X3_15 dX3_read_27 (hx := ry_3_1 _ _) (K := ?_)
        refine ev_iload_n (M := T3_read) (pc := 30) 1 dX3_read_30 (k := ?_)
        refine ev_sipush (M := T3_read) (pc := 31) dX3_read_31 (k := ?_)
        refine ev_irem (M := T3_read) (pc := 34) dX3_read_34 (by decide) (k := ?_)
        refine ev_iconst (M := T3_read) (pc := 35) dX3_read_35 (k := ?_)
        refine ev_imul (M := T3_read) (pc := 36) dX3_read_36 (k := ?_)
        refine ev_iload_n (M := T3_read) (pc := 37) 2 dX3_read_37 (k := ?_)
        refine ev_iadd (M := T3_read) (pc := 38) dX3_read_38 (k := ?_)
        obtain ⟨⟨hi0, hi1⟩, H1⟩ := g_e H
        clear H
        refine ev_iaload (M := T3_read) (pc := 39) (k := 27) hi0 hi1 dX3_read_39 (hc := ac_27) (hlen := ln_27 _ _) (K := ?_)
        cases H1
        exact ev_ireturn (M := T3_read) (pc := 40) dX3_read_40
      · replace H := if_ne hc H
        refine ev_lv [] [] (k := ?_)
        exact E3_read_24 h _ H
-- X3_setTariff
abbrev T3_setTariff : JT := (RX3, cX3_setTariff, 7, none, false)
set_option maxRecDepth 100000 in
set_option maxHeartbeats 4000000 in
theorem C3_setTariff {l1 : Int} {l2 : Int} {l3 : Int} {l4 : Int} {l5 : Int} {h : JM} {res : JM} (H : F3_setTariff l1 l2 l3 l4 l5 h = some res) : Cn j_W1 1 0 0 yX3_setTariff cX3_setTariff 7 none [.inr (.inr (some (3, 0))), .inl (l1), .inl (l2), .inl (l3), .inl (l4), .inl (l5)] h none res := by
  refine Cn.by (own := RX3) (b := false) [(0, .inr (.inr (some (3, 0)))), (1, .inl (l1)), (2, .inl (l2)), (3, .inl (l3)), (4, .inl (l4)), (5, .inl (l5))] rfl (fun z => by cases z) (by decide +kernel) (K := ?_)
  unfold F3_setTariff at H
  refine ev_iload_n (M := T3_setTariff) (pc := 0) 1 dX3_setTariff_0 (k := ?_)
  refine ev_iconst (M := T3_setTariff) (pc := 1) dX3_setTariff_1 (k := ?_)
  refine ev_imul (M := T3_setTariff) (pc := 2) dX3_setTariff_2 (k := ?_)
  obtain ⟨x1, ex1, H1⟩ := lt_e H
  clear H
  refine ev_topI ex1 ?_
  refine ev_istore (M := T3_setTariff) (pc := 3) [(6, .inl (x1)), (0, .inr (.inr (some (3, 0)))), (1, .inl (l1)), (2, .inl (l2)), (3, .inl (l3)), (4, .inl (l4)), (5, .inl (l5))] dX3_setTariff_3 (k := ?_)
  refine ev_aload_n (M := T3_setTariff) (pc := 5) 1 dX3_setTariff_5 (k := ?_)
  refine ev_getR (M := T3_setTariff) (pc := 6) (t := 26) (x := some (26, 0)) fl_X3_9 dX3_setTariff_6 (hx := ry_3_0 _ _) (K := ?_)
  refine ev_iload (M := T3_setTariff) (pc := 9) 0 dX3_setTariff_9 (k := ?_)
  refine ev_iload_n (M := T3_setTariff) (pc := 11) 3 dX3_setTariff_11 (k := ?_)
  obtain ⟨⟨hi0, hi1⟩, H2⟩ := g_e H1
  clear H1
  obtain ⟨h2, eh2, H3⟩ := lt_e H2
  clear H2
  refine ev_iastore (M := T3_setTariff) (pc := 12) (k := 26) j_ok1 hi0 hi1 eh2 dX3_setTariff_12 (hc := ac_26) (hlen := ln_26 _ _) (K := ?_)
  refine ev_aload_n (M := T3_setTariff) (pc := 13) 1 dX3_setTariff_13 (k := ?_)
  refine ev_getR (M := T3_setTariff) (pc := 14) (t := 26) (x := some (26, 0)) fl_X3_9 dX3_setTariff_14 (hx := ry_3_0 _ _) (K := ?_)
  refine ev_iload (M := T3_setTariff) (pc := 17) 0 dX3_setTariff_17 (k := ?_)
  refine ev_iconst (M := T3_setTariff) (pc := 19) dX3_setTariff_19 (k := ?_)
  refine ev_iadd (M := T3_setTariff) (pc := 20) dX3_setTariff_20 (k := ?_)
  refine ev_iload_n (M := T3_setTariff) (pc := 21) 4 dX3_setTariff_21 (k := ?_)
  obtain ⟨⟨hi0, hi1⟩, H4⟩ := g_e H3
  clear H3
  obtain ⟨h3, eh3, H5⟩ := lt_e H4
  clear H4
  refine ev_iastore (M := T3_setTariff) (pc := 22) (k := 26) j_ok1 hi0 hi1 eh3 dX3_setTariff_22 (hc := ac_26) (hlen := ln_26 _ _) (K := ?_)
  refine ev_aload_n (M := T3_setTariff) (pc := 23) 1 dX3_setTariff_23 (k := ?_)
  refine ev_getR (M := T3_setTariff) (pc := 24) (t := 26) (x := some (26, 0)) fl_X3_9 dX3_setTariff_24 (hx := ry_3_0 _ _) (K := ?_)
  refine ev_iload (M := T3_setTariff) (pc := 27) 0 dX3_setTariff_27 (k := ?_)
  refine ev_iconst (M := T3_setTariff) (pc := 29) dX3_setTariff_29 (k := ?_)
  refine ev_iadd (M := T3_setTariff) (pc := 30) dX3_setTariff_30 (k := ?_)
  refine ev_iload (M := T3_setTariff) (pc := 31) 5 dX3_setTariff_31 (k := ?_)
  obtain ⟨⟨hi0, hi1⟩, H6⟩ := g_e H5
  clear H5
  obtain ⟨h4, eh4, H7⟩ := lt_e H6
  clear H6
  refine ev_iastore (M := T3_setTariff) (pc := 33) (k := 26) j_ok1 hi0 hi1 eh4 dX3_setTariff_33 (hc := ac_26) (hlen := ln_26 _ _) (K := ?_)
  refine ev_aload_n (M := T3_setTariff) (pc := 34) 1 dX3_setTariff_34 (k := ?_)
  refine ev_getR (M := T3_setTariff) (pc := 35) (t := 26) (x := some (26, 0)) fl_X3_9 dX3_setTariff_35 (hx := ry_3_0 _ _) (K := ?_)
  refine ev_iload (M := T3_setTariff) (pc := 38) 0 dX3_setTariff_38 (k := ?_)
  refine ev_iconst (M := T3_setTariff) (pc := 40) dX3_setTariff_40 (k := ?_)
  refine ev_iadd (M := T3_setTariff) (pc := 41) dX3_setTariff_41 (k := ?_)
  refine ev_iload (M := T3_setTariff) (pc := 42) 6 dX3_setTariff_42 (k := ?_)
  obtain ⟨⟨hi0, hi1⟩, H8⟩ := g_e H7
  clear H7
  obtain ⟨h5, eh5, H9⟩ := lt_e H8
  clear H8
  refine ev_iastore (M := T3_setTariff) (pc := 44) (k := 26) j_ok1 hi0 hi1 eh5 dX3_setTariff_44 (hc := ac_26) (hlen := ln_26 _ _) (K := ?_)
  cases H9
  exact ev_return (M := T3_setTariff) (pc := 45) dX3_setTariff_45
-- X3_write
abbrev T3_write : JT := (RX3, cX3_write, 4, none, false)
set_option maxRecDepth 100000 in
set_option maxHeartbeats 4000000 in
theorem E3_write_34 (l1 : Option Int) (l2 : Int) (l3 : Int) (s0 : Option Int) (s1 : Int) (s2 : Int) (h : JM) (res : JM) (H : F3_write_34 l1 l2 l3 s0 s1 s2 h = some res) : Ev j_W1 1 0 0 T3_write 34 [(0, .inr (.inr (some (3, 0)))), (1, .inr (.inr (Option.map (Prod.mk 0) (l1)))), (2, .inl (l2)), (3, .inl (l3))] [.inl (s2), .inl (s1), .inr (.inr (Option.map (Prod.mk 27) (s0)))] h none res := by
  unfold F3_write_34 at H
  obtain ⟨a1, ea1, H1⟩ := bd_e H
  clear H
  rw [ea1]
  obtain ⟨⟨hi0, hi1⟩, H2⟩ := g_e H1
  clear H1
  obtain ⟨h2, eh2, H3⟩ := lt_e H2
  clear H2
  refine ev_iastore (M := T3_write) (pc := 34) (k := 27) j_ok1 hi0 hi1 eh2 dX3_write_34 (hc := ac_27) (hlen := ln_27 _ _) (K := ?_)
  refine ev_aload_n (M := T3_write) (pc := 35) 0 dX3_write_35 (k := ?_)
  refine ev_getR (M := T3_write) (pc := 36) (t := 27) (x := some (27, 0)) fl_X3_15 dX3_write_36 (hx := ry_3_1 _ _) (K := ?_)
  refine ev_iload_n (M := T3_write) (pc := 39) 3 dX3_write_39 (k := ?_)
  refine ev_iconst (M := T3_write) (pc := 40) dX3_write_40 (k := ?_)
  refine ev_iadd (M := T3_write) (pc := 41) dX3_write_41 (k := ?_)
  refine ev_aload_n (M := T3_write) (pc := 42) 1 dX3_write_42 (k := ?_)
  obtain ⟨a3, ea3, H4⟩ := bd_e H3
  clear H3
  rw [ea3]
  refine ev_getI (M := T3_write) (pc := 43) (x := h2.1 0 a3 11) fl_X3_18 dX3_write_43 (K := ?_)
  obtain ⟨⟨hi0, hi1⟩, H5⟩ := g_e H4
  clear H4
  obtain ⟨h4, eh4, H6⟩ := lt_e H5
  clear H5
  refine ev_iastore (M := T3_write) (pc := 46) (k := 27) j_ok1 hi0 hi1 eh4 dX3_write_46 (hc := ac_27) (hlen := ln_27 _ _) (K := ?_)
  refine ev_aload_n (M := T3_write) (pc := 47) 0 dX3_write_47 (k := ?_)
  refine ev_getR (M := T3_write) (pc := 48) (t := 27) (x := some (27, 0)) fl_X3_15 dX3_write_48 (hx := ry_3_1 _ _) (K := ?_)
  refine ev_iload_n (M := T3_write) (pc := 51) 3 dX3_write_51 (k := ?_)
  refine ev_iconst (M := T3_write) (pc := 52) dX3_write_52 (k := ?_)
  refine ev_iadd (M := T3_write) (pc := 53) dX3_write_53 (k := ?_)
  refine ev_aload_n (M := T3_write) (pc := 54) 1 dX3_write_54 (k := ?_)
  refine ev_getI (M := T3_write) (pc := 55) (x := h4.1 0 a3 10) fl_X3_42 dX3_write_55 (K := ?_)
  obtain ⟨⟨hi0, hi1⟩, H7⟩ := g_e H6
  clear H6
  obtain ⟨h5, eh5, H8⟩ := lt_e H7
  clear H7
  refine ev_iastore (M := T3_write) (pc := 58) (k := 27) j_ok1 hi0 hi1 eh5 dX3_write_58 (hc := ac_27) (hlen := ln_27 _ _) (K := ?_)
  refine ev_aload_n (M := T3_write) (pc := 59) 0 dX3_write_59 (k := ?_)
  refine ev_getR (M := T3_write) (pc := 60) (t := 27) (x := some (27, 0)) fl_X3_15 dX3_write_60 (hx := ry_3_1 _ _) (K := ?_)
  refine ev_iload_n (M := T3_write) (pc := 63) 3 dX3_write_63 (k := ?_)
  refine ev_iconst (M := T3_write) (pc := 64) dX3_write_64 (k := ?_)
  refine ev_iadd (M := T3_write) (pc := 65) dX3_write_65 (k := ?_)
  refine ev_iload_n (M := T3_write) (pc := 66) 2 dX3_write_66 (k := ?_)
  obtain ⟨⟨hi0, hi1⟩, H9⟩ := g_e H8
  clear H8
  obtain ⟨h6, eh6, H10⟩ := lt_e H9
  clear H9
  refine ev_iastore (M := T3_write) (pc := 67) (k := 27) j_ok1 hi0 hi1 eh6 dX3_write_67 (hc := ac_27) (hlen := ln_27 _ _) (K := ?_)
  refine ev_aload_n (M := T3_write) (pc := 68) 0 dX3_write_68 (k := ?_)
  refine ev_getR (M := T3_write) (pc := 69) (t := 27) (x := some (27, 0)) fl_X3_15 dX3_write_69 (hx := ry_3_1 _ _) (K := ?_)
  refine ev_iload_n (M := T3_write) (pc := 72) 3 dX3_write_72 (k := ?_)
  refine ev_iconst (M := T3_write) (pc := 73) dX3_write_73 (k := ?_)
  refine ev_iadd (M := T3_write) (pc := 74) dX3_write_74 (k := ?_)
  refine ev_aload_n (M := T3_write) (pc := 75) 1 dX3_write_75 (k := ?_)
  refine ev_getI (M := T3_write) (pc := 76) (x := h6.1 0 a3 13) fl_X3_33 dX3_write_76 (K := ?_)
  obtain ⟨⟨hi0, hi1⟩, H11⟩ := g_e H10
  clear H10
  obtain ⟨h7, eh7, H12⟩ := lt_e H11
  clear H11
  refine ev_iastore (M := T3_write) (pc := 79) (k := 27) j_ok1 hi0 hi1 eh7 dX3_write_79 (hc := ac_27) (hlen := ln_27 _ _) (K := ?_)
  refine ev_aload_n (M := T3_write) (pc := 80) 0 dX3_write_80 (k := ?_)
  refine ev_dup (M := T3_write) (pc := 81) dX3_write_81 (k := ?_)
  refine ev_getI (M := T3_write) (pc := 82) (x := h7.1 3 0 2) fl_X3_36 dX3_write_82 (K := ?_)
  refine ev_iconst (M := T3_write) (pc := 85) dX3_write_85 (k := ?_)
  refine ev_iadd (M := T3_write) (pc := 86) dX3_write_86 (k := ?_)
  obtain ⟨h8, eh8, H13⟩ := lt_e H12
  clear H12
  refine ev_putI (M := T3_write) (pc := 87) j_ok1 fl_X3_36 eh8 dX3_write_87 (K := ?_)
  cases H13
  exact ev_return (M := T3_write) (pc := 90) dX3_write_90
set_option maxRecDepth 100000 in
set_option maxHeartbeats 4000000 in
theorem C3_write {l1 : Option Int} {l2 : Int} {h : JM} {res : JM} (H : F3_write l1 l2 h = some res) : Cn j_W1 1 0 0 yX3_write cX3_write 4 none [.inr (.inr (some (3, 0))), .inr (.inr (Option.map (Prod.mk 0) (l1))), .inl (l2)] h none res := by
  refine Cn.by (own := RX3) (b := false) [(0, .inr (.inr (some (3, 0)))), (1, .inr (.inr (Option.map (Prod.mk 0) (l1)))), (2, .inl (l2))] rfl (fun z => by cases z) (by decide +kernel) (K := ?_)
  unfold F3_write at H
  refine ev_aload_n (M := T3_write) (pc := 0) 0 dX3_write_0 (k := ?_)
  refine ev_getI (M := T3_write) (pc := 1) (x := h.1 3 0 2) fl_X3_36 dX3_write_1 (K := ?_)
  refine ev_sipush (M := T3_write) (pc := 4) dX3_write_4 (k := ?_)
  refine ev_irem (M := T3_write) (pc := 7) dX3_write_7 (by decide) (k := ?_)
  refine ev_iconst (M := T3_write) (pc := 8) dX3_write_8 (k := ?_)
  refine ev_imul (M := T3_write) (pc := 9) dX3_write_9 (k := ?_)
  obtain ⟨x9, ex9, H1⟩ := lt_e H
  clear H
  refine ev_topI ex9 ?_
  refine ev_istore_n (M := T3_write) (pc := 10) [(3, .inl (x9)), (0, .inr (.inr (some (3, 0)))), (1, .inr (.inr (Option.map (Prod.mk 0) (l1)))), (2, .inl (l2))] dX3_write_10 (k := ?_)
  refine ev_aload_n (M := T3_write) (pc := 11) 1 dX3_write_11 (k := ?_)
  refine ev_getR (M := T3_write) (pc := 12) (t := 27) (x := some (27, 0)) fl_X3_15 dX3_write_12 (hx := ry_3_1 _ _) (K := ?_)
  refine ev_iload_n (M := T3_write) (pc := 15) 0 dX3_write_15 (k := ?_)
  refine ev_aload_n (M := T3_write) (pc := 16) 2 dX3_write_16 (k := ?_)
  obtain ⟨a10, ea10, H2⟩ := bd_e H1
  clear H1
  rw [ea10]
  refine ev_getR (M := T3_write) (pc := 17) (t := 4) (x := Option.map (Prod.mk 4) (h.2.2 0 a10 1)) fl_X3_24 dX3_write_17 (hx := ry_0_1 _ _) (K := ?_)
  refine ev_nonnullK (M := T3_write) (pc := 20) (h.2.2 0 a10 1) 27 dX3_write_20 (kt := fun hc => ?_) (kf := fun hc => ?_)
  · replace H2 := if_ne hc H2
    refine ev_aload_n (M := T3_write) (pc := 27) 2 dX3_write_27 (k := ?_)
    refine ev_getR (M := T3_write) (pc := 28) (t := 4) (x := Option.map (Prod.mk 4) (h.2.2 0 a10 1)) fl_X3_24 dX3_write_28 (hx := ry_0_1 _ _) (K := ?_)
    obtain ⟨a11, ea11, H3⟩ := bd_e H2
    clear H2
    rw [ea11]
    refine ev_getI (M := T3_write) (pc := 31) (x := h.1 4 a11 0) fl_X3_39 dX3_write_31 (K := ?_)
    refine ev_lv [1, 2, 3, 0] [(0, .inr (.inr (some (3, 0)))), (1, .inr (.inr (some (0, a10)))), (2, .inl (l2)), (3, .inl (x9))] (k := ?_)
    exact E3_write_34 (some a10) l2 x9 (some 0) x9 (h.1 4 a11 0) h _ H3
  · replace H2 := if_pe hc H2
    refine ev_iconst (M := T3_write) (pc := 23) dX3_write_23 (k := ?_)
    refine ev_goto (M := T3_write) (pc := 24) 34 dX3_write_24 (k := ?_)
    refine ev_lv [1, 2, 3, 0] [(0, .inr (.inr (some (3, 0)))), (1, .inr (.inr (some (0, a10)))), (2, .inl (l2)), (3, .inl (x9))] (k := ?_)
    exact E3_write_34 (some a10) l2 x9 (some 0) x9 (-1) h _ H2
-- X4_canTakeOther
abbrev T4_canTakeOther : JT := (RX4, cX4_canTakeOther, 1, some .boolean, false)
set_option maxRecDepth 100000 in
set_option maxHeartbeats 4000000 in
theorem E4_canTakeOther_38 (h : JM) (res : (Int × JM)) (H : F4_canTakeOther_38 h = some res) : Ev j_W1 1 0 0 T4_canTakeOther 38 [] [] h (some (.inl res.1)) res.2 := by
  unfold F4_canTakeOther_38 at H
  refine ev_iconst (M := T4_canTakeOther) (pc := 38) dX4_canTakeOther_38 (k := ?_)
  cases H
  exact ev_zreturn (M := T4_canTakeOther) (pc := 39) (Or.inl rfl) dX4_canTakeOther_39
set_option maxRecDepth 100000 in
set_option maxHeartbeats 4000000 in
theorem C4_canTakeOther {l0 : Int} {h : JM} {res : (Int × JM)} (H : F4_canTakeOther l0 h = some res) : Cn j_W1 1 0 0 yX4_canTakeOther cX4_canTakeOther 1 (some .boolean) [.inr (.inr (some (4, l0)))] h (some (.inl res.1)) res.2 := by
  refine Cn.by (own := RX4) (b := false) [(0, .inr (.inr (some (4, l0))))] rfl (fun z => by cases z) (by decide +kernel) (K := ?_)
  unfold F4_canTakeOther at H
  refine ev_aload_n (M := T4_canTakeOther) (pc := 0) 0 dX4_canTakeOther_0 (k := ?_)
  refine ev_getR (M := T4_canTakeOther) (pc := 1) (t := 28) (x := some (28, l0)) fl_X4_9 dX4_canTakeOther_1 (hx := ry_4_1 _ _) (K := ?_)
  refine ev_iconst (M := T4_canTakeOther) (pc := 4) dX4_canTakeOther_4 (k := ?_)
  obtain ⟨⟨hi0, hi1⟩, H1⟩ := g_e H
  clear H
  refine ev_zaload (M := T4_canTakeOther) (pc := 5) (k := 28) hi0 hi1 dX4_canTakeOther_5 (hc := ac_28) (hlen := ln_28 _ _) (K := ?_)
  refine ev_ifeq (M := T4_canTakeOther) (pc := 6) 38 dX4_canTakeOther_6 (kt := fun hc => ?_) (kf := fun hc => ?_)
  · replace H1 := if_pe hc H1
    refine ev_lv [] [] (k := ?_)
    exact E4_canTakeOther_38 h _ H1
  · replace H1 := if_ne hc H1
    refine ev_aload_n (M := T4_canTakeOther) (pc := 9) 0 dX4_canTakeOther_9 (k := ?_)
    refine ev_getR (M := T4_canTakeOther) (pc := 10) (t := 0) (x := Option.map (Prod.mk 0) (h.2.2 4 l0 11)) fl_X4_38 dX4_canTakeOther_10 (hx := ry_4_11 _ _) (K := ?_)
    refine ev_nullK (M := T4_canTakeOther) (pc := 13) (h.2.2 4 l0 11) 38 dX4_canTakeOther_13 (kt := fun hc => ?_) (kf := fun hc => ?_)
    · replace H1 := if_pe hc H1
      refine ev_lv [] [] (k := ?_)
      exact E4_canTakeOther_38 h _ H1
    · replace H1 := if_ne hc H1
      refine ev_aload_n (M := T4_canTakeOther) (pc := 16) 0 dX4_canTakeOther_16 (k := ?_)
      refine ev_getR (M := T4_canTakeOther) (pc := 17) (t := 0) (x := Option.map (Prod.mk 0) (h.2.2 4 l0 11)) fl_X4_38 dX4_canTakeOther_17 (hx := ry_4_11 _ _) (K := ?_)
      obtain ⟨a1, ea1, H2⟩ := bd_e H1
      clear H1
      rw [ea1]
      refine ev_getI (M := T4_canTakeOther) (pc := 20) (x := h.1 0 a1 9) fl_X4_41 dX4_canTakeOther_20 (K := ?_)
      refine ev_iconst (M := T4_canTakeOther) (pc := 23) dX4_canTakeOther_23 (k := ?_)
      refine ev_icmpne (M := T4_canTakeOther) (pc := 24) 38 dX4_canTakeOther_24 (kt := fun hc => ?_) (kf := fun hc => ?_)
      · replace H2 := if_ne hc H2
        refine ev_lv [] [] (k := ?_)
        exact E4_canTakeOther_38 h _ H2
      · replace H2 := if_pe hc H2
        refine ev_aload_n (M := T4_canTakeOther) (pc := 27) 0 dX4_canTakeOther_27 (k := ?_)
        refine ev_getR (M := T4_canTakeOther) (pc := 28) (t := 0) (x := Option.map (Prod.mk 0) (h.2.2 4 l0 12)) fl_X4_46 dX4_canTakeOther_28 (hx := ry_4_12 _ _) (K := ?_)
        refine ev_nonnullK (M := T4_canTakeOther) (pc := 31) (h.2.2 4 l0 12) 38 dX4_canTakeOther_31 (kt := fun hc => ?_) (kf := fun hc => ?_)
        · replace H2 := if_ne hc H2
          refine ev_lv [] [] (k := ?_)
          exact E4_canTakeOther_38 h _ H2
        · replace H2 := if_pe hc H2
          refine ev_iconst (M := T4_canTakeOther) (pc := 34) dX4_canTakeOther_34 (k := ?_)
          refine ev_goto (M := T4_canTakeOther) (pc := 35) 39 dX4_canTakeOther_35 (k := ?_)
          cases H2
          exact ev_zreturn (M := T4_canTakeOther) (pc := 39) (Or.inr rfl) dX4_canTakeOther_39
-- X4_change
abbrev T4_change : JT := (RX4, cX4_change, 3, some .int, false)
set_option maxRecDepth 100000 in
set_option maxHeartbeats 4000000 in
theorem C4_change {l0 : Int} {l1 : Int} {l2 : Int} {h : JM} {res : (Int × JM)} (H : F4_change l0 l1 l2 h = some res) : Cn j_W1 1 0 0 yX4_change cX4_change 3 (some .int) [.inr (.inr (some (4, l0))), .inl (l1), .inl (l2)] h (some (.inl res.1)) res.2 := by
  refine Cn.by (own := RX4) (b := false) [(0, .inr (.inr (some (4, l0)))), (1, .inl (l1)), (2, .inl (l2))] rfl (fun z => by cases z) (by decide +kernel) (K := ?_)
  unfold F4_change at H
  refine ev_aload_n (M := T4_change) (pc := 0) 0 dX4_change_0 (k := ?_)
  refine ev_iload_n (M := T4_change) (pc := 1) 1 dX4_change_1 (k := ?_)
  obtain ⟨hz, H1⟩ := g_e H
  clear H
  obtain ⟨h1, eh1, H2⟩ := lt_e H1
  clear H1
  refine ev_putZ (M := T4_change) (pc := 2) j_ok1 hz fl_X4_30 eh1 dX4_change_2 (K := ?_)
  refine ev_aload_n (M := T4_change) (pc := 5) 0 dX4_change_5 (k := ?_)
  refine ev_iconst (M := T4_change) (pc := 6) dX4_change_6 (k := ?_)
  obtain ⟨h2, eh2, H3⟩ := lt_e H2
  clear H2
  refine ev_putI (M := T4_change) (pc := 7) j_ok1 fl_X4_56 eh2 dX4_change_7 (K := ?_)
  refine ev_aload_n (M := T4_change) (pc := 10) 0 dX4_change_10 (k := ?_)
  refine ev_iconst (M := T4_change) (pc := 11) dX4_change_11 (k := ?_)
  obtain ⟨h3, eh3, H4⟩ := lt_e H3
  clear H3
  refine ev_putI (M := T4_change) (pc := 12) j_ok1 fl_X4_62 eh3 dX4_change_12 (K := ?_)
  refine ev_aload_n (M := T4_change) (pc := 15) 0 dX4_change_15 (k := ?_)
  refine ev_iconst (M := T4_change) (pc := 16) dX4_change_16 (k := ?_)
  obtain ⟨h4, eh4, H5⟩ := lt_e H4
  clear H4
  refine ev_putI (M := T4_change) (pc := 17) j_ok1 fl_X4_59 eh4 dX4_change_17 (K := ?_)
  refine ev_aload_n (M := T4_change) (pc := 20) 0 dX4_change_20 (k := ?_)
  refine ev_iconst (M := T4_change) (pc := 21) dX4_change_21 (k := ?_)
  obtain ⟨h5, eh5, H6⟩ := lt_e H5
  clear H5
  refine ev_putI (M := T4_change) (pc := 22) j_ok1 fl_X4_65 eh5 dX4_change_22 (K := ?_)
  refine ev_iload_n (M := T4_change) (pc := 25) 2 dX4_change_25 (k := ?_)
  cases H6
  exact ev_ireturn (M := T4_change) (pc := 26) dX4_change_26
