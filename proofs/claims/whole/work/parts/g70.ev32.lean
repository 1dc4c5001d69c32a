-- X12_waiting
abbrev T12_waiting : JT := (RX12, cX12_waiting, 6, some .int, false)
set_option maxRecDepth 100000 in
set_option maxHeartbeats 4000000 in
theorem E12_waiting_34 (h : JM) (res : (Int × JM)) (H : F12_waiting_34 h = some res) : Ev j_W1 2 0 0 T12_waiting 34 [] [] h (some (.inl res.1)) res.2 := by
  unfold F12_waiting_34 at H
  refine ev_bipush (M := T12_waiting) (pc := 34) dX12_waiting_34 (k := ?_)
  cases H
  exact ev_ireturn (M := T12_waiting) (pc := 36) dX12_waiting_36
set_option maxRecDepth 100000 in
set_option maxHeartbeats 4000000 in
theorem C12_waiting {l1 : Int} {l2 : Int} {l3 : Int} {h : JM} {res : (Int × JM)} (H : F12_waiting l1 l2 l3 h = some res) : Cn j_W1 2 0 0 yX12_waiting cX12_waiting 6 (some .int) [.inr (.inr (some (12, 0))), .inl (l1), .inl (l2), .inl (l3)] h (some (.inl res.1)) res.2 := by
  refine Cn.by (own := RX12) (b := false) [(0, .inr (.inr (some (12, 0)))), (1, .inl (l1)), (2, .inl (l2)), (3, .inl (l3))] rfl (fun z => by cases z) (by decide +kernel) (K := ?_)
  unfold F12_waiting at H
  refine ev_iload_n (M := T12_waiting) (pc := 0) 1 dX12_waiting_0 (k := ?_)
  refine ev_i2l (M := T12_waiting) (pc := 1) dX12_waiting_1 (k := ?_)
  refine ev_lconst (M := T12_waiting) (pc := 2) (v := 0) dX12_waiting_2 (k := ?_)
  refine ev_lconst (M := T12_waiting) (pc := 3) (v := 1) dX12_waiting_3 (k := ?_)
  obtain ⟨q1, hq, H1⟩ := bd_e H
  clear H
  refine ev_callS (M := T12_waiting) (pc := 4) (mc := 0) (ms := 0) (st := []) (C12_in hq) md_X12_in ss_X12_in ml_X12_268 dX12_waiting_4 _ (by decide) (K := ?_)
  refine ev_ifeq (M := T12_waiting) (pc := 7) 34 dX12_waiting_7 (kt := fun hc => ?_) (kf := fun hc => ?_)
  · replace H1 := if_pe hc H1
    refine ev_lv [] [] (k := ?_)
    exact E12_waiting_34 q1.2 _ H1
  · replace H1 := if_ne hc H1
    refine ev_iload_n (M := T12_waiting) (pc := 10) 2 dX12_waiting_10 (k := ?_)
    refine ev_i2l (M := T12_waiting) (pc := 11) dX12_waiting_11 (k := ?_)
    refine ev_lconst (M := T12_waiting) (pc := 12) (v := 0) dX12_waiting_12 (k := ?_)
    refine ev_ldc2 (M := T12_waiting) (pc := 13) (n := 2) cl_X12_281 dX12_waiting_13 (hv := cw_X12_281) (k := ?_)
    obtain ⟨q2, hq, H2⟩ := bd_e H1
    clear H1
    refine ev_callS (M := T12_waiting) (pc := 16) (mc := 0) (ms := 0) (st := []) (C12_in hq) md_X12_in ss_X12_in ml_X12_268 dX12_waiting_16 _ (by decide) (K := ?_)
    refine ev_ifeq (M := T12_waiting) (pc := 19) 34 dX12_waiting_19 (kt := fun hc => ?_) (kf := fun hc => ?_)
    · replace H2 := if_pe hc H2
      refine ev_lv [] [] (k := ?_)
      exact E12_waiting_34 q2.2 _ H2
    · replace H2 := if_ne hc H2
      refine ev_iload_n (M := T12_waiting) (pc := 22) 3 dX12_waiting_22 (k := ?_)
      refine ev_i2l (M := T12_waiting) (pc := 23) dX12_waiting_23 (k := ?_)
      refine ev_lconst (M := T12_waiting) (pc := 24) (v := 0) dX12_waiting_24 (k := ?_)
      refine ev_ldc2 (M := T12_waiting) (pc := 25) (n := 10) cl_X12_405 dX12_waiting_25 (hv := cw_X12_405) (k := ?_)
      obtain ⟨q3, hq, H3⟩ := bd_e H2
      clear H2
      refine ev_callS (M := T12_waiting) (pc := 28) (mc := 0) (ms := 0) (st := []) (C12_in hq) md_X12_in ss_X12_in ml_X12_268 dX12_waiting_28 _ (by decide) (K := ?_)
      refine ev_ifne (M := T12_waiting) (pc := 31) 37 dX12_waiting_31 (kt := fun hc => ?_) (kf := fun hc => ?_)
      · replace H3 := if_ne hc H3
        refine ev_iconst (M := T12_waiting) (pc := 37) dX12_waiting_37 (k := ?_)
        refine ev_iload_n (M := T12_waiting) (pc := 38) 1 dX12_waiting_38 (k := ?_)
        refine ev_imul (M := T12_waiting) (pc := 39) dX12_waiting_39 (k := ?_)
        refine ev_iload_n (M := T12_waiting) (pc := 40) 2 dX12_waiting_40 (k := ?_)
        refine ev_iadd (M := T12_waiting) (pc := 41) dX12_waiting_41 (k := ?_)
        obtain ⟨x4, ex4, H4⟩ := lt_e H3
        clear H3
        refine ev_topI ex4 ?_
        refine ev_istore (M := T12_waiting) (pc := 42) [(4, .inl (x4)), (0, .inr (.inr (some (12, 0)))), (1, .inl (l1)), (2, .inl (l2)), (3, .inl (l3))] dX12_waiting_42 (k := ?_)
        refine ev_aload_n (M := T12_waiting) (pc := 44) 1 dX12_waiting_44 (k := ?_)
        refine ev_getR (M := T12_waiting) (pc := 45) (t := 151) (x := some (151, 0)) fl_X12_149 dX12_waiting_45 (hx := ry_12_51 _ _) (K := ?_)
        refine ev_iload (M := T12_waiting) (pc := 48) 0 dX12_waiting_48 (k := ?_)
        obtain ⟨⟨hi0, hi1⟩, H5⟩ := g_e H4
        clear H4
        refine ev_iaload (M := T12_waiting) (pc := 50) (k := 151) hi0 hi1 dX12_waiting_50 (hc := ac_151) (hlen := ln_151 _ _) (K := ?_)
        obtain ⟨x5, ex5, H6⟩ := lt_e H5
        clear H5
        refine ev_topI ex5 ?_
        refine ev_istore (M := T12_waiting) (pc := 51) [(5, .inl (x5)), (4, .inl (x4)), (0, .inr (.inr (some (12, 0)))), (1, .inl (l1)), (2, .inl (l2)), (3, .inl (l3))] dX12_waiting_51 (k := ?_)
        refine ev_aload_n (M := T12_waiting) (pc := 53) 2 dX12_waiting_53 (k := ?_)
        refine ev_getR (M := T12_waiting) (pc := 54) (t := 151) (x := some (151, 0)) fl_X12_149 dX12_waiting_54 (hx := ry_12_51 _ _) (K := ?_)
        refine ev_iload (M := T12_waiting) (pc := 57) 1 dX12_waiting_57 (k := ?_)
        refine ev_iload_n (M := T12_waiting) (pc := 59) 5 dX12_waiting_59 (k := ?_)
        obtain ⟨⟨hi0, hi1⟩, H7⟩ := g_e H6
        clear H6
        obtain ⟨h6, eh6, H8⟩ := lt_e H7
        clear H7
        refine ev_iastore (M := T12_waiting) (pc := 60) (k := 151) j_ok1 hi0 hi1 eh6 dX12_waiting_60 (hc := ac_151) (hlen := ln_151 _ _) (K := ?_)
        refine ev_iload (M := T12_waiting) (pc := 61) 0 dX12_waiting_61 (k := ?_)
        cases H8
        exact ev_ireturn (M := T12_waiting) (pc := 63) dX12_waiting_63
      · replace H3 := if_pe hc H3
        refine ev_lv [] [] (k := ?_)
        exact E12_waiting_34 q3.2 _ H3
