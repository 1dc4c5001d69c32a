abbrev TL_cell : JT := (RL, cL_cell, 2, some .int, false)
set_option maxRecDepth 100000 in
set_option maxHeartbeats 4000000 in
theorem IL_cell {l0 : Option Int} {l1 : Int} {h : JM} {res : (Int × JM)} (H : FL_cell l0 l1 h = some res) : Cn j_W0 1 0 0 yL_cell cL_cell 2 (some .int) [.inr (.inr (Option.map (Prod.mk 99) (l0))), .inl (l1)] h (some (.inl res.1)) res.2 := by
  refine Cn.by (own := RL) (b := false) [(0, .inr (.inr (Option.map (Prod.mk 99) (l0)))), (1, .inl (l1))] rfl (fun z => by cases z) (by decide +kernel) (K := ?_)
  unfold FL_cell at H
  refine ev_iload_n (M := TL_cell) (pc := 0) 1 dL_cell_0 (k := ?_)
  refine ev_aload_n (M := TL_cell) (pc := 1) 0 dL_cell_1 (k := ?_)
  obtain ⟨a1, ea1, H1⟩ := bd_e H
  clear H
  rw [ea1]
  obtain ⟨⟨hi0, hi1⟩, H2⟩ := g_e H1
  clear H1
  refine ev_slen (M := TL_cell) (pc := 2) (len := h.1 1099 a1 1) dL_cell_2 hi0 hi1 (K := ?_)
  refine ev_icmpge (M := TL_cell) (pc := 3) 12 dL_cell_3 (kt := fun hc => ?_) (kf := fun hc => ?_)
  · replace H2 := if_pe hc H2
    refine ev_iconst (M := TL_cell) (pc := 12) dL_cell_12 (k := ?_)
    cases H2
    exact ev_ireturn (M := TL_cell) (pc := 13) dL_cell_13
  · replace H2 := if_ne hc H2
    refine ev_aload_n (M := TL_cell) (pc := 6) 0 dL_cell_6 (k := ?_)
    refine ev_iload_n (M := TL_cell) (pc := 7) 1 dL_cell_7 (k := ?_)
    obtain ⟨⟨hi0, hi1⟩, H3⟩ := g_e H2
    clear H2
    refine ev_sload (M := TL_cell) (pc := 8) hi0 hi1 dL_cell_8 (K := ?_)
    refine ev_goto (M := TL_cell) (pc := 9) 13 dL_cell_9 (k := ?_)
    cases H3
    exact ev_ireturn (M := TL_cell) (pc := 13) dL_cell_13
abbrev TL_law : JT := (RL, cL_law, 4, some .boolean, false)
set_option maxRecDepth 100000 in
set_option maxHeartbeats 4000000 in
theorem EL_law_1102 (n : Nat) (k38 : Option Int → Option Int → Option Int → Int → JM → Option (Int × JM)) (hk38 : ∀ (l0 : Option Int) (l1 : Option Int) (l2 : Option Int) (l3 : Int) (h : JM) (res : (Int × JM)), k38 l0 l1 l2 l3 h = some res → Ev j_W1 95 (1 * n + 1) (5 * n + 5) TL_law 38 [(0, .inr (.inr (Option.map (Prod.mk 99) (l0)))), (1, .inr (.inr (Option.map (Prod.mk 11) (l1)))), (2, .inr (.inr (Option.map (Prod.mk 12) (l2)))), (3, .inl (l3))] [] h (some (.inl res.1)) res.2) (l0 : Option Int) (l1 : Option Int) (l2 : Option Int) (l3 : Int) (h : JM) (res : (Int × JM)) (H : FL_law_1102 k38 l0 l1 l2 l3 h = some res) : Ev j_W1 95 (0 + (1 * n + 1)) (0 + (5 * n + 5)) TL_law 1102 [(0, .inr (.inr (Option.map (Prod.mk 99) (l0)))), (1, .inr (.inr (Option.map (Prod.mk 11) (l1)))), (2, .inr (.inr (Option.map (Prod.mk 12) (l2)))), (3, .inl (l3))] [] h (some (.inl res.1)) res.2 := by
  unfold FL_law_1102 at H
  refine ev_iinc (M := TL_law) (pc := 1102) 3 [(3, .inl (w32 (l3 + 6))), (0, .inr (.inr (Option.map (Prod.mk 99) (l0)))), (1, .inr (.inr (Option.map (Prod.mk 11) (l1)))), (2, .inr (.inr (Option.map (Prod.mk 12) (l2))))] dL_law_1102 (k := ?_)
  refine ev_goto (M := TL_law) (pc := 1105) 38 dL_law_1105 (k := ?_)
  refine ev_mono (mc := 1 * n + 1) (ms := 5 * n + 5) (by omega) (by omega) ?_
  refine ev_lv [1, 2, 3, 0] [(0, .inr (.inr (Option.map (Prod.mk 99) (l0)))), (1, .inr (.inr (Option.map (Prod.mk 11) (l1)))), (2, .inr (.inr (Option.map (Prod.mk 12) (l2)))), (3, .inl (w32 (l3 + 6)))] (k := ?_)
  exact hk38 l0 l1 l2 (w32 (l3 + 6)) h _ H
set_option maxRecDepth 100000 in
set_option maxHeartbeats 4000000 in
theorem EL_law_576 (n : Nat) (k38 : Option Int → Option Int → Option Int → Int → JM → Option (Int × JM)) (hk38 : ∀ (l0 : Option Int) (l1 : Option Int) (l2 : Option Int) (l3 : Int) (h : JM) (res : (Int × JM)), k38 l0 l1 l2 l3 h = some res → Ev j_W1 95 (1 * n + 1) (5 * n + 5) TL_law 38 [(0, .inr (.inr (Option.map (Prod.mk 99) (l0)))), (1, .inr (.inr (Option.map (Prod.mk 11) (l1)))), (2, .inr (.inr (Option.map (Prod.mk 12) (l2)))), (3, .inl (l3))] [] h (some (.inl res.1)) res.2) (l0 : Option Int) (l1 : Option Int) (l2 : Option Int) (l3 : Int) (s0 : Int) (s1 : Option Int) (s2 : Int) (s3 : Int) (h : JM) (res : (Int × JM)) (H : FL_law_576 k38 l0 l1 l2 l3 s0 s1 s2 s3 h = some res) : Ev j_W1 95 (0 + (1 * n + 1)) (0 + (5 * n + 5)) TL_law 576 [(0, .inr (.inr (Option.map (Prod.mk 99) (l0)))), (1, .inr (.inr (Option.map (Prod.mk 11) (l1)))), (2, .inr (.inr (Option.map (Prod.mk 12) (l2)))), (3, .inl (l3))] [.inl (s3), .inl (s2), .inr (.inr (Option.map (Prod.mk 12) (s1))), .inl (s0)] h (some (.inl res.1)) res.2 := by
  unfold FL_law_576 at H
  refine ev_mono (mc := 0 + (0 + (1 * n + 1))) (ms := 0 + (0 + (5 * n + 5))) (by omega) (by omega) ?_
  obtain ⟨a1, ea1, H1⟩ := bd_e H
  clear H
  obtain ⟨hz, H2⟩ := g_e H1
  clear H1
  rw [ea1, hz]
  obtain ⟨q2, hq, H3⟩ := bd_e H2
  clear H2
  refine ev_callV (M := TL_law) (pc := 576) (mc := 0 + (1 * n + 1)) (ms := 0 + (5 * n + 5)) (st := [.inl (s0)]) (C12_hook hq) md_X12_hook im_X12_hook se_X12_hook ml_L_67 dL_law_576 _ (by decide) (K := ?_)
  refine ev_icmpeq (M := TL_law) (pc := 579) 1102 dL_law_579 (kt := fun hc => ?_) (kf := fun hc => ?_)
  · replace H3 := if_pe hc H3
    refine ev_mono (mc := 0 + (1 * n + 1)) (ms := 0 + (5 * n + 5)) (by omega) (by omega) ?_
    exact EL_law_1102 n k38 hk38 l0 l1 l2 l3 q2.2 _ H3
  · replace H3 := if_ne hc H3
    refine ev_iconst (M := TL_law) (pc := 582) dL_law_582 (k := ?_)
    cases H3
    exact ev_zreturn (M := TL_law) (pc := 583) (Or.inl rfl) dL_law_583
set_option maxRecDepth 100000 in
set_option maxHeartbeats 4000000 in
theorem EL_law_554 (n : Nat) (k38 : Option Int → Option Int → Option Int → Int → JM → Option (Int × JM)) (hk38 : ∀ (l0 : Option Int) (l1 : Option Int) (l2 : Option Int) (l3 : Int) (h : JM) (res : (Int × JM)), k38 l0 l1 l2 l3 h = some res → Ev j_W1 95 (1 * n + 1) (5 * n + 5) TL_law 38 [(0, .inr (.inr (Option.map (Prod.mk 99) (l0)))), (1, .inr (.inr (Option.map (Prod.mk 11) (l1)))), (2, .inr (.inr (Option.map (Prod.mk 12) (l2)))), (3, .inl (l3))] [] h (some (.inl res.1)) res.2) (l0 : Option Int) (l1 : Option Int) (l2 : Option Int) (l3 : Int) (s0 : Option Int) (s1 : Int) (s2 : Int) (h : JM) (res : (Int × JM)) (H : FL_law_554 k38 l0 l1 l2 l3 s0 s1 s2 h = some res) : Ev j_W1 95 (0 + (1 * n + 1)) (0 + (5 * n + 5)) TL_law 554 [(0, .inr (.inr (Option.map (Prod.mk 99) (l0)))), (1, .inr (.inr (Option.map (Prod.mk 11) (l1)))), (2, .inr (.inr (Option.map (Prod.mk 12) (l2)))), (3, .inl (l3))] [.inl (s2), .inl (s1), .inr (.inr (Option.map (Prod.mk 11) (s0)))] h (some (.inl res.1)) res.2 := by
  unfold FL_law_554 at H
  refine ev_mono (mc := 0 + (0 + (1 * n + 1))) (ms := 0 + (0 + (5 * n + 5))) (by omega) (by omega) ?_
  obtain ⟨a3, ea3, H1⟩ := bd_e H
  clear H
  obtain ⟨hz, H2⟩ := g_e H1
  clear H1
  rw [ea3, hz]
  obtain ⟨q4, hq, H3⟩ := bd_e H2
  clear H2
  refine ev_callV (M := TL_law) (pc := 554) (mc := 0 + (1 * n + 1)) (ms := 0 + (5 * n + 5)) (st := []) (C11_hook hq) md_X11_hook im_X11_hook se_X11_hook ml_L_63 dL_law_554 _ (by decide) (K := ?_)
  refine ev_aload_n (M := TL_law) (pc := 557) 2 dL_law_557 (k := ?_)
  refine ev_aload_n (M := TL_law) (pc := 558) 0 dL_law_558 (k := ?_)
  refine ev_iload_n (M := TL_law) (pc := 559) 3 dL_law_559 (k := ?_)
  refine ev_iconst (M := TL_law) (pc := 560) dL_law_560 (k := ?_)
  refine ev_iadd (M := TL_law) (pc := 561) dL_law_561 (k := ?_)
  obtain ⟨a5, ea5, H4⟩ := bd_e H3
  clear H3
  rw [ea5]
  obtain ⟨⟨hi0, hi1⟩, H5⟩ := g_e H4
  clear H4
  refine ev_sload (M := TL_law) (pc := 562) hi0 hi1 dL_law_562 (hlen := ln_99 _ _) (K := ?_)
  refine ev_aload_n (M := TL_law) (pc := 563) 0 dL_law_563 (k := ?_)
  refine ev_iload_n (M := TL_law) (pc := 564) 3 dL_law_564 (k := ?_)
  refine ev_iconst (M := TL_law) (pc := 565) dL_law_565 (k := ?_)
  refine ev_iadd (M := TL_law) (pc := 566) dL_law_566 (k := ?_)
  obtain ⟨⟨hi0, hi1⟩, H6⟩ := g_e H5
  clear H5
  refine ev_sload (M := TL_law) (pc := 567) hi0 hi1 dL_law_567 (hlen := ln_99 _ _) (K := ?_)
  refine ev_ifeq (M := TL_law) (pc := 568) 575 dL_law_568 (kt := fun hc => ?_) (kf := fun hc => ?_)
  · replace H6 := if_pe hc H6
    refine ev_iconst (M := TL_law) (pc := 575) dL_law_575 (k := ?_)
    refine ev_mono (mc := 0 + (1 * n + 1)) (ms := 0 + (5 * n + 5)) (by omega) (by omega) ?_
    exact EL_law_576 n k38 hk38 (some a5) l1 l2 l3 q4.1 l2 (q4.2.1 99 a5 (w32 (l3 + 1))) 0 q4.2 _ H6
  · replace H6 := if_ne hc H6
    refine ev_iconst (M := TL_law) (pc := 571) dL_law_571 (k := ?_)
    refine ev_goto (M := TL_law) (pc := 572) 576 dL_law_572 (k := ?_)
    refine ev_mono (mc := 0 + (1 * n + 1)) (ms := 0 + (5 * n + 5)) (by omega) (by omega) ?_
    exact EL_law_576 n k38 hk38 (some a5) l1 l2 l3 q4.1 l2 (q4.2.1 99 a5 (w32 (l3 + 1))) 1 q4.2 _ H6
set_option maxRecDepth 100000 in
set_option maxHeartbeats 4000000 in
theorem EL_law_398 (n : Nat) (k38 : Option Int → Option Int → Option Int → Int → JM → Option (Int × JM)) (hk38 : ∀ (l0 : Option Int) (l1 : Option Int) (l2 : Option Int) (l3 : Int) (h : JM) (res : (Int × JM)), k38 l0 l1 l2 l3 h = some res → Ev j_W1 95 (1 * n + 1) (5 * n + 5) TL_law 38 [(0, .inr (.inr (Option.map (Prod.mk 99) (l0)))), (1, .inr (.inr (Option.map (Prod.mk 11) (l1)))), (2, .inr (.inr (Option.map (Prod.mk 12) (l2)))), (3, .inl (l3))] [] h (some (.inl res.1)) res.2) (l0 : Option Int) (l1 : Option Int) (l2 : Option Int) (l3 : Int) (s0 : Int) (s1 : Option Int) (s2 : Int) (s3 : Int) (s4 : Int) (h : JM) (res : (Int × JM)) (H : FL_law_398 k38 l0 l1 l2 l3 s0 s1 s2 s3 s4 h = some res) : Ev j_W1 95 (0 + (1 * n + 1)) (0 + (5 * n + 5)) TL_law 398 [(0, .inr (.inr (Option.map (Prod.mk 99) (l0)))), (1, .inr (.inr (Option.map (Prod.mk 11) (l1)))), (2, .inr (.inr (Option.map (Prod.mk 12) (l2)))), (3, .inl (l3))] [.inl (s4), .inl (s3), .inl (s2), .inr (.inr (Option.map (Prod.mk 12) (s1))), .inl (s0)] h (some (.inl res.1)) res.2 := by
  unfold FL_law_398 at H
  refine ev_mono (mc := 0 + (0 + (1 * n + 1))) (ms := 0 + (0 + (5 * n + 5))) (by omega) (by omega) ?_
  obtain ⟨a6, ea6, H1⟩ := bd_e H
  clear H
  obtain ⟨hz, H2⟩ := g_e H1
  clear H1
  rw [ea6, hz]
  obtain ⟨q7, hq, H3⟩ := bd_e H2
  clear H2
  refine ev_callV (M := TL_law) (pc := 398) (mc := 0 + (1 * n + 1)) (ms := 0 + (5 * n + 5)) (st := [.inl (s0)]) (C12_feature hq) md_X12_feature im_X12_feature se_X12_feature ml_L_50 dL_law_398 _ (by decide) (K := ?_)
  refine ev_icmpeq (M := TL_law) (pc := 401) 1102 dL_law_401 (kt := fun hc => ?_) (kf := fun hc => ?_)
  · replace H3 := if_pe hc H3
    refine ev_mono (mc := 0 + (1 * n + 1)) (ms := 0 + (5 * n + 5)) (by omega) (by omega) ?_
    exact EL_law_1102 n k38 hk38 l0 l1 l2 l3 q7.2 _ H3
  · replace H3 := if_ne hc H3
    refine ev_iconst (M := TL_law) (pc := 404) dL_law_404 (k := ?_)
    cases H3
    exact ev_zreturn (M := TL_law) (pc := 405) (Or.inl rfl) dL_law_405
set_option maxRecDepth 100000 in
set_option maxHeartbeats 4000000 in
theorem EL_law_371 (n : Nat) (k38 : Option Int → Option Int → Option Int → Int → JM → Option (Int × JM)) (hk38 : ∀ (l0 : Option Int) (l1 : Option Int) (l2 : Option Int) (l3 : Int) (h : JM) (res : (Int × JM)), k38 l0 l1 l2 l3 h = some res → Ev j_W1 95 (1 * n + 1) (5 * n + 5) TL_law 38 [(0, .inr (.inr (Option.map (Prod.mk 99) (l0)))), (1, .inr (.inr (Option.map (Prod.mk 11) (l1)))), (2, .inr (.inr (Option.map (Prod.mk 12) (l2)))), (3, .inl (l3))] [] h (some (.inl res.1)) res.2) (l0 : Option Int) (l1 : Option Int) (l2 : Option Int) (l3 : Int) (s0 : Option Int) (s1 : Int) (s2 : Int) (s3 : Int) (h : JM) (res : (Int × JM)) (H : FL_law_371 k38 l0 l1 l2 l3 s0 s1 s2 s3 h = some res) : Ev j_W1 95 (0 + (1 * n + 1)) (0 + (5 * n + 5)) TL_law 371 [(0, .inr (.inr (Option.map (Prod.mk 99) (l0)))), (1, .inr (.inr (Option.map (Prod.mk 11) (l1)))), (2, .inr (.inr (Option.map (Prod.mk 12) (l2)))), (3, .inl (l3))] [.inl (s3), .inl (s2), .inl (s1), .inr (.inr (Option.map (Prod.mk 11) (s0)))] h (some (.inl res.1)) res.2 := by
  unfold FL_law_371 at H
  refine ev_mono (mc := 0 + (0 + (1 * n + 1))) (ms := 0 + (0 + (5 * n + 5))) (by omega) (by omega) ?_
  obtain ⟨a8, ea8, H1⟩ := bd_e H
  clear H
  obtain ⟨hz, H2⟩ := g_e H1
  clear H1
  rw [ea8, hz]
  obtain ⟨q9, hq, H3⟩ := bd_e H2
  clear H2
  refine ev_callV (M := TL_law) (pc := 371) (mc := 0 + (1 * n + 1)) (ms := 0 + (5 * n + 5)) (st := []) (C11_feature hq) md_X11_feature im_X11_feature se_X11_feature ml_L_46 dL_law_371 _ (by decide) (K := ?_)
  refine ev_aload_n (M := TL_law) (pc := 374) 2 dL_law_374 (k := ?_)
  refine ev_aload_n (M := TL_law) (pc := 375) 0 dL_law_375 (k := ?_)
  refine ev_iload_n (M := TL_law) (pc := 376) 3 dL_law_376 (k := ?_)
  refine ev_iconst (M := TL_law) (pc := 377) dL_law_377 (k := ?_)
  refine ev_iadd (M := TL_law) (pc := 378) dL_law_378 (k := ?_)
  obtain ⟨a10, ea10, H4⟩ := bd_e H3
  clear H3
  rw [ea10]
  obtain ⟨⟨hi0, hi1⟩, H5⟩ := g_e H4
  clear H4
  refine ev_sload (M := TL_law) (pc := 379) hi0 hi1 dL_law_379 (hlen := ln_99 _ _) (K := ?_)
  refine ev_aload_n (M := TL_law) (pc := 380) 0 dL_law_380 (k := ?_)
  refine ev_iload_n (M := TL_law) (pc := 381) 3 dL_law_381 (k := ?_)
  refine ev_iconst (M := TL_law) (pc := 382) dL_law_382 (k := ?_)
  refine ev_iadd (M := TL_law) (pc := 383) dL_law_383 (k := ?_)
  obtain ⟨⟨hi0, hi1⟩, H6⟩ := g_e H5
  clear H5
  refine ev_sload (M := TL_law) (pc := 384) hi0 hi1 dL_law_384 (hlen := ln_99 _ _) (K := ?_)
  refine ev_aload_n (M := TL_law) (pc := 385) 0 dL_law_385 (k := ?_)
  refine ev_iload_n (M := TL_law) (pc := 386) 3 dL_law_386 (k := ?_)
  refine ev_iconst (M := TL_law) (pc := 387) dL_law_387 (k := ?_)
  refine ev_iadd (M := TL_law) (pc := 388) dL_law_388 (k := ?_)
  obtain ⟨⟨hi0, hi1⟩, H7⟩ := g_e H6
  clear H6
  refine ev_sload (M := TL_law) (pc := 389) hi0 hi1 dL_law_389 (hlen := ln_99 _ _) (K := ?_)
  refine ev_ifeq (M := TL_law) (pc := 390) 397 dL_law_390 (kt := fun hc => ?_) (kf := fun hc => ?_)
  · replace H7 := if_pe hc H7
    refine ev_iconst (M := TL_law) (pc := 397) dL_law_397 (k := ?_)
    refine ev_mono (mc := 0 + (1 * n + 1)) (ms := 0 + (5 * n + 5)) (by omega) (by omega) ?_
    exact EL_law_398 n k38 hk38 (some a10) l1 l2 l3 q9.1 l2 (q9.2.1 99 a10 (w32 (l3 + 1))) (q9.2.1 99 a10 (w32 (l3 + 2))) 0 q9.2 _ H7
  · replace H7 := if_ne hc H7
    refine ev_iconst (M := TL_law) (pc := 393) dL_law_393 (k := ?_)
    refine ev_goto (M := TL_law) (pc := 394) 398 dL_law_394 (k := ?_)
    refine ev_mono (mc := 0 + (1 * n + 1)) (ms := 0 + (5 * n + 5)) (by omega) (by omega) ?_
    exact EL_law_398 n k38 hk38 (some a10) l1 l2 l3 q9.1 l2 (q9.2.1 99 a10 (w32 (l3 + 1))) (q9.2.1 99 a10 (w32 (l3 + 2))) 1 q9.2 _ H7
set_option maxRecDepth 100000 in
set_option maxHeartbeats 4000000 in
theorem EL_law_38b (n : Nat) (k38 : Option Int → Option Int → Option Int → Int → JM → Option (Int × JM)) (hk38 : ∀ (l0 : Option Int) (l1 : Option Int) (l2 : Option Int) (l3 : Int) (h : JM) (res : (Int × JM)), k38 l0 l1 l2 l3 h = some res → Ev j_W1 95 (1 * n + 1) (5 * n + 5) TL_law 38 [(0, .inr (.inr (Option.map (Prod.mk 99) (l0)))), (1, .inr (.inr (Option.map (Prod.mk 11) (l1)))), (2, .inr (.inr (Option.map (Prod.mk 12) (l2)))), (3, .inl (l3))] [] h (some (.inl res.1)) res.2) (l0 : Option Int) (l1 : Option Int) (l2 : Option Int) (l3 : Int) (h : JM) (res : (Int × JM)) (H : FL_law_38b k38 l0 l1 l2 l3 h = some res) : Ev j_W1 95 (1 + (1 * n + 1)) (5 + (5 * n + 5)) TL_law 38 [(0, .inr (.inr (Option.map (Prod.mk 99) (l0)))), (1, .inr (.inr (Option.map (Prod.mk 11) (l1)))), (2, .inr (.inr (Option.map (Prod.mk 12) (l2)))), (3, .inl (l3))] [] h (some (.inl res.1)) res.2 := by
  unfold FL_law_38b at H
  refine ev_iload_n (M := TL_law) (pc := 38) 3 dL_law_38 (k := ?_)
  refine ev_aload_n (M := TL_law) (pc := 39) 0 dL_law_39 (k := ?_)
  obtain ⟨a11, ea11, H1⟩ := bd_e H
  clear H
  rw [ea11]
  obtain ⟨⟨hi0, hi1⟩, H2⟩ := g_e H1
  clear H1
  refine ev_slen (M := TL_law) (pc := 40) (len := h.1 1099 a11 1) dL_law_40 hi0 hi1 (hlen := ln_99 _ _) (K := ?_)
  refine ev_bipush (M := TL_law) (pc := 41) dL_law_41 (k := ?_)
  refine ev_isub (M := TL_law) (pc := 43) dL_law_43 (k := ?_)
  refine ev_icmpgt (M := TL_law) (pc := 44) 1108 dL_law_44 (kt := fun hc => ?_) (kf := fun hc => ?_)
  · replace H2 := if_pe hc H2
    refine ev_iconst (M := TL_law) (pc := 1108) dL_law_1108 (k := ?_)
    cases H2
    exact ev_zreturn (M := TL_law) (pc := 1109) (Or.inr rfl) dL_law_1109
  · replace H2 := if_ne hc H2
    refine ev_aload_n (M := TL_law) (pc := 47) 0 dL_law_47 (k := ?_)
    refine ev_iload_n (M := TL_law) (pc := 48) 3 dL_law_48 (k := ?_)
    obtain ⟨⟨hi0, hi1⟩, H3⟩ := g_e H2
    clear H2
    refine ev_sload (M := TL_law) (pc := 49) hi0 hi1 dL_law_49 (hlen := ln_99 _ _) (K := ?_)
    refine ev_bipush (M := TL_law) (pc := 50) dL_law_50 (k := ?_)
    refine ev_iand (M := TL_law) (pc := 52) dL_law_52 (k := ?_)
    by_cases hs0 : j_and (h.1 99 a11 l3) 31 = 0
    · replace H3 := if_pe hs0 H3
      refine ev_tableIn (M := TL_law) (pc := 53) (off := 119) 172 dL_law_53 (by omega) (by omega) (by rw [hs0]; rfl) (k := ?_)
      refine ev_aload_n (M := TL_law) (pc := 172) 1 dL_law_172 (k := ?_)
      refine ev_aload_n (M := TL_law) (pc := 173) 0 dL_law_173 (k := ?_)
      refine ev_iload_n (M := TL_law) (pc := 174) 3 dL_law_174 (k := ?_)
      refine ev_iconst (M := TL_law) (pc := 175) dL_law_175 (k := ?_)
      refine ev_iadd (M := TL_law) (pc := 176) dL_law_176 (k := ?_)
      obtain ⟨⟨hi0, hi1⟩, H4⟩ := g_e H3
      clear H3
      refine ev_sload (M := TL_law) (pc := 177) hi0 hi1 dL_law_177 (hlen := ln_99 _ _) (K := ?_)
      refine ev_mono (mc := 0 + (1 + (1 * n + 1))) (ms := 0 + (5 + (5 * n + 5))) (by omega) (by omega) ?_
      obtain ⟨a12, ea12, H5⟩ := bd_e H4
      clear H4
      obtain ⟨hz, H6⟩ := g_e H5
      clear H5
      rw [ea12, hz]
      obtain ⟨q13, hq, H7⟩ := bd_e H6
      clear H6
      refine ev_callV (M := TL_law) (pc := 178) (mc := 1 + (1 * n + 1)) (ms := 5 + (5 * n + 5)) (st := []) (C11_key hq) md_X11_key im_X11_key se_X11_key ml_L_21 dL_law_178 _ (by decide) (K := ?_)
      refine ev_aload_n (M := TL_law) (pc := 181) 2 dL_law_181 (k := ?_)
      refine ev_aload_n (M := TL_law) (pc := 182) 0 dL_law_182 (k := ?_)
      refine ev_iload_n (M := TL_law) (pc := 183) 3 dL_law_183 (k := ?_)
      refine ev_iconst (M := TL_law) (pc := 184) dL_law_184 (k := ?_)
      refine ev_iadd (M := TL_law) (pc := 185) dL_law_185 (k := ?_)
      obtain ⟨⟨hi0, hi1⟩, H8⟩ := g_e H7
      clear H7
      refine ev_sload (M := TL_law) (pc := 186) hi0 hi1 dL_law_186 (hlen := ln_99 _ _) (K := ?_)
      refine ev_mono (mc := 0 + (1 + (1 * n + 1))) (ms := 0 + (5 + (5 * n + 5))) (by omega) (by omega) ?_
      obtain ⟨a14, ea14, H9⟩ := bd_e H8
      clear H8
      obtain ⟨hz, H10⟩ := g_e H9
      clear H9
      rw [ea14, hz]
      obtain ⟨q15, hq, H11⟩ := bd_e H10
      clear H10
      refine ev_callV (M := TL_law) (pc := 187) (mc := 1 + (1 * n + 1)) (ms := 5 + (5 * n + 5)) (st := [.inl (q13.1)]) (C12_key hq) md_X12_key im_X12_key se_X12_key ml_L_25 dL_law_187 _ (by decide) (K := ?_)
      refine ev_icmpeq (M := TL_law) (pc := 190) 1102 dL_law_190 (kt := fun hc => ?_) (kf := fun hc => ?_)
      · replace H11 := if_pe hc H11
        refine ev_mono (mc := 0 + (1 * n + 1)) (ms := 0 + (5 * n + 5)) (by omega) (by omega) ?_
        exact EL_law_1102 n k38 hk38 (some a11) (some 0) (some 0) l3 q15.2 _ H11
      · replace H11 := if_ne hc H11
        refine ev_iconst (M := TL_law) (pc := 193) dL_law_193 (k := ?_)
        cases H11
        exact ev_zreturn (M := TL_law) (pc := 194) (Or.inl rfl) dL_law_194
    · replace H3 := if_ne hs0 H3
      by_cases hs1 : j_and (h.1 99 a11 l3) 31 = 1
      · replace H3 := if_pe hs1 H3
        refine ev_tableIn (M := TL_law) (pc := 53) (off := 142) 195 dL_law_53 (by omega) (by omega) (by rw [hs1]; rfl) (k := ?_)
        refine ev_aload_n (M := TL_law) (pc := 195) 1 dL_law_195 (k := ?_)
        refine ev_mono (mc := 0 + (1 + (1 * n + 1))) (ms := 0 + (5 + (5 * n + 5))) (by omega) (by omega) ?_
        obtain ⟨a16, ea16, H4⟩ := bd_e H3
        clear H3
        obtain ⟨hz, H5⟩ := g_e H4
        clear H4
        rw [ea16, hz]
        obtain ⟨q17, hq, H6⟩ := bd_e H5
        clear H5
        refine ev_callV (M := TL_law) (pc := 196) (mc := 1 + (1 * n + 1)) (ms := 5 + (5 * n + 5)) (st := []) (C11_keyless hq) md_X11_keyless im_X11_keyless se_X11_keyless ml_L_26 dL_law_196 _ (by decide) (K := ?_)
        refine ev_aload_n (M := TL_law) (pc := 199) 2 dL_law_199 (k := ?_)
        refine ev_mono (mc := 0 + (1 + (1 * n + 1))) (ms := 0 + (5 + (5 * n + 5))) (by omega) (by omega) ?_
        obtain ⟨a18, ea18, H7⟩ := bd_e H6
        clear H6
        obtain ⟨hz, H8⟩ := g_e H7
        clear H7
        rw [ea18, hz]
        obtain ⟨q19, hq, H9⟩ := bd_e H8
        clear H8
        refine ev_callV (M := TL_law) (pc := 200) (mc := 1 + (1 * n + 1)) (ms := 5 + (5 * n + 5)) (st := [.inl (q17.1)]) (C12_keyless hq) md_X12_keyless im_X12_keyless se_X12_keyless ml_L_30 dL_law_200 _ (by decide) (K := ?_)
        refine ev_icmpeq (M := TL_law) (pc := 203) 1102 dL_law_203 (kt := fun hc => ?_) (kf := fun hc => ?_)
        · replace H9 := if_pe hc H9
          refine ev_mono (mc := 0 + (1 * n + 1)) (ms := 0 + (5 * n + 5)) (by omega) (by omega) ?_
          exact EL_law_1102 n k38 hk38 (some a11) (some 0) (some 0) l3 q19.2 _ H9
        · replace H9 := if_ne hc H9
          refine ev_iconst (M := TL_law) (pc := 206) dL_law_206 (k := ?_)
          cases H9
          exact ev_zreturn (M := TL_law) (pc := 207) (Or.inl rfl) dL_law_207
      · replace H3 := if_ne hs1 H3
        by_cases hs2 : j_and (h.1 99 a11 l3) 31 = 2
        · replace H3 := if_pe hs2 H3
          refine ev_tableIn (M := TL_law) (pc := 53) (off := 155) 208 dL_law_53 (by omega) (by omega) (by rw [hs2]; rfl) (k := ?_)
          refine ev_aload_n (M := TL_law) (pc := 208) 1 dL_law_208 (k := ?_)
          refine ev_aload_n (M := TL_law) (pc := 209) 0 dL_law_209 (k := ?_)
          refine ev_iload_n (M := TL_law) (pc := 210) 3 dL_law_210 (k := ?_)
          refine ev_iconst (M := TL_law) (pc := 211) dL_law_211 (k := ?_)
          refine ev_iadd (M := TL_law) (pc := 212) dL_law_212 (k := ?_)
          obtain ⟨⟨hi0, hi1⟩, H4⟩ := g_e H3
          clear H3
          refine ev_sload (M := TL_law) (pc := 213) hi0 hi1 dL_law_213 (hlen := ln_99 _ _) (K := ?_)
          refine ev_aload_n (M := TL_law) (pc := 214) 0 dL_law_214 (k := ?_)
          refine ev_iload_n (M := TL_law) (pc := 215) 3 dL_law_215 (k := ?_)
          refine ev_iconst (M := TL_law) (pc := 216) dL_law_216 (k := ?_)
          refine ev_iadd (M := TL_law) (pc := 217) dL_law_217 (k := ?_)
          obtain ⟨⟨hi0, hi1⟩, H5⟩ := g_e H4
          clear H4
          refine ev_sload (M := TL_law) (pc := 218) hi0 hi1 dL_law_218 (hlen := ln_99 _ _) (K := ?_)
          refine ev_aload_n (M := TL_law) (pc := 219) 0 dL_law_219 (k := ?_)
          refine ev_iload_n (M := TL_law) (pc := 220) 3 dL_law_220 (k := ?_)
          refine ev_iconst (M := TL_law) (pc := 221) dL_law_221 (k := ?_)
          refine ev_iadd (M := TL_law) (pc := 222) dL_law_222 (k := ?_)
          obtain ⟨⟨hi0, hi1⟩, H6⟩ := g_e H5
          clear H5
          refine ev_sload (M := TL_law) (pc := 223) hi0 hi1 dL_law_223 (hlen := ln_99 _ _) (K := ?_)
          refine ev_aload_n (M := TL_law) (pc := 224) 0 dL_law_224 (k := ?_)
          refine ev_iload_n (M := TL_law) (pc := 225) 3 dL_law_225 (k := ?_)
          refine ev_iconst (M := TL_law) (pc := 226) dL_law_226 (k := ?_)
          refine ev_iadd (M := TL_law) (pc := 227) dL_law_227 (k := ?_)
          obtain ⟨⟨hi0, hi1⟩, H7⟩ := g_e H6
          clear H6
          refine ev_sload (M := TL_law) (pc := 228) hi0 hi1 dL_law_228 (hlen := ln_99 _ _) (K := ?_)
          refine ev_aload_n (M := TL_law) (pc := 229) 0 dL_law_229 (k := ?_)
          refine ev_iload_n (M := TL_law) (pc := 230) 3 dL_law_230 (k := ?_)
          refine ev_iconst (M := TL_law) (pc := 231) dL_law_231 (k := ?_)
          refine ev_iadd (M := TL_law) (pc := 232) dL_law_232 (k := ?_)
          obtain ⟨⟨hi0, hi1⟩, H8⟩ := g_e H7
          clear H7
          refine ev_sload (M := TL_law) (pc := 233) hi0 hi1 dL_law_233 (hlen := ln_99 _ _) (K := ?_)
          refine ev_mono (mc := 1 + (0 + (1 * n + 1))) (ms := 5 + (0 + (5 * n + 5))) (by omega) (by omega) ?_
          obtain ⟨a20, ea20, H9⟩ := bd_e H8
          clear H8
          obtain ⟨hz, H10⟩ := g_e H9
          clear H9
          rw [ea20, hz]
          obtain ⟨q21, hq, H11⟩ := bd_e H10
          clear H10
          refine ev_callV (M := TL_law) (pc := 234) (mc := 0 + (1 * n + 1)) (ms := 0 + (5 * n + 5)) (st := []) (C11_plan hq) md_X11_plan im_X11_plan se_X11_plan ml_L_31 dL_law_234 _ (by decide) (K := ?_)
          refine ev_aload_n (M := TL_law) (pc := 237) 2 dL_law_237 (k := ?_)
          refine ev_aload_n (M := TL_law) (pc := 238) 0 dL_law_238 (k := ?_)
          refine ev_iload_n (M := TL_law) (pc := 239) 3 dL_law_239 (k := ?_)
          refine ev_iconst (M := TL_law) (pc := 240) dL_law_240 (k := ?_)
          refine ev_iadd (M := TL_law) (pc := 241) dL_law_241 (k := ?_)
          obtain ⟨⟨hi0, hi1⟩, H12⟩ := g_e H11
          clear H11
          refine ev_sload (M := TL_law) (pc := 242) hi0 hi1 dL_law_242 (hlen := ln_99 _ _) (K := ?_)
          refine ev_aload_n (M := TL_law) (pc := 243) 0 dL_law_243 (k := ?_)
          refine ev_iload_n (M := TL_law) (pc := 244) 3 dL_law_244 (k := ?_)
          refine ev_iconst (M := TL_law) (pc := 245) dL_law_245 (k := ?_)
          refine ev_iadd (M := TL_law) (pc := 246) dL_law_246 (k := ?_)
          obtain ⟨⟨hi0, hi1⟩, H13⟩ := g_e H12
          clear H12
          refine ev_sload (M := TL_law) (pc := 247) hi0 hi1 dL_law_247 (hlen := ln_99 _ _) (K := ?_)
          refine ev_aload_n (M := TL_law) (pc := 248) 0 dL_law_248 (k := ?_)
          refine ev_iload_n (M := TL_law) (pc := 249) 3 dL_law_249 (k := ?_)
          refine ev_iconst (M := TL_law) (pc := 250) dL_law_250 (k := ?_)
          refine ev_iadd (M := TL_law) (pc := 251) dL_law_251 (k := ?_)
          obtain ⟨⟨hi0, hi1⟩, H14⟩ := g_e H13
          clear H13
          refine ev_sload (M := TL_law) (pc := 252) hi0 hi1 dL_law_252 (hlen := ln_99 _ _) (K := ?_)
          refine ev_aload_n (M := TL_law) (pc := 253) 0 dL_law_253 (k := ?_)
          refine ev_iload_n (M := TL_law) (pc := 254) 3 dL_law_254 (k := ?_)
          refine ev_iconst (M := TL_law) (pc := 255) dL_law_255 (k := ?_)
          refine ev_iadd (M := TL_law) (pc := 256) dL_law_256 (k := ?_)
          obtain ⟨⟨hi0, hi1⟩, H15⟩ := g_e H14
          clear H14
          refine ev_sload (M := TL_law) (pc := 257) hi0 hi1 dL_law_257 (hlen := ln_99 _ _) (K := ?_)
          refine ev_aload_n (M := TL_law) (pc := 258) 0 dL_law_258 (k := ?_)
          refine ev_iload_n (M := TL_law) (pc := 259) 3 dL_law_259 (k := ?_)
          refine ev_iconst (M := TL_law) (pc := 260) dL_law_260 (k := ?_)
          refine ev_iadd (M := TL_law) (pc := 261) dL_law_261 (k := ?_)
          obtain ⟨⟨hi0, hi1⟩, H16⟩ := g_e H15
          clear H15
          refine ev_sload (M := TL_law) (pc := 262) hi0 hi1 dL_law_262 (hlen := ln_99 _ _) (K := ?_)
          refine ev_mono (mc := 0 + (0 + (1 * n + 1))) (ms := 0 + (0 + (5 * n + 5))) (by omega) (by omega) ?_
          obtain ⟨a22, ea22, H17⟩ := bd_e H16
          clear H16
          obtain ⟨hz, H18⟩ := g_e H17
          clear H17
          rw [ea22, hz]
          obtain ⟨q23, hq, H19⟩ := bd_e H18
          clear H18
          refine ev_callV (M := TL_law) (pc := 263) (mc := 0 + (1 * n + 1)) (ms := 0 + (5 * n + 5)) (st := [.inl (q21.1)]) (C12_plan hq) md_X12_plan im_X12_plan se_X12_plan ml_L_35 dL_law_263 _ (by decide) (K := ?_)
          refine ev_icmpeq (M := TL_law) (pc := 266) 1102 dL_law_266 (kt := fun hc => ?_) (kf := fun hc => ?_)
          · replace H19 := if_pe hc H19
            refine ev_mono (mc := 0 + (1 * n + 1)) (ms := 0 + (5 * n + 5)) (by omega) (by omega) ?_
            exact EL_law_1102 n k38 hk38 (some a11) (some 0) (some 0) l3 q23.2 _ H19
          · replace H19 := if_ne hc H19
            refine ev_iconst (M := TL_law) (pc := 269) dL_law_269 (k := ?_)
            cases H19
            exact ev_zreturn (M := TL_law) (pc := 270) (Or.inl rfl) dL_law_270
        · replace H3 := if_ne hs2 H3
          by_cases hs3 : j_and (h.1 99 a11 l3) 31 = 3
          · replace H3 := if_pe hs3 H3
            refine ev_tableIn (M := TL_law) (pc := 53) (off := 218) 271 dL_law_53 (by omega) (by omega) (by rw [hs3]; rfl) (k := ?_)
            refine ev_aload_n (M := TL_law) (pc := 271) 1 dL_law_271 (k := ?_)
            refine ev_aload_n (M := TL_law) (pc := 272) 0 dL_law_272 (k := ?_)
            refine ev_iload_n (M := TL_law) (pc := 273) 3 dL_law_273 (k := ?_)
            refine ev_iconst (M := TL_law) (pc := 274) dL_law_274 (k := ?_)
            refine ev_iadd (M := TL_law) (pc := 275) dL_law_275 (k := ?_)
            obtain ⟨⟨hi0, hi1⟩, H4⟩ := g_e H3
            clear H3
            refine ev_sload (M := TL_law) (pc := 276) hi0 hi1 dL_law_276 (hlen := ln_99 _ _) (K := ?_)
            refine ev_aload_n (M := TL_law) (pc := 277) 0 dL_law_277 (k := ?_)
            refine ev_iload_n (M := TL_law) (pc := 278) 3 dL_law_278 (k := ?_)
            refine ev_iconst (M := TL_law) (pc := 279) dL_law_279 (k := ?_)
            refine ev_iadd (M := TL_law) (pc := 280) dL_law_280 (k := ?_)
            obtain ⟨⟨hi0, hi1⟩, H5⟩ := g_e H4
            clear H4
            refine ev_sload (M := TL_law) (pc := 281) hi0 hi1 dL_law_281 (hlen := ln_99 _ _) (K := ?_)
            refine ev_mono (mc := 0 + (1 + (1 * n + 1))) (ms := 0 + (5 + (5 * n + 5))) (by omega) (by omega) ?_
            obtain ⟨a24, ea24, H6⟩ := bd_e H5
            clear H5
            obtain ⟨hz, H7⟩ := g_e H6
            clear H6
            rw [ea24, hz]
            obtain ⟨q25, hq, H8⟩ := bd_e H7
            clear H7
            refine ev_callV (M := TL_law) (pc := 282) (mc := 1 + (1 * n + 1)) (ms := 5 + (5 * n + 5)) (st := []) (C11_member hq) md_X11_member im_X11_member se_X11_member ml_L_36 dL_law_282 _ (by decide) (K := ?_)
            refine ev_aload_n (M := TL_law) (pc := 285) 2 dL_law_285 (k := ?_)
            refine ev_aload_n (M := TL_law) (pc := 286) 0 dL_law_286 (k := ?_)
            refine ev_iload_n (M := TL_law) (pc := 287) 3 dL_law_287 (k := ?_)
            refine ev_iconst (M := TL_law) (pc := 288) dL_law_288 (k := ?_)
            refine ev_iadd (M := TL_law) (pc := 289) dL_law_289 (k := ?_)
            obtain ⟨⟨hi0, hi1⟩, H9⟩ := g_e H8
            clear H8
            refine ev_sload (M := TL_law) (pc := 290) hi0 hi1 dL_law_290 (hlen := ln_99 _ _) (K := ?_)
            refine ev_aload_n (M := TL_law) (pc := 291) 0 dL_law_291 (k := ?_)
            refine ev_iload_n (M := TL_law) (pc := 292) 3 dL_law_292 (k := ?_)
            refine ev_iconst (M := TL_law) (pc := 293) dL_law_293 (k := ?_)
            refine ev_iadd (M := TL_law) (pc := 294) dL_law_294 (k := ?_)
            obtain ⟨⟨hi0, hi1⟩, H10⟩ := g_e H9
            clear H9
            refine ev_sload (M := TL_law) (pc := 295) hi0 hi1 dL_law_295 (hlen := ln_99 _ _) (K := ?_)
            refine ev_mono (mc := 0 + (1 + (1 * n + 1))) (ms := 0 + (5 + (5 * n + 5))) (by omega) (by omega) ?_
            obtain ⟨a26, ea26, H11⟩ := bd_e H10
            clear H10
            obtain ⟨hz, H12⟩ := g_e H11
            clear H11
            rw [ea26, hz]
            obtain ⟨q27, hq, H13⟩ := bd_e H12
            clear H12
            refine ev_callV (M := TL_law) (pc := 296) (mc := 1 + (1 * n + 1)) (ms := 5 + (5 * n + 5)) (st := [.inl (q25.1)]) (C12_member hq) md_X12_member im_X12_member se_X12_member ml_L_40 dL_law_296 _ (by decide) (K := ?_)
            refine ev_icmpeq (M := TL_law) (pc := 299) 1102 dL_law_299 (kt := fun hc => ?_) (kf := fun hc => ?_)
            · replace H13 := if_pe hc H13
              refine ev_mono (mc := 0 + (1 * n + 1)) (ms := 0 + (5 * n + 5)) (by omega) (by omega) ?_
              exact EL_law_1102 n k38 hk38 (some a11) (some 0) (some 0) l3 q27.2 _ H13
            · replace H13 := if_ne hc H13
              refine ev_iconst (M := TL_law) (pc := 302) dL_law_302 (k := ?_)
              cases H13
              exact ev_zreturn (M := TL_law) (pc := 303) (Or.inl rfl) dL_law_303
          · replace H3 := if_ne hs3 H3
            by_cases hs4 : j_and (h.1 99 a11 l3) 31 = 4
            · replace H3 := if_pe hs4 H3
              refine ev_tableIn (M := TL_law) (pc := 53) (off := 251) 304 dL_law_53 (by omega) (by omega) (by rw [hs4]; rfl) (k := ?_)
              refine ev_aload_n (M := TL_law) (pc := 304) 1 dL_law_304 (k := ?_)
              refine ev_aload_n (M := TL_law) (pc := 305) 0 dL_law_305 (k := ?_)
              refine ev_iload_n (M := TL_law) (pc := 306) 3 dL_law_306 (k := ?_)
              refine ev_iconst (M := TL_law) (pc := 307) dL_law_307 (k := ?_)
              refine ev_iadd (M := TL_law) (pc := 308) dL_law_308 (k := ?_)
              obtain ⟨⟨hi0, hi1⟩, H4⟩ := g_e H3
              clear H3
              refine ev_sload (M := TL_law) (pc := 309) hi0 hi1 dL_law_309 (hlen := ln_99 _ _) (K := ?_)
              refine ev_aload_n (M := TL_law) (pc := 310) 0 dL_law_310 (k := ?_)
              refine ev_iload_n (M := TL_law) (pc := 311) 3 dL_law_311 (k := ?_)
              refine ev_iconst (M := TL_law) (pc := 312) dL_law_312 (k := ?_)
              refine ev_iadd (M := TL_law) (pc := 313) dL_law_313 (k := ?_)
              obtain ⟨⟨hi0, hi1⟩, H5⟩ := g_e H4
              clear H4
              refine ev_sload (M := TL_law) (pc := 314) hi0 hi1 dL_law_314 (hlen := ln_99 _ _) (K := ?_)
              refine ev_aload_n (M := TL_law) (pc := 315) 0 dL_law_315 (k := ?_)
              refine ev_iload_n (M := TL_law) (pc := 316) 3 dL_law_316 (k := ?_)
              refine ev_iconst (M := TL_law) (pc := 317) dL_law_317 (k := ?_)
              refine ev_iadd (M := TL_law) (pc := 318) dL_law_318 (k := ?_)
              obtain ⟨⟨hi0, hi1⟩, H6⟩ := g_e H5
              clear H5
              refine ev_sload (M := TL_law) (pc := 319) hi0 hi1 dL_law_319 (hlen := ln_99 _ _) (K := ?_)
              refine ev_mono (mc := 0 + (1 + (1 * n + 1))) (ms := 0 + (5 + (5 * n + 5))) (by omega) (by omega) ?_
              obtain ⟨a28, ea28, H7⟩ := bd_e H6
              clear H6
              obtain ⟨hz, H8⟩ := g_e H7
              clear H7
              rw [ea28, hz]
              obtain ⟨q29, hq, H9⟩ := bd_e H8
              clear H8
              refine ev_callV (M := TL_law) (pc := 320) (mc := 1 + (1 * n + 1)) (ms := 5 + (5 * n + 5)) (st := []) (C11_waiting hq) md_X11_waiting im_X11_waiting se_X11_waiting ml_L_41 dL_law_320 _ (by decide) (K := ?_)
              refine ev_aload_n (M := TL_law) (pc := 323) 2 dL_law_323 (k := ?_)
              refine ev_aload_n (M := TL_law) (pc := 324) 0 dL_law_324 (k := ?_)
              refine ev_iload_n (M := TL_law) (pc := 325) 3 dL_law_325 (k := ?_)
              refine ev_iconst (M := TL_law) (pc := 326) dL_law_326 (k := ?_)
              refine ev_iadd (M := TL_law) (pc := 327) dL_law_327 (k := ?_)
              obtain ⟨⟨hi0, hi1⟩, H10⟩ := g_e H9
              clear H9
              refine ev_sload (M := TL_law) (pc := 328) hi0 hi1 dL_law_328 (hlen := ln_99 _ _) (K := ?_)
              refine ev_aload_n (M := TL_law) (pc := 329) 0 dL_law_329 (k := ?_)
              refine ev_iload_n (M := TL_law) (pc := 330) 3 dL_law_330 (k := ?_)
              refine ev_iconst (M := TL_law) (pc := 331) dL_law_331 (k := ?_)
              refine ev_iadd (M := TL_law) (pc := 332) dL_law_332 (k := ?_)
              obtain ⟨⟨hi0, hi1⟩, H11⟩ := g_e H10
              clear H10
              refine ev_sload (M := TL_law) (pc := 333) hi0 hi1 dL_law_333 (hlen := ln_99 _ _) (K := ?_)
              refine ev_aload_n (M := TL_law) (pc := 334) 0 dL_law_334 (k := ?_)
              refine ev_iload_n (M := TL_law) (pc := 335) 3 dL_law_335 (k := ?_)
              refine ev_iconst (M := TL_law) (pc := 336) dL_law_336 (k := ?_)
              refine ev_iadd (M := TL_law) (pc := 337) dL_law_337 (k := ?_)
              obtain ⟨⟨hi0, hi1⟩, H12⟩ := g_e H11
              clear H11
              refine ev_sload (M := TL_law) (pc := 338) hi0 hi1 dL_law_338 (hlen := ln_99 _ _) (K := ?_)
              refine ev_mono (mc := 0 + (1 + (1 * n + 1))) (ms := 0 + (5 + (5 * n + 5))) (by omega) (by omega) ?_
              obtain ⟨a30, ea30, H13⟩ := bd_e H12
              clear H12
              obtain ⟨hz, H14⟩ := g_e H13
              clear H13
              rw [ea30, hz]
              obtain ⟨q31, hq, H15⟩ := bd_e H14
              clear H14
              refine ev_callV (M := TL_law) (pc := 339) (mc := 1 + (1 * n + 1)) (ms := 5 + (5 * n + 5)) (st := [.inl (q29.1)]) (C12_waiting hq) md_X12_waiting im_X12_waiting se_X12_waiting ml_L_45 dL_law_339 _ (by decide) (K := ?_)
              refine ev_icmpeq (M := TL_law) (pc := 342) 1102 dL_law_342 (kt := fun hc => ?_) (kf := fun hc => ?_)
              · replace H15 := if_pe hc H15
                refine ev_mono (mc := 0 + (1 * n + 1)) (ms := 0 + (5 * n + 5)) (by omega) (by omega) ?_
                exact EL_law_1102 n k38 hk38 (some a11) (some 0) (some 0) l3 q31.2 _ H15
              · replace H15 := if_ne hc H15
                refine ev_iconst (M := TL_law) (pc := 345) dL_law_345 (k := ?_)
                cases H15
                exact ev_zreturn (M := TL_law) (pc := 346) (Or.inl rfl) dL_law_346
            · replace H3 := if_ne hs4 H3
              by_cases hs5 : j_and (h.1 99 a11 l3) 31 = 5
              · replace H3 := if_pe hs5 H3
                refine ev_tableIn (M := TL_law) (pc := 53) (off := 294) 347 dL_law_53 (by omega) (by omega) (by rw [hs5]; rfl) (k := ?_)
                refine ev_aload_n (M := TL_law) (pc := 347) 1 dL_law_347 (k := ?_)
                refine ev_aload_n (M := TL_law) (pc := 348) 0 dL_law_348 (k := ?_)
                refine ev_iload_n (M := TL_law) (pc := 349) 3 dL_law_349 (k := ?_)
                refine ev_iconst (M := TL_law) (pc := 350) dL_law_350 (k := ?_)
                refine ev_iadd (M := TL_law) (pc := 351) dL_law_351 (k := ?_)
                obtain ⟨⟨hi0, hi1⟩, H4⟩ := g_e H3
                clear H3
                refine ev_sload (M := TL_law) (pc := 352) hi0 hi1 dL_law_352 (hlen := ln_99 _ _) (K := ?_)
                refine ev_aload_n (M := TL_law) (pc := 353) 0 dL_law_353 (k := ?_)
                refine ev_iload_n (M := TL_law) (pc := 354) 3 dL_law_354 (k := ?_)
                refine ev_iconst (M := TL_law) (pc := 355) dL_law_355 (k := ?_)
                refine ev_iadd (M := TL_law) (pc := 356) dL_law_356 (k := ?_)
                obtain ⟨⟨hi0, hi1⟩, H5⟩ := g_e H4
                clear H4
                refine ev_sload (M := TL_law) (pc := 357) hi0 hi1 dL_law_357 (hlen := ln_99 _ _) (K := ?_)
                refine ev_aload_n (M := TL_law) (pc := 358) 0 dL_law_358 (k := ?_)
                refine ev_iload_n (M := TL_law) (pc := 359) 3 dL_law_359 (k := ?_)
                refine ev_iconst (M := TL_law) (pc := 360) dL_law_360 (k := ?_)
                refine ev_iadd (M := TL_law) (pc := 361) dL_law_361 (k := ?_)
                obtain ⟨⟨hi0, hi1⟩, H6⟩ := g_e H5
                clear H5
                refine ev_sload (M := TL_law) (pc := 362) hi0 hi1 dL_law_362 (hlen := ln_99 _ _) (K := ?_)
                refine ev_ifeq (M := TL_law) (pc := 363) 370 dL_law_363 (kt := fun hc => ?_) (kf := fun hc => ?_)
                · replace H6 := if_pe hc H6
                  refine ev_iconst (M := TL_law) (pc := 370) dL_law_370 (k := ?_)
                  refine ev_mono (mc := 0 + (1 * n + 1)) (ms := 0 + (5 * n + 5)) (by omega) (by omega) ?_
                  exact EL_law_371 n k38 hk38 (some a11) l1 l2 l3 l1 (h.1 99 a11 (w32 (l3 + 1))) (h.1 99 a11 (w32 (l3 + 2))) 0 h _ H6
                · replace H6 := if_ne hc H6
                  refine ev_iconst (M := TL_law) (pc := 366) dL_law_366 (k := ?_)
                  refine ev_goto (M := TL_law) (pc := 367) 371 dL_law_367 (k := ?_)
                  refine ev_mono (mc := 0 + (1 * n + 1)) (ms := 0 + (5 * n + 5)) (by omega) (by omega) ?_
                  exact EL_law_371 n k38 hk38 (some a11) l1 l2 l3 l1 (h.1 99 a11 (w32 (l3 + 1))) (h.1 99 a11 (w32 (l3 + 2))) 1 h _ H6
              · replace H3 := if_ne hs5 H3
                by_cases hs6 : j_and (h.1 99 a11 l3) 31 = 6
                · replace H3 := if_pe hs6 H3
                  refine ev_tableIn (M := TL_law) (pc := 53) (off := 353) 406 dL_law_53 (by omega) (by omega) (by rw [hs6]; rfl) (k := ?_)
                  refine ev_aload_n (M := TL_law) (pc := 406) 1 dL_law_406 (k := ?_)
                  refine ev_aload_n (M := TL_law) (pc := 407) 0 dL_law_407 (k := ?_)
                  refine ev_iload_n (M := TL_law) (pc := 408) 3 dL_law_408 (k := ?_)
                  refine ev_iconst (M := TL_law) (pc := 409) dL_law_409 (k := ?_)
                  refine ev_iadd (M := TL_law) (pc := 410) dL_law_410 (k := ?_)
                  obtain ⟨⟨hi0, hi1⟩, H4⟩ := g_e H3
                  clear H3
                  refine ev_sload (M := TL_law) (pc := 411) hi0 hi1 dL_law_411 (hlen := ln_99 _ _) (K := ?_)
                  refine ev_aload_n (M := TL_law) (pc := 412) 0 dL_law_412 (k := ?_)
                  refine ev_iload_n (M := TL_law) (pc := 413) 3 dL_law_413 (k := ?_)
                  refine ev_iconst (M := TL_law) (pc := 414) dL_law_414 (k := ?_)
                  refine ev_iadd (M := TL_law) (pc := 415) dL_law_415 (k := ?_)
                  obtain ⟨⟨hi0, hi1⟩, H5⟩ := g_e H4
                  clear H4
                  refine ev_sload (M := TL_law) (pc := 416) hi0 hi1 dL_law_416 (hlen := ln_99 _ _) (K := ?_)
                  refine ev_mono (mc := 0 + (1 + (1 * n + 1))) (ms := 0 + (5 + (5 * n + 5))) (by omega) (by omega) ?_
                  obtain ⟨a32, ea32, H6⟩ := bd_e H5
                  clear H5
                  obtain ⟨hz, H7⟩ := g_e H6
                  clear H6
                  rw [ea32, hz]
                  obtain ⟨q33, hq, H8⟩ := bd_e H7
                  clear H7
                  refine ev_callV (M := TL_law) (pc := 417) (mc := 1 + (1 * n + 1)) (ms := 5 + (5 * n + 5)) (st := []) (C11_forward hq) md_X11_forward im_X11_forward se_X11_forward ml_L_51 dL_law_417 _ (by decide) (K := ?_)
                  refine ev_aload_n (M := TL_law) (pc := 420) 2 dL_law_420 (k := ?_)
                  refine ev_aload_n (M := TL_law) (pc := 421) 0 dL_law_421 (k := ?_)
                  refine ev_iload_n (M := TL_law) (pc := 422) 3 dL_law_422 (k := ?_)
                  refine ev_iconst (M := TL_law) (pc := 423) dL_law_423 (k := ?_)
                  refine ev_iadd (M := TL_law) (pc := 424) dL_law_424 (k := ?_)
                  obtain ⟨⟨hi0, hi1⟩, H9⟩ := g_e H8
                  clear H8
                  refine ev_sload (M := TL_law) (pc := 425) hi0 hi1 dL_law_425 (hlen := ln_99 _ _) (K := ?_)
                  refine ev_aload_n (M := TL_law) (pc := 426) 0 dL_law_426 (k := ?_)
                  refine ev_iload_n (M := TL_law) (pc := 427) 3 dL_law_427 (k := ?_)
                  refine ev_iconst (M := TL_law) (pc := 428) dL_law_428 (k := ?_)
                  refine ev_iadd (M := TL_law) (pc := 429) dL_law_429 (k := ?_)
                  obtain ⟨⟨hi0, hi1⟩, H10⟩ := g_e H9
                  clear H9
                  refine ev_sload (M := TL_law) (pc := 430) hi0 hi1 dL_law_430 (hlen := ln_99 _ _) (K := ?_)
                  refine ev_mono (mc := 0 + (1 + (1 * n + 1))) (ms := 0 + (5 + (5 * n + 5))) (by omega) (by omega) ?_
                  obtain ⟨a34, ea34, H11⟩ := bd_e H10
                  clear H10
                  obtain ⟨hz, H12⟩ := g_e H11
                  clear H11
                  rw [ea34, hz]
                  obtain ⟨q35, hq, H13⟩ := bd_e H12
                  clear H12
                  refine ev_callV (M := TL_law) (pc := 431) (mc := 1 + (1 * n + 1)) (ms := 5 + (5 * n + 5)) (st := [.inl (q33.1)]) (C12_forward hq) md_X12_forward im_X12_forward se_X12_forward ml_L_54 dL_law_431 _ (by decide) (K := ?_)
                  refine ev_icmpeq (M := TL_law) (pc := 434) 1102 dL_law_434 (kt := fun hc => ?_) (kf := fun hc => ?_)
                  · replace H13 := if_pe hc H13
                    refine ev_mono (mc := 0 + (1 * n + 1)) (ms := 0 + (5 * n + 5)) (by omega) (by omega) ?_
                    exact EL_law_1102 n k38 hk38 (some a11) (some 0) (some 0) l3 q35.2 _ H13
                  · replace H13 := if_ne hc H13
                    refine ev_iconst (M := TL_law) (pc := 437) dL_law_437 (k := ?_)
                    cases H13
                    exact ev_zreturn (M := TL_law) (pc := 438) (Or.inl rfl) dL_law_438
                · replace H3 := if_ne hs6 H3
                  by_cases hs7 : j_and (h.1 99 a11 l3) 31 = 7
                  · replace H3 := if_pe hs7 H3
                    refine ev_tableIn (M := TL_law) (pc := 53) (off := 386) 439 dL_law_53 (by omega) (by omega) (by rw [hs7]; rfl) (k := ?_)
                    refine ev_aload_n (M := TL_law) (pc := 439) 1 dL_law_439 (k := ?_)
                    refine ev_aload_n (M := TL_law) (pc := 440) 0 dL_law_440 (k := ?_)
                    refine ev_iload_n (M := TL_law) (pc := 441) 3 dL_law_441 (k := ?_)
                    refine ev_iconst (M := TL_law) (pc := 442) dL_law_442 (k := ?_)
                    refine ev_iadd (M := TL_law) (pc := 443) dL_law_443 (k := ?_)
                    obtain ⟨⟨hi0, hi1⟩, H4⟩ := g_e H3
                    clear H3
                    refine ev_sload (M := TL_law) (pc := 444) hi0 hi1 dL_law_444 (hlen := ln_99 _ _) (K := ?_)
                    refine ev_aload_n (M := TL_law) (pc := 445) 0 dL_law_445 (k := ?_)
                    refine ev_iload_n (M := TL_law) (pc := 446) 3 dL_law_446 (k := ?_)
                    refine ev_iconst (M := TL_law) (pc := 447) dL_law_447 (k := ?_)
                    refine ev_iadd (M := TL_law) (pc := 448) dL_law_448 (k := ?_)
                    obtain ⟨⟨hi0, hi1⟩, H5⟩ := g_e H4
                    clear H4
                    refine ev_sload (M := TL_law) (pc := 449) hi0 hi1 dL_law_449 (hlen := ln_99 _ _) (K := ?_)
                    refine ev_aload_n (M := TL_law) (pc := 450) 0 dL_law_450 (k := ?_)
                    refine ev_iload_n (M := TL_law) (pc := 451) 3 dL_law_451 (k := ?_)
                    refine ev_iconst (M := TL_law) (pc := 452) dL_law_452 (k := ?_)
                    refine ev_iadd (M := TL_law) (pc := 453) dL_law_453 (k := ?_)
                    obtain ⟨⟨hi0, hi1⟩, H6⟩ := g_e H5
                    clear H5
                    refine ev_sload (M := TL_law) (pc := 454) hi0 hi1 dL_law_454 (hlen := ln_99 _ _) (K := ?_)
                    refine ev_aload_n (M := TL_law) (pc := 455) 0 dL_law_455 (k := ?_)
                    refine ev_iload_n (M := TL_law) (pc := 456) 3 dL_law_456 (k := ?_)
                    refine ev_iconst (M := TL_law) (pc := 457) dL_law_457 (k := ?_)
                    refine ev_iadd (M := TL_law) (pc := 458) dL_law_458 (k := ?_)
                    obtain ⟨⟨hi0, hi1⟩, H7⟩ := g_e H6
                    clear H6
                    refine ev_sload (M := TL_law) (pc := 459) hi0 hi1 dL_law_459 (hlen := ln_99 _ _) (K := ?_)
                    refine ev_aload_n (M := TL_law) (pc := 460) 0 dL_law_460 (k := ?_)
                    refine ev_iload_n (M := TL_law) (pc := 461) 3 dL_law_461 (k := ?_)
                    refine ev_iconst (M := TL_law) (pc := 462) dL_law_462 (k := ?_)
                    refine ev_iadd (M := TL_law) (pc := 463) dL_law_463 (k := ?_)
                    obtain ⟨⟨hi0, hi1⟩, H8⟩ := g_e H7
                    clear H7
                    refine ev_sload (M := TL_law) (pc := 464) hi0 hi1 dL_law_464 (hlen := ln_99 _ _) (K := ?_)
                    refine ev_mono (mc := 0 + (1 + (1 * n + 1))) (ms := 0 + (5 + (5 * n + 5))) (by omega) (by omega) ?_
                    obtain ⟨a36, ea36, H9⟩ := bd_e H8
                    clear H8
                    obtain ⟨hz, H10⟩ := g_e H9
                    clear H9
                    rw [ea36, hz]
                    obtain ⟨q37, hq, H11⟩ := bd_e H10
                    clear H10
                    refine ev_callV (M := TL_law) (pc := 465) (mc := 1 + (1 * n + 1)) (ms := 5 + (5 * n + 5)) (st := []) (C11_tariff hq) md_X11_tariff im_X11_tariff se_X11_tariff ml_L_55 dL_law_465 _ (by decide) (K := ?_)
                    refine ev_aload_n (M := TL_law) (pc := 468) 2 dL_law_468 (k := ?_)
                    refine ev_aload_n (M := TL_law) (pc := 469) 0 dL_law_469 (k := ?_)
                    refine ev_iload_n (M := TL_law) (pc := 470) 3 dL_law_470 (k := ?_)
                    refine ev_iconst (M := TL_law) (pc := 471) dL_law_471 (k := ?_)
                    refine ev_iadd (M := TL_law) (pc := 472) dL_law_472 (k := ?_)
                    obtain ⟨⟨hi0, hi1⟩, H12⟩ := g_e H11
                    clear H11
                    refine ev_sload (M := TL_law) (pc := 473) hi0 hi1 dL_law_473 (hlen := ln_99 _ _) (K := ?_)
                    refine ev_aload_n (M := TL_law) (pc := 474) 0 dL_law_474 (k := ?_)
                    refine ev_iload_n (M := TL_law) (pc := 475) 3 dL_law_475 (k := ?_)
                    refine ev_iconst (M := TL_law) (pc := 476) dL_law_476 (k := ?_)
                    refine ev_iadd (M := TL_law) (pc := 477) dL_law_477 (k := ?_)
                    obtain ⟨⟨hi0, hi1⟩, H13⟩ := g_e H12
                    clear H12
                    refine ev_sload (M := TL_law) (pc := 478) hi0 hi1 dL_law_478 (hlen := ln_99 _ _) (K := ?_)
                    refine ev_aload_n (M := TL_law) (pc := 479) 0 dL_law_479 (k := ?_)
                    refine ev_iload_n (M := TL_law) (pc := 480) 3 dL_law_480 (k := ?_)
                    refine ev_iconst (M := TL_law) (pc := 481) dL_law_481 (k := ?_)
                    refine ev_iadd (M := TL_law) (pc := 482) dL_law_482 (k := ?_)
                    obtain ⟨⟨hi0, hi1⟩, H14⟩ := g_e H13
                    clear H13
                    refine ev_sload (M := TL_law) (pc := 483) hi0 hi1 dL_law_483 (hlen := ln_99 _ _) (K := ?_)
                    refine ev_aload_n (M := TL_law) (pc := 484) 0 dL_law_484 (k := ?_)
                    refine ev_iload_n (M := TL_law) (pc := 485) 3 dL_law_485 (k := ?_)
                    refine ev_iconst (M := TL_law) (pc := 486) dL_law_486 (k := ?_)
                    refine ev_iadd (M := TL_law) (pc := 487) dL_law_487 (k := ?_)
                    obtain ⟨⟨hi0, hi1⟩, H15⟩ := g_e H14
                    clear H14
                    refine ev_sload (M := TL_law) (pc := 488) hi0 hi1 dL_law_488 (hlen := ln_99 _ _) (K := ?_)
                    refine ev_aload_n (M := TL_law) (pc := 489) 0 dL_law_489 (k := ?_)
                    refine ev_iload_n (M := TL_law) (pc := 490) 3 dL_law_490 (k := ?_)
                    refine ev_iconst (M := TL_law) (pc := 491) dL_law_491 (k := ?_)
                    refine ev_iadd (M := TL_law) (pc := 492) dL_law_492 (k := ?_)
                    obtain ⟨⟨hi0, hi1⟩, H16⟩ := g_e H15
                    clear H15
                    refine ev_sload (M := TL_law) (pc := 493) hi0 hi1 dL_law_493 (hlen := ln_99 _ _) (K := ?_)
                    refine ev_mono (mc := 0 + (1 + (1 * n + 1))) (ms := 0 + (5 + (5 * n + 5))) (by omega) (by omega) ?_
                    obtain ⟨a38, ea38, H17⟩ := bd_e H16
                    clear H16
                    obtain ⟨hz, H18⟩ := g_e H17
                    clear H17
                    rw [ea38, hz]
                    obtain ⟨q39, hq, H19⟩ := bd_e H18
                    clear H18
                    refine ev_callV (M := TL_law) (pc := 494) (mc := 1 + (1 * n + 1)) (ms := 5 + (5 * n + 5)) (st := [.inl (q37.1)]) (C12_tariff hq) md_X12_tariff im_X12_tariff se_X12_tariff ml_L_58 dL_law_494 _ (by decide) (K := ?_)
                    refine ev_icmpeq (M := TL_law) (pc := 497) 1102 dL_law_497 (kt := fun hc => ?_) (kf := fun hc => ?_)
                    · replace H19 := if_pe hc H19
                      refine ev_mono (mc := 0 + (1 * n + 1)) (ms := 0 + (5 * n + 5)) (by omega) (by omega) ?_
                      exact EL_law_1102 n k38 hk38 (some a11) (some 0) (some 0) l3 q39.2 _ H19
                    · replace H19 := if_ne hc H19
                      refine ev_iconst (M := TL_law) (pc := 500) dL_law_500 (k := ?_)
                      cases H19
                      exact ev_zreturn (M := TL_law) (pc := 501) (Or.inl rfl) dL_law_501
                  · replace H3 := if_ne hs7 H3
                    by_cases hs8 : j_and (h.1 99 a11 l3) 31 = 8
                    · replace H3 := if_pe hs8 H3
                      refine ev_tableIn (M := TL_law) (pc := 53) (off := 449) 502 dL_law_53 (by omega) (by omega) (by rw [hs8]; rfl) (k := ?_)
                      refine ev_aload_n (M := TL_law) (pc := 502) 1 dL_law_502 (k := ?_)
                      refine ev_aload_n (M := TL_law) (pc := 503) 0 dL_law_503 (k := ?_)
                      refine ev_iload_n (M := TL_law) (pc := 504) 3 dL_law_504 (k := ?_)
                      refine ev_iconst (M := TL_law) (pc := 505) dL_law_505 (k := ?_)
                      refine ev_iadd (M := TL_law) (pc := 506) dL_law_506 (k := ?_)
                      obtain ⟨⟨hi0, hi1⟩, H4⟩ := g_e H3
                      clear H3
                      refine ev_sload (M := TL_law) (pc := 507) hi0 hi1 dL_law_507 (hlen := ln_99 _ _) (K := ?_)
                      refine ev_aload_n (M := TL_law) (pc := 508) 0 dL_law_508 (k := ?_)
                      refine ev_iload_n (M := TL_law) (pc := 509) 3 dL_law_509 (k := ?_)
                      refine ev_iconst (M := TL_law) (pc := 510) dL_law_510 (k := ?_)
                      refine ev_iadd (M := TL_law) (pc := 511) dL_law_511 (k := ?_)
                      obtain ⟨⟨hi0, hi1⟩, H5⟩ := g_e H4
                      clear H4
                      refine ev_sload (M := TL_law) (pc := 512) hi0 hi1 dL_law_512 (hlen := ln_99 _ _) (K := ?_)
                      refine ev_mono (mc := 0 + (1 + (1 * n + 1))) (ms := 0 + (5 + (5 * n + 5))) (by omega) (by omega) ?_
                      obtain ⟨a40, ea40, H6⟩ := bd_e H5
                      clear H5
                      obtain ⟨hz, H7⟩ := g_e H6
                      clear H6
                      rw [ea40, hz]
                      obtain ⟨q41, hq, H8⟩ := bd_e H7
                      clear H7
                      refine ev_callV (M := TL_law) (pc := 513) (mc := 1 + (1 * n + 1)) (ms := 5 + (5 * n + 5)) (st := []) (C11_credit hq) md_X11_credit im_X11_credit se_X11_credit ml_L_59 dL_law_513 _ (by decide) (K := ?_)
                      refine ev_aload_n (M := TL_law) (pc := 516) 2 dL_law_516 (k := ?_)
                      refine ev_aload_n (M := TL_law) (pc := 517) 0 dL_law_517 (k := ?_)
                      refine ev_iload_n (M := TL_law) (pc := 518) 3 dL_law_518 (k := ?_)
                      refine ev_iconst (M := TL_law) (pc := 519) dL_law_519 (k := ?_)
                      refine ev_iadd (M := TL_law) (pc := 520) dL_law_520 (k := ?_)
                      obtain ⟨⟨hi0, hi1⟩, H9⟩ := g_e H8
                      clear H8
                      refine ev_sload (M := TL_law) (pc := 521) hi0 hi1 dL_law_521 (hlen := ln_99 _ _) (K := ?_)
                      refine ev_aload_n (M := TL_law) (pc := 522) 0 dL_law_522 (k := ?_)
                      refine ev_iload_n (M := TL_law) (pc := 523) 3 dL_law_523 (k := ?_)
                      refine ev_iconst (M := TL_law) (pc := 524) dL_law_524 (k := ?_)
                      refine ev_iadd (M := TL_law) (pc := 525) dL_law_525 (k := ?_)
                      obtain ⟨⟨hi0, hi1⟩, H10⟩ := g_e H9
                      clear H9
                      refine ev_sload (M := TL_law) (pc := 526) hi0 hi1 dL_law_526 (hlen := ln_99 _ _) (K := ?_)
                      refine ev_mono (mc := 0 + (1 + (1 * n + 1))) (ms := 0 + (5 + (5 * n + 5))) (by omega) (by omega) ?_
                      obtain ⟨a42, ea42, H11⟩ := bd_e H10
                      clear H10
                      obtain ⟨hz, H12⟩ := g_e H11
                      clear H11
                      rw [ea42, hz]
                      obtain ⟨q43, hq, H13⟩ := bd_e H12
                      clear H12
                      refine ev_callV (M := TL_law) (pc := 527) (mc := 1 + (1 * n + 1)) (ms := 5 + (5 * n + 5)) (st := [.inl (q41.1)]) (C12_credit hq) md_X12_credit im_X12_credit se_X12_credit ml_L_62 dL_law_527 _ (by decide) (K := ?_)
                      refine ev_icmpeq (M := TL_law) (pc := 530) 1102 dL_law_530 (kt := fun hc => ?_) (kf := fun hc => ?_)
                      · replace H13 := if_pe hc H13
                        refine ev_mono (mc := 0 + (1 * n + 1)) (ms := 0 + (5 * n + 5)) (by omega) (by omega) ?_
                        exact EL_law_1102 n k38 hk38 (some a11) (some 0) (some 0) l3 q43.2 _ H13
                      · replace H13 := if_ne hc H13
                        refine ev_iconst (M := TL_law) (pc := 533) dL_law_533 (k := ?_)
                        cases H13
                        exact ev_zreturn (M := TL_law) (pc := 534) (Or.inl rfl) dL_law_534
                    · replace H3 := if_ne hs8 H3
                      by_cases hs9 : j_and (h.1 99 a11 l3) 31 = 9
                      · replace H3 := if_pe hs9 H3
                        refine ev_tableIn (M := TL_law) (pc := 53) (off := 482) 535 dL_law_53 (by omega) (by omega) (by rw [hs9]; rfl) (k := ?_)
                        refine ev_aload_n (M := TL_law) (pc := 535) 1 dL_law_535 (k := ?_)
                        refine ev_aload_n (M := TL_law) (pc := 536) 0 dL_law_536 (k := ?_)
                        refine ev_iload_n (M := TL_law) (pc := 537) 3 dL_law_537 (k := ?_)
                        refine ev_iconst (M := TL_law) (pc := 538) dL_law_538 (k := ?_)
                        refine ev_iadd (M := TL_law) (pc := 539) dL_law_539 (k := ?_)
                        obtain ⟨⟨hi0, hi1⟩, H4⟩ := g_e H3
                        clear H3
                        refine ev_sload (M := TL_law) (pc := 540) hi0 hi1 dL_law_540 (hlen := ln_99 _ _) (K := ?_)
                        refine ev_aload_n (M := TL_law) (pc := 541) 0 dL_law_541 (k := ?_)
                        refine ev_iload_n (M := TL_law) (pc := 542) 3 dL_law_542 (k := ?_)
                        refine ev_iconst (M := TL_law) (pc := 543) dL_law_543 (k := ?_)
                        refine ev_iadd (M := TL_law) (pc := 544) dL_law_544 (k := ?_)
                        obtain ⟨⟨hi0, hi1⟩, H5⟩ := g_e H4
                        clear H4
                        refine ev_sload (M := TL_law) (pc := 545) hi0 hi1 dL_law_545 (hlen := ln_99 _ _) (K := ?_)
                        refine ev_ifeq (M := TL_law) (pc := 546) 553 dL_law_546 (kt := fun hc => ?_) (kf := fun hc => ?_)
                        · replace H5 := if_pe hc H5
                          refine ev_iconst (M := TL_law) (pc := 553) dL_law_553 (k := ?_)
                          refine ev_mono (mc := 0 + (1 * n + 1)) (ms := 0 + (5 * n + 5)) (by omega) (by omega) ?_
                          exact EL_law_554 n k38 hk38 (some a11) l1 l2 l3 l1 (h.1 99 a11 (w32 (l3 + 1))) 0 h _ H5
                        · replace H5 := if_ne hc H5
                          refine ev_iconst (M := TL_law) (pc := 549) dL_law_549 (k := ?_)
                          refine ev_goto (M := TL_law) (pc := 550) 554 dL_law_550 (k := ?_)
                          refine ev_mono (mc := 0 + (1 * n + 1)) (ms := 0 + (5 * n + 5)) (by omega) (by omega) ?_
                          exact EL_law_554 n k38 hk38 (some a11) l1 l2 l3 l1 (h.1 99 a11 (w32 (l3 + 1))) 1 h _ H5
                      · replace H3 := if_ne hs9 H3
                        by_cases hs10 : j_and (h.1 99 a11 l3) 31 = 10
                        · replace H3 := if_pe hs10 H3
                          refine ev_tableIn (M := TL_law) (pc := 53) (off := 531) 584 dL_law_53 (by omega) (by omega) (by rw [hs10]; rfl) (k := ?_)
                          refine ev_aload_n (M := TL_law) (pc := 584) 1 dL_law_584 (k := ?_)
                          refine ev_aload_n (M := TL_law) (pc := 585) 0 dL_law_585 (k := ?_)
                          refine ev_iload_n (M := TL_law) (pc := 586) 3 dL_law_586 (k := ?_)
                          refine ev_iconst (M := TL_law) (pc := 587) dL_law_587 (k := ?_)
                          refine ev_iadd (M := TL_law) (pc := 588) dL_law_588 (k := ?_)
                          obtain ⟨⟨hi0, hi1⟩, H4⟩ := g_e H3
                          clear H3
                          refine ev_sload (M := TL_law) (pc := 589) hi0 hi1 dL_law_589 (hlen := ln_99 _ _) (K := ?_)
                          refine ev_aload_n (M := TL_law) (pc := 590) 0 dL_law_590 (k := ?_)
                          refine ev_iload_n (M := TL_law) (pc := 591) 3 dL_law_591 (k := ?_)
                          refine ev_iconst (M := TL_law) (pc := 592) dL_law_592 (k := ?_)
                          refine ev_iadd (M := TL_law) (pc := 593) dL_law_593 (k := ?_)
                          obtain ⟨⟨hi0, hi1⟩, H5⟩ := g_e H4
                          clear H4
                          refine ev_sload (M := TL_law) (pc := 594) hi0 hi1 dL_law_594 (hlen := ln_99 _ _) (K := ?_)
                          refine ev_mono (mc := 0 + (1 + (1 * n + 1))) (ms := 0 + (5 + (5 * n + 5))) (by omega) (by omega) ?_
                          obtain ⟨a44, ea44, H6⟩ := bd_e H5
                          clear H5
                          obtain ⟨hz, H7⟩ := g_e H6
                          clear H6
                          rw [ea44, hz]
                          obtain ⟨q45, hq, H8⟩ := bd_e H7
                          clear H7
                          refine ev_callV (M := TL_law) (pc := 595) (mc := 1 + (1 * n + 1)) (ms := 5 + (5 * n + 5)) (st := []) (C11_dial hq) md_X11_dial im_X11_dial se_X11_dial ml_L_68 dL_law_595 _ (by decide) (K := ?_)
                          refine ev_aload_n (M := TL_law) (pc := 598) 2 dL_law_598 (k := ?_)
                          refine ev_aload_n (M := TL_law) (pc := 599) 0 dL_law_599 (k := ?_)
                          refine ev_iload_n (M := TL_law) (pc := 600) 3 dL_law_600 (k := ?_)
                          refine ev_iconst (M := TL_law) (pc := 601) dL_law_601 (k := ?_)
                          refine ev_iadd (M := TL_law) (pc := 602) dL_law_602 (k := ?_)
                          obtain ⟨⟨hi0, hi1⟩, H9⟩ := g_e H8
                          clear H8
                          refine ev_sload (M := TL_law) (pc := 603) hi0 hi1 dL_law_603 (hlen := ln_99 _ _) (K := ?_)
                          refine ev_aload_n (M := TL_law) (pc := 604) 0 dL_law_604 (k := ?_)
                          refine ev_iload_n (M := TL_law) (pc := 605) 3 dL_law_605 (k := ?_)
                          refine ev_iconst (M := TL_law) (pc := 606) dL_law_606 (k := ?_)
                          refine ev_iadd (M := TL_law) (pc := 607) dL_law_607 (k := ?_)
                          obtain ⟨⟨hi0, hi1⟩, H10⟩ := g_e H9
                          clear H9
                          refine ev_sload (M := TL_law) (pc := 608) hi0 hi1 dL_law_608 (hlen := ln_99 _ _) (K := ?_)
                          refine ev_mono (mc := 0 + (1 + (1 * n + 1))) (ms := 0 + (5 + (5 * n + 5))) (by omega) (by omega) ?_
                          obtain ⟨a46, ea46, H11⟩ := bd_e H10
                          clear H10
                          obtain ⟨hz, H12⟩ := g_e H11
                          clear H11
                          rw [ea46, hz]
                          obtain ⟨q47, hq, H13⟩ := bd_e H12
                          clear H12
                          refine ev_callV (M := TL_law) (pc := 609) (mc := 1 + (1 * n + 1)) (ms := 5 + (5 * n + 5)) (st := [.inl (q45.1)]) (C12_dial hq) md_X12_dial im_X12_dial se_X12_dial ml_L_71 dL_law_609 _ (by decide) (K := ?_)
                          refine ev_icmpeq (M := TL_law) (pc := 612) 1102 dL_law_612 (kt := fun hc => ?_) (kf := fun hc => ?_)
                          · replace H13 := if_pe hc H13
                            refine ev_mono (mc := 0 + (1 * n + 1)) (ms := 0 + (5 * n + 5)) (by omega) (by omega) ?_
                            exact EL_law_1102 n k38 hk38 (some a11) (some 0) (some 0) l3 q47.2 _ H13
                          · replace H13 := if_ne hc H13
                            refine ev_iconst (M := TL_law) (pc := 615) dL_law_615 (k := ?_)
                            cases H13
                            exact ev_zreturn (M := TL_law) (pc := 616) (Or.inl rfl) dL_law_616
                        · replace H3 := if_ne hs10 H3
                          by_cases hs11 : j_and (h.1 99 a11 l3) 31 = 11
                          · replace H3 := if_pe hs11 H3
                            refine ev_tableIn (M := TL_law) (pc := 53) (off := 564) 617 dL_law_53 (by omega) (by omega) (by rw [hs11]; rfl) (k := ?_)
                            refine ev_aload_n (M := TL_law) (pc := 617) 1 dL_law_617 (k := ?_)
                            refine ev_aload_n (M := TL_law) (pc := 618) 0 dL_law_618 (k := ?_)
                            refine ev_iload_n (M := TL_law) (pc := 619) 3 dL_law_619 (k := ?_)
                            refine ev_iconst (M := TL_law) (pc := 620) dL_law_620 (k := ?_)
                            refine ev_iadd (M := TL_law) (pc := 621) dL_law_621 (k := ?_)
                            obtain ⟨⟨hi0, hi1⟩, H4⟩ := g_e H3
                            clear H3
                            refine ev_sload (M := TL_law) (pc := 622) hi0 hi1 dL_law_622 (hlen := ln_99 _ _) (K := ?_)
                            refine ev_aload_n (M := TL_law) (pc := 623) 0 dL_law_623 (k := ?_)
                            refine ev_iload_n (M := TL_law) (pc := 624) 3 dL_law_624 (k := ?_)
                            refine ev_iconst (M := TL_law) (pc := 625) dL_law_625 (k := ?_)
                            refine ev_iadd (M := TL_law) (pc := 626) dL_law_626 (k := ?_)
                            obtain ⟨⟨hi0, hi1⟩, H5⟩ := g_e H4
                            clear H4
                            refine ev_sload (M := TL_law) (pc := 627) hi0 hi1 dL_law_627 (hlen := ln_99 _ _) (K := ?_)
                            refine ev_mono (mc := 0 + (1 + (1 * n + 1))) (ms := 0 + (5 + (5 * n + 5))) (by omega) (by omega) ?_
                            obtain ⟨a48, ea48, H6⟩ := bd_e H5
                            clear H5
                            obtain ⟨hz, H7⟩ := g_e H6
                            clear H6
                            rw [ea48, hz]
                            obtain ⟨q49, hq, H8⟩ := bd_e H7
                            clear H7
                            refine ev_callV (M := TL_law) (pc := 628) (mc := 1 + (1 * n + 1)) (ms := 5 + (5 * n + 5)) (st := []) (C11_say hq) md_X11_say im_X11_say se_X11_say ml_L_72 dL_law_628 _ (by decide) (K := ?_)
                            refine ev_aload_n (M := TL_law) (pc := 631) 2 dL_law_631 (k := ?_)
                            refine ev_aload_n (M := TL_law) (pc := 632) 0 dL_law_632 (k := ?_)
                            refine ev_iload_n (M := TL_law) (pc := 633) 3 dL_law_633 (k := ?_)
                            refine ev_iconst (M := TL_law) (pc := 634) dL_law_634 (k := ?_)
                            refine ev_iadd (M := TL_law) (pc := 635) dL_law_635 (k := ?_)
                            obtain ⟨⟨hi0, hi1⟩, H9⟩ := g_e H8
                            clear H8
                            refine ev_sload (M := TL_law) (pc := 636) hi0 hi1 dL_law_636 (hlen := ln_99 _ _) (K := ?_)
                            refine ev_aload_n (M := TL_law) (pc := 637) 0 dL_law_637 (k := ?_)
                            refine ev_iload_n (M := TL_law) (pc := 638) 3 dL_law_638 (k := ?_)
                            refine ev_iconst (M := TL_law) (pc := 639) dL_law_639 (k := ?_)
                            refine ev_iadd (M := TL_law) (pc := 640) dL_law_640 (k := ?_)
                            obtain ⟨⟨hi0, hi1⟩, H10⟩ := g_e H9
                            clear H9
                            refine ev_sload (M := TL_law) (pc := 641) hi0 hi1 dL_law_641 (hlen := ln_99 _ _) (K := ?_)
                            refine ev_mono (mc := 0 + (1 + (1 * n + 1))) (ms := 0 + (5 + (5 * n + 5))) (by omega) (by omega) ?_
                            obtain ⟨a50, ea50, H11⟩ := bd_e H10
                            clear H10
                            obtain ⟨hz, H12⟩ := g_e H11
                            clear H11
                            rw [ea50, hz]
                            obtain ⟨q51, hq, H13⟩ := bd_e H12
                            clear H12
                            refine ev_callV (M := TL_law) (pc := 642) (mc := 1 + (1 * n + 1)) (ms := 5 + (5 * n + 5)) (st := [.inl (q49.1)]) (C12_say hq) md_X12_say im_X12_say se_X12_say ml_L_75 dL_law_642 _ (by decide) (K := ?_)
                            refine ev_icmpeq (M := TL_law) (pc := 645) 1102 dL_law_645 (kt := fun hc => ?_) (kf := fun hc => ?_)
                            · replace H13 := if_pe hc H13
                              refine ev_mono (mc := 0 + (1 * n + 1)) (ms := 0 + (5 * n + 5)) (by omega) (by omega) ?_
                              exact EL_law_1102 n k38 hk38 (some a11) (some 0) (some 0) l3 q51.2 _ H13
                            · replace H13 := if_ne hc H13
                              refine ev_iconst (M := TL_law) (pc := 648) dL_law_648 (k := ?_)
                              cases H13
                              exact ev_zreturn (M := TL_law) (pc := 649) (Or.inl rfl) dL_law_649
                          · replace H3 := if_ne hs11 H3
                            by_cases hs12 : j_and (h.1 99 a11 l3) 31 = 12
                            · replace H3 := if_pe hs12 H3
                              refine ev_tableIn (M := TL_law) (pc := 53) (off := 597) 650 dL_law_53 (by omega) (by omega) (by rw [hs12]; rfl) (k := ?_)
                              refine ev_aload_n (M := TL_law) (pc := 650) 1 dL_law_650 (k := ?_)
                              refine ev_aload_n (M := TL_law) (pc := 651) 0 dL_law_651 (k := ?_)
                              refine ev_iload_n (M := TL_law) (pc := 652) 3 dL_law_652 (k := ?_)
                              refine ev_iconst (M := TL_law) (pc := 653) dL_law_653 (k := ?_)
                              refine ev_iadd (M := TL_law) (pc := 654) dL_law_654 (k := ?_)
                              obtain ⟨⟨hi0, hi1⟩, H4⟩ := g_e H3
                              clear H3
                              refine ev_sload (M := TL_law) (pc := 655) hi0 hi1 dL_law_655 (hlen := ln_99 _ _) (K := ?_)
                              refine ev_aload_n (M := TL_law) (pc := 656) 0 dL_law_656 (k := ?_)
                              refine ev_iload_n (M := TL_law) (pc := 657) 3 dL_law_657 (k := ?_)
                              refine ev_iconst (M := TL_law) (pc := 658) dL_law_658 (k := ?_)
                              refine ev_iadd (M := TL_law) (pc := 659) dL_law_659 (k := ?_)
                              obtain ⟨⟨hi0, hi1⟩, H5⟩ := g_e H4
                              clear H4
                              refine ev_sload (M := TL_law) (pc := 660) hi0 hi1 dL_law_660 (hlen := ln_99 _ _) (K := ?_)
                              refine ev_aload_n (M := TL_law) (pc := 661) 0 dL_law_661 (k := ?_)
                              refine ev_iload_n (M := TL_law) (pc := 662) 3 dL_law_662 (k := ?_)
                              refine ev_iconst (M := TL_law) (pc := 663) dL_law_663 (k := ?_)
                              refine ev_iadd (M := TL_law) (pc := 664) dL_law_664 (k := ?_)
                              obtain ⟨⟨hi0, hi1⟩, H6⟩ := g_e H5
                              clear H5
                              refine ev_sload (M := TL_law) (pc := 665) hi0 hi1 dL_law_665 (hlen := ln_99 _ _) (K := ?_)
                              refine ev_mono (mc := 0 + (1 + (1 * n + 1))) (ms := 0 + (5 + (5 * n + 5))) (by omega) (by omega) ?_
                              obtain ⟨a52, ea52, H7⟩ := bd_e H6
                              clear H6
                              obtain ⟨hz, H8⟩ := g_e H7
                              clear H7
                              rw [ea52, hz]
                              obtain ⟨q53, hq, H9⟩ := bd_e H8
                              clear H8
                              refine ev_callV (M := TL_law) (pc := 666) (mc := 1 + (1 * n + 1)) (ms := 5 + (5 * n + 5)) (st := []) (C11_spoil hq) md_X11_spoil im_X11_spoil se_X11_spoil ml_L_76 dL_law_666 _ (by decide) (K := ?_)
                              refine ev_aload_n (M := TL_law) (pc := 669) 2 dL_law_669 (k := ?_)
                              refine ev_aload_n (M := TL_law) (pc := 670) 0 dL_law_670 (k := ?_)
                              refine ev_iload_n (M := TL_law) (pc := 671) 3 dL_law_671 (k := ?_)
                              refine ev_iconst (M := TL_law) (pc := 672) dL_law_672 (k := ?_)
                              refine ev_iadd (M := TL_law) (pc := 673) dL_law_673 (k := ?_)
                              obtain ⟨⟨hi0, hi1⟩, H10⟩ := g_e H9
                              clear H9
                              refine ev_sload (M := TL_law) (pc := 674) hi0 hi1 dL_law_674 (hlen := ln_99 _ _) (K := ?_)
                              refine ev_aload_n (M := TL_law) (pc := 675) 0 dL_law_675 (k := ?_)
                              refine ev_iload_n (M := TL_law) (pc := 676) 3 dL_law_676 (k := ?_)
                              refine ev_iconst (M := TL_law) (pc := 677) dL_law_677 (k := ?_)
                              refine ev_iadd (M := TL_law) (pc := 678) dL_law_678 (k := ?_)
                              obtain ⟨⟨hi0, hi1⟩, H11⟩ := g_e H10
                              clear H10
                              refine ev_sload (M := TL_law) (pc := 679) hi0 hi1 dL_law_679 (hlen := ln_99 _ _) (K := ?_)
                              refine ev_aload_n (M := TL_law) (pc := 680) 0 dL_law_680 (k := ?_)
                              refine ev_iload_n (M := TL_law) (pc := 681) 3 dL_law_681 (k := ?_)
                              refine ev_iconst (M := TL_law) (pc := 682) dL_law_682 (k := ?_)
                              refine ev_iadd (M := TL_law) (pc := 683) dL_law_683 (k := ?_)
                              obtain ⟨⟨hi0, hi1⟩, H12⟩ := g_e H11
                              clear H11
                              refine ev_sload (M := TL_law) (pc := 684) hi0 hi1 dL_law_684 (hlen := ln_99 _ _) (K := ?_)
                              refine ev_mono (mc := 0 + (1 + (1 * n + 1))) (ms := 0 + (5 + (5 * n + 5))) (by omega) (by omega) ?_
                              obtain ⟨a54, ea54, H13⟩ := bd_e H12
                              clear H12
                              obtain ⟨hz, H14⟩ := g_e H13
                              clear H13
                              rw [ea54, hz]
                              obtain ⟨q55, hq, H15⟩ := bd_e H14
                              clear H14
                              refine ev_callV (M := TL_law) (pc := 685) (mc := 1 + (1 * n + 1)) (ms := 5 + (5 * n + 5)) (st := [.inl (q53.1)]) (C12_spoil hq) md_X12_spoil im_X12_spoil se_X12_spoil ml_L_79 dL_law_685 _ (by decide) (K := ?_)
                              refine ev_icmpeq (M := TL_law) (pc := 688) 1102 dL_law_688 (kt := fun hc => ?_) (kf := fun hc => ?_)
                              · replace H15 := if_pe hc H15
                                refine ev_mono (mc := 0 + (1 * n + 1)) (ms := 0 + (5 * n + 5)) (by omega) (by omega) ?_
                                exact EL_law_1102 n k38 hk38 (some a11) (some 0) (some 0) l3 q55.2 _ H15
                              · replace H15 := if_ne hc H15
                                refine ev_iconst (M := TL_law) (pc := 691) dL_law_691 (k := ?_)
                                cases H15
                                exact ev_zreturn (M := TL_law) (pc := 692) (Or.inl rfl) dL_law_692
                            · replace H3 := if_ne hs12 H3
                              by_cases hs13 : j_and (h.1 99 a11 l3) 31 = 13
                              · replace H3 := if_pe hs13 H3
                                refine ev_tableIn (M := TL_law) (pc := 53) (off := 640) 693 dL_law_53 (by omega) (by omega) (by rw [hs13]; rfl) (k := ?_)
                                refine ev_aload_n (M := TL_law) (pc := 693) 1 dL_law_693 (k := ?_)
                                refine ev_aload_n (M := TL_law) (pc := 694) 0 dL_law_694 (k := ?_)
                                refine ev_iload_n (M := TL_law) (pc := 695) 3 dL_law_695 (k := ?_)
                                refine ev_iconst (M := TL_law) (pc := 696) dL_law_696 (k := ?_)
                                refine ev_iadd (M := TL_law) (pc := 697) dL_law_697 (k := ?_)
                                obtain ⟨⟨hi0, hi1⟩, H4⟩ := g_e H3
                                clear H3
                                refine ev_sload (M := TL_law) (pc := 698) hi0 hi1 dL_law_698 (hlen := ln_99 _ _) (K := ?_)
                                refine ev_aload_n (M := TL_law) (pc := 699) 0 dL_law_699 (k := ?_)
                                refine ev_iload_n (M := TL_law) (pc := 700) 3 dL_law_700 (k := ?_)
                                refine ev_iconst (M := TL_law) (pc := 701) dL_law_701 (k := ?_)
                                refine ev_iadd (M := TL_law) (pc := 702) dL_law_702 (k := ?_)
                                obtain ⟨⟨hi0, hi1⟩, H5⟩ := g_e H4
                                clear H4
                                refine ev_sload (M := TL_law) (pc := 703) hi0 hi1 dL_law_703 (hlen := ln_99 _ _) (K := ?_)
                                refine ev_mono (mc := 0 + (1 + (1 * n + 1))) (ms := 0 + (5 + (5 * n + 5))) (by omega) (by omega) ?_
                                obtain ⟨a56, ea56, H6⟩ := bd_e H5
                                clear H5
                                obtain ⟨hz, H7⟩ := g_e H6
                                clear H6
                                rw [ea56, hz]
                                obtain ⟨q57, hq, H8⟩ := bd_e H7
                                clear H7
                                refine ev_callV (M := TL_law) (pc := 704) (mc := 1 + (1 * n + 1)) (ms := 5 + (5 * n + 5)) (st := []) (C11_lose hq) md_X11_lose im_X11_lose se_X11_lose ml_L_80 dL_law_704 _ (by decide) (K := ?_)
                                refine ev_aload_n (M := TL_law) (pc := 707) 2 dL_law_707 (k := ?_)
                                refine ev_aload_n (M := TL_law) (pc := 708) 0 dL_law_708 (k := ?_)
                                refine ev_iload_n (M := TL_law) (pc := 709) 3 dL_law_709 (k := ?_)
                                refine ev_iconst (M := TL_law) (pc := 710) dL_law_710 (k := ?_)
                                refine ev_iadd (M := TL_law) (pc := 711) dL_law_711 (k := ?_)
                                obtain ⟨⟨hi0, hi1⟩, H9⟩ := g_e H8
                                clear H8
                                refine ev_sload (M := TL_law) (pc := 712) hi0 hi1 dL_law_712 (hlen := ln_99 _ _) (K := ?_)
                                refine ev_aload_n (M := TL_law) (pc := 713) 0 dL_law_713 (k := ?_)
                                refine ev_iload_n (M := TL_law) (pc := 714) 3 dL_law_714 (k := ?_)
                                refine ev_iconst (M := TL_law) (pc := 715) dL_law_715 (k := ?_)
                                refine ev_iadd (M := TL_law) (pc := 716) dL_law_716 (k := ?_)
                                obtain ⟨⟨hi0, hi1⟩, H10⟩ := g_e H9
                                clear H9
                                refine ev_sload (M := TL_law) (pc := 717) hi0 hi1 dL_law_717 (hlen := ln_99 _ _) (K := ?_)
                                refine ev_mono (mc := 0 + (1 + (1 * n + 1))) (ms := 0 + (5 + (5 * n + 5))) (by omega) (by omega) ?_
                                obtain ⟨a58, ea58, H11⟩ := bd_e H10
                                clear H10
                                obtain ⟨hz, H12⟩ := g_e H11
                                clear H11
                                rw [ea58, hz]
                                obtain ⟨q59, hq, H13⟩ := bd_e H12
                                clear H12
                                refine ev_callV (M := TL_law) (pc := 718) (mc := 1 + (1 * n + 1)) (ms := 5 + (5 * n + 5)) (st := [.inl (q57.1)]) (C12_lose hq) md_X12_lose im_X12_lose se_X12_lose ml_L_83 dL_law_718 _ (by decide) (K := ?_)
                                refine ev_icmpeq (M := TL_law) (pc := 721) 1102 dL_law_721 (kt := fun hc => ?_) (kf := fun hc => ?_)
                                · replace H13 := if_pe hc H13
                                  refine ev_mono (mc := 0 + (1 * n + 1)) (ms := 0 + (5 * n + 5)) (by omega) (by omega) ?_
                                  exact EL_law_1102 n k38 hk38 (some a11) (some 0) (some 0) l3 q59.2 _ H13
                                · replace H13 := if_ne hc H13
                                  refine ev_iconst (M := TL_law) (pc := 724) dL_law_724 (k := ?_)
                                  cases H13
                                  exact ev_zreturn (M := TL_law) (pc := 725) (Or.inl rfl) dL_law_725
                              · replace H3 := if_ne hs13 H3
                                by_cases hs14 : j_and (h.1 99 a11 l3) 31 = 14
                                · replace H3 := if_pe hs14 H3
                                  refine ev_tableIn (M := TL_law) (pc := 53) (off := 673) 726 dL_law_53 (by omega) (by omega) (by rw [hs14]; rfl) (k := ?_)
                                  refine ev_aload_n (M := TL_law) (pc := 726) 1 dL_law_726 (k := ?_)
                                  refine ev_aload_n (M := TL_law) (pc := 727) 0 dL_law_727 (k := ?_)
                                  refine ev_iload_n (M := TL_law) (pc := 728) 3 dL_law_728 (k := ?_)
                                  refine ev_iconst (M := TL_law) (pc := 729) dL_law_729 (k := ?_)
                                  refine ev_iadd (M := TL_law) (pc := 730) dL_law_730 (k := ?_)
                                  obtain ⟨⟨hi0, hi1⟩, H4⟩ := g_e H3
                                  clear H3
                                  refine ev_sload (M := TL_law) (pc := 731) hi0 hi1 dL_law_731 (hlen := ln_99 _ _) (K := ?_)
                                  refine ev_mono (mc := 0 + (1 + (1 * n + 1))) (ms := 0 + (5 + (5 * n + 5))) (by omega) (by omega) ?_
                                  obtain ⟨a60, ea60, H5⟩ := bd_e H4
                                  clear H4
                                  obtain ⟨hz, H6⟩ := g_e H5
                                  clear H5
                                  rw [ea60, hz]
                                  obtain ⟨q61, hq, H7⟩ := bd_e H6
                                  clear H6
                                  refine ev_callV (M := TL_law) (pc := 732) (mc := 1 + (1 * n + 1)) (ms := 5 + (5 * n + 5)) (st := []) (C11_tick hq) md_X11_tick im_X11_tick se_X11_tick ml_L_84 dL_law_732 _ (by decide) (K := ?_)
                                  refine ev_aload_n (M := TL_law) (pc := 735) 2 dL_law_735 (k := ?_)
                                  refine ev_aload_n (M := TL_law) (pc := 736) 0 dL_law_736 (k := ?_)
                                  refine ev_iload_n (M := TL_law) (pc := 737) 3 dL_law_737 (k := ?_)
                                  refine ev_iconst (M := TL_law) (pc := 738) dL_law_738 (k := ?_)
                                  refine ev_iadd (M := TL_law) (pc := 739) dL_law_739 (k := ?_)
                                  obtain ⟨⟨hi0, hi1⟩, H8⟩ := g_e H7
                                  clear H7
                                  refine ev_sload (M := TL_law) (pc := 740) hi0 hi1 dL_law_740 (hlen := ln_99 _ _) (K := ?_)
                                  refine ev_mono (mc := 0 + (1 + (1 * n + 1))) (ms := 0 + (5 + (5 * n + 5))) (by omega) (by omega) ?_
                                  obtain ⟨a62, ea62, H9⟩ := bd_e H8
                                  clear H8
                                  obtain ⟨hz, H10⟩ := g_e H9
                                  clear H9
                                  rw [ea62, hz]
                                  obtain ⟨q63, hq, H11⟩ := bd_e H10
                                  clear H10
                                  refine ev_callV (M := TL_law) (pc := 741) (mc := 1 + (1 * n + 1)) (ms := 5 + (5 * n + 5)) (st := [.inl (q61.1)]) (C12_tick hq) md_X12_tick im_X12_tick se_X12_tick ml_L_87 dL_law_741 _ (by decide) (K := ?_)
                                  refine ev_icmpeq (M := TL_law) (pc := 744) 1102 dL_law_744 (kt := fun hc => ?_) (kf := fun hc => ?_)
                                  · replace H11 := if_pe hc H11
                                    refine ev_mono (mc := 0 + (1 * n + 1)) (ms := 0 + (5 * n + 5)) (by omega) (by omega) ?_
                                    exact EL_law_1102 n k38 hk38 (some a11) (some 0) (some 0) l3 q63.2 _ H11
                                  · replace H11 := if_ne hc H11
                                    refine ev_iconst (M := TL_law) (pc := 747) dL_law_747 (k := ?_)
                                    cases H11
                                    exact ev_zreturn (M := TL_law) (pc := 748) (Or.inl rfl) dL_law_748
                                · replace H3 := if_ne hs14 H3
                                  by_cases hs15 : j_and (h.1 99 a11 l3) 31 = 15
                                  · replace H3 := if_pe hs15 H3
                                    refine ev_tableIn (M := TL_law) (pc := 53) (off := 696) 749 dL_law_53 (by omega) (by omega) (by rw [hs15]; rfl) (k := ?_)
                                    refine ev_aload_n (M := TL_law) (pc := 749) 1 dL_law_749 (k := ?_)
                                    refine ev_aload_n (M := TL_law) (pc := 750) 0 dL_law_750 (k := ?_)
                                    refine ev_iload_n (M := TL_law) (pc := 751) 3 dL_law_751 (k := ?_)
                                    refine ev_iconst (M := TL_law) (pc := 752) dL_law_752 (k := ?_)
                                    refine ev_iadd (M := TL_law) (pc := 753) dL_law_753 (k := ?_)
                                    obtain ⟨⟨hi0, hi1⟩, H4⟩ := g_e H3
                                    clear H3
                                    refine ev_sload (M := TL_law) (pc := 754) hi0 hi1 dL_law_754 (hlen := ln_99 _ _) (K := ?_)
                                    refine ev_aload_n (M := TL_law) (pc := 755) 0 dL_law_755 (k := ?_)
                                    refine ev_iload_n (M := TL_law) (pc := 756) 3 dL_law_756 (k := ?_)
                                    refine ev_iconst (M := TL_law) (pc := 757) dL_law_757 (k := ?_)
                                    refine ev_iadd (M := TL_law) (pc := 758) dL_law_758 (k := ?_)
                                    obtain ⟨⟨hi0, hi1⟩, H5⟩ := g_e H4
                                    clear H4
                                    refine ev_sload (M := TL_law) (pc := 759) hi0 hi1 dL_law_759 (hlen := ln_99 _ _) (K := ?_)
                                    refine ev_mono (mc := 0 + (1 + (1 * n + 1))) (ms := 0 + (5 + (5 * n + 5))) (by omega) (by omega) ?_
                                    obtain ⟨a64, ea64, H6⟩ := bd_e H5
                                    clear H5
                                    obtain ⟨hz, H7⟩ := g_e H6
                                    clear H6
                                    rw [ea64, hz]
                                    obtain ⟨q65, hq, H8⟩ := bd_e H7
                                    clear H7
                                    refine ev_callV (M := TL_law) (pc := 760) (mc := 1 + (1 * n + 1)) (ms := 5 + (5 * n + 5)) (st := []) (C11_line hq) md_X11_line im_X11_line se_X11_line ml_L_88 dL_law_760 _ (by decide) (K := ?_)
                                    refine ev_aload_n (M := TL_law) (pc := 763) 2 dL_law_763 (k := ?_)
                                    refine ev_aload_n (M := TL_law) (pc := 764) 0 dL_law_764 (k := ?_)
                                    refine ev_iload_n (M := TL_law) (pc := 765) 3 dL_law_765 (k := ?_)
                                    refine ev_iconst (M := TL_law) (pc := 766) dL_law_766 (k := ?_)
                                    refine ev_iadd (M := TL_law) (pc := 767) dL_law_767 (k := ?_)
                                    obtain ⟨⟨hi0, hi1⟩, H9⟩ := g_e H8
                                    clear H8
                                    refine ev_sload (M := TL_law) (pc := 768) hi0 hi1 dL_law_768 (hlen := ln_99 _ _) (K := ?_)
                                    refine ev_aload_n (M := TL_law) (pc := 769) 0 dL_law_769 (k := ?_)
                                    refine ev_iload_n (M := TL_law) (pc := 770) 3 dL_law_770 (k := ?_)
                                    refine ev_iconst (M := TL_law) (pc := 771) dL_law_771 (k := ?_)
                                    refine ev_iadd (M := TL_law) (pc := 772) dL_law_772 (k := ?_)
                                    obtain ⟨⟨hi0, hi1⟩, H10⟩ := g_e H9
                                    clear H9
                                    refine ev_sload (M := TL_law) (pc := 773) hi0 hi1 dL_law_773 (hlen := ln_99 _ _) (K := ?_)
                                    refine ev_mono (mc := 0 + (1 + (1 * n + 1))) (ms := 0 + (5 + (5 * n + 5))) (by omega) (by omega) ?_
                                    obtain ⟨a66, ea66, H11⟩ := bd_e H10
                                    clear H10
                                    obtain ⟨hz, H12⟩ := g_e H11
                                    clear H11
                                    rw [ea66, hz]
                                    obtain ⟨q67, hq, H13⟩ := bd_e H12
                                    clear H12
                                    refine ev_callV (M := TL_law) (pc := 774) (mc := 1 + (1 * n + 1)) (ms := 5 + (5 * n + 5)) (st := [.inl (q65.1)]) (C12_line hq) md_X12_line im_X12_line se_X12_line ml_L_91 dL_law_774 _ (by decide) (K := ?_)
                                    refine ev_icmpeq (M := TL_law) (pc := 777) 1102 dL_law_777 (kt := fun hc => ?_) (kf := fun hc => ?_)
                                    · replace H13 := if_pe hc H13
                                      refine ev_mono (mc := 0 + (1 * n + 1)) (ms := 0 + (5 * n + 5)) (by omega) (by omega) ?_
                                      exact EL_law_1102 n k38 hk38 (some a11) (some 0) (some 0) l3 q67.2 _ H13
                                    · replace H13 := if_ne hc H13
                                      refine ev_iconst (M := TL_law) (pc := 780) dL_law_780 (k := ?_)
                                      cases H13
                                      exact ev_zreturn (M := TL_law) (pc := 781) (Or.inl rfl) dL_law_781
                                  · replace H3 := if_ne hs15 H3
                                    by_cases hs16 : j_and (h.1 99 a11 l3) 31 = 16
                                    · replace H3 := if_pe hs16 H3
                                      refine ev_tableIn (M := TL_law) (pc := 53) (off := 729) 782 dL_law_53 (by omega) (by omega) (by rw [hs16]; rfl) (k := ?_)
                                      refine ev_aload_n (M := TL_law) (pc := 782) 1 dL_law_782 (k := ?_)
                                      refine ev_aload_n (M := TL_law) (pc := 783) 0 dL_law_783 (k := ?_)
                                      refine ev_iload_n (M := TL_law) (pc := 784) 3 dL_law_784 (k := ?_)
                                      refine ev_iconst (M := TL_law) (pc := 785) dL_law_785 (k := ?_)
                                      refine ev_iadd (M := TL_law) (pc := 786) dL_law_786 (k := ?_)
                                      obtain ⟨⟨hi0, hi1⟩, H4⟩ := g_e H3
                                      clear H3
                                      refine ev_sload (M := TL_law) (pc := 787) hi0 hi1 dL_law_787 (hlen := ln_99 _ _) (K := ?_)
                                      refine ev_mono (mc := 0 + (1 + (1 * n + 1))) (ms := 0 + (5 + (5 * n + 5))) (by omega) (by omega) ?_
                                      obtain ⟨a68, ea68, H5⟩ := bd_e H4
                                      clear H4
                                      obtain ⟨hz, H6⟩ := g_e H5
                                      clear H5
                                      rw [ea68, hz]
                                      obtain ⟨q69, hq, H7⟩ := bd_e H6
                                      clear H6
                                      refine ev_callV (M := TL_law) (pc := 788) (mc := 1 + (1 * n + 1)) (ms := 5 + (5 * n + 5)) (st := []) (C11_partner hq) md_X11_partner im_X11_partner se_X11_partner ml_L_92 dL_law_788 _ (by decide) (K := ?_)
                                      refine ev_aload_n (M := TL_law) (pc := 791) 2 dL_law_791 (k := ?_)
                                      refine ev_aload_n (M := TL_law) (pc := 792) 0 dL_law_792 (k := ?_)
                                      refine ev_iload_n (M := TL_law) (pc := 793) 3 dL_law_793 (k := ?_)
                                      refine ev_iconst (M := TL_law) (pc := 794) dL_law_794 (k := ?_)
                                      refine ev_iadd (M := TL_law) (pc := 795) dL_law_795 (k := ?_)
                                      obtain ⟨⟨hi0, hi1⟩, H8⟩ := g_e H7
                                      clear H7
                                      refine ev_sload (M := TL_law) (pc := 796) hi0 hi1 dL_law_796 (hlen := ln_99 _ _) (K := ?_)
                                      refine ev_mono (mc := 0 + (1 + (1 * n + 1))) (ms := 0 + (5 + (5 * n + 5))) (by omega) (by omega) ?_
                                      obtain ⟨a70, ea70, H9⟩ := bd_e H8
                                      clear H8
                                      obtain ⟨hz, H10⟩ := g_e H9
                                      clear H9
                                      rw [ea70, hz]
                                      obtain ⟨q71, hq, H11⟩ := bd_e H10
                                      clear H10
                                      refine ev_callV (M := TL_law) (pc := 797) (mc := 1 + (1 * n + 1)) (ms := 5 + (5 * n + 5)) (st := [.inl (q69.1)]) (C12_partner hq) md_X12_partner im_X12_partner se_X12_partner ml_L_95 dL_law_797 _ (by decide) (K := ?_)
                                      refine ev_icmpeq (M := TL_law) (pc := 800) 1102 dL_law_800 (kt := fun hc => ?_) (kf := fun hc => ?_)
                                      · replace H11 := if_pe hc H11
                                        refine ev_mono (mc := 0 + (1 * n + 1)) (ms := 0 + (5 * n + 5)) (by omega) (by omega) ?_
                                        exact EL_law_1102 n k38 hk38 (some a11) (some 0) (some 0) l3 q71.2 _ H11
                                      · replace H11 := if_ne hc H11
                                        refine ev_iconst (M := TL_law) (pc := 803) dL_law_803 (k := ?_)
                                        cases H11
                                        exact ev_zreturn (M := TL_law) (pc := 804) (Or.inl rfl) dL_law_804
                                    · replace H3 := if_ne hs16 H3
                                      by_cases hs17 : j_and (h.1 99 a11 l3) 31 = 17
                                      · replace H3 := if_pe hs17 H3
                                        refine ev_tableIn (M := TL_law) (pc := 53) (off := 752) 805 dL_law_53 (by omega) (by omega) (by rw [hs17]; rfl) (k := ?_)
                                        refine ev_aload_n (M := TL_law) (pc := 805) 1 dL_law_805 (k := ?_)
                                        refine ev_aload_n (M := TL_law) (pc := 806) 0 dL_law_806 (k := ?_)
                                        refine ev_iload_n (M := TL_law) (pc := 807) 3 dL_law_807 (k := ?_)
                                        refine ev_iconst (M := TL_law) (pc := 808) dL_law_808 (k := ?_)
                                        refine ev_iadd (M := TL_law) (pc := 809) dL_law_809 (k := ?_)
                                        obtain ⟨⟨hi0, hi1⟩, H4⟩ := g_e H3
                                        clear H3
                                        refine ev_sload (M := TL_law) (pc := 810) hi0 hi1 dL_law_810 (hlen := ln_99 _ _) (K := ?_)
                                        refine ev_mono (mc := 0 + (1 + (1 * n + 1))) (ms := 0 + (5 + (5 * n + 5))) (by omega) (by omega) ?_
                                        obtain ⟨a72, ea72, H5⟩ := bd_e H4
                                        clear H4
                                        obtain ⟨hz, H6⟩ := g_e H5
                                        clear H5
                                        rw [ea72, hz]
                                        obtain ⟨q73, hq, H7⟩ := bd_e H6
                                        clear H6
                                        refine ev_callV (M := TL_law) (pc := 811) (mc := 1 + (1 * n + 1)) (ms := 5 + (5 * n + 5)) (st := []) (C11_heard hq) md_X11_heard im_X11_heard se_X11_heard ml_L_96 dL_law_811 _ (by decide) (K := ?_)
                                        refine ev_aload_n (M := TL_law) (pc := 814) 2 dL_law_814 (k := ?_)
                                        refine ev_aload_n (M := TL_law) (pc := 815) 0 dL_law_815 (k := ?_)
                                        refine ev_iload_n (M := TL_law) (pc := 816) 3 dL_law_816 (k := ?_)
                                        refine ev_iconst (M := TL_law) (pc := 817) dL_law_817 (k := ?_)
                                        refine ev_iadd (M := TL_law) (pc := 818) dL_law_818 (k := ?_)
                                        obtain ⟨⟨hi0, hi1⟩, H8⟩ := g_e H7
                                        clear H7
                                        refine ev_sload (M := TL_law) (pc := 819) hi0 hi1 dL_law_819 (hlen := ln_99 _ _) (K := ?_)
                                        refine ev_mono (mc := 0 + (1 + (1 * n + 1))) (ms := 0 + (5 + (5 * n + 5))) (by omega) (by omega) ?_
                                        obtain ⟨a74, ea74, H9⟩ := bd_e H8
                                        clear H8
                                        obtain ⟨hz, H10⟩ := g_e H9
                                        clear H9
                                        rw [ea74, hz]
                                        obtain ⟨q75, hq, H11⟩ := bd_e H10
                                        clear H10
                                        refine ev_callV (M := TL_law) (pc := 820) (mc := 1 + (1 * n + 1)) (ms := 5 + (5 * n + 5)) (st := [.inl (q73.1)]) (C12_heard hq) md_X12_heard im_X12_heard se_X12_heard ml_L_99 dL_law_820 _ (by decide) (K := ?_)
                                        refine ev_icmpeq (M := TL_law) (pc := 823) 1102 dL_law_823 (kt := fun hc => ?_) (kf := fun hc => ?_)
                                        · replace H11 := if_pe hc H11
                                          refine ev_mono (mc := 0 + (1 * n + 1)) (ms := 0 + (5 * n + 5)) (by omega) (by omega) ?_
                                          exact EL_law_1102 n k38 hk38 (some a11) (some 0) (some 0) l3 q75.2 _ H11
                                        · replace H11 := if_ne hc H11
                                          refine ev_iconst (M := TL_law) (pc := 826) dL_law_826 (k := ?_)
                                          cases H11
                                          exact ev_zreturn (M := TL_law) (pc := 827) (Or.inl rfl) dL_law_827
                                      · replace H3 := if_ne hs17 H3
                                        by_cases hs18 : j_and (h.1 99 a11 l3) 31 = 18
                                        · replace H3 := if_pe hs18 H3
                                          refine ev_tableIn (M := TL_law) (pc := 53) (off := 775) 828 dL_law_53 (by omega) (by omega) (by rw [hs18]; rfl) (k := ?_)
                                          refine ev_aload_n (M := TL_law) (pc := 828) 1 dL_law_828 (k := ?_)
                                          refine ev_aload_n (M := TL_law) (pc := 829) 0 dL_law_829 (k := ?_)
                                          refine ev_iload_n (M := TL_law) (pc := 830) 3 dL_law_830 (k := ?_)
                                          refine ev_iconst (M := TL_law) (pc := 831) dL_law_831 (k := ?_)
                                          refine ev_iadd (M := TL_law) (pc := 832) dL_law_832 (k := ?_)
                                          obtain ⟨⟨hi0, hi1⟩, H4⟩ := g_e H3
                                          clear H3
                                          refine ev_sload (M := TL_law) (pc := 833) hi0 hi1 dL_law_833 (hlen := ln_99 _ _) (K := ?_)
                                          refine ev_aload_n (M := TL_law) (pc := 834) 0 dL_law_834 (k := ?_)
                                          refine ev_iload_n (M := TL_law) (pc := 835) 3 dL_law_835 (k := ?_)
                                          refine ev_iconst (M := TL_law) (pc := 836) dL_law_836 (k := ?_)
                                          refine ev_iadd (M := TL_law) (pc := 837) dL_law_837 (k := ?_)
                                          obtain ⟨⟨hi0, hi1⟩, H5⟩ := g_e H4
                                          clear H4
                                          refine ev_sload (M := TL_law) (pc := 838) hi0 hi1 dL_law_838 (hlen := ln_99 _ _) (K := ?_)
                                          refine ev_mono (mc := 0 + (1 + (1 * n + 1))) (ms := 0 + (5 + (5 * n + 5))) (by omega) (by omega) ?_
                                          obtain ⟨a76, ea76, H6⟩ := bd_e H5
                                          clear H5
                                          obtain ⟨hz, H7⟩ := g_e H6
                                          clear H6
                                          rw [ea76, hz]
                                          obtain ⟨q77, hq, H8⟩ := bd_e H7
                                          clear H7
                                          refine ev_callV (M := TL_law) (pc := 839) (mc := 1 + (1 * n + 1)) (ms := 5 + (5 * n + 5)) (st := []) (C11_circuit hq) md_X11_circuit im_X11_circuit se_X11_circuit ml_L_100 dL_law_839 _ (by decide) (K := ?_)
                                          refine ev_aload_n (M := TL_law) (pc := 842) 2 dL_law_842 (k := ?_)
                                          refine ev_aload_n (M := TL_law) (pc := 843) 0 dL_law_843 (k := ?_)
                                          refine ev_iload_n (M := TL_law) (pc := 844) 3 dL_law_844 (k := ?_)
                                          refine ev_iconst (M := TL_law) (pc := 845) dL_law_845 (k := ?_)
                                          refine ev_iadd (M := TL_law) (pc := 846) dL_law_846 (k := ?_)
                                          obtain ⟨⟨hi0, hi1⟩, H9⟩ := g_e H8
                                          clear H8
                                          refine ev_sload (M := TL_law) (pc := 847) hi0 hi1 dL_law_847 (hlen := ln_99 _ _) (K := ?_)
                                          refine ev_aload_n (M := TL_law) (pc := 848) 0 dL_law_848 (k := ?_)
                                          refine ev_iload_n (M := TL_law) (pc := 849) 3 dL_law_849 (k := ?_)
                                          refine ev_iconst (M := TL_law) (pc := 850) dL_law_850 (k := ?_)
                                          refine ev_iadd (M := TL_law) (pc := 851) dL_law_851 (k := ?_)
                                          obtain ⟨⟨hi0, hi1⟩, H10⟩ := g_e H9
                                          clear H9
                                          refine ev_sload (M := TL_law) (pc := 852) hi0 hi1 dL_law_852 (hlen := ln_99 _ _) (K := ?_)
                                          refine ev_mono (mc := 0 + (1 + (1 * n + 1))) (ms := 0 + (5 + (5 * n + 5))) (by omega) (by omega) ?_
                                          obtain ⟨a78, ea78, H11⟩ := bd_e H10
                                          clear H10
                                          obtain ⟨hz, H12⟩ := g_e H11
                                          clear H11
                                          rw [ea78, hz]
                                          obtain ⟨q79, hq, H13⟩ := bd_e H12
                                          clear H12
                                          refine ev_callV (M := TL_law) (pc := 853) (mc := 1 + (1 * n + 1)) (ms := 5 + (5 * n + 5)) (st := [.inl (q77.1)]) (C12_circuit hq) md_X12_circuit im_X12_circuit se_X12_circuit ml_L_103 dL_law_853 _ (by decide) (K := ?_)
                                          refine ev_icmpeq (M := TL_law) (pc := 856) 1102 dL_law_856 (kt := fun hc => ?_) (kf := fun hc => ?_)
                                          · replace H13 := if_pe hc H13
                                            refine ev_mono (mc := 0 + (1 * n + 1)) (ms := 0 + (5 * n + 5)) (by omega) (by omega) ?_
                                            exact EL_law_1102 n k38 hk38 (some a11) (some 0) (some 0) l3 q79.2 _ H13
                                          · replace H13 := if_ne hc H13
                                            refine ev_iconst (M := TL_law) (pc := 859) dL_law_859 (k := ?_)
                                            cases H13
                                            exact ev_zreturn (M := TL_law) (pc := 860) (Or.inl rfl) dL_law_860
                                        · replace H3 := if_ne hs18 H3
                                          by_cases hs19 : j_and (h.1 99 a11 l3) 31 = 19
                                          · replace H3 := if_pe hs19 H3
                                            refine ev_tableIn (M := TL_law) (pc := 53) (off := 808) 861 dL_law_53 (by omega) (by omega) (by rw [hs19]; rfl) (k := ?_)
                                            refine ev_aload_n (M := TL_law) (pc := 861) 1 dL_law_861 (k := ?_)
                                            refine ev_aload_n (M := TL_law) (pc := 862) 0 dL_law_862 (k := ?_)
                                            refine ev_iload_n (M := TL_law) (pc := 863) 3 dL_law_863 (k := ?_)
                                            refine ev_iconst (M := TL_law) (pc := 864) dL_law_864 (k := ?_)
                                            refine ev_iadd (M := TL_law) (pc := 865) dL_law_865 (k := ?_)
                                            obtain ⟨⟨hi0, hi1⟩, H4⟩ := g_e H3
                                            clear H3
                                            refine ev_sload (M := TL_law) (pc := 866) hi0 hi1 dL_law_866 (hlen := ln_99 _ _) (K := ?_)
                                            refine ev_aload_n (M := TL_law) (pc := 867) 0 dL_law_867 (k := ?_)
                                            refine ev_iload_n (M := TL_law) (pc := 868) 3 dL_law_868 (k := ?_)
                                            refine ev_iconst (M := TL_law) (pc := 869) dL_law_869 (k := ?_)
                                            refine ev_iadd (M := TL_law) (pc := 870) dL_law_870 (k := ?_)
                                            obtain ⟨⟨hi0, hi1⟩, H5⟩ := g_e H4
                                            clear H4
                                            refine ev_sload (M := TL_law) (pc := 871) hi0 hi1 dL_law_871 (hlen := ln_99 _ _) (K := ?_)
                                            refine ev_mono (mc := 0 + (1 + (1 * n + 1))) (ms := 0 + (5 + (5 * n + 5))) (by omega) (by omega) ?_
                                            obtain ⟨a80, ea80, H6⟩ := bd_e H5
                                            clear H5
                                            obtain ⟨hz, H7⟩ := g_e H6
                                            clear H6
                                            rw [ea80, hz]
                                            obtain ⟨q81, hq, H8⟩ := bd_e H7
                                            clear H7
                                            refine ev_callV (M := TL_law) (pc := 872) (mc := 1 + (1 * n + 1)) (ms := 5 + (5 * n + 5)) (st := []) (C11_speech hq) md_X11_speech im_X11_speech se_X11_speech ml_L_104 dL_law_872 _ (by decide) (K := ?_)
                                            refine ev_aload_n (M := TL_law) (pc := 875) 2 dL_law_875 (k := ?_)
                                            refine ev_aload_n (M := TL_law) (pc := 876) 0 dL_law_876 (k := ?_)
                                            refine ev_iload_n (M := TL_law) (pc := 877) 3 dL_law_877 (k := ?_)
                                            refine ev_iconst (M := TL_law) (pc := 878) dL_law_878 (k := ?_)
                                            refine ev_iadd (M := TL_law) (pc := 879) dL_law_879 (k := ?_)
                                            obtain ⟨⟨hi0, hi1⟩, H9⟩ := g_e H8
                                            clear H8
                                            refine ev_sload (M := TL_law) (pc := 880) hi0 hi1 dL_law_880 (hlen := ln_99 _ _) (K := ?_)
                                            refine ev_aload_n (M := TL_law) (pc := 881) 0 dL_law_881 (k := ?_)
                                            refine ev_iload_n (M := TL_law) (pc := 882) 3 dL_law_882 (k := ?_)
                                            refine ev_iconst (M := TL_law) (pc := 883) dL_law_883 (k := ?_)
                                            refine ev_iadd (M := TL_law) (pc := 884) dL_law_884 (k := ?_)
                                            obtain ⟨⟨hi0, hi1⟩, H10⟩ := g_e H9
                                            clear H9
                                            refine ev_sload (M := TL_law) (pc := 885) hi0 hi1 dL_law_885 (hlen := ln_99 _ _) (K := ?_)
                                            refine ev_mono (mc := 0 + (1 + (1 * n + 1))) (ms := 0 + (5 + (5 * n + 5))) (by omega) (by omega) ?_
                                            obtain ⟨a82, ea82, H11⟩ := bd_e H10
                                            clear H10
                                            obtain ⟨hz, H12⟩ := g_e H11
                                            clear H11
                                            rw [ea82, hz]
                                            obtain ⟨q83, hq, H13⟩ := bd_e H12
                                            clear H12
                                            refine ev_callV (M := TL_law) (pc := 886) (mc := 1 + (1 * n + 1)) (ms := 5 + (5 * n + 5)) (st := [.inl (q81.1)]) (C12_speech hq) md_X12_speech im_X12_speech se_X12_speech ml_L_107 dL_law_886 _ (by decide) (K := ?_)
                                            refine ev_icmpeq (M := TL_law) (pc := 889) 1102 dL_law_889 (kt := fun hc => ?_) (kf := fun hc => ?_)
                                            · replace H13 := if_pe hc H13
                                              refine ev_mono (mc := 0 + (1 * n + 1)) (ms := 0 + (5 * n + 5)) (by omega) (by omega) ?_
                                              exact EL_law_1102 n k38 hk38 (some a11) (some 0) (some 0) l3 q83.2 _ H13
                                            · replace H13 := if_ne hc H13
                                              refine ev_iconst (M := TL_law) (pc := 892) dL_law_892 (k := ?_)
                                              cases H13
                                              exact ev_zreturn (M := TL_law) (pc := 893) (Or.inl rfl) dL_law_893
                                          · replace H3 := if_ne hs19 H3
                                            by_cases hs20 : j_and (h.1 99 a11 l3) 31 = 20
                                            · replace H3 := if_pe hs20 H3
                                              refine ev_tableIn (M := TL_law) (pc := 53) (off := 841) 894 dL_law_53 (by omega) (by omega) (by rw [hs20]; rfl) (k := ?_)
                                              refine ev_aload_n (M := TL_law) (pc := 894) 1 dL_law_894 (k := ?_)
                                              refine ev_aload_n (M := TL_law) (pc := 895) 0 dL_law_895 (k := ?_)
                                              refine ev_iload_n (M := TL_law) (pc := 896) 3 dL_law_896 (k := ?_)
                                              refine ev_iconst (M := TL_law) (pc := 897) dL_law_897 (k := ?_)
                                              refine ev_iadd (M := TL_law) (pc := 898) dL_law_898 (k := ?_)
                                              obtain ⟨⟨hi0, hi1⟩, H4⟩ := g_e H3
                                              clear H3
                                              refine ev_sload (M := TL_law) (pc := 899) hi0 hi1 dL_law_899 (hlen := ln_99 _ _) (K := ?_)
                                              refine ev_aload_n (M := TL_law) (pc := 900) 0 dL_law_900 (k := ?_)
                                              refine ev_iload_n (M := TL_law) (pc := 901) 3 dL_law_901 (k := ?_)
                                              refine ev_iconst (M := TL_law) (pc := 902) dL_law_902 (k := ?_)
                                              refine ev_iadd (M := TL_law) (pc := 903) dL_law_903 (k := ?_)
                                              obtain ⟨⟨hi0, hi1⟩, H5⟩ := g_e H4
                                              clear H4
                                              refine ev_sload (M := TL_law) (pc := 904) hi0 hi1 dL_law_904 (hlen := ln_99 _ _) (K := ?_)
                                              refine ev_aload_n (M := TL_law) (pc := 905) 0 dL_law_905 (k := ?_)
                                              refine ev_iload_n (M := TL_law) (pc := 906) 3 dL_law_906 (k := ?_)
                                              refine ev_iconst (M := TL_law) (pc := 907) dL_law_907 (k := ?_)
                                              refine ev_iadd (M := TL_law) (pc := 908) dL_law_908 (k := ?_)
                                              obtain ⟨⟨hi0, hi1⟩, H6⟩ := g_e H5
                                              clear H5
                                              refine ev_sload (M := TL_law) (pc := 909) hi0 hi1 dL_law_909 (hlen := ln_99 _ _) (K := ?_)
                                              refine ev_mono (mc := 0 + (1 + (1 * n + 1))) (ms := 0 + (5 + (5 * n + 5))) (by omega) (by omega) ?_
                                              obtain ⟨a84, ea84, H7⟩ := bd_e H6
                                              clear H6
                                              obtain ⟨hz, H8⟩ := g_e H7
                                              clear H7
                                              rw [ea84, hz]
                                              obtain ⟨q85, hq, H9⟩ := bd_e H8
                                              clear H8
                                              refine ev_callV (M := TL_law) (pc := 910) (mc := 1 + (1 * n + 1)) (ms := 5 + (5 * n + 5)) (st := []) (C11_group hq) md_X11_group im_X11_group se_X11_group ml_L_108 dL_law_910 _ (by decide) (K := ?_)
                                              refine ev_aload_n (M := TL_law) (pc := 913) 2 dL_law_913 (k := ?_)
                                              refine ev_aload_n (M := TL_law) (pc := 914) 0 dL_law_914 (k := ?_)
                                              refine ev_iload_n (M := TL_law) (pc := 915) 3 dL_law_915 (k := ?_)
                                              refine ev_iconst (M := TL_law) (pc := 916) dL_law_916 (k := ?_)
                                              refine ev_iadd (M := TL_law) (pc := 917) dL_law_917 (k := ?_)
                                              obtain ⟨⟨hi0, hi1⟩, H10⟩ := g_e H9
                                              clear H9
                                              refine ev_sload (M := TL_law) (pc := 918) hi0 hi1 dL_law_918 (hlen := ln_99 _ _) (K := ?_)
                                              refine ev_aload_n (M := TL_law) (pc := 919) 0 dL_law_919 (k := ?_)
                                              refine ev_iload_n (M := TL_law) (pc := 920) 3 dL_law_920 (k := ?_)
                                              refine ev_iconst (M := TL_law) (pc := 921) dL_law_921 (k := ?_)
                                              refine ev_iadd (M := TL_law) (pc := 922) dL_law_922 (k := ?_)
                                              obtain ⟨⟨hi0, hi1⟩, H11⟩ := g_e H10
                                              clear H10
                                              refine ev_sload (M := TL_law) (pc := 923) hi0 hi1 dL_law_923 (hlen := ln_99 _ _) (K := ?_)
                                              refine ev_aload_n (M := TL_law) (pc := 924) 0 dL_law_924 (k := ?_)
                                              refine ev_iload_n (M := TL_law) (pc := 925) 3 dL_law_925 (k := ?_)
                                              refine ev_iconst (M := TL_law) (pc := 926) dL_law_926 (k := ?_)
                                              refine ev_iadd (M := TL_law) (pc := 927) dL_law_927 (k := ?_)
                                              obtain ⟨⟨hi0, hi1⟩, H12⟩ := g_e H11
                                              clear H11
                                              refine ev_sload (M := TL_law) (pc := 928) hi0 hi1 dL_law_928 (hlen := ln_99 _ _) (K := ?_)
                                              refine ev_mono (mc := 0 + (1 + (1 * n + 1))) (ms := 0 + (5 + (5 * n + 5))) (by omega) (by omega) ?_
                                              obtain ⟨a86, ea86, H13⟩ := bd_e H12
                                              clear H12
                                              obtain ⟨hz, H14⟩ := g_e H13
                                              clear H13
                                              rw [ea86, hz]
                                              obtain ⟨q87, hq, H15⟩ := bd_e H14
                                              clear H14
                                              refine ev_callV (M := TL_law) (pc := 929) (mc := 1 + (1 * n + 1)) (ms := 5 + (5 * n + 5)) (st := [.inl (q85.1)]) (C12_group hq) md_X12_group im_X12_group se_X12_group ml_L_111 dL_law_929 _ (by decide) (K := ?_)
                                              refine ev_icmpeq (M := TL_law) (pc := 932) 1102 dL_law_932 (kt := fun hc => ?_) (kf := fun hc => ?_)
                                              · replace H15 := if_pe hc H15
                                                refine ev_mono (mc := 0 + (1 * n + 1)) (ms := 0 + (5 * n + 5)) (by omega) (by omega) ?_
                                                exact EL_law_1102 n k38 hk38 (some a11) (some 0) (some 0) l3 q87.2 _ H15
                                              · replace H15 := if_ne hc H15
                                                refine ev_iconst (M := TL_law) (pc := 935) dL_law_935 (k := ?_)
                                                cases H15
                                                exact ev_zreturn (M := TL_law) (pc := 936) (Or.inl rfl) dL_law_936
                                            · replace H3 := if_ne hs20 H3
                                              by_cases hs21 : j_and (h.1 99 a11 l3) 31 = 21
                                              · replace H3 := if_pe hs21 H3
                                                refine ev_tableIn (M := TL_law) (pc := 53) (off := 884) 937 dL_law_53 (by omega) (by omega) (by rw [hs21]; rfl) (k := ?_)
                                                refine ev_aload_n (M := TL_law) (pc := 937) 1 dL_law_937 (k := ?_)
                                                refine ev_aload_n (M := TL_law) (pc := 938) 0 dL_law_938 (k := ?_)
                                                refine ev_iload_n (M := TL_law) (pc := 939) 3 dL_law_939 (k := ?_)
                                                refine ev_iconst (M := TL_law) (pc := 940) dL_law_940 (k := ?_)
                                                refine ev_iadd (M := TL_law) (pc := 941) dL_law_941 (k := ?_)
                                                obtain ⟨⟨hi0, hi1⟩, H4⟩ := g_e H3
                                                clear H3
                                                refine ev_sload (M := TL_law) (pc := 942) hi0 hi1 dL_law_942 (hlen := ln_99 _ _) (K := ?_)
                                                refine ev_aload_n (M := TL_law) (pc := 943) 0 dL_law_943 (k := ?_)
                                                refine ev_iload_n (M := TL_law) (pc := 944) 3 dL_law_944 (k := ?_)
                                                refine ev_iconst (M := TL_law) (pc := 945) dL_law_945 (k := ?_)
                                                refine ev_iadd (M := TL_law) (pc := 946) dL_law_946 (k := ?_)
                                                obtain ⟨⟨hi0, hi1⟩, H5⟩ := g_e H4
                                                clear H4
                                                refine ev_sload (M := TL_law) (pc := 947) hi0 hi1 dL_law_947 (hlen := ln_99 _ _) (K := ?_)
                                                refine ev_mono (mc := 0 + (1 + (1 * n + 1))) (ms := 0 + (5 + (5 * n + 5))) (by omega) (by omega) ?_
                                                obtain ⟨a88, ea88, H6⟩ := bd_e H5
                                                clear H5
                                                obtain ⟨hz, H7⟩ := g_e H6
                                                clear H6
                                                rw [ea88, hz]
                                                obtain ⟨q89, hq, H8⟩ := bd_e H7
                                                clear H7
                                                refine ev_callV (M := TL_law) (pc := 948) (mc := 1 + (1 * n + 1)) (ms := 5 + (5 * n + 5)) (st := []) (C11_room hq) md_X11_room im_X11_room se_X11_room ml_L_112 dL_law_948 _ (by decide) (K := ?_)
                                                refine ev_aload_n (M := TL_law) (pc := 951) 2 dL_law_951 (k := ?_)
                                                refine ev_aload_n (M := TL_law) (pc := 952) 0 dL_law_952 (k := ?_)
                                                refine ev_iload_n (M := TL_law) (pc := 953) 3 dL_law_953 (k := ?_)
                                                refine ev_iconst (M := TL_law) (pc := 954) dL_law_954 (k := ?_)
                                                refine ev_iadd (M := TL_law) (pc := 955) dL_law_955 (k := ?_)
                                                obtain ⟨⟨hi0, hi1⟩, H9⟩ := g_e H8
                                                clear H8
                                                refine ev_sload (M := TL_law) (pc := 956) hi0 hi1 dL_law_956 (hlen := ln_99 _ _) (K := ?_)
                                                refine ev_aload_n (M := TL_law) (pc := 957) 0 dL_law_957 (k := ?_)
                                                refine ev_iload_n (M := TL_law) (pc := 958) 3 dL_law_958 (k := ?_)
                                                refine ev_iconst (M := TL_law) (pc := 959) dL_law_959 (k := ?_)
                                                refine ev_iadd (M := TL_law) (pc := 960) dL_law_960 (k := ?_)
                                                obtain ⟨⟨hi0, hi1⟩, H10⟩ := g_e H9
                                                clear H9
                                                refine ev_sload (M := TL_law) (pc := 961) hi0 hi1 dL_law_961 (hlen := ln_99 _ _) (K := ?_)
                                                refine ev_mono (mc := 0 + (1 + (1 * n + 1))) (ms := 0 + (5 + (5 * n + 5))) (by omega) (by omega) ?_
                                                obtain ⟨a90, ea90, H11⟩ := bd_e H10
                                                clear H10
                                                obtain ⟨hz, H12⟩ := g_e H11
                                                clear H11
                                                rw [ea90, hz]
                                                obtain ⟨q91, hq, H13⟩ := bd_e H12
                                                clear H12
                                                refine ev_callV (M := TL_law) (pc := 962) (mc := 1 + (1 * n + 1)) (ms := 5 + (5 * n + 5)) (st := [.inl (q89.1)]) (C12_room hq) md_X12_room im_X12_room se_X12_room ml_L_115 dL_law_962 _ (by decide) (K := ?_)
                                                refine ev_icmpeq (M := TL_law) (pc := 965) 1102 dL_law_965 (kt := fun hc => ?_) (kf := fun hc => ?_)
                                                · replace H13 := if_pe hc H13
                                                  refine ev_mono (mc := 0 + (1 * n + 1)) (ms := 0 + (5 * n + 5)) (by omega) (by omega) ?_
                                                  exact EL_law_1102 n k38 hk38 (some a11) (some 0) (some 0) l3 q91.2 _ H13
                                                · replace H13 := if_ne hc H13
                                                  refine ev_iconst (M := TL_law) (pc := 968) dL_law_968 (k := ?_)
                                                  cases H13
                                                  exact ev_zreturn (M := TL_law) (pc := 969) (Or.inl rfl) dL_law_969
                                              · replace H3 := if_ne hs21 H3
                                                by_cases hs22 : j_and (h.1 99 a11 l3) 31 = 22
                                                · replace H3 := if_pe hs22 H3
                                                  refine ev_tableIn (M := TL_law) (pc := 53) (off := 917) 970 dL_law_53 (by omega) (by omega) (by rw [hs22]; rfl) (k := ?_)
                                                  refine ev_aload_n (M := TL_law) (pc := 970) 1 dL_law_970 (k := ?_)
                                                  refine ev_aload_n (M := TL_law) (pc := 971) 0 dL_law_971 (k := ?_)
                                                  refine ev_iload_n (M := TL_law) (pc := 972) 3 dL_law_972 (k := ?_)
                                                  refine ev_iconst (M := TL_law) (pc := 973) dL_law_973 (k := ?_)
                                                  refine ev_iadd (M := TL_law) (pc := 974) dL_law_974 (k := ?_)
                                                  obtain ⟨⟨hi0, hi1⟩, H4⟩ := g_e H3
                                                  clear H3
                                                  refine ev_sload (M := TL_law) (pc := 975) hi0 hi1 dL_law_975 (hlen := ln_99 _ _) (K := ?_)
                                                  refine ev_aload_n (M := TL_law) (pc := 976) 0 dL_law_976 (k := ?_)
                                                  refine ev_iload_n (M := TL_law) (pc := 977) 3 dL_law_977 (k := ?_)
                                                  refine ev_iconst (M := TL_law) (pc := 978) dL_law_978 (k := ?_)
                                                  refine ev_iadd (M := TL_law) (pc := 979) dL_law_979 (k := ?_)
                                                  obtain ⟨⟨hi0, hi1⟩, H5⟩ := g_e H4
                                                  clear H4
                                                  refine ev_sload (M := TL_law) (pc := 980) hi0 hi1 dL_law_980 (hlen := ln_99 _ _) (K := ?_)
                                                  refine ev_mono (mc := 0 + (1 + (1 * n + 1))) (ms := 0 + (5 + (5 * n + 5))) (by omega) (by omega) ?_
                                                  obtain ⟨a92, ea92, H6⟩ := bd_e H5
                                                  clear H5
                                                  obtain ⟨hz, H7⟩ := g_e H6
                                                  clear H6
                                                  rw [ea92, hz]
                                                  obtain ⟨q93, hq, H8⟩ := bd_e H7
                                                  clear H7
                                                  refine ev_callV (M := TL_law) (pc := 981) (mc := 1 + (1 * n + 1)) (ms := 5 + (5 * n + 5)) (st := []) (C11_link hq) md_X11_link im_X11_link se_X11_link ml_L_116 dL_law_981 _ (by decide) (K := ?_)
                                                  refine ev_aload_n (M := TL_law) (pc := 984) 2 dL_law_984 (k := ?_)
                                                  refine ev_aload_n (M := TL_law) (pc := 985) 0 dL_law_985 (k := ?_)
                                                  refine ev_iload_n (M := TL_law) (pc := 986) 3 dL_law_986 (k := ?_)
                                                  refine ev_iconst (M := TL_law) (pc := 987) dL_law_987 (k := ?_)
                                                  refine ev_iadd (M := TL_law) (pc := 988) dL_law_988 (k := ?_)
                                                  obtain ⟨⟨hi0, hi1⟩, H9⟩ := g_e H8
                                                  clear H8
                                                  refine ev_sload (M := TL_law) (pc := 989) hi0 hi1 dL_law_989 (hlen := ln_99 _ _) (K := ?_)
                                                  refine ev_aload_n (M := TL_law) (pc := 990) 0 dL_law_990 (k := ?_)
                                                  refine ev_iload_n (M := TL_law) (pc := 991) 3 dL_law_991 (k := ?_)
                                                  refine ev_iconst (M := TL_law) (pc := 992) dL_law_992 (k := ?_)
                                                  refine ev_iadd (M := TL_law) (pc := 993) dL_law_993 (k := ?_)
                                                  obtain ⟨⟨hi0, hi1⟩, H10⟩ := g_e H9
                                                  clear H9
                                                  refine ev_sload (M := TL_law) (pc := 994) hi0 hi1 dL_law_994 (hlen := ln_99 _ _) (K := ?_)
                                                  refine ev_mono (mc := 0 + (1 + (1 * n + 1))) (ms := 0 + (5 + (5 * n + 5))) (by omega) (by omega) ?_
                                                  obtain ⟨a94, ea94, H11⟩ := bd_e H10
                                                  clear H10
                                                  obtain ⟨hz, H12⟩ := g_e H11
                                                  clear H11
                                                  rw [ea94, hz]
                                                  obtain ⟨q95, hq, H13⟩ := bd_e H12
                                                  clear H12
                                                  refine ev_callV (M := TL_law) (pc := 995) (mc := 1 + (1 * n + 1)) (ms := 5 + (5 * n + 5)) (st := [.inl (q93.1)]) (C12_link hq) md_X12_link im_X12_link se_X12_link ml_L_119 dL_law_995 _ (by decide) (K := ?_)
                                                  refine ev_icmpeq (M := TL_law) (pc := 998) 1102 dL_law_998 (kt := fun hc => ?_) (kf := fun hc => ?_)
                                                  · replace H13 := if_pe hc H13
                                                    refine ev_mono (mc := 0 + (1 * n + 1)) (ms := 0 + (5 * n + 5)) (by omega) (by omega) ?_
                                                    exact EL_law_1102 n k38 hk38 (some a11) (some 0) (some 0) l3 q95.2 _ H13
                                                  · replace H13 := if_ne hc H13
                                                    refine ev_iconst (M := TL_law) (pc := 1001) dL_law_1001 (k := ?_)
                                                    cases H13
                                                    exact ev_zreturn (M := TL_law) (pc := 1002) (Or.inl rfl) dL_law_1002
                                                · replace H3 := if_ne hs22 H3
                                                  by_cases hs23 : j_and (h.1 99 a11 l3) 31 = 23
                                                  · replace H3 := if_pe hs23 H3
                                                    refine ev_tableIn (M := TL_law) (pc := 53) (off := 950) 1003 dL_law_53 (by omega) (by omega) (by rw [hs23]; rfl) (k := ?_)
                                                    refine ev_aload_n (M := TL_law) (pc := 1003) 1 dL_law_1003 (k := ?_)
                                                    refine ev_aload_n (M := TL_law) (pc := 1004) 0 dL_law_1004 (k := ?_)
                                                    refine ev_iload_n (M := TL_law) (pc := 1005) 3 dL_law_1005 (k := ?_)
                                                    refine ev_iconst (M := TL_law) (pc := 1006) dL_law_1006 (k := ?_)
                                                    refine ev_iadd (M := TL_law) (pc := 1007) dL_law_1007 (k := ?_)
                                                    obtain ⟨⟨hi0, hi1⟩, H4⟩ := g_e H3
                                                    clear H3
                                                    refine ev_sload (M := TL_law) (pc := 1008) hi0 hi1 dL_law_1008 (hlen := ln_99 _ _) (K := ?_)
                                                    refine ev_aload_n (M := TL_law) (pc := 1009) 0 dL_law_1009 (k := ?_)
                                                    refine ev_iload_n (M := TL_law) (pc := 1010) 3 dL_law_1010 (k := ?_)
                                                    refine ev_iconst (M := TL_law) (pc := 1011) dL_law_1011 (k := ?_)
                                                    refine ev_iadd (M := TL_law) (pc := 1012) dL_law_1012 (k := ?_)
                                                    obtain ⟨⟨hi0, hi1⟩, H5⟩ := g_e H4
                                                    clear H4
                                                    refine ev_sload (M := TL_law) (pc := 1013) hi0 hi1 dL_law_1013 (hlen := ln_99 _ _) (K := ?_)
                                                    refine ev_aload_n (M := TL_law) (pc := 1014) 0 dL_law_1014 (k := ?_)
                                                    refine ev_iload_n (M := TL_law) (pc := 1015) 3 dL_law_1015 (k := ?_)
                                                    refine ev_iconst (M := TL_law) (pc := 1016) dL_law_1016 (k := ?_)
                                                    refine ev_iadd (M := TL_law) (pc := 1017) dL_law_1017 (k := ?_)
                                                    obtain ⟨⟨hi0, hi1⟩, H6⟩ := g_e H5
                                                    clear H5
                                                    refine ev_sload (M := TL_law) (pc := 1018) hi0 hi1 dL_law_1018 (hlen := ln_99 _ _) (K := ?_)
                                                    refine ev_mono (mc := 0 + (1 + (1 * n + 1))) (ms := 0 + (5 + (5 * n + 5))) (by omega) (by omega) ?_
                                                    obtain ⟨a96, ea96, H7⟩ := bd_e H6
                                                    clear H6
                                                    obtain ⟨hz, H8⟩ := g_e H7
                                                    clear H7
                                                    rw [ea96, hz]
                                                    obtain ⟨q97, hq, H9⟩ := bd_e H8
                                                    clear H8
                                                    refine ev_callV (M := TL_law) (pc := 1019) (mc := 1 + (1 * n + 1)) (ms := 5 + (5 * n + 5)) (st := []) (C11_bit hq) md_X11_bit im_X11_bit se_X11_bit ml_L_120 dL_law_1019 _ (by decide) (K := ?_)
                                                    refine ev_aload_n (M := TL_law) (pc := 1022) 2 dL_law_1022 (k := ?_)
                                                    refine ev_aload_n (M := TL_law) (pc := 1023) 0 dL_law_1023 (k := ?_)
                                                    refine ev_iload_n (M := TL_law) (pc := 1024) 3 dL_law_1024 (k := ?_)
                                                    refine ev_iconst (M := TL_law) (pc := 1025) dL_law_1025 (k := ?_)
                                                    refine ev_iadd (M := TL_law) (pc := 1026) dL_law_1026 (k := ?_)
                                                    obtain ⟨⟨hi0, hi1⟩, H10⟩ := g_e H9
                                                    clear H9
                                                    refine ev_sload (M := TL_law) (pc := 1027) hi0 hi1 dL_law_1027 (hlen := ln_99 _ _) (K := ?_)
                                                    refine ev_aload_n (M := TL_law) (pc := 1028) 0 dL_law_1028 (k := ?_)
                                                    refine ev_iload_n (M := TL_law) (pc := 1029) 3 dL_law_1029 (k := ?_)
                                                    refine ev_iconst (M := TL_law) (pc := 1030) dL_law_1030 (k := ?_)
                                                    refine ev_iadd (M := TL_law) (pc := 1031) dL_law_1031 (k := ?_)
                                                    obtain ⟨⟨hi0, hi1⟩, H11⟩ := g_e H10
                                                    clear H10
                                                    refine ev_sload (M := TL_law) (pc := 1032) hi0 hi1 dL_law_1032 (hlen := ln_99 _ _) (K := ?_)
                                                    refine ev_aload_n (M := TL_law) (pc := 1033) 0 dL_law_1033 (k := ?_)
                                                    refine ev_iload_n (M := TL_law) (pc := 1034) 3 dL_law_1034 (k := ?_)
                                                    refine ev_iconst (M := TL_law) (pc := 1035) dL_law_1035 (k := ?_)
                                                    refine ev_iadd (M := TL_law) (pc := 1036) dL_law_1036 (k := ?_)
                                                    obtain ⟨⟨hi0, hi1⟩, H12⟩ := g_e H11
                                                    clear H11
                                                    refine ev_sload (M := TL_law) (pc := 1037) hi0 hi1 dL_law_1037 (hlen := ln_99 _ _) (K := ?_)
                                                    refine ev_mono (mc := 0 + (1 + (1 * n + 1))) (ms := 0 + (5 + (5 * n + 5))) (by omega) (by omega) ?_
                                                    obtain ⟨a98, ea98, H13⟩ := bd_e H12
                                                    clear H12
                                                    obtain ⟨hz, H14⟩ := g_e H13
                                                    clear H13
                                                    rw [ea98, hz]
                                                    obtain ⟨q99, hq, H15⟩ := bd_e H14
                                                    clear H14
                                                    refine ev_callV (M := TL_law) (pc := 1038) (mc := 1 + (1 * n + 1)) (ms := 5 + (5 * n + 5)) (st := [.inl (q97.1)]) (C12_bit hq) md_X12_bit im_X12_bit se_X12_bit ml_L_123 dL_law_1038 _ (by decide) (K := ?_)
                                                    refine ev_icmpeq (M := TL_law) (pc := 1041) 1102 dL_law_1041 (kt := fun hc => ?_) (kf := fun hc => ?_)
                                                    · replace H15 := if_pe hc H15
                                                      refine ev_mono (mc := 0 + (1 * n + 1)) (ms := 0 + (5 * n + 5)) (by omega) (by omega) ?_
                                                      exact EL_law_1102 n k38 hk38 (some a11) (some 0) (some 0) l3 q99.2 _ H15
                                                    · replace H15 := if_ne hc H15
                                                      refine ev_iconst (M := TL_law) (pc := 1044) dL_law_1044 (k := ?_)
                                                      cases H15
                                                      exact ev_zreturn (M := TL_law) (pc := 1045) (Or.inl rfl) dL_law_1045
                                                  · replace H3 := if_ne hs23 H3
                                                    by_cases hs24 : j_and (h.1 99 a11 l3) 31 = 24
                                                    · replace H3 := if_pe hs24 H3
                                                      refine ev_tableIn (M := TL_law) (pc := 53) (off := 993) 1046 dL_law_53 (by omega) (by omega) (by rw [hs24]; rfl) (k := ?_)
                                                      refine ev_aload_n (M := TL_law) (pc := 1046) 1 dL_law_1046 (k := ?_)
                                                      refine ev_aload_n (M := TL_law) (pc := 1047) 0 dL_law_1047 (k := ?_)
                                                      refine ev_iload_n (M := TL_law) (pc := 1048) 3 dL_law_1048 (k := ?_)
                                                      refine ev_iconst (M := TL_law) (pc := 1049) dL_law_1049 (k := ?_)
                                                      refine ev_iadd (M := TL_law) (pc := 1050) dL_law_1050 (k := ?_)
                                                      obtain ⟨⟨hi0, hi1⟩, H4⟩ := g_e H3
                                                      clear H3
                                                      refine ev_sload (M := TL_law) (pc := 1051) hi0 hi1 dL_law_1051 (hlen := ln_99 _ _) (K := ?_)
                                                      refine ev_aload_n (M := TL_law) (pc := 1052) 0 dL_law_1052 (k := ?_)
                                                      refine ev_iload_n (M := TL_law) (pc := 1053) 3 dL_law_1053 (k := ?_)
                                                      refine ev_iconst (M := TL_law) (pc := 1054) dL_law_1054 (k := ?_)
                                                      refine ev_iadd (M := TL_law) (pc := 1055) dL_law_1055 (k := ?_)
                                                      obtain ⟨⟨hi0, hi1⟩, H5⟩ := g_e H4
                                                      clear H4
                                                      refine ev_sload (M := TL_law) (pc := 1056) hi0 hi1 dL_law_1056 (hlen := ln_99 _ _) (K := ?_)
                                                      refine ev_mono (mc := 0 + (1 + (1 * n + 1))) (ms := 0 + (5 + (5 * n + 5))) (by omega) (by omega) ?_
                                                      obtain ⟨a100, ea100, H6⟩ := bd_e H5
                                                      clear H5
                                                      obtain ⟨hz, H7⟩ := g_e H6
                                                      clear H6
                                                      rw [ea100, hz]
                                                      obtain ⟨q101, hq, H8⟩ := bd_e H7
                                                      clear H7
                                                      refine ev_callV (M := TL_law) (pc := 1057) (mc := 1 + (1 * n + 1)) (ms := 5 + (5 * n + 5)) (st := []) (C11_record hq) md_X11_record im_X11_record se_X11_record ml_L_124 dL_law_1057 _ (by decide) (K := ?_)
                                                      refine ev_aload_n (M := TL_law) (pc := 1060) 2 dL_law_1060 (k := ?_)
                                                      refine ev_aload_n (M := TL_law) (pc := 1061) 0 dL_law_1061 (k := ?_)
                                                      refine ev_iload_n (M := TL_law) (pc := 1062) 3 dL_law_1062 (k := ?_)
                                                      refine ev_iconst (M := TL_law) (pc := 1063) dL_law_1063 (k := ?_)
                                                      refine ev_iadd (M := TL_law) (pc := 1064) dL_law_1064 (k := ?_)
                                                      obtain ⟨⟨hi0, hi1⟩, H9⟩ := g_e H8
                                                      clear H8
                                                      refine ev_sload (M := TL_law) (pc := 1065) hi0 hi1 dL_law_1065 (hlen := ln_99 _ _) (K := ?_)
                                                      refine ev_aload_n (M := TL_law) (pc := 1066) 0 dL_law_1066 (k := ?_)
                                                      refine ev_iload_n (M := TL_law) (pc := 1067) 3 dL_law_1067 (k := ?_)
                                                      refine ev_iconst (M := TL_law) (pc := 1068) dL_law_1068 (k := ?_)
                                                      refine ev_iadd (M := TL_law) (pc := 1069) dL_law_1069 (k := ?_)
                                                      obtain ⟨⟨hi0, hi1⟩, H10⟩ := g_e H9
                                                      clear H9
                                                      refine ev_sload (M := TL_law) (pc := 1070) hi0 hi1 dL_law_1070 (hlen := ln_99 _ _) (K := ?_)
                                                      refine ev_mono (mc := 0 + (1 + (1 * n + 1))) (ms := 0 + (5 + (5 * n + 5))) (by omega) (by omega) ?_
                                                      obtain ⟨a102, ea102, H11⟩ := bd_e H10
                                                      clear H10
                                                      obtain ⟨hz, H12⟩ := g_e H11
                                                      clear H11
                                                      rw [ea102, hz]
                                                      obtain ⟨q103, hq, H13⟩ := bd_e H12
                                                      clear H12
                                                      refine ev_callV (M := TL_law) (pc := 1071) (mc := 1 + (1 * n + 1)) (ms := 5 + (5 * n + 5)) (st := [.inl (q101.1)]) (C12_record hq) md_X12_record im_X12_record se_X12_record ml_L_127 dL_law_1071 _ (by decide) (K := ?_)
                                                      refine ev_icmpeq (M := TL_law) (pc := 1074) 1102 dL_law_1074 (kt := fun hc => ?_) (kf := fun hc => ?_)
                                                      · replace H13 := if_pe hc H13
                                                        refine ev_mono (mc := 0 + (1 * n + 1)) (ms := 0 + (5 * n + 5)) (by omega) (by omega) ?_
                                                        exact EL_law_1102 n k38 hk38 (some a11) (some 0) (some 0) l3 q103.2 _ H13
                                                      · replace H13 := if_ne hc H13
                                                        refine ev_iconst (M := TL_law) (pc := 1077) dL_law_1077 (k := ?_)
                                                        cases H13
                                                        exact ev_zreturn (M := TL_law) (pc := 1078) (Or.inl rfl) dL_law_1078
                                                    · replace H3 := if_ne hs24 H3
                                                      by_cases hs25 : j_and (h.1 99 a11 l3) 31 = 25
                                                      · replace H3 := if_pe hs25 H3
                                                        refine ev_tableIn (M := TL_law) (pc := 53) (off := 1026) 1079 dL_law_53 (by omega) (by omega) (by rw [hs25]; rfl) (k := ?_)
                                                        refine ev_aload_n (M := TL_law) (pc := 1079) 1 dL_law_1079 (k := ?_)
                                                        refine ev_aload_n (M := TL_law) (pc := 1080) 0 dL_law_1080 (k := ?_)
                                                        refine ev_iload_n (M := TL_law) (pc := 1081) 3 dL_law_1081 (k := ?_)
                                                        refine ev_iconst (M := TL_law) (pc := 1082) dL_law_1082 (k := ?_)
                                                        refine ev_iadd (M := TL_law) (pc := 1083) dL_law_1083 (k := ?_)
                                                        obtain ⟨⟨hi0, hi1⟩, H4⟩ := g_e H3
                                                        clear H3
                                                        refine ev_sload (M := TL_law) (pc := 1084) hi0 hi1 dL_law_1084 (hlen := ln_99 _ _) (K := ?_)
                                                        refine ev_mono (mc := 0 + (1 + (1 * n + 1))) (ms := 0 + (5 + (5 * n + 5))) (by omega) (by omega) ?_
                                                        obtain ⟨a104, ea104, H5⟩ := bd_e H4
                                                        clear H4
                                                        obtain ⟨hz, H6⟩ := g_e H5
                                                        clear H5
                                                        rw [ea104, hz]
                                                        obtain ⟨q105, hq, H7⟩ := bd_e H6
                                                        clear H6
                                                        refine ev_callV (M := TL_law) (pc := 1085) (mc := 1 + (1 * n + 1)) (ms := 5 + (5 * n + 5)) (st := []) (C11_told hq) md_X11_told im_X11_told se_X11_told ml_L_128 dL_law_1085 _ (by decide) (K := ?_)
                                                        refine ev_aload_n (M := TL_law) (pc := 1088) 2 dL_law_1088 (k := ?_)
                                                        refine ev_aload_n (M := TL_law) (pc := 1089) 0 dL_law_1089 (k := ?_)
                                                        refine ev_iload_n (M := TL_law) (pc := 1090) 3 dL_law_1090 (k := ?_)
                                                        refine ev_iconst (M := TL_law) (pc := 1091) dL_law_1091 (k := ?_)
                                                        refine ev_iadd (M := TL_law) (pc := 1092) dL_law_1092 (k := ?_)
                                                        obtain ⟨⟨hi0, hi1⟩, H8⟩ := g_e H7
                                                        clear H7
                                                        refine ev_sload (M := TL_law) (pc := 1093) hi0 hi1 dL_law_1093 (hlen := ln_99 _ _) (K := ?_)
                                                        refine ev_mono (mc := 0 + (1 + (1 * n + 1))) (ms := 0 + (5 + (5 * n + 5))) (by omega) (by omega) ?_
                                                        obtain ⟨a106, ea106, H9⟩ := bd_e H8
                                                        clear H8
                                                        obtain ⟨hz, H10⟩ := g_e H9
                                                        clear H9
                                                        rw [ea106, hz]
                                                        obtain ⟨q107, hq, H11⟩ := bd_e H10
                                                        clear H10
                                                        refine ev_callV (M := TL_law) (pc := 1094) (mc := 1 + (1 * n + 1)) (ms := 5 + (5 * n + 5)) (st := [.inl (q105.1)]) (C12_told hq) md_X12_told im_X12_told se_X12_told ml_L_131 dL_law_1094 _ (by decide) (K := ?_)
                                                        refine ev_icmpeq (M := TL_law) (pc := 1097) 1102 dL_law_1097 (kt := fun hc => ?_) (kf := fun hc => ?_)
                                                        · replace H11 := if_pe hc H11
                                                          refine ev_mono (mc := 0 + (1 * n + 1)) (ms := 0 + (5 * n + 5)) (by omega) (by omega) ?_
                                                          exact EL_law_1102 n k38 hk38 (some a11) (some 0) (some 0) l3 q107.2 _ H11
                                                        · replace H11 := if_ne hc H11
                                                          refine ev_iconst (M := TL_law) (pc := 1100) dL_law_1100 (k := ?_)
                                                          cases H11
                                                          exact ev_zreturn (M := TL_law) (pc := 1101) (Or.inl rfl) dL_law_1101
                                                      · replace H3 := if_ne hs25 H3
                                                        refine ev_tableOut (M := TL_law) (pc := 53) 1102 dL_law_53 (by omega) (k := ?_)
                                                        refine ev_mono (mc := 0 + (1 * n + 1)) (ms := 0 + (5 * n + 5)) (by omega) (by omega) ?_
                                                        exact EL_law_1102 n k38 hk38 (some a11) l1 l2 l3 h _ H3
theorem EL_law_38 (n : Nat) : ∀ (l0 : Option Int) (l1 : Option Int) (l2 : Option Int) (l3 : Int) (h : JM) (res : (Int × JM)), FL_law_38 n l0 l1 l2 l3 h = some res → Ev j_W1 95 (1 * n + 1) (5 * n + 5) TL_law 38 [(0, .inr (.inr (Option.map (Prod.mk 99) (l0)))), (1, .inr (.inr (Option.map (Prod.mk 11) (l1)))), (2, .inr (.inr (Option.map (Prod.mk 12) (l2)))), (3, .inl (l3))] [] h (some (.inl res.1)) res.2 := by
  induction n with
  | zero =>
    intro l0 l1 l2 l3 h res H
    cases H
  | succ n ih =>
    intro l0 l1 l2 l3 h res H
    refine ev_mono (mc := 1 + (1 * n + 1)) (ms := 5 + (5 * n + 5)) (by omega) (by omega) ?_
    exact EL_law_38b n (FL_law_38 n) ih l0 l1 l2 l3 h res H
