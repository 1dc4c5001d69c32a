-- X12_partner
abbrev T12_partner : JT := (RX12, cX12_partner, 3, some .int, false)
set_option maxRecDepth 100000 in
set_option maxHeartbeats 4000000 in
theorem E12_partner_32 (h : JM) (res : (Int × JM)) (H : F12_partner_32 h = some res) : Ev j_W1 3 0 0 T12_partner 32 [] [] h (some (.inl res.1)) res.2 := by
  unfold F12_partner_32 at H
  refine ev_iconst (M := T12_partner) (pc := 32) dX12_partner_32 (k := ?_)
  refine ev_goto (M := T12_partner) (pc := 33) 61 dX12_partner_33 (k := ?_)
  cases H
  exact ev_ireturn (M := T12_partner) (pc := 61) dX12_partner_61
set_option maxRecDepth 100000 in
set_option maxHeartbeats 4000000 in
theorem C12_partner {l1 : Int} {h : JM} {res : (Int × JM)} (H : F12_partner l1 h = some res) : Cn j_W1 3 0 0 yX12_partner cX12_partner 3 (some .int) [.inr (.inr (some (12, 0))), .inl (l1)] h (some (.inl res.1)) res.2 := by
  refine Cn.by (own := RX12) (b := false) [(0, .inr (.inr (some (12, 0)))), (1, .inl (l1))] rfl (fun z => by cases z) (by decide +kernel) (K := ?_)
  unfold F12_partner at H
  refine ev_iload_n (M := T12_partner) (pc := 0) 1 dX12_partner_0 (k := ?_)
  obtain ⟨q1, hq, H1⟩ := bd_e H
  clear H
  refine ev_callS (M := T12_partner) (pc := 1) (mc := 0) (ms := 0) (st := []) (C12_isLine hq) md_X12_isLine ss_X12_isLine ml_X12_288 dX12_partner_1 _ (by decide) (K := ?_)
  refine ev_ifne (M := T12_partner) (pc := 4) 10 dX12_partner_4 (kt := fun hc => ?_) (kf := fun hc => ?_)
  · replace H1 := if_ne hc H1
    refine ev_aload_n (M := T12_partner) (pc := 10) 0 dX12_partner_10 (k := ?_)
    refine ev_getR (M := T12_partner) (pc := 11) (t := 119) (x := some (119, 0)) fl_X12_56 dX12_partner_11 (hx := ry_12_19 _ _) (K := ?_)
    refine ev_iload_n (M := T12_partner) (pc := 14) 1 dX12_partner_14 (k := ?_)
    obtain ⟨⟨hi0, hi1⟩, H2⟩ := g_e H1
    clear H1
    refine ev_iaload (M := T12_partner) (pc := 15) (k := 119) hi0 hi1 dX12_partner_15 (hc := ac_119) (hlen := ln_119 _ _) (K := ?_)
    obtain ⟨x2, ex2, H3⟩ := lt_e H2
    clear H2
    refine ev_topI ex2 ?_
    refine ev_istore_n (M := T12_partner) (pc := 16) [(2, .inl (x2)), (0, .inr (.inr (some (12, 0)))), (1, .inl (l1))] dX12_partner_16 (k := ?_)
    refine ev_iload_n (M := T12_partner) (pc := 17) 0 dX12_partner_17 (k := ?_)
    refine ev_iconst (M := T12_partner) (pc := 18) dX12_partner_18 (k := ?_)
    refine ev_icmpeq (M := T12_partner) (pc := 19) 32 dX12_partner_19 (kt := fun hc => ?_) (kf := fun hc => ?_)
    · replace H3 := if_pe hc H3
      refine ev_lv [] [] (k := ?_)
      exact E12_partner_32 q1.2 _ H3
    · replace H3 := if_ne hc H3
      refine ev_aload_n (M := T12_partner) (pc := 22) 1 dX12_partner_22 (k := ?_)
      refine ev_getR (M := T12_partner) (pc := 23) (t := 133) (x := some (133, 0)) fl_X12_95 dX12_partner_23 (hx := ry_12_33 _ _) (K := ?_)
      refine ev_iload_n (M := T12_partner) (pc := 26) 0 dX12_partner_26 (k := ?_)
      obtain ⟨⟨hi0, hi1⟩, H4⟩ := g_e H3
      clear H3
      refine ev_iaload (M := T12_partner) (pc := 27) (k := 133) hi0 hi1 dX12_partner_27 (hc := ac_133) (hlen := ln_133 _ _) (K := ?_)
      refine ev_iconst (M := T12_partner) (pc := 28) dX12_partner_28 (k := ?_)
      refine ev_icmpeq (M := T12_partner) (pc := 29) 36 dX12_partner_29 (kt := fun hc => ?_) (kf := fun hc => ?_)
      · replace H4 := if_pe hc H4
        refine ev_aload_n (M := T12_partner) (pc := 36) 1 dX12_partner_36 (k := ?_)
        refine ev_getR (M := T12_partner) (pc := 37) (t := 136) (x := some (136, 0)) fl_X12_104 dX12_partner_37 (hx := ry_12_36 _ _) (K := ?_)
        refine ev_iload_n (M := T12_partner) (pc := 40) 0 dX12_partner_40 (k := ?_)
        obtain ⟨⟨hi0, hi1⟩, H5⟩ := g_e H4
        clear H4
        refine ev_iaload (M := T12_partner) (pc := 41) (k := 136) hi0 hi1 dX12_partner_41 (hc := ac_136) (hlen := ln_136 _ _) (K := ?_)
        refine ev_iload_n (M := T12_partner) (pc := 42) 2 dX12_partner_42 (k := ?_)
        refine ev_icmpne (M := T12_partner) (pc := 43) 55 dX12_partner_43 (kt := fun hc => ?_) (kf := fun hc => ?_)
        · replace H5 := if_ne hc H5
          refine ev_aload_n (M := T12_partner) (pc := 55) 1 dX12_partner_55 (k := ?_)
          refine ev_getR (M := T12_partner) (pc := 56) (t := 136) (x := some (136, 0)) fl_X12_104 dX12_partner_56 (hx := ry_12_36 _ _) (K := ?_)
          refine ev_iload_n (M := T12_partner) (pc := 59) 0 dX12_partner_59 (k := ?_)
          obtain ⟨⟨hi0, hi1⟩, H6⟩ := g_e H5
          clear H5
          refine ev_iaload (M := T12_partner) (pc := 60) (k := 136) hi0 hi1 dX12_partner_60 (hc := ac_136) (hlen := ln_136 _ _) (K := ?_)
          cases H6
          exact ev_ireturn (M := T12_partner) (pc := 61) dX12_partner_61
        · replace H5 := if_pe hc H5
          refine ev_aload_n (M := T12_partner) (pc := 46) 1 dX12_partner_46 (k := ?_)
          refine ev_getR (M := T12_partner) (pc := 47) (t := 137) (x := some (137, 0)) fl_X12_107 dX12_partner_47 (hx := ry_12_37 _ _) (K := ?_)
          refine ev_iload_n (M := T12_partner) (pc := 50) 0 dX12_partner_50 (k := ?_)
          obtain ⟨⟨hi0, hi1⟩, H6⟩ := g_e H5
          clear H5
          refine ev_iaload (M := T12_partner) (pc := 51) (k := 137) hi0 hi1 dX12_partner_51 (hc := ac_137) (hlen := ln_137 _ _) (K := ?_)
          refine ev_goto (M := T12_partner) (pc := 52) 61 dX12_partner_52 (k := ?_)
          cases H6
          exact ev_ireturn (M := T12_partner) (pc := 61) dX12_partner_61
      · replace H4 := if_ne hc H4
        refine ev_lv [] [] (k := ?_)
        exact E12_partner_32 q1.2 _ H4
  · replace H1 := if_pe hc H1
    refine ev_bipush (M := T12_partner) (pc := 7) dX12_partner_7 (k := ?_)
    cases H1
    exact ev_ireturn (M := T12_partner) (pc := 9) dX12_partner_9
-- X12_plan
abbrev T12_plan : JT := (RX12, cX12_plan, 11, some .int, false)
set_option maxRecDepth 100000 in
set_option maxHeartbeats 4000000 in
theorem E12_plan_281b (k281 : Int → Int → Int → Int → Int → Int → Int → JM → Option (Int × JM)) (hk281 : ∀ (l1 : Int) (l2 : Int) (l3 : Int) (l4 : Int) (l5 : Int) (l7 : Int) (l8 : Int) (h : JM) (res : (Int × JM)), k281 l1 l2 l3 l4 l5 l7 l8 h = some res → Ev j_W1 2 0 0 T12_plan 281 [(0, .inr (.inr (some (12, 0)))), (1, .inl (l1)), (2, .inl (l2)), (3, .inl (l3)), (4, .inl (l4)), (5, .inl (l5)), (7, .inl (l7)), (8, .inl (l8))] [] h (some (.inl res.1)) res.2) (l1 : Int) (l2 : Int) (l3 : Int) (l4 : Int) (l5 : Int) (l7 : Int) (l8 : Int) (h : JM) (res : (Int × JM)) (H : F12_plan_281b k281 l1 l2 l3 l4 l5 l7 l8 h = some res) : Ev j_W1 2 0 0 T12_plan 281 [(0, .inr (.inr (some (12, 0)))), (1, .inl (l1)), (2, .inl (l2)), (3, .inl (l3)), (4, .inl (l4)), (5, .inl (l5)), (7, .inl (l7)), (8, .inl (l8))] [] h (some (.inl res.1)) res.2 := by
  unfold F12_plan_281b at H
  refine ev_iload (M := T12_plan) (pc := 281) 7 dX12_plan_281 (k := ?_)
  refine ev_aload_n (M := T12_plan) (pc := 283) 0 dX12_plan_283 (k := ?_)
  refine ev_getI (M := T12_plan) (pc := 284) (x := h.1 12 0 4) fl_X12_272 dX12_plan_284 (K := ?_)
  refine ev_icmpge (M := T12_plan) (pc := 287) 316 dX12_plan_287 (kt := fun hc => ?_) (kf := fun hc => ?_)
  · replace H := if_pe hc H
    refine ev_aload_n (M := T12_plan) (pc := 316) 0 dX12_plan_316 (k := ?_)
    refine ev_getR (M := T12_plan) (pc := 317) (t := 107) (x := some (107, 0)) fl_X12_19 dX12_plan_317 (hx := ry_12_7 _ _) (K := ?_)
    refine ev_iload (M := T12_plan) (pc := 320) 6 dX12_plan_320 (k := ?_)
    refine ev_aload_n (M := T12_plan) (pc := 322) 0 dX12_plan_322 (k := ?_)
    refine ev_getI (M := T12_plan) (pc := 323) (x := h.1 12 0 4) fl_X12_272 dX12_plan_323 (K := ?_)
    obtain ⟨⟨hi0, hi1⟩, H1⟩ := g_e H
    clear H
    obtain ⟨h1, eh1, H2⟩ := lt_e H1
    clear H1
    refine ev_iastore (M := T12_plan) (pc := 326) (k := 107) j_ok1 hi0 hi1 eh1 dX12_plan_326 (hc := ac_107) (hlen := ln_107 _ _) (K := ?_)
    refine ev_aload_n (M := T12_plan) (pc := 327) 0 dX12_plan_327 (k := ?_)
    refine ev_getR (M := T12_plan) (pc := 328) (t := 108) (x := some (108, 0)) fl_X12_22 dX12_plan_328 (hx := ry_12_8 _ _) (K := ?_)
    refine ev_iload (M := T12_plan) (pc := 331) 6 dX12_plan_331 (k := ?_)
    refine ev_iload_n (M := T12_plan) (pc := 333) 2 dX12_plan_333 (k := ?_)
    obtain ⟨⟨hi0, hi1⟩, H3⟩ := g_e H2
    clear H2
    obtain ⟨h2, eh2, H4⟩ := lt_e H3
    clear H3
    refine ev_iastore (M := T12_plan) (pc := 334) (k := 108) j_ok1 hi0 hi1 eh2 dX12_plan_334 (hc := ac_108) (hlen := ln_108 _ _) (K := ?_)
    refine ev_aload_n (M := T12_plan) (pc := 335) 0 dX12_plan_335 (k := ?_)
    refine ev_getR (M := T12_plan) (pc := 336) (t := 109) (x := some (109, 0)) fl_X12_25 dX12_plan_336 (hx := ry_12_9 _ _) (K := ?_)
    refine ev_iload (M := T12_plan) (pc := 339) 6 dX12_plan_339 (k := ?_)
    refine ev_iload_n (M := T12_plan) (pc := 341) 3 dX12_plan_341 (k := ?_)
    obtain ⟨⟨hi0, hi1⟩, H5⟩ := g_e H4
    clear H4
    obtain ⟨h3, eh3, H6⟩ := lt_e H5
    clear H5
    refine ev_iastore (M := T12_plan) (pc := 342) (k := 109) j_ok1 hi0 hi1 eh3 dX12_plan_342 (hc := ac_109) (hlen := ln_109 _ _) (K := ?_)
    refine ev_aload_n (M := T12_plan) (pc := 343) 0 dX12_plan_343 (k := ?_)
    refine ev_getR (M := T12_plan) (pc := 344) (t := 110) (x := some (110, 0)) fl_X12_28 dX12_plan_344 (hx := ry_12_10 _ _) (K := ?_)
    refine ev_iload (M := T12_plan) (pc := 347) 6 dX12_plan_347 (k := ?_)
    refine ev_iload (M := T12_plan) (pc := 349) 4 dX12_plan_349 (k := ?_)
    obtain ⟨⟨hi0, hi1⟩, H7⟩ := g_e H6
    clear H6
    obtain ⟨h4, eh4, H8⟩ := lt_e H7
    clear H7
    refine ev_iastore (M := T12_plan) (pc := 351) (k := 110) j_ok1 hi0 hi1 eh4 dX12_plan_351 (hc := ac_110) (hlen := ln_110 _ _) (K := ?_)
    refine ev_aload_n (M := T12_plan) (pc := 352) 0 dX12_plan_352 (k := ?_)
    refine ev_getR (M := T12_plan) (pc := 353) (t := 111) (x := some (111, 0)) fl_X12_31 dX12_plan_353 (hx := ry_12_11 _ _) (K := ?_)
    refine ev_iload (M := T12_plan) (pc := 356) 6 dX12_plan_356 (k := ?_)
    refine ev_iload (M := T12_plan) (pc := 358) 5 dX12_plan_358 (k := ?_)
    obtain ⟨⟨hi0, hi1⟩, H9⟩ := g_e H8
    clear H8
    obtain ⟨h5, eh5, H10⟩ := lt_e H9
    clear H9
    refine ev_iastore (M := T12_plan) (pc := 360) (k := 111) j_ok1 hi0 hi1 eh5 dX12_plan_360 (hc := ac_111) (hlen := ln_111 _ _) (K := ?_)
    refine ev_aload_n (M := T12_plan) (pc := 361) 0 dX12_plan_361 (k := ?_)
    refine ev_iconst (M := T12_plan) (pc := 362) dX12_plan_362 (k := ?_)
    obtain ⟨h6, eh6, H11⟩ := lt_e H10
    clear H10
    refine ev_putI (M := T12_plan) (pc := 363) j_ok1 fl_X12_272 eh6 dX12_plan_363 (K := ?_)
    refine ev_aload_n (M := T12_plan) (pc := 366) 0 dX12_plan_366 (k := ?_)
    refine ev_getR (M := T12_plan) (pc := 367) (t := 105) (x := some (105, 0)) fl_X12_13 dX12_plan_367 (hx := ry_12_5 _ _) (K := ?_)
    refine ev_iload_n (M := T12_plan) (pc := 370) 1 dX12_plan_370 (k := ?_)
    refine ev_dup2 (M := T12_plan) (pc := 371) dX12_plan_371 (k := ?_)
    obtain ⟨⟨hi0, hi1⟩, H12⟩ := g_e H11
    clear H11
    refine ev_iaload (M := T12_plan) (pc := 372) (k := 105) hi0 hi1 dX12_plan_372 (hc := ac_105) (hlen := ln_105 _ _) (K := ?_)
    refine ev_dup_x2 (M := T12_plan) (pc := 373) dX12_plan_373 (k := ?_)
    refine ev_iconst (M := T12_plan) (pc := 374) dX12_plan_374 (k := ?_)
    refine ev_iadd (M := T12_plan) (pc := 375) dX12_plan_375 (k := ?_)
    obtain ⟨⟨hi0, hi1⟩, H13⟩ := g_e H12
    clear H12
    obtain ⟨h7, eh7, H14⟩ := lt_e H13
    clear H13
    refine ev_iastore (M := T12_plan) (pc := 376) (k := 105) j_ok1 hi0 hi1 eh7 dX12_plan_376 (hc := ac_105) (hlen := ln_105 _ _) (K := ?_)
    cases H14
    exact ev_ireturn (M := T12_plan) (pc := 377) dX12_plan_377
  · replace H := if_ne hc H
    refine ev_aload_n (M := T12_plan) (pc := 290) 0 dX12_plan_290 (k := ?_)
    refine ev_getR (M := T12_plan) (pc := 291) (t := 106) (x := some (106, 0)) fl_X12_16 dX12_plan_291 (hx := ry_12_6 _ _) (K := ?_)
    refine ev_bipush (M := T12_plan) (pc := 294) dX12_plan_294 (k := ?_)
    refine ev_iload (M := T12_plan) (pc := 296) 6 dX12_plan_296 (k := ?_)
    refine ev_imul (M := T12_plan) (pc := 298) dX12_plan_298 (k := ?_)
    refine ev_iload (M := T12_plan) (pc := 299) 7 dX12_plan_299 (k := ?_)
    refine ev_iadd (M := T12_plan) (pc := 301) dX12_plan_301 (k := ?_)
    refine ev_aload_n (M := T12_plan) (pc := 302) 0 dX12_plan_302 (k := ?_)
    refine ev_getR (M := T12_plan) (pc := 303) (t := 103) (x := some (103, 0)) fl_X12_9 dX12_plan_303 (hx := ry_12_3 _ _) (K := ?_)
    refine ev_iload (M := T12_plan) (pc := 306) 7 dX12_plan_306 (k := ?_)
    obtain ⟨⟨hi0, hi1⟩, H1⟩ := g_e H
    clear H
    refine ev_iaload (M := T12_plan) (pc := 308) (k := 103) hi0 hi1 dX12_plan_308 (hc := ac_103) (hlen := ln_103 _ _) (K := ?_)
    obtain ⟨⟨hi0, hi1⟩, H2⟩ := g_e H1
    clear H1
    obtain ⟨h8, eh8, H3⟩ := lt_e H2
    clear H2
    refine ev_iastore (M := T12_plan) (pc := 309) (k := 106) j_ok1 hi0 hi1 eh8 dX12_plan_309 (hc := ac_106) (hlen := ln_106 _ _) (K := ?_)
    refine ev_iinc (M := T12_plan) (pc := 310) 7 [(8, .inl (w32 (l8 + 1))), (0, .inr (.inr (some (12, 0)))), (1, .inl (l1)), (2, .inl (l2)), (3, .inl (l3)), (4, .inl (l4)), (5, .inl (l5)), (7, .inl (l7))] dX12_plan_310 (k := ?_)
    refine ev_goto (M := T12_plan) (pc := 313) 281 dX12_plan_313 (k := ?_)
    refine ev_lv [1, 2, 3, 4, 5, 6, 7, 0] [(0, .inr (.inr (some (12, 0)))), (1, .inl (l1)), (2, .inl (l2)), (3, .inl (l3)), (4, .inl (l4)), (5, .inl (l5)), (7, .inl (l7)), (8, .inl (w32 (l8 + 1)))] (k := ?_)
    exact hk281 l1 l2 l3 l4 l5 l7 (w32 (l8 + 1)) h8 _ H3
theorem E12_plan_281 (n : Nat) : ∀ (l1 : Int) (l2 : Int) (l3 : Int) (l4 : Int) (l5 : Int) (l7 : Int) (l8 : Int) (h : JM) (res : (Int × JM)), F12_plan_281 n l1 l2 l3 l4 l5 l7 l8 h = some res → Ev j_W1 2 0 0 T12_plan 281 [(0, .inr (.inr (some (12, 0)))), (1, .inl (l1)), (2, .inl (l2)), (3, .inl (l3)), (4, .inl (l4)), (5, .inl (l5)), (7, .inl (l7)), (8, .inl (l8))] [] h (some (.inl res.1)) res.2 := by
  induction n with
  | zero =>
    intro l1 l2 l3 l4 l5 l7 l8 h res H
    cases H
  | succ n ih =>
    intro l1 l2 l3 l4 l5 l7 l8 h res H
    exact E12_plan_281b (F12_plan_281 n) ih l1 l2 l3 l4 l5 l7 l8 h res H
set_option maxRecDepth 100000 in
set_option maxHeartbeats 4000000 in
theorem E12_plan_237 (k143 : Int → Int → Int → Int → Int → Int → JM → Option (Int × JM)) (hk143 : ∀ (l1 : Int) (l2 : Int) (l3 : Int) (l4 : Int) (l5 : Int) (l7 : Int) (h : JM) (res : (Int × JM)), k143 l1 l2 l3 l4 l5 l7 h = some res → Ev j_W1 2 0 0 T12_plan 143 [(0, .inr (.inr (some (12, 0)))), (1, .inl (l1)), (2, .inl (l2)), (3, .inl (l3)), (4, .inl (l4)), (5, .inl (l5)), (7, .inl (l7))] [] h (some (.inl res.1)) res.2) (l1 : Int) (l2 : Int) (l3 : Int) (l4 : Int) (l5 : Int) (l7 : Int) (l9 : Int) (h : JM) (res : (Int × JM)) (H : F12_plan_237 k143 l1 l2 l3 l4 l5 l7 l9 h = some res) : Ev j_W1 2 0 0 T12_plan 237 [(0, .inr (.inr (some (12, 0)))), (1, .inl (l1)), (2, .inl (l2)), (3, .inl (l3)), (4, .inl (l4)), (5, .inl (l5)), (7, .inl (l7)), (9, .inl (l9))] [] h (some (.inl res.1)) res.2 := by
  unfold F12_plan_237 at H
  refine ev_iload (M := T12_plan) (pc := 237) 7 dX12_plan_237 (k := ?_)
  refine ev_ifeq (M := T12_plan) (pc := 239) 245 dX12_plan_239 (kt := fun hc => ?_) (kf := fun hc => ?_)
  · replace H := if_pe hc H
    refine ev_iinc (M := T12_plan) (pc := 245) 6 [(7, .inl (w32 (l7 + 1))), (0, .inr (.inr (some (12, 0)))), (1, .inl (l1)), (2, .inl (l2)), (3, .inl (l3)), (4, .inl (l4)), (5, .inl (l5)), (9, .inl (l9))] dX12_plan_245 (k := ?_)
    refine ev_goto (M := T12_plan) (pc := 248) 143 dX12_plan_248 (k := ?_)
    refine ev_lv [1, 2, 3, 4, 5, 6, 0] [(0, .inr (.inr (some (12, 0)))), (1, .inl (l1)), (2, .inl (l2)), (3, .inl (l3)), (4, .inl (l4)), (5, .inl (l5)), (7, .inl (w32 (l7 + 1)))] (k := ?_)
    exact hk143 l1 l2 l3 l4 l5 (w32 (l7 + 1)) h _ H
  · replace H := if_ne hc H
    refine ev_bipush (M := T12_plan) (pc := 242) dX12_plan_242 (k := ?_)
    cases H
    exact ev_ireturn (M := T12_plan) (pc := 244) dX12_plan_244
set_option maxRecDepth 100000 in
set_option maxHeartbeats 4000000 in
theorem E12_plan_229 (k143 : Int → Int → Int → Int → Int → Int → JM → Option (Int × JM)) (hk143 : ∀ (l1 : Int) (l2 : Int) (l3 : Int) (l4 : Int) (l5 : Int) (l7 : Int) (h : JM) (res : (Int × JM)), k143 l1 l2 l3 l4 l5 l7 h = some res → Ev j_W1 2 0 0 T12_plan 143 [(0, .inr (.inr (some (12, 0)))), (1, .inl (l1)), (2, .inl (l2)), (3, .inl (l3)), (4, .inl (l4)), (5, .inl (l5)), (7, .inl (l7))] [] h (some (.inl res.1)) res.2) (k187 : Int → Int → Int → Int → Int → Int → Int → Int → Int → JM → Option (Int × JM)) (hk187 : ∀ (l1 : Int) (l2 : Int) (l3 : Int) (l4 : Int) (l5 : Int) (l7 : Int) (l8 : Int) (l9 : Int) (l10 : Int) (h : JM) (res : (Int × JM)), k187 l1 l2 l3 l4 l5 l7 l8 l9 l10 h = some res → Ev j_W1 2 0 0 T12_plan 187 [(0, .inr (.inr (some (12, 0)))), (1, .inl (l1)), (2, .inl (l2)), (3, .inl (l3)), (4, .inl (l4)), (5, .inl (l5)), (7, .inl (l7)), (8, .inl (l8)), (9, .inl (l9)), (10, .inl (l10))] [] h (some (.inl res.1)) res.2) (l1 : Int) (l2 : Int) (l3 : Int) (l4 : Int) (l5 : Int) (l7 : Int) (l8 : Int) (l10 : Int) (s0 : Int) (h : JM) (res : (Int × JM)) (H : F12_plan_229 k143 k187 l1 l2 l3 l4 l5 l7 l8 l10 s0 h = some res) : Ev j_W1 2 0 0 T12_plan 229 [(0, .inr (.inr (some (12, 0)))), (1, .inl (l1)), (2, .inl (l2)), (3, .inl (l3)), (4, .inl (l4)), (5, .inl (l5)), (7, .inl (l7)), (8, .inl (l8)), (10, .inl (l10))] [.inl (s0)] h (some (.inl res.1)) res.2 := by
  unfold F12_plan_229 at H
  refine ev_istore (M := T12_plan) (pc := 229) [(9, .inl (s0)), (0, .inr (.inr (some (12, 0)))), (1, .inl (l1)), (2, .inl (l2)), (3, .inl (l3)), (4, .inl (l4)), (5, .inl (l5)), (7, .inl (l7)), (8, .inl (l8)), (10, .inl (l10))] dX12_plan_229 (k := ?_)
  refine ev_iinc (M := T12_plan) (pc := 231) 9 [(10, .inl (w32 (l10 + 1))), (9, .inl (s0)), (0, .inr (.inr (some (12, 0)))), (1, .inl (l1)), (2, .inl (l2)), (3, .inl (l3)), (4, .inl (l4)), (5, .inl (l5)), (7, .inl (l7)), (8, .inl (l8))] dX12_plan_231 (k := ?_)
  refine ev_goto (M := T12_plan) (pc := 234) 187 dX12_plan_234 (k := ?_)
  refine ev_lv [2, 3, 4, 5, 6, 7, 8, 9, 1, 0] [(0, .inr (.inr (some (12, 0)))), (1, .inl (l1)), (2, .inl (l2)), (3, .inl (l3)), (4, .inl (l4)), (5, .inl (l5)), (7, .inl (l7)), (8, .inl (l8)), (9, .inl (s0)), (10, .inl (w32 (l10 + 1)))] (k := ?_)
  exact hk187 l1 l2 l3 l4 l5 l7 l8 s0 (w32 (l10 + 1)) h _ H
set_option maxRecDepth 100000 in
set_option maxHeartbeats 4000000 in
theorem E12_plan_187b (k143 : Int → Int → Int → Int → Int → Int → JM → Option (Int × JM)) (hk143 : ∀ (l1 : Int) (l2 : Int) (l3 : Int) (l4 : Int) (l5 : Int) (l7 : Int) (h : JM) (res : (Int × JM)), k143 l1 l2 l3 l4 l5 l7 h = some res → Ev j_W1 2 0 0 T12_plan 143 [(0, .inr (.inr (some (12, 0)))), (1, .inl (l1)), (2, .inl (l2)), (3, .inl (l3)), (4, .inl (l4)), (5, .inl (l5)), (7, .inl (l7))] [] h (some (.inl res.1)) res.2) (k187 : Int → Int → Int → Int → Int → Int → Int → Int → Int → JM → Option (Int × JM)) (hk187 : ∀ (l1 : Int) (l2 : Int) (l3 : Int) (l4 : Int) (l5 : Int) (l7 : Int) (l8 : Int) (l9 : Int) (l10 : Int) (h : JM) (res : (Int × JM)), k187 l1 l2 l3 l4 l5 l7 l8 l9 l10 h = some res → Ev j_W1 2 0 0 T12_plan 187 [(0, .inr (.inr (some (12, 0)))), (1, .inl (l1)), (2, .inl (l2)), (3, .inl (l3)), (4, .inl (l4)), (5, .inl (l5)), (7, .inl (l7)), (8, .inl (l8)), (9, .inl (l9)), (10, .inl (l10))] [] h (some (.inl res.1)) res.2) (l1 : Int) (l2 : Int) (l3 : Int) (l4 : Int) (l5 : Int) (l7 : Int) (l8 : Int) (l9 : Int) (l10 : Int) (h : JM) (res : (Int × JM)) (H : F12_plan_187b k143 k187 l1 l2 l3 l4 l5 l7 l8 l9 l10 h = some res) : Ev j_W1 2 0 0 T12_plan 187 [(0, .inr (.inr (some (12, 0)))), (1, .inl (l1)), (2, .inl (l2)), (3, .inl (l3)), (4, .inl (l4)), (5, .inl (l5)), (7, .inl (l7)), (8, .inl (l8)), (9, .inl (l9)), (10, .inl (l10))] [] h (some (.inl res.1)) res.2 := by
  unfold F12_plan_187b at H
  refine ev_iload (M := T12_plan) (pc := 187) 9 dX12_plan_187 (k := ?_)
  refine ev_aload_n (M := T12_plan) (pc := 189) 0 dX12_plan_189 (k := ?_)
  refine ev_getI (M := T12_plan) (pc := 190) (x := h.1 12 0 4) fl_X12_272 dX12_plan_190 (K := ?_)
  refine ev_icmpge (M := T12_plan) (pc := 193) 237 dX12_plan_193 (kt := fun hc => ?_) (kf := fun hc => ?_)
  · replace H := if_pe hc H
    refine ev_lv [0, 1, 2, 3, 4, 5, 6, 8] [(0, .inr (.inr (some (12, 0)))), (1, .inl (l1)), (2, .inl (l2)), (3, .inl (l3)), (4, .inl (l4)), (5, .inl (l5)), (7, .inl (l7)), (9, .inl (l9))] (k := ?_)
    exact E12_plan_237 k143 hk143 l1 l2 l3 l4 l5 l7 l9 h _ H
  · replace H := if_ne hc H
    refine ev_iload (M := T12_plan) (pc := 196) 8 dX12_plan_196 (k := ?_)
    refine ev_ifeq (M := T12_plan) (pc := 198) 237 dX12_plan_198 (kt := fun hc => ?_) (kf := fun hc => ?_)
    · replace H := if_pe hc H
      refine ev_lv [0, 1, 2, 3, 4, 5, 6, 8] [(0, .inr (.inr (some (12, 0)))), (1, .inl (l1)), (2, .inl (l2)), (3, .inl (l3)), (4, .inl (l4)), (5, .inl (l5)), (7, .inl (l7)), (9, .inl (l9))] (k := ?_)
      exact E12_plan_237 k143 hk143 l1 l2 l3 l4 l5 l7 l9 h _ H
    · replace H := if_ne hc H
      refine ev_aload_n (M := T12_plan) (pc := 201) 0 dX12_plan_201 (k := ?_)
      refine ev_getR (M := T12_plan) (pc := 202) (t := 106) (x := some (106, 0)) fl_X12_16 dX12_plan_202 (hx := ry_12_6 _ _) (K := ?_)
      refine ev_bipush (M := T12_plan) (pc := 205) dX12_plan_205 (k := ?_)
      refine ev_iload (M := T12_plan) (pc := 207) 7 dX12_plan_207 (k := ?_)
      refine ev_imul (M := T12_plan) (pc := 209) dX12_plan_209 (k := ?_)
      refine ev_iload (M := T12_plan) (pc := 210) 9 dX12_plan_210 (k := ?_)
      refine ev_iadd (M := T12_plan) (pc := 212) dX12_plan_212 (k := ?_)
      obtain ⟨⟨hi0, hi1⟩, H1⟩ := g_e H
      clear H
      refine ev_iaload (M := T12_plan) (pc := 213) (k := 106) hi0 hi1 dX12_plan_213 (hc := ac_106) (hlen := ln_106 _ _) (K := ?_)
      refine ev_aload_n (M := T12_plan) (pc := 214) 0 dX12_plan_214 (k := ?_)
      refine ev_getR (M := T12_plan) (pc := 215) (t := 103) (x := some (103, 0)) fl_X12_9 dX12_plan_215 (hx := ry_12_3 _ _) (K := ?_)
      refine ev_iload (M := T12_plan) (pc := 218) 9 dX12_plan_218 (k := ?_)
      obtain ⟨⟨hi0, hi1⟩, H2⟩ := g_e H1
      clear H1
      refine ev_iaload (M := T12_plan) (pc := 220) (k := 103) hi0 hi1 dX12_plan_220 (hc := ac_103) (hlen := ln_103 _ _) (K := ?_)
      refine ev_icmpne (M := T12_plan) (pc := 221) 228 dX12_plan_221 (kt := fun hc => ?_) (kf := fun hc => ?_)
      · replace H2 := if_ne hc H2
        refine ev_iconst (M := T12_plan) (pc := 228) dX12_plan_228 (k := ?_)
        refine ev_lv [0, 1, 2, 3, 4, 5, 6, 7, 9] [(0, .inr (.inr (some (12, 0)))), (1, .inl (l1)), (2, .inl (l2)), (3, .inl (l3)), (4, .inl (l4)), (5, .inl (l5)), (7, .inl (l7)), (8, .inl (l8)), (10, .inl (l10))] (k := ?_)
        exact E12_plan_229 k143 hk143 k187 hk187 l1 l2 l3 l4 l5 l7 l8 l10 0 h _ H2
      · replace H2 := if_pe hc H2
        refine ev_iconst (M := T12_plan) (pc := 224) dX12_plan_224 (k := ?_)
        refine ev_goto (M := T12_plan) (pc := 225) 229 dX12_plan_225 (k := ?_)
        refine ev_lv [0, 1, 2, 3, 4, 5, 6, 7, 9] [(0, .inr (.inr (some (12, 0)))), (1, .inl (l1)), (2, .inl (l2)), (3, .inl (l3)), (4, .inl (l4)), (5, .inl (l5)), (7, .inl (l7)), (8, .inl (l8)), (10, .inl (l10))] (k := ?_)
        exact E12_plan_229 k143 hk143 k187 hk187 l1 l2 l3 l4 l5 l7 l8 l10 1 h _ H2
theorem E12_plan_187 (k143 : Int → Int → Int → Int → Int → Int → JM → Option (Int × JM)) (hk143 : ∀ (l1 : Int) (l2 : Int) (l3 : Int) (l4 : Int) (l5 : Int) (l7 : Int) (h : JM) (res : (Int × JM)), k143 l1 l2 l3 l4 l5 l7 h = some res → Ev j_W1 2 0 0 T12_plan 143 [(0, .inr (.inr (some (12, 0)))), (1, .inl (l1)), (2, .inl (l2)), (3, .inl (l3)), (4, .inl (l4)), (5, .inl (l5)), (7, .inl (l7))] [] h (some (.inl res.1)) res.2) (n : Nat) : ∀ (l1 : Int) (l2 : Int) (l3 : Int) (l4 : Int) (l5 : Int) (l7 : Int) (l8 : Int) (l9 : Int) (l10 : Int) (h : JM) (res : (Int × JM)), F12_plan_187 k143 n l1 l2 l3 l4 l5 l7 l8 l9 l10 h = some res → Ev j_W1 2 0 0 T12_plan 187 [(0, .inr (.inr (some (12, 0)))), (1, .inl (l1)), (2, .inl (l2)), (3, .inl (l3)), (4, .inl (l4)), (5, .inl (l5)), (7, .inl (l7)), (8, .inl (l8)), (9, .inl (l9)), (10, .inl (l10))] [] h (some (.inl res.1)) res.2 := by
  induction n with
  | zero =>
    intro l1 l2 l3 l4 l5 l7 l8 l9 l10 h res H
    cases H
  | succ n ih =>
    intro l1 l2 l3 l4 l5 l7 l8 l9 l10 h res H
    exact E12_plan_187b k143 hk143 (F12_plan_187 k143 n) ih l1 l2 l3 l4 l5 l7 l8 l9 l10 h res H
set_option maxRecDepth 100000 in
set_option maxHeartbeats 4000000 in
theorem E12_plan_182 (k143 : Int → Int → Int → Int → Int → Int → JM → Option (Int × JM)) (hk143 : ∀ (l1 : Int) (l2 : Int) (l3 : Int) (l4 : Int) (l5 : Int) (l7 : Int) (h : JM) (res : (Int × JM)), k143 l1 l2 l3 l4 l5 l7 h = some res → Ev j_W1 2 0 0 T12_plan 143 [(0, .inr (.inr (some (12, 0)))), (1, .inl (l1)), (2, .inl (l2)), (3, .inl (l3)), (4, .inl (l4)), (5, .inl (l5)), (7, .inl (l7))] [] h (some (.inl res.1)) res.2) (l1 : Int) (l2 : Int) (l3 : Int) (l4 : Int) (l5 : Int) (l7 : Int) (l8 : Int) (s0 : Int) (h : JM) (res : (Int × JM)) (H : F12_plan_182 k143 l1 l2 l3 l4 l5 l7 l8 s0 h = some res) : Ev j_W1 2 0 0 T12_plan 182 [(0, .inr (.inr (some (12, 0)))), (1, .inl (l1)), (2, .inl (l2)), (3, .inl (l3)), (4, .inl (l4)), (5, .inl (l5)), (7, .inl (l7)), (8, .inl (l8))] [.inl (s0)] h (some (.inl res.1)) res.2 := by
  unfold F12_plan_182 at H
  refine ev_istore (M := T12_plan) (pc := 182) [(9, .inl (s0)), (0, .inr (.inr (some (12, 0)))), (1, .inl (l1)), (2, .inl (l2)), (3, .inl (l3)), (4, .inl (l4)), (5, .inl (l5)), (7, .inl (l7)), (8, .inl (l8))] dX12_plan_182 (k := ?_)
  refine ev_iconst (M := T12_plan) (pc := 184) dX12_plan_184 (k := ?_)
  refine ev_istore (M := T12_plan) (pc := 185) [(10, .inl (0)), (9, .inl (s0)), (0, .inr (.inr (some (12, 0)))), (1, .inl (l1)), (2, .inl (l2)), (3, .inl (l3)), (4, .inl (l4)), (5, .inl (l5)), (7, .inl (l7)), (8, .inl (l8))] dX12_plan_185 (k := ?_)
  refine ev_lv [2, 3, 4, 5, 6, 7, 8, 9, 1, 0] [(0, .inr (.inr (some (12, 0)))), (1, .inl (l1)), (2, .inl (l2)), (3, .inl (l3)), (4, .inl (l4)), (5, .inl (l5)), (7, .inl (l7)), (8, .inl (l8)), (9, .inl (s0)), (10, .inl (0))] (k := ?_)
  exact E12_plan_187 k143 hk143 j_fu l1 l2 l3 l4 l5 l7 l8 s0 0 h _ H
set_option maxRecDepth 100000 in
set_option maxHeartbeats 4000000 in
theorem E12_plan_143b (k143 : Int → Int → Int → Int → Int → Int → JM → Option (Int × JM)) (hk143 : ∀ (l1 : Int) (l2 : Int) (l3 : Int) (l4 : Int) (l5 : Int) (l7 : Int) (h : JM) (res : (Int × JM)), k143 l1 l2 l3 l4 l5 l7 h = some res → Ev j_W1 2 0 0 T12_plan 143 [(0, .inr (.inr (some (12, 0)))), (1, .inl (l1)), (2, .inl (l2)), (3, .inl (l3)), (4, .inl (l4)), (5, .inl (l5)), (7, .inl (l7))] [] h (some (.inl res.1)) res.2) (l1 : Int) (l2 : Int) (l3 : Int) (l4 : Int) (l5 : Int) (l7 : Int) (h : JM) (res : (Int × JM)) (H : F12_plan_143b k143 l1 l2 l3 l4 l5 l7 h = some res) : Ev j_W1 2 0 0 T12_plan 143 [(0, .inr (.inr (some (12, 0)))), (1, .inl (l1)), (2, .inl (l2)), (3, .inl (l3)), (4, .inl (l4)), (5, .inl (l5)), (7, .inl (l7))] [] h (some (.inl res.1)) res.2 := by
  unfold F12_plan_143b at H
  refine ev_iload (M := T12_plan) (pc := 143) 6 dX12_plan_143 (k := ?_)
  refine ev_aload_n (M := T12_plan) (pc := 145) 0 dX12_plan_145 (k := ?_)
  refine ev_getR (M := T12_plan) (pc := 146) (t := 105) (x := some (105, 0)) fl_X12_13 dX12_plan_146 (hx := ry_12_5 _ _) (K := ?_)
  refine ev_iload_n (M := T12_plan) (pc := 149) 1 dX12_plan_149 (k := ?_)
  obtain ⟨⟨hi0, hi1⟩, H1⟩ := g_e H
  clear H
  refine ev_iaload (M := T12_plan) (pc := 150) (k := 105) hi0 hi1 dX12_plan_150 (hc := ac_105) (hlen := ln_105 _ _) (K := ?_)
  refine ev_icmpge (M := T12_plan) (pc := 151) 251 dX12_plan_151 (kt := fun hc => ?_) (kf := fun hc => ?_)
  · replace H1 := if_pe hc H1
    refine ev_aload_n (M := T12_plan) (pc := 251) 0 dX12_plan_251 (k := ?_)
    refine ev_getR (M := T12_plan) (pc := 252) (t := 105) (x := some (105, 0)) fl_X12_13 dX12_plan_252 (hx := ry_12_5 _ _) (K := ?_)
    refine ev_iload_n (M := T12_plan) (pc := 255) 1 dX12_plan_255 (k := ?_)
    obtain ⟨⟨hi0, hi1⟩, H2⟩ := g_e H1
    clear H1
    refine ev_iaload (M := T12_plan) (pc := 256) (k := 105) hi0 hi1 dX12_plan_256 (hc := ac_105) (hlen := ln_105 _ _) (K := ?_)
    refine ev_bipush (M := T12_plan) (pc := 257) dX12_plan_257 (k := ?_)
    refine ev_icmpne (M := T12_plan) (pc := 259) 265 dX12_plan_259 (kt := fun hc => ?_) (kf := fun hc => ?_)
    · replace H2 := if_ne hc H2
      refine ev_bipush (M := T12_plan) (pc := 265) dX12_plan_265 (k := ?_)
      refine ev_iload_n (M := T12_plan) (pc := 267) 1 dX12_plan_267 (k := ?_)
      refine ev_imul (M := T12_plan) (pc := 268) dX12_plan_268 (k := ?_)
      refine ev_aload_n (M := T12_plan) (pc := 269) 0 dX12_plan_269 (k := ?_)
      refine ev_getR (M := T12_plan) (pc := 270) (t := 105) (x := some (105, 0)) fl_X12_13 dX12_plan_270 (hx := ry_12_5 _ _) (K := ?_)
      refine ev_iload_n (M := T12_plan) (pc := 273) 1 dX12_plan_273 (k := ?_)
      obtain ⟨⟨hi0, hi1⟩, H3⟩ := g_e H2
      clear H2
      refine ev_iaload (M := T12_plan) (pc := 274) (k := 105) hi0 hi1 dX12_plan_274 (hc := ac_105) (hlen := ln_105 _ _) (K := ?_)
      refine ev_iadd (M := T12_plan) (pc := 275) dX12_plan_275 (k := ?_)
      obtain ⟨x9, ex9, H4⟩ := lt_e H3
      clear H3
      refine ev_topI ex9 ?_
      refine ev_istore (M := T12_plan) (pc := 276) [(7, .inl (x9)), (0, .inr (.inr (some (12, 0)))), (1, .inl (l1)), (2, .inl (l2)), (3, .inl (l3)), (4, .inl (l4)), (5, .inl (l5))] dX12_plan_276 (k := ?_)
      refine ev_iconst (M := T12_plan) (pc := 278) dX12_plan_278 (k := ?_)
      refine ev_istore (M := T12_plan) (pc := 279) [(8, .inl (0)), (7, .inl (x9)), (0, .inr (.inr (some (12, 0)))), (1, .inl (l1)), (2, .inl (l2)), (3, .inl (l3)), (4, .inl (l4)), (5, .inl (l5))] dX12_plan_279 (k := ?_)
      refine ev_lv [2, 3, 4, 5, 6, 7, 1, 0] [(0, .inr (.inr (some (12, 0)))), (1, .inl (l1)), (2, .inl (l2)), (3, .inl (l3)), (4, .inl (l4)), (5, .inl (l5)), (7, .inl (x9)), (8, .inl (0))] (k := ?_)
      exact E12_plan_281 j_fu l1 l2 l3 l4 l5 x9 0 h _ H4
    · replace H2 := if_pe hc H2
      refine ev_bipush (M := T12_plan) (pc := 262) dX12_plan_262 (k := ?_)
      cases H2
      exact ev_ireturn (M := T12_plan) (pc := 264) dX12_plan_264
  · replace H1 := if_ne hc H1
    refine ev_bipush (M := T12_plan) (pc := 154) dX12_plan_154 (k := ?_)
    refine ev_iload_n (M := T12_plan) (pc := 156) 1 dX12_plan_156 (k := ?_)
    refine ev_imul (M := T12_plan) (pc := 157) dX12_plan_157 (k := ?_)
    refine ev_iload (M := T12_plan) (pc := 158) 6 dX12_plan_158 (k := ?_)
    refine ev_iadd (M := T12_plan) (pc := 160) dX12_plan_160 (k := ?_)
    obtain ⟨x10, ex10, H2⟩ := lt_e H1
    clear H1
    refine ev_topI ex10 ?_
    refine ev_istore (M := T12_plan) (pc := 161) [(8, .inl (x10)), (0, .inr (.inr (some (12, 0)))), (1, .inl (l1)), (2, .inl (l2)), (3, .inl (l3)), (4, .inl (l4)), (5, .inl (l5)), (7, .inl (l7))] dX12_plan_161 (k := ?_)
    refine ev_aload_n (M := T12_plan) (pc := 163) 1 dX12_plan_163 (k := ?_)
    refine ev_getR (M := T12_plan) (pc := 164) (t := 107) (x := some (107, 0)) fl_X12_19 dX12_plan_164 (hx := ry_12_7 _ _) (K := ?_)
    refine ev_iload (M := T12_plan) (pc := 167) 0 dX12_plan_167 (k := ?_)
    obtain ⟨⟨hi0, hi1⟩, H3⟩ := g_e H2
    clear H2
    refine ev_iaload (M := T12_plan) (pc := 169) (k := 107) hi0 hi1 dX12_plan_169 (hc := ac_107) (hlen := ln_107 _ _) (K := ?_)
    refine ev_aload_n (M := T12_plan) (pc := 170) 1 dX12_plan_170 (k := ?_)
    refine ev_getI (M := T12_plan) (pc := 171) (x := h.1 12 0 4) fl_X12_272 dX12_plan_171 (K := ?_)
    refine ev_icmpne (M := T12_plan) (pc := 174) 181 dX12_plan_174 (kt := fun hc => ?_) (kf := fun hc => ?_)
    · replace H3 := if_ne hc H3
      refine ev_iconst (M := T12_plan) (pc := 181) dX12_plan_181 (k := ?_)
      refine ev_lv [1, 2, 3, 4, 5, 6, 7, 0] [(0, .inr (.inr (some (12, 0)))), (1, .inl (l1)), (2, .inl (l2)), (3, .inl (l3)), (4, .inl (l4)), (5, .inl (l5)), (7, .inl (l7)), (8, .inl (x10))] (k := ?_)
      exact E12_plan_182 k143 hk143 l1 l2 l3 l4 l5 l7 x10 0 h _ H3
    · replace H3 := if_pe hc H3
      refine ev_iconst (M := T12_plan) (pc := 177) dX12_plan_177 (k := ?_)
      refine ev_goto (M := T12_plan) (pc := 178) 182 dX12_plan_178 (k := ?_)
      refine ev_lv [1, 2, 3, 4, 5, 6, 7, 0] [(0, .inr (.inr (some (12, 0)))), (1, .inl (l1)), (2, .inl (l2)), (3, .inl (l3)), (4, .inl (l4)), (5, .inl (l5)), (7, .inl (l7)), (8, .inl (x10))] (k := ?_)
      exact E12_plan_182 k143 hk143 l1 l2 l3 l4 l5 l7 x10 1 h _ H3
theorem E12_plan_143 (n : Nat) : ∀ (l1 : Int) (l2 : Int) (l3 : Int) (l4 : Int) (l5 : Int) (l7 : Int) (h : JM) (res : (Int × JM)), F12_plan_143 n l1 l2 l3 l4 l5 l7 h = some res → Ev j_W1 2 0 0 T12_plan 143 [(0, .inr (.inr (some (12, 0)))), (1, .inl (l1)), (2, .inl (l2)), (3, .inl (l3)), (4, .inl (l4)), (5, .inl (l5)), (7, .inl (l7))] [] h (some (.inl res.1)) res.2 := by
  induction n with
  | zero =>
    intro l1 l2 l3 l4 l5 l7 h res H
    cases H
  | succ n ih =>
    intro l1 l2 l3 l4 l5 l7 h res H
    exact E12_plan_143b (F12_plan_143 n) ih l1 l2 l3 l4 l5 l7 h res H
set_option maxRecDepth 100000 in
set_option maxHeartbeats 4000000 in
theorem E12_plan_130 (l1 : Int) (l2 : Int) (l3 : Int) (l4 : Int) (l5 : Int) (s0 : Int) (h : JM) (res : (Int × JM)) (H : F12_plan_130 l1 l2 l3 l4 l5 s0 h = some res) : Ev j_W1 2 0 0 T12_plan 130 [(0, .inr (.inr (some (12, 0)))), (1, .inl (l1)), (2, .inl (l2)), (3, .inl (l3)), (4, .inl (l4)), (5, .inl (l5))] [.inl (s0)] h (some (.inl res.1)) res.2 := by
  unfold F12_plan_130 at H
  refine ev_istore (M := T12_plan) (pc := 130) [(6, .inl (s0)), (0, .inr (.inr (some (12, 0)))), (1, .inl (l1)), (2, .inl (l2)), (3, .inl (l3)), (4, .inl (l4)), (5, .inl (l5))] dX12_plan_130 (k := ?_)
  refine ev_iload (M := T12_plan) (pc := 132) 0 dX12_plan_132 (k := ?_)
  refine ev_ifne (M := T12_plan) (pc := 134) 140 dX12_plan_134 (kt := fun hc => ?_) (kf := fun hc => ?_)
  · replace H := if_ne hc H
    refine ev_iconst (M := T12_plan) (pc := 140) dX12_plan_140 (k := ?_)
    refine ev_istore (M := T12_plan) (pc := 141) [(7, .inl (0)), (6, .inl (s0)), (0, .inr (.inr (some (12, 0)))), (1, .inl (l1)), (2, .inl (l2)), (3, .inl (l3)), (4, .inl (l4)), (5, .inl (l5))] dX12_plan_141 (k := ?_)
    refine ev_lv [2, 3, 4, 5, 6, 7, 0] [(0, .inr (.inr (some (12, 0)))), (1, .inl (l1)), (2, .inl (l2)), (3, .inl (l3)), (4, .inl (l4)), (5, .inl (l5)), (7, .inl (0))] (k := ?_)
    exact E12_plan_143 j_fu l1 l2 l3 l4 l5 0 h _ H
  · replace H := if_pe hc H
    refine ev_bipush (M := T12_plan) (pc := 137) dX12_plan_137 (k := ?_)
    cases H
    exact ev_ireturn (M := T12_plan) (pc := 139) dX12_plan_139
set_option maxRecDepth 100000 in
set_option maxHeartbeats 4000000 in
theorem E12_plan_58 (h : JM) (res : (Int × JM)) (H : F12_plan_58 h = some res) : Ev j_W1 2 0 0 T12_plan 58 [] [] h (some (.inl res.1)) res.2 := by
  unfold F12_plan_58 at H
  refine ev_bipush (M := T12_plan) (pc := 58) dX12_plan_58 (k := ?_)
  cases H
  exact ev_ireturn (M := T12_plan) (pc := 60) dX12_plan_60
set_option maxRecDepth 100000 in
set_option maxHeartbeats 4000000 in
theorem C12_plan {l1 : Int} {l2 : Int} {l3 : Int} {l4 : Int} {l5 : Int} {h : JM} {res : (Int × JM)} (H : F12_plan l1 l2 l3 l4 l5 h = some res) : Cn j_W1 2 0 0 yX12_plan cX12_plan 11 (some .int) [.inr (.inr (some (12, 0))), .inl (l1), .inl (l2), .inl (l3), .inl (l4), .inl (l5)] h (some (.inl res.1)) res.2 := by
  refine Cn.by (own := RX12) (b := false) [(0, .inr (.inr (some (12, 0)))), (1, .inl (l1)), (2, .inl (l2)), (3, .inl (l3)), (4, .inl (l4)), (5, .inl (l5))] rfl (fun z => by cases z) (by decide +kernel) (K := ?_)
  unfold F12_plan at H
  refine ev_iload_n (M := T12_plan) (pc := 0) 1 dX12_plan_0 (k := ?_)
  refine ev_i2l (M := T12_plan) (pc := 1) dX12_plan_1 (k := ?_)
  refine ev_lconst (M := T12_plan) (pc := 2) (v := 0) dX12_plan_2 (k := ?_)
  refine ev_lconst (M := T12_plan) (pc := 3) (v := 1) dX12_plan_3 (k := ?_)
  obtain ⟨q11, hq, H1⟩ := bd_e H
  clear H
  refine ev_callS (M := T12_plan) (pc := 4) (mc := 0) (ms := 0) (st := []) (C12_in hq) md_X12_in ss_X12_in ml_X12_268 dX12_plan_4 _ (by decide) (K := ?_)
  refine ev_ifeq (M := T12_plan) (pc := 7) 58 dX12_plan_7 (kt := fun hc => ?_) (kf := fun hc => ?_)
  · replace H1 := if_pe hc H1
    refine ev_lv [] [] (k := ?_)
    exact E12_plan_58 q11.2 _ H1
  · replace H1 := if_ne hc H1
    refine ev_aload_n (M := T12_plan) (pc := 10) 0 dX12_plan_10 (k := ?_)
    refine ev_getI (M := T12_plan) (pc := 11) (x := q11.2.1 12 0 4) fl_X12_272 dX12_plan_11 (K := ?_)
    refine ev_ifeq (M := T12_plan) (pc := 14) 58 dX12_plan_14 (kt := fun hc => ?_) (kf := fun hc => ?_)
    · replace H1 := if_pe hc H1
      refine ev_lv [] [] (k := ?_)
      exact E12_plan_58 q11.2 _ H1
    · replace H1 := if_ne hc H1
      refine ev_iload_n (M := T12_plan) (pc := 17) 2 dX12_plan_17 (k := ?_)
      refine ev_i2l (M := T12_plan) (pc := 18) dX12_plan_18 (k := ?_)
      refine ev_aload_n (M := T12_plan) (pc := 19) 0 dX12_plan_19 (k := ?_)
      refine ev_getI (M := T12_plan) (pc := 20) (x := q11.2.1 12 0 4) fl_X12_272 dX12_plan_20 (K := ?_)
      refine ev_i2l (M := T12_plan) (pc := 23) dX12_plan_23 (k := ?_)
      refine ev_ldc2 (M := T12_plan) (pc := 24) (n := 12) cl_X12_275 dX12_plan_24 (hv := cw_X12_275) (k := ?_)
      obtain ⟨q12, hq, H2⟩ := bd_e H1
      clear H1
      refine ev_callS (M := T12_plan) (pc := 27) (mc := 0) (ms := 0) (st := []) (C12_in hq) md_X12_in ss_X12_in ml_X12_268 dX12_plan_27 _ (by decide) (K := ?_)
      refine ev_ifeq (M := T12_plan) (pc := 30) 58 dX12_plan_30 (kt := fun hc => ?_) (kf := fun hc => ?_)
      · replace H2 := if_pe hc H2
        refine ev_lv [] [] (k := ?_)
        exact E12_plan_58 q12.2 _ H2
      · replace H2 := if_ne hc H2
        refine ev_iload_n (M := T12_plan) (pc := 33) 3 dX12_plan_33 (k := ?_)
        refine ev_i2l (M := T12_plan) (pc := 34) dX12_plan_34 (k := ?_)
        refine ev_lconst (M := T12_plan) (pc := 35) (v := 0) dX12_plan_35 (k := ?_)
        refine ev_ldc2 (M := T12_plan) (pc := 36) (n := 4) cl_X12_277 dX12_plan_36 (hv := cw_X12_277) (k := ?_)
        obtain ⟨q13, hq, H3⟩ := bd_e H2
        clear H2
        refine ev_callS (M := T12_plan) (pc := 39) (mc := 0) (ms := 0) (st := []) (C12_in hq) md_X12_in ss_X12_in ml_X12_268 dX12_plan_39 _ (by decide) (K := ?_)
        refine ev_ifeq (M := T12_plan) (pc := 42) 58 dX12_plan_42 (kt := fun hc => ?_) (kf := fun hc => ?_)
        · replace H3 := if_pe hc H3
          refine ev_lv [] [] (k := ?_)
          exact E12_plan_58 q13.2 _ H3
        · replace H3 := if_ne hc H3
          refine ev_iload (M := T12_plan) (pc := 45) 5 dX12_plan_45 (k := ?_)
          refine ev_i2l (M := T12_plan) (pc := 47) dX12_plan_47 (k := ?_)
          refine ev_lconst (M := T12_plan) (pc := 48) (v := 0) dX12_plan_48 (k := ?_)
          refine ev_ldc2 (M := T12_plan) (pc := 49) (n := 3) cl_X12_279 dX12_plan_49 (hv := cw_X12_279) (k := ?_)
          obtain ⟨q14, hq, H4⟩ := bd_e H3
          clear H3
          refine ev_callS (M := T12_plan) (pc := 52) (mc := 0) (ms := 0) (st := []) (C12_in hq) md_X12_in ss_X12_in ml_X12_268 dX12_plan_52 _ (by decide) (K := ?_)
          refine ev_ifne (M := T12_plan) (pc := 55) 61 dX12_plan_55 (kt := fun hc => ?_) (kf := fun hc => ?_)
          · replace H4 := if_ne hc H4
            refine ev_iload_n (M := T12_plan) (pc := 61) 3 dX12_plan_61 (k := ?_)
            refine ev_ifne (M := T12_plan) (pc := 62) 87 dX12_plan_62 (kt := fun hc => ?_) (kf := fun hc => ?_)
            · replace H4 := if_ne hc H4
              refine ev_iload_n (M := T12_plan) (pc := 87) 3 dX12_plan_87 (k := ?_)
              refine ev_iconst (M := T12_plan) (pc := 88) dX12_plan_88 (k := ?_)
              refine ev_icmpge (M := T12_plan) (pc := 89) 104 dX12_plan_89 (kt := fun hc => ?_) (kf := fun hc => ?_)
              · replace H4 := if_pe hc H4
                refine ev_iload_n (M := T12_plan) (pc := 104) 3 dX12_plan_104 (k := ?_)
                refine ev_iconst (M := T12_plan) (pc := 105) dX12_plan_105 (k := ?_)
                refine ev_icmpne (M := T12_plan) (pc := 106) 122 dX12_plan_106 (kt := fun hc => ?_) (kf := fun hc => ?_)
                · replace H4 := if_ne hc H4
                  refine ev_iload (M := T12_plan) (pc := 122) 4 dX12_plan_122 (k := ?_)
                  refine ev_i2l (M := T12_plan) (pc := 124) dX12_plan_124 (k := ?_)
                  refine ev_lconst (M := T12_plan) (pc := 125) (v := 0) dX12_plan_125 (k := ?_)
                  refine ev_lconst (M := T12_plan) (pc := 126) (v := 1) dX12_plan_126 (k := ?_)
                  obtain ⟨q15, hq, H5⟩ := bd_e H4
                  clear H4
                  refine ev_callS (M := T12_plan) (pc := 127) (mc := 0) (ms := 0) (st := []) (C12_in hq) md_X12_in ss_X12_in ml_X12_268 dX12_plan_127 _ (by decide) (K := ?_)
                  exact E12_plan_130 l1 l2 l3 l4 l5 q15.1 q15.2 _ H5
                · replace H4 := if_pe hc H4
                  refine ev_iload (M := T12_plan) (pc := 109) 4 dX12_plan_109 (k := ?_)
                  refine ev_i2l (M := T12_plan) (pc := 111) dX12_plan_111 (k := ?_)
                  refine ev_lconst (M := T12_plan) (pc := 112) (v := 0) dX12_plan_112 (k := ?_)
                  refine ev_ldc2 (M := T12_plan) (pc := 113) (n := 2) cl_X12_281 dX12_plan_113 (hv := cw_X12_281) (k := ?_)
                  obtain ⟨q16, hq, H5⟩ := bd_e H4
                  clear H4
                  refine ev_callS (M := T12_plan) (pc := 116) (mc := 0) (ms := 0) (st := []) (C12_in hq) md_X12_in ss_X12_in ml_X12_268 dX12_plan_116 _ (by decide) (K := ?_)
                  refine ev_goto (M := T12_plan) (pc := 119) 130 dX12_plan_119 (k := ?_)
                  exact E12_plan_130 l1 l2 l3 l4 l5 q16.1 q16.2 _ H5
              · replace H4 := if_ne hc H4
                refine ev_iload (M := T12_plan) (pc := 92) 4 dX12_plan_92 (k := ?_)
                refine ev_i2l (M := T12_plan) (pc := 94) dX12_plan_94 (k := ?_)
                refine ev_lconst (M := T12_plan) (pc := 95) (v := 0) dX12_plan_95 (k := ?_)
                refine ev_iload_n (M := T12_plan) (pc := 96) 2 dX12_plan_96 (k := ?_)
                refine ev_i2l (M := T12_plan) (pc := 97) dX12_plan_97 (k := ?_)
                obtain ⟨q17, hq, H5⟩ := bd_e H4
                clear H4
                refine ev_callS (M := T12_plan) (pc := 98) (mc := 0) (ms := 0) (st := []) (C12_in hq) md_X12_in ss_X12_in ml_X12_268 dX12_plan_98 _ (by decide) (K := ?_)
                refine ev_goto (M := T12_plan) (pc := 101) 130 dX12_plan_101 (k := ?_)
                exact E12_plan_130 l1 l2 l3 l4 l5 q17.1 q17.2 _ H5
            · replace H4 := if_pe hc H4
              refine ev_iload (M := T12_plan) (pc := 65) 4 dX12_plan_65 (k := ?_)
              refine ev_i2l (M := T12_plan) (pc := 67) dX12_plan_67 (k := ?_)
              refine ev_bipush (M := T12_plan) (pc := 68) dX12_plan_68 (k := ?_)
              refine ev_iload_n (M := T12_plan) (pc := 70) 1 dX12_plan_70 (k := ?_)
              refine ev_imul (M := T12_plan) (pc := 71) dX12_plan_71 (k := ?_)
              refine ev_i2l (M := T12_plan) (pc := 72) dX12_plan_72 (k := ?_)
              refine ev_bipush (M := T12_plan) (pc := 73) dX12_plan_73 (k := ?_)
              refine ev_iload_n (M := T12_plan) (pc := 75) 1 dX12_plan_75 (k := ?_)
              refine ev_imul (M := T12_plan) (pc := 76) dX12_plan_76 (k := ?_)
              refine ev_bipush (M := T12_plan) (pc := 77) dX12_plan_77 (k := ?_)
              refine ev_iadd (M := T12_plan) (pc := 79) dX12_plan_79 (k := ?_)
              refine ev_i2l (M := T12_plan) (pc := 80) dX12_plan_80 (k := ?_)
              obtain ⟨q18, hq, H5⟩ := bd_e H4
              clear H4
              refine ev_callS (M := T12_plan) (pc := 81) (mc := 0) (ms := 0) (st := []) (C12_in hq) md_X12_in ss_X12_in ml_X12_268 dX12_plan_81 _ (by decide) (K := ?_)
              refine ev_goto (M := T12_plan) (pc := 84) 130 dX12_plan_84 (k := ?_)
              exact E12_plan_130 l1 l2 l3 l4 l5 q18.1 q18.2 _ H5
          · replace H4 := if_pe hc H4
            refine ev_lv [] [] (k := ?_)
            exact E12_plan_58 q14.2 _ H4
-- X12_record
abbrev T12_record : JT := (RX12, cX12_record, 3, some .int, false)
set_option maxRecDepth 100000 in
set_option maxHeartbeats 4000000 in
theorem E12_record_40 (l1 : Int) (l2 : Int) (s0 : Int) (s1 : Int) (h : JM) (res : (Int × JM)) (H : F12_record_40 l1 l2 s0 s1 h = some res) : Ev j_W1 2 0 0 T12_record 40 [(0, .inr (.inr (some (12, 0)))), (1, .inl (l1)), (2, .inl (l2))] [.inr (.inl (s1)), .inr (.inl (s0))] h (some (.inl res.1)) res.2 := by
  unfold F12_record_40 at H
  refine ev_aload_n (M := T12_record) (pc := 40) 0 dX12_record_40 (k := ?_)
  refine ev_getI (M := T12_record) (pc := 41) (x := h.1 12 0 90) fl_X12_486 dX12_record_41 (K := ?_)
  refine ev_iconst (M := T12_record) (pc := 44) dX12_record_44 (k := ?_)
  refine ev_isub (M := T12_record) (pc := 45) dX12_record_45 (k := ?_)
  refine ev_i2l (M := T12_record) (pc := 46) dX12_record_46 (k := ?_)
  obtain ⟨q1, hq, H1⟩ := bd_e H
  clear H
  refine ev_callS (M := T12_record) (pc := 47) (mc := 0) (ms := 0) (st := []) (C12_in hq) md_X12_in ss_X12_in ml_X12_268 dX12_record_47 _ (by decide) (K := ?_)
  refine ev_ifeq (M := T12_record) (pc := 50) 70 dX12_record_50 (kt := fun hc => ?_) (kf := fun hc => ?_)
  · replace H1 := if_pe hc H1
    refine ev_iconst (M := T12_record) (pc := 70) dX12_record_70 (k := ?_)
    cases H1
    exact ev_ireturn (M := T12_record) (pc := 71) dX12_record_71
  · replace H1 := if_ne hc H1
    refine ev_aload_n (M := T12_record) (pc := 53) 0 dX12_record_53 (k := ?_)
    refine ev_getR (M := T12_record) (pc := 54) (t := 191) (x := some (191, 0)) fl_X12_252 dX12_record_54 (hx := ry_12_91 _ _) (K := ?_)
    refine ev_iconst (M := T12_record) (pc := 57) dX12_record_57 (k := ?_)
    refine ev_iload_n (M := T12_record) (pc := 58) 1 dX12_record_58 (k := ?_)
    refine ev_sipush (M := T12_record) (pc := 59) dX12_record_59 (k := ?_)
    refine ev_irem (M := T12_record) (pc := 62) dX12_record_62 (by decide) (k := ?_)
    refine ev_imul (M := T12_record) (pc := 63) dX12_record_63 (k := ?_)
    refine ev_iload_n (M := T12_record) (pc := 64) 2 dX12_record_64 (k := ?_)
    refine ev_iadd (M := T12_record) (pc := 65) dX12_record_65 (k := ?_)
    obtain ⟨⟨hi0, hi1⟩, H2⟩ := g_e H1
    clear H1
    refine ev_iaload (M := T12_record) (pc := 66) (k := 191) hi0 hi1 dX12_record_66 (hc := ac_191) (hlen := ln_191 _ _) (K := ?_)
    refine ev_goto (M := T12_record) (pc := 67) 71 dX12_record_67 (k := ?_)
    cases H2
    exact ev_ireturn (M := T12_record) (pc := 71) dX12_record_71
set_option maxRecDepth 100000 in
set_option maxHeartbeats 4000000 in
theorem C12_record {l1 : Int} {l2 : Int} {h : JM} {res : (Int × JM)} (H : F12_record l1 l2 h = some res) : Cn j_W1 2 0 0 yX12_record cX12_record 3 (some .int) [.inr (.inr (some (12, 0))), .inl (l1), .inl (l2)] h (some (.inl res.1)) res.2 := by
  refine Cn.by (own := RX12) (b := false) [(0, .inr (.inr (some (12, 0)))), (1, .inl (l1)), (2, .inl (l2))] rfl (fun z => by cases z) (by decide +kernel) (K := ?_)
  unfold F12_record at H
  refine ev_iload_n (M := T12_record) (pc := 0) 2 dX12_record_0 (k := ?_)
  refine ev_i2l (M := T12_record) (pc := 1) dX12_record_1 (k := ?_)
  refine ev_lconst (M := T12_record) (pc := 2) (v := 0) dX12_record_2 (k := ?_)
  refine ev_ldc2 (M := T12_record) (pc := 3) (n := 4) cl_X12_277 dX12_record_3 (hv := cw_X12_277) (k := ?_)
  obtain ⟨q2, hq, H1⟩ := bd_e H
  clear H
  refine ev_callS (M := T12_record) (pc := 6) (mc := 0) (ms := 0) (st := []) (C12_in hq) md_X12_in ss_X12_in ml_X12_268 dX12_record_6 _ (by decide) (K := ?_)
  refine ev_ifne (M := T12_record) (pc := 9) 15 dX12_record_9 (kt := fun hc => ?_) (kf := fun hc => ?_)
  · replace H1 := if_ne hc H1
    refine ev_iload_n (M := T12_record) (pc := 15) 1 dX12_record_15 (k := ?_)
    refine ev_i2l (M := T12_record) (pc := 16) dX12_record_16 (k := ?_)
    refine ev_aload_n (M := T12_record) (pc := 17) 0 dX12_record_17 (k := ?_)
    refine ev_getI (M := T12_record) (pc := 18) (x := q2.2.1 12 0 90) fl_X12_486 dX12_record_18 (K := ?_)
    refine ev_sipush (M := T12_record) (pc := 21) dX12_record_21 (k := ?_)
    refine ev_icmpge (M := T12_record) (pc := 24) 31 dX12_record_24 (kt := fun hc => ?_) (kf := fun hc => ?_)
    · replace H1 := if_pe hc H1
      refine ev_aload_n (M := T12_record) (pc := 31) 0 dX12_record_31 (k := ?_)
      refine ev_getI (M := T12_record) (pc := 32) (x := q2.2.1 12 0 90) fl_X12_486 dX12_record_32 (K := ?_)
      refine ev_sipush (M := T12_record) (pc := 35) dX12_record_35 (k := ?_)
      refine ev_isub (M := T12_record) (pc := 38) dX12_record_38 (k := ?_)
      refine ev_i2l (M := T12_record) (pc := 39) dX12_record_39 (k := ?_)
      exact E12_record_40 l1 l2 l1 (w32 ((q2.2.1 12 0 90) - 300)) q2.2 _ H1
    · replace H1 := if_ne hc H1
      refine ev_lconst (M := T12_record) (pc := 27) (v := 0) dX12_record_27 (k := ?_)
      refine ev_goto (M := T12_record) (pc := 28) 40 dX12_record_28 (k := ?_)
      exact E12_record_40 l1 l2 l1 0 q2.2 _ H1
  · replace H1 := if_pe hc H1
    refine ev_bipush (M := T12_record) (pc := 12) dX12_record_12 (k := ?_)
    cases H1
    exact ev_ireturn (M := T12_record) (pc := 14) dX12_record_14
