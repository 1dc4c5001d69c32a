-- X12_sends
abbrev T12_sends : JT := (RX12, cX12_sends, 8, none, false)
set_option maxRecDepth 100000 in
set_option maxHeartbeats 4000000 in
theorem E12_sends_582 (k540 : Int → Int → Int → JM → Option JM) (hk540 : ∀ (l1 : Int) (l6 : Int) (l7 : Int) (h : JM) (res : JM), k540 l1 l6 l7 h = some res → Ev j_W1 2 0 0 T12_sends 540 [(0, .inr (.inr (some (12, 0)))), (1, .inl (l1)), (6, .inl (l6)), (7, .inl (l7))] [] h none res) (l1 : Int) (l6 : Int) (l7 : Int) (h : JM) (res : JM) (H : F12_sends_582 k540 l1 l6 l7 h = some res) : Ev j_W1 2 0 0 T12_sends 582 [(0, .inr (.inr (some (12, 0)))), (1, .inl (l1)), (6, .inl (l6)), (7, .inl (l7))] [] h none res := by
  unfold F12_sends_582 at H
  refine ev_iinc (M := T12_sends) (pc := 582) 3 [(7, .inl (w32 (l7 + 1))), (0, .inr (.inr (some (12, 0)))), (1, .inl (l1)), (6, .inl (l6))] dX12_sends_582 (k := ?_)
  refine ev_goto (M := T12_sends) (pc := 585) 540 dX12_sends_585 (k := ?_)
  refine ev_lv [1, 2, 3, 0] [(0, .inr (.inr (some (12, 0)))), (1, .inl (l1)), (6, .inl (l6)), (7, .inl (w32 (l7 + 1)))] (k := ?_)
  exact hk540 l1 l6 (w32 (l7 + 1)) h _ H
set_option maxRecDepth 100000 in
set_option maxHeartbeats 4000000 in
theorem E12_sends_540b (k540 : Int → Int → Int → JM → Option JM) (hk540 : ∀ (l1 : Int) (l6 : Int) (l7 : Int) (h : JM) (res : JM), k540 l1 l6 l7 h = some res → Ev j_W1 2 0 0 T12_sends 540 [(0, .inr (.inr (some (12, 0)))), (1, .inl (l1)), (6, .inl (l6)), (7, .inl (l7))] [] h none res) (l1 : Int) (l6 : Int) (l7 : Int) (h : JM) (res : JM) (H : F12_sends_540b k540 l1 l6 l7 h = some res) : Ev j_W1 2 0 0 T12_sends 540 [(0, .inr (.inr (some (12, 0)))), (1, .inl (l1)), (6, .inl (l6)), (7, .inl (l7))] [] h none res := by
  unfold F12_sends_540b at H
  refine ev_iload (M := T12_sends) (pc := 540) 3 dX12_sends_540 (k := ?_)
  refine ev_aload_n (M := T12_sends) (pc := 542) 0 dX12_sends_542 (k := ?_)
  refine ev_getI (M := T12_sends) (pc := 543) (x := h.1 12 0 79) fl_X12_425 dX12_sends_543 (K := ?_)
  refine ev_icmpge (M := T12_sends) (pc := 546) 588 dX12_sends_546 (kt := fun hc => ?_) (kf := fun hc => ?_)
  · replace H := if_pe hc H
    cases H
    exact ev_return (M := T12_sends) (pc := 588) dX12_sends_588
  · replace H := if_ne hc H
    refine ev_aload_n (M := T12_sends) (pc := 549) 0 dX12_sends_549 (k := ?_)
    refine ev_getR (M := T12_sends) (pc := 550) (t := 180) (x := some (180, 0)) fl_X12_225 dX12_sends_550 (hx := ry_12_80 _ _) (K := ?_)
    refine ev_iload (M := T12_sends) (pc := 553) 3 dX12_sends_553 (k := ?_)
    obtain ⟨⟨hi0, hi1⟩, H1⟩ := g_e H
    clear H
    refine ev_iaload (M := T12_sends) (pc := 555) (k := 180) hi0 hi1 dX12_sends_555 (hc := ac_180) (hlen := ln_180 _ _) (K := ?_)
    refine ev_iload_n (M := T12_sends) (pc := 556) 1 dX12_sends_556 (k := ?_)
    refine ev_icmpne (M := T12_sends) (pc := 557) 582 dX12_sends_557 (kt := fun hc => ?_) (kf := fun hc => ?_)
    · replace H1 := if_ne hc H1
      exact E12_sends_582 k540 hk540 l1 l6 l7 h _ H1
    · replace H1 := if_pe hc H1
      refine ev_aload_n (M := T12_sends) (pc := 560) 0 dX12_sends_560 (k := ?_)
      refine ev_getR (M := T12_sends) (pc := 561) (t := 181) (x := some (181, 0)) fl_X12_228 dX12_sends_561 (hx := ry_12_81 _ _) (K := ?_)
      refine ev_iload (M := T12_sends) (pc := 564) 3 dX12_sends_564 (k := ?_)
      obtain ⟨⟨hi0, hi1⟩, H2⟩ := g_e H1
      clear H1
      refine ev_iaload (M := T12_sends) (pc := 566) (k := 181) hi0 hi1 dX12_sends_566 (hc := ac_181) (hlen := ln_181 _ _) (K := ?_)
      refine ev_aload_n (M := T12_sends) (pc := 567) 0 dX12_sends_567 (k := ?_)
      refine ev_getI (M := T12_sends) (pc := 568) (x := h.1 12 0 2) fl_X12_285 dX12_sends_568 (K := ?_)
      refine ev_icmpne (M := T12_sends) (pc := 571) 582 dX12_sends_571 (kt := fun hc => ?_) (kf := fun hc => ?_)
      · replace H2 := if_ne hc H2
        exact E12_sends_582 k540 hk540 l1 l6 l7 h _ H2
      · replace H2 := if_pe hc H2
        refine ev_aload_n (M := T12_sends) (pc := 574) 0 dX12_sends_574 (k := ?_)
        refine ev_getR (M := T12_sends) (pc := 575) (t := 174) (x := some (174, 0)) fl_X12_213 dX12_sends_575 (hx := ry_12_74 _ _) (K := ?_)
        refine ev_iload (M := T12_sends) (pc := 578) 2 dX12_sends_578 (k := ?_)
        refine ev_iconst (M := T12_sends) (pc := 580) dX12_sends_580 (k := ?_)
        obtain ⟨⟨hi0, hi1⟩, H3⟩ := g_e H2
        clear H2
        obtain ⟨h1, eh1, H4⟩ := lt_e H3
        clear H3
        refine ev_iastore (M := T12_sends) (pc := 581) (k := 174) j_ok1 hi0 hi1 eh1 dX12_sends_581 (hc := ac_174) (hlen := ln_174 _ _) (K := ?_)
        exact E12_sends_582 k540 hk540 l1 l6 l7 h1 _ H4
theorem E12_sends_540 (n : Nat) : ∀ (l1 : Int) (l6 : Int) (l7 : Int) (h : JM) (res : JM), F12_sends_540 n l1 l6 l7 h = some res → Ev j_W1 2 0 0 T12_sends 540 [(0, .inr (.inr (some (12, 0)))), (1, .inl (l1)), (6, .inl (l6)), (7, .inl (l7))] [] h none res := by
  induction n with
  | zero =>
    intro l1 l6 l7 h res H
    cases H
  | succ n ih =>
    intro l1 l6 l7 h res H
    exact E12_sends_540b (F12_sends_540 n) ih l1 l6 l7 h res H
set_option maxRecDepth 100000 in
set_option maxHeartbeats 4000000 in
theorem E12_sends_531 (k460 : Int → Int → Int → JM → Option JM) (hk460 : ∀ (l1 : Int) (l6 : Int) (l7 : Int) (h : JM) (res : JM), k460 l1 l6 l7 h = some res → Ev j_W1 2 0 0 T12_sends 460 [(0, .inr (.inr (some (12, 0)))), (1, .inl (l1)), (6, .inl (l6)), (7, .inl (l7))] [] h none res) (l1 : Int) (l6 : Int) (l7 : Int) (h : JM) (res : JM) (H : F12_sends_531 k460 l1 l6 l7 h = some res) : Ev j_W1 2 0 0 T12_sends 531 [(0, .inr (.inr (some (12, 0)))), (1, .inl (l1)), (6, .inl (l6)), (7, .inl (l7))] [] h none res := by
  unfold F12_sends_531 at H
  refine ev_iinc (M := T12_sends) (pc := 531) 3 [(7, .inl (w32 (l7 + 1))), (0, .inr (.inr (some (12, 0)))), (1, .inl (l1)), (6, .inl (l6))] dX12_sends_531 (k := ?_)
  refine ev_goto (M := T12_sends) (pc := 534) 460 dX12_sends_534 (k := ?_)
  refine ev_lv [1, 2, 3, 0] [(0, .inr (.inr (some (12, 0)))), (1, .inl (l1)), (6, .inl (l6)), (7, .inl (w32 (l7 + 1)))] (k := ?_)
  exact hk460 l1 l6 (w32 (l7 + 1)) h _ H
set_option maxRecDepth 100000 in
set_option maxHeartbeats 4000000 in
theorem E12_sends_460b (k460 : Int → Int → Int → JM → Option JM) (hk460 : ∀ (l1 : Int) (l6 : Int) (l7 : Int) (h : JM) (res : JM), k460 l1 l6 l7 h = some res → Ev j_W1 2 0 0 T12_sends 460 [(0, .inr (.inr (some (12, 0)))), (1, .inl (l1)), (6, .inl (l6)), (7, .inl (l7))] [] h none res) (l1 : Int) (l6 : Int) (l7 : Int) (h : JM) (res : JM) (H : F12_sends_460b k460 l1 l6 l7 h = some res) : Ev j_W1 2 0 0 T12_sends 460 [(0, .inr (.inr (some (12, 0)))), (1, .inl (l1)), (6, .inl (l6)), (7, .inl (l7))] [] h none res := by
  unfold F12_sends_460b at H
  refine ev_iload (M := T12_sends) (pc := 460) 3 dX12_sends_460 (k := ?_)
  refine ev_aload_n (M := T12_sends) (pc := 462) 0 dX12_sends_462 (k := ?_)
  refine ev_getI (M := T12_sends) (pc := 463) (x := h.1 12 0 75) fl_X12_422 dX12_sends_463 (K := ?_)
  refine ev_icmpge (M := T12_sends) (pc := 466) 537 dX12_sends_466 (kt := fun hc => ?_) (kf := fun hc => ?_)
  · replace H := if_pe hc H
    refine ev_iconst (M := T12_sends) (pc := 537) dX12_sends_537 (k := ?_)
    refine ev_istore (M := T12_sends) (pc := 538) [(7, .inl (0)), (0, .inr (.inr (some (12, 0)))), (1, .inl (l1)), (6, .inl (l6))] dX12_sends_538 (k := ?_)
    refine ev_lv [1, 2, 3, 0] [(0, .inr (.inr (some (12, 0)))), (1, .inl (l1)), (6, .inl (l6)), (7, .inl (0))] (k := ?_)
    exact E12_sends_540 j_fu l1 l6 0 h _ H
  · replace H := if_ne hc H
    refine ev_aload_n (M := T12_sends) (pc := 469) 0 dX12_sends_469 (k := ?_)
    refine ev_getR (M := T12_sends) (pc := 470) (t := 176) (x := some (176, 0)) fl_X12_216 dX12_sends_470 (hx := ry_12_76 _ _) (K := ?_)
    refine ev_iload (M := T12_sends) (pc := 473) 3 dX12_sends_473 (k := ?_)
    obtain ⟨⟨hi0, hi1⟩, H1⟩ := g_e H
    clear H
    refine ev_iaload (M := T12_sends) (pc := 475) (k := 176) hi0 hi1 dX12_sends_475 (hc := ac_176) (hlen := ln_176 _ _) (K := ?_)
    refine ev_iload_n (M := T12_sends) (pc := 476) 1 dX12_sends_476 (k := ?_)
    refine ev_icmpne (M := T12_sends) (pc := 477) 531 dX12_sends_477 (kt := fun hc => ?_) (kf := fun hc => ?_)
    · replace H1 := if_ne hc H1
      exact E12_sends_531 k460 hk460 l1 l6 l7 h _ H1
    · replace H1 := if_pe hc H1
      refine ev_aload_n (M := T12_sends) (pc := 480) 0 dX12_sends_480 (k := ?_)
      refine ev_getR (M := T12_sends) (pc := 481) (t := 177) (x := some (177, 0)) fl_X12_219 dX12_sends_481 (hx := ry_12_77 _ _) (K := ?_)
      refine ev_iload (M := T12_sends) (pc := 484) 3 dX12_sends_484 (k := ?_)
      obtain ⟨⟨hi0, hi1⟩, H2⟩ := g_e H1
      clear H1
      refine ev_iaload (M := T12_sends) (pc := 486) (k := 177) hi0 hi1 dX12_sends_486 (hc := ac_177) (hlen := ln_177 _ _) (K := ?_)
      refine ev_aload_n (M := T12_sends) (pc := 487) 0 dX12_sends_487 (k := ?_)
      refine ev_getI (M := T12_sends) (pc := 488) (x := h.1 12 0 2) fl_X12_285 dX12_sends_488 (K := ?_)
      refine ev_icmpne (M := T12_sends) (pc := 491) 531 dX12_sends_491 (kt := fun hc => ?_) (kf := fun hc => ?_)
      · replace H2 := if_ne hc H2
        exact E12_sends_531 k460 hk460 l1 l6 l7 h _ H2
      · replace H2 := if_pe hc H2
        refine ev_aload_n (M := T12_sends) (pc := 494) 0 dX12_sends_494 (k := ?_)
        refine ev_getR (M := T12_sends) (pc := 495) (t := 178) (x := some (178, 0)) fl_X12_222 dX12_sends_495 (hx := ry_12_78 _ _) (K := ?_)
        refine ev_iload (M := T12_sends) (pc := 498) 3 dX12_sends_498 (k := ?_)
        obtain ⟨⟨hi0, hi1⟩, H3⟩ := g_e H2
        clear H2
        refine ev_iaload (M := T12_sends) (pc := 500) (k := 178) hi0 hi1 dX12_sends_500 (hc := ac_178) (hlen := ln_178 _ _) (K := ?_)
        refine ev_aload_n (M := T12_sends) (pc := 501) 0 dX12_sends_501 (k := ?_)
        refine ev_getI (M := T12_sends) (pc := 502) (x := h.1 12 0 70) fl_X12_433 dX12_sends_502 (K := ?_)
        refine ev_icmpge (M := T12_sends) (pc := 505) 531 dX12_sends_505 (kt := fun hc => ?_) (kf := fun hc => ?_)
        · replace H3 := if_pe hc H3
          exact E12_sends_531 k460 hk460 l1 l6 l7 h _ H3
        · replace H3 := if_ne hc H3
          refine ev_aload_n (M := T12_sends) (pc := 508) 0 dX12_sends_508 (k := ?_)
          refine ev_getR (M := T12_sends) (pc := 509) (t := 173) (x := some (173, 0)) fl_X12_210 dX12_sends_509 (hx := ry_12_73 _ _) (K := ?_)
          refine ev_sipush (M := T12_sends) (pc := 512) dX12_sends_512 (k := ?_)
          refine ev_iload (M := T12_sends) (pc := 515) 2 dX12_sends_515 (k := ?_)
          refine ev_imul (M := T12_sends) (pc := 517) dX12_sends_517 (k := ?_)
          refine ev_aload_n (M := T12_sends) (pc := 518) 0 dX12_sends_518 (k := ?_)
          refine ev_getR (M := T12_sends) (pc := 519) (t := 178) (x := some (178, 0)) fl_X12_222 dX12_sends_519 (hx := ry_12_78 _ _) (K := ?_)
          refine ev_iload (M := T12_sends) (pc := 522) 3 dX12_sends_522 (k := ?_)
          obtain ⟨⟨hi0, hi1⟩, H4⟩ := g_e H3
          clear H3
          refine ev_iaload (M := T12_sends) (pc := 524) (k := 178) hi0 hi1 dX12_sends_524 (hc := ac_178) (hlen := ln_178 _ _) (K := ?_)
          refine ev_iadd (M := T12_sends) (pc := 525) dX12_sends_525 (k := ?_)
          refine ev_dup2 (M := T12_sends) (pc := 526) dX12_sends_526 (k := ?_)
          obtain ⟨⟨hi0, hi1⟩, H5⟩ := g_e H4
          clear H4
          refine ev_iaload (M := T12_sends) (pc := 527) (k := 173) hi0 hi1 dX12_sends_527 (hc := ac_173) (hlen := ln_173 _ _) (K := ?_)
          refine ev_iconst (M := T12_sends) (pc := 528) dX12_sends_528 (k := ?_)
          refine ev_ixor (M := T12_sends) (pc := 529) dX12_sends_529 (k := ?_)
          obtain ⟨⟨hi0, hi1⟩, H6⟩ := g_e H5
          clear H5
          obtain ⟨h2, eh2, H7⟩ := lt_e H6
          clear H6
          refine ev_iastore (M := T12_sends) (pc := 530) (k := 173) j_ok1 hi0 hi1 eh2 dX12_sends_530 (hc := ac_173) (hlen := ln_173 _ _) (K := ?_)
          exact E12_sends_531 k460 hk460 l1 l6 l7 h2 _ H7
theorem E12_sends_460 (n : Nat) : ∀ (l1 : Int) (l6 : Int) (l7 : Int) (h : JM) (res : JM), F12_sends_460 n l1 l6 l7 h = some res → Ev j_W1 2 0 0 T12_sends 460 [(0, .inr (.inr (some (12, 0)))), (1, .inl (l1)), (6, .inl (l6)), (7, .inl (l7))] [] h none res := by
  induction n with
  | zero =>
    intro l1 l6 l7 h res H
    cases H
  | succ n ih =>
    intro l1 l6 l7 h res H
    exact E12_sends_460b (F12_sends_460 n) ih l1 l6 l7 h res H
set_option maxRecDepth 100000 in
set_option maxHeartbeats 4000000 in
theorem E12_sends_378b (k378 : Int → Int → Int → Int → JM → Option JM) (hk378 : ∀ (l1 : Int) (l5 : Int) (l6 : Int) (l7 : Int) (h : JM) (res : JM), k378 l1 l5 l6 l7 h = some res → Ev j_W1 2 0 0 T12_sends 378 [(0, .inr (.inr (some (12, 0)))), (1, .inl (l1)), (5, .inl (l5)), (6, .inl (l6)), (7, .inl (l7))] [] h none res) (l1 : Int) (l5 : Int) (l6 : Int) (l7 : Int) (h : JM) (res : JM) (H : F12_sends_378b k378 l1 l5 l6 l7 h = some res) : Ev j_W1 2 0 0 T12_sends 378 [(0, .inr (.inr (some (12, 0)))), (1, .inl (l1)), (5, .inl (l5)), (6, .inl (l6)), (7, .inl (l7))] [] h none res := by
  unfold F12_sends_378b at H
  refine ev_iload (M := T12_sends) (pc := 378) 4 dX12_sends_378 (k := ?_)
  refine ev_aload_n (M := T12_sends) (pc := 380) 0 dX12_sends_380 (k := ?_)
  refine ev_getI (M := T12_sends) (pc := 381) (x := h.1 12 0 70) fl_X12_433 dX12_sends_381 (K := ?_)
  refine ev_icmpge (M := T12_sends) (pc := 384) 435 dX12_sends_384 (kt := fun hc => ?_) (kf := fun hc => ?_)
  · replace H := if_pe hc H
    refine ev_aload_n (M := T12_sends) (pc := 435) 0 dX12_sends_435 (k := ?_)
    refine ev_getR (M := T12_sends) (pc := 436) (t := 172) (x := some (172, 0)) fl_X12_207 dX12_sends_436 (hx := ry_12_72 _ _) (K := ?_)
    refine ev_iload (M := T12_sends) (pc := 439) 2 dX12_sends_439 (k := ?_)
    refine ev_aload_n (M := T12_sends) (pc := 441) 0 dX12_sends_441 (k := ?_)
    refine ev_getI (M := T12_sends) (pc := 442) (x := h.1 12 0 70) fl_X12_433 dX12_sends_442 (K := ?_)
    obtain ⟨⟨hi0, hi1⟩, H1⟩ := g_e H
    clear H
    obtain ⟨h3, eh3, H2⟩ := lt_e H1
    clear H1
    refine ev_iastore (M := T12_sends) (pc := 445) (k := 172) j_ok1 hi0 hi1 eh3 dX12_sends_445 (hc := ac_172) (hlen := ln_172 _ _) (K := ?_)
    refine ev_aload_n (M := T12_sends) (pc := 446) 0 dX12_sends_446 (k := ?_)
    refine ev_getR (M := T12_sends) (pc := 447) (t := 174) (x := some (174, 0)) fl_X12_213 dX12_sends_447 (hx := ry_12_74 _ _) (K := ?_)
    refine ev_iload (M := T12_sends) (pc := 450) 3 dX12_sends_450 (k := ?_)
    refine ev_aload_n (M := T12_sends) (pc := 452) 0 dX12_sends_452 (k := ?_)
    refine ev_getI (M := T12_sends) (pc := 453) (x := h3.1 12 0 70) fl_X12_433 dX12_sends_453 (K := ?_)
    obtain ⟨⟨hi0, hi1⟩, H3⟩ := g_e H2
    clear H2
    obtain ⟨h4, eh4, H4⟩ := lt_e H3
    clear H3
    refine ev_iastore (M := T12_sends) (pc := 456) (k := 174) j_ok1 hi0 hi1 eh4 dX12_sends_456 (hc := ac_174) (hlen := ln_174 _ _) (K := ?_)
    refine ev_iconst (M := T12_sends) (pc := 457) dX12_sends_457 (k := ?_)
    refine ev_istore (M := T12_sends) (pc := 458) [(7, .inl (0)), (0, .inr (.inr (some (12, 0)))), (1, .inl (l1)), (5, .inl (l5)), (6, .inl (l6))] dX12_sends_458 (k := ?_)
    refine ev_lv [1, 2, 4, 0] [(0, .inr (.inr (some (12, 0)))), (1, .inl (l1)), (6, .inl (l6)), (7, .inl (0))] (k := ?_)
    exact E12_sends_460 j_fu l1 l6 0 h4 _ H4
  · replace H := if_ne hc H
    refine ev_aload_n (M := T12_sends) (pc := 387) 0 dX12_sends_387 (k := ?_)
    refine ev_getR (M := T12_sends) (pc := 388) (t := 171) (x := some (171, 0)) fl_X12_204 dX12_sends_388 (hx := ry_12_71 _ _) (K := ?_)
    refine ev_sipush (M := T12_sends) (pc := 391) dX12_sends_391 (k := ?_)
    refine ev_iload (M := T12_sends) (pc := 394) 2 dX12_sends_394 (k := ?_)
    refine ev_imul (M := T12_sends) (pc := 396) dX12_sends_396 (k := ?_)
    refine ev_iload (M := T12_sends) (pc := 397) 4 dX12_sends_397 (k := ?_)
    refine ev_iadd (M := T12_sends) (pc := 399) dX12_sends_399 (k := ?_)
    refine ev_aload_n (M := T12_sends) (pc := 400) 0 dX12_sends_400 (k := ?_)
    refine ev_getR (M := T12_sends) (pc := 401) (t := 169) (x := some (169, 0)) fl_X12_200 dX12_sends_401 (hx := ry_12_69 _ _) (K := ?_)
    refine ev_iload (M := T12_sends) (pc := 404) 4 dX12_sends_404 (k := ?_)
    obtain ⟨⟨hi0, hi1⟩, H1⟩ := g_e H
    clear H
    refine ev_iaload (M := T12_sends) (pc := 406) (k := 169) hi0 hi1 dX12_sends_406 (hc := ac_169) (hlen := ln_169 _ _) (K := ?_)
    obtain ⟨⟨hi0, hi1⟩, H2⟩ := g_e H1
    clear H1
    obtain ⟨h5, eh5, H3⟩ := lt_e H2
    clear H2
    refine ev_iastore (M := T12_sends) (pc := 407) (k := 171) j_ok1 hi0 hi1 eh5 dX12_sends_407 (hc := ac_171) (hlen := ln_171 _ _) (K := ?_)
    refine ev_aload_n (M := T12_sends) (pc := 408) 0 dX12_sends_408 (k := ?_)
    refine ev_getR (M := T12_sends) (pc := 409) (t := 173) (x := some (173, 0)) fl_X12_210 dX12_sends_409 (hx := ry_12_73 _ _) (K := ?_)
    refine ev_sipush (M := T12_sends) (pc := 412) dX12_sends_412 (k := ?_)
    refine ev_iload (M := T12_sends) (pc := 415) 3 dX12_sends_415 (k := ?_)
    refine ev_imul (M := T12_sends) (pc := 417) dX12_sends_417 (k := ?_)
    refine ev_iload (M := T12_sends) (pc := 418) 4 dX12_sends_418 (k := ?_)
    refine ev_iadd (M := T12_sends) (pc := 420) dX12_sends_420 (k := ?_)
    refine ev_aload_n (M := T12_sends) (pc := 421) 0 dX12_sends_421 (k := ?_)
    refine ev_getR (M := T12_sends) (pc := 422) (t := 169) (x := some (169, 0)) fl_X12_200 dX12_sends_422 (hx := ry_12_69 _ _) (K := ?_)
    refine ev_iload (M := T12_sends) (pc := 425) 4 dX12_sends_425 (k := ?_)
    obtain ⟨⟨hi0, hi1⟩, H4⟩ := g_e H3
    clear H3
    refine ev_iaload (M := T12_sends) (pc := 427) (k := 169) hi0 hi1 dX12_sends_427 (hc := ac_169) (hlen := ln_169 _ _) (K := ?_)
    obtain ⟨⟨hi0, hi1⟩, H5⟩ := g_e H4
    clear H4
    obtain ⟨h6, eh6, H6⟩ := lt_e H5
    clear H5
    refine ev_iastore (M := T12_sends) (pc := 428) (k := 173) j_ok1 hi0 hi1 eh6 dX12_sends_428 (hc := ac_173) (hlen := ln_173 _ _) (K := ?_)
    refine ev_iinc (M := T12_sends) (pc := 429) 4 [(7, .inl (w32 (l7 + 1))), (0, .inr (.inr (some (12, 0)))), (1, .inl (l1)), (5, .inl (l5)), (6, .inl (l6))] dX12_sends_429 (k := ?_)
    refine ev_goto (M := T12_sends) (pc := 432) 378 dX12_sends_432 (k := ?_)
    refine ev_lv [1, 2, 3, 4, 0] [(0, .inr (.inr (some (12, 0)))), (1, .inl (l1)), (5, .inl (l5)), (6, .inl (l6)), (7, .inl (w32 (l7 + 1)))] (k := ?_)
    exact hk378 l1 l5 l6 (w32 (l7 + 1)) h6 _ H6
theorem E12_sends_378 (n : Nat) : ∀ (l1 : Int) (l5 : Int) (l6 : Int) (l7 : Int) (h : JM) (res : JM), F12_sends_378 n l1 l5 l6 l7 h = some res → Ev j_W1 2 0 0 T12_sends 378 [(0, .inr (.inr (some (12, 0)))), (1, .inl (l1)), (5, .inl (l5)), (6, .inl (l6)), (7, .inl (l7))] [] h none res := by
  induction n with
  | zero =>
    intro l1 l5 l6 l7 h res H
    cases H
  | succ n ih =>
    intro l1 l5 l6 l7 h res H
    exact E12_sends_378b (F12_sends_378 n) ih l1 l5 l6 l7 h res H
set_option maxRecDepth 100000 in
set_option maxHeartbeats 4000000 in
theorem E12_sends_339 (k260 : Int → Int → Int → JM → Option JM) (hk260 : ∀ (l1 : Int) (l4 : Int) (l5 : Int) (h : JM) (res : JM), k260 l1 l4 l5 h = some res → Ev j_W1 2 0 0 T12_sends 260 [(0, .inr (.inr (some (12, 0)))), (1, .inl (l1)), (4, .inl (l4)), (5, .inl (l5))] [] h none res) (l1 : Int) (l4 : Int) (l5 : Int) (h : JM) (res : JM) (H : F12_sends_339 k260 l1 l4 l5 h = some res) : Ev j_W1 2 0 0 T12_sends 339 [(0, .inr (.inr (some (12, 0)))), (1, .inl (l1)), (4, .inl (l4)), (5, .inl (l5))] [] h none res := by
  unfold F12_sends_339 at H
  refine ev_iinc (M := T12_sends) (pc := 339) 3 [(5, .inl (w32 (l5 + 1))), (0, .inr (.inr (some (12, 0)))), (1, .inl (l1)), (4, .inl (l4))] dX12_sends_339 (k := ?_)
  refine ev_goto (M := T12_sends) (pc := 342) 260 dX12_sends_342 (k := ?_)
  refine ev_lv [1, 2, 3, 0] [(0, .inr (.inr (some (12, 0)))), (1, .inl (l1)), (4, .inl (l4)), (5, .inl (w32 (l5 + 1)))] (k := ?_)
  exact hk260 l1 l4 (w32 (l5 + 1)) h _ H
set_option maxRecDepth 100000 in
set_option maxHeartbeats 4000000 in
theorem E12_sends_311 (k260 : Int → Int → Int → JM → Option JM) (hk260 : ∀ (l1 : Int) (l4 : Int) (l5 : Int) (h : JM) (res : JM), k260 l1 l4 l5 h = some res → Ev j_W1 2 0 0 T12_sends 260 [(0, .inr (.inr (some (12, 0)))), (1, .inl (l1)), (4, .inl (l4)), (5, .inl (l5))] [] h none res) (l1 : Int) (l5 : Int) (s0 : Int) (h : JM) (res : JM) (H : F12_sends_311 k260 l1 l5 s0 h = some res) : Ev j_W1 2 0 0 T12_sends 311 [(0, .inr (.inr (some (12, 0)))), (1, .inl (l1)), (5, .inl (l5))] [.inl (s0)] h none res := by
  unfold F12_sends_311 at H
  refine ev_istore (M := T12_sends) (pc := 311) [(4, .inl (s0)), (0, .inr (.inr (some (12, 0)))), (1, .inl (l1)), (5, .inl (l5))] dX12_sends_311 (k := ?_)
  refine ev_iload (M := T12_sends) (pc := 313) 0 dX12_sends_313 (k := ?_)
  refine ev_iconst (M := T12_sends) (pc := 315) dX12_sends_315 (k := ?_)
  refine ev_icmpne (M := T12_sends) (pc := 316) 339 dX12_sends_316 (kt := fun hc => ?_) (kf := fun hc => ?_)
  · replace H := if_ne hc H
    refine ev_lv [1, 2, 0, 3] [(0, .inr (.inr (some (12, 0)))), (1, .inl (l1)), (4, .inl (s0)), (5, .inl (l5))] (k := ?_)
    exact E12_sends_339 k260 hk260 l1 s0 l5 h _ H
  · replace H := if_pe hc H
    refine ev_aload_n (M := T12_sends) (pc := 319) 1 dX12_sends_319 (k := ?_)
    refine ev_getR (M := T12_sends) (pc := 320) (t := 169) (x := some (169, 0)) fl_X12_200 dX12_sends_320 (hx := ry_12_69 _ _) (K := ?_)
    refine ev_aload_n (M := T12_sends) (pc := 323) 1 dX12_sends_323 (k := ?_)
    refine ev_dup (M := T12_sends) (pc := 324) dX12_sends_324 (k := ?_)
    refine ev_getI (M := T12_sends) (pc := 325) (x := h.1 12 0 70) fl_X12_433 dX12_sends_325 (K := ?_)
    refine ev_dup_x1 (M := T12_sends) (pc := 328) dX12_sends_328 (k := ?_)
    refine ev_iconst (M := T12_sends) (pc := 329) dX12_sends_329 (k := ?_)
    refine ev_iadd (M := T12_sends) (pc := 330) dX12_sends_330 (k := ?_)
    obtain ⟨h7, eh7, H1⟩ := lt_e H
    clear H
    refine ev_putI (M := T12_sends) (pc := 331) j_ok1 fl_X12_433 eh7 dX12_sends_331 (K := ?_)
    refine ev_iconst (M := T12_sends) (pc := 334) dX12_sends_334 (k := ?_)
    obtain ⟨⟨hi0, hi1⟩, H2⟩ := g_e H1
    clear H1
    obtain ⟨h8, eh8, H3⟩ := lt_e H2
    clear H2
    refine ev_iastore (M := T12_sends) (pc := 335) (k := 169) j_ok1 hi0 hi1 eh8 dX12_sends_335 (hc := ac_169) (hlen := ln_169 _ _) (K := ?_)
    refine ev_iconst (M := T12_sends) (pc := 336) dX12_sends_336 (k := ?_)
    refine ev_istore (M := T12_sends) (pc := 337) [(4, .inl (0)), (0, .inr (.inr (some (12, 0)))), (1, .inl (l1)), (5, .inl (l5))] dX12_sends_337 (k := ?_)
    refine ev_lv [1, 2, 0, 3] [(0, .inr (.inr (some (12, 0)))), (1, .inl (l1)), (4, .inl (0)), (5, .inl (l5))] (k := ?_)
    exact E12_sends_339 k260 hk260 l1 0 l5 h8 _ H3
set_option maxRecDepth 100000 in
set_option maxHeartbeats 4000000 in
theorem E12_sends_260b (k260 : Int → Int → Int → JM → Option JM) (hk260 : ∀ (l1 : Int) (l4 : Int) (l5 : Int) (h : JM) (res : JM), k260 l1 l4 l5 h = some res → Ev j_W1 2 0 0 T12_sends 260 [(0, .inr (.inr (some (12, 0)))), (1, .inl (l1)), (4, .inl (l4)), (5, .inl (l5))] [] h none res) (l1 : Int) (l4 : Int) (l5 : Int) (h : JM) (res : JM) (H : F12_sends_260b k260 l1 l4 l5 h = some res) : Ev j_W1 2 0 0 T12_sends 260 [(0, .inr (.inr (some (12, 0)))), (1, .inl (l1)), (4, .inl (l4)), (5, .inl (l5))] [] h none res := by
  unfold F12_sends_260b at H
  refine ev_iload (M := T12_sends) (pc := 260) 3 dX12_sends_260 (k := ?_)
  refine ev_aload_n (M := T12_sends) (pc := 262) 0 dX12_sends_262 (k := ?_)
  refine ev_getI (M := T12_sends) (pc := 263) (x := h.1 12 0 83) fl_X12_428 dX12_sends_263 (K := ?_)
  refine ev_icmpge (M := T12_sends) (pc := 266) 345 dX12_sends_266 (kt := fun hc => ?_) (kf := fun hc => ?_)
  · replace H := if_pe hc H
    refine ev_aload_n (M := T12_sends) (pc := 345) 0 dX12_sends_345 (k := ?_)
    obtain ⟨h9, hq, H1⟩ := bd_e H
    clear H
    refine ev_callV (M := T12_sends) (pc := 346) (mc := 0) (ms := 0) (st := []) (C12_flag hq) md_X12_flag im_X12_flag se_X12_flag ml_X12_443 dX12_sends_346 _ (by decide) (K := ?_)
    refine ev_bipush (M := T12_sends) (pc := 349) dX12_sends_349 (k := ?_)
    refine ev_iload_n (M := T12_sends) (pc := 351) 1 dX12_sends_351 (k := ?_)
    refine ev_imul (M := T12_sends) (pc := 352) dX12_sends_352 (k := ?_)
    refine ev_aload_n (M := T12_sends) (pc := 353) 0 dX12_sends_353 (k := ?_)
    refine ev_getI (M := T12_sends) (pc := 354) (x := h9.1 12 0 2) fl_X12_285 dX12_sends_354 (K := ?_)
    refine ev_bipush (M := T12_sends) (pc := 357) dX12_sends_357 (k := ?_)
    refine ev_irem (M := T12_sends) (pc := 359) dX12_sends_359 (by decide) (k := ?_)
    refine ev_iadd (M := T12_sends) (pc := 360) dX12_sends_360 (k := ?_)
    obtain ⟨x10, ex10, H2⟩ := lt_e H1
    clear H1
    refine ev_topI ex10 ?_
    refine ev_istore (M := T12_sends) (pc := 361) [(5, .inl (x10)), (0, .inr (.inr (some (12, 0)))), (1, .inl (l1)), (4, .inl (l4))] dX12_sends_361 (k := ?_)
    refine ev_iconst (M := T12_sends) (pc := 363) dX12_sends_363 (k := ?_)
    refine ev_iload_n (M := T12_sends) (pc := 364) 2 dX12_sends_364 (k := ?_)
    refine ev_imul (M := T12_sends) (pc := 365) dX12_sends_365 (k := ?_)
    refine ev_aload_n (M := T12_sends) (pc := 366) 1 dX12_sends_366 (k := ?_)
    refine ev_getI (M := T12_sends) (pc := 367) (x := h9.1 12 0 2) fl_X12_285 dX12_sends_367 (K := ?_)
    refine ev_iconst (M := T12_sends) (pc := 370) dX12_sends_370 (k := ?_)
    refine ev_irem (M := T12_sends) (pc := 371) dX12_sends_371 (by decide) (k := ?_)
    refine ev_iadd (M := T12_sends) (pc := 372) dX12_sends_372 (k := ?_)
    obtain ⟨x11, ex11, H3⟩ := lt_e H2
    clear H2
    refine ev_topI ex11 ?_
    refine ev_istore (M := T12_sends) (pc := 373) [(6, .inl (x11)), (5, .inl (x10)), (0, .inr (.inr (some (12, 0)))), (1, .inl (l1)), (4, .inl (l4))] dX12_sends_373 (k := ?_)
    refine ev_iconst (M := T12_sends) (pc := 375) dX12_sends_375 (k := ?_)
    refine ev_istore (M := T12_sends) (pc := 376) [(7, .inl (0)), (6, .inl (x11)), (5, .inl (x10)), (0, .inr (.inr (some (12, 0)))), (1, .inl (l1)), (4, .inl (l4))] dX12_sends_376 (k := ?_)
    refine ev_lv [3, 4, 2, 1, 0] [(0, .inr (.inr (some (12, 0)))), (1, .inl (l1)), (5, .inl (x10)), (6, .inl (x11)), (7, .inl (0))] (k := ?_)
    exact E12_sends_378 j_fu l1 x10 x11 0 h9 _ H3
  · replace H := if_ne hc H
    refine ev_aload_n (M := T12_sends) (pc := 269) 0 dX12_sends_269 (k := ?_)
    refine ev_getR (M := T12_sends) (pc := 270) (t := 169) (x := some (169, 0)) fl_X12_200 dX12_sends_270 (hx := ry_12_69 _ _) (K := ?_)
    refine ev_aload_n (M := T12_sends) (pc := 273) 0 dX12_sends_273 (k := ?_)
    refine ev_dup (M := T12_sends) (pc := 274) dX12_sends_274 (k := ?_)
    refine ev_getI (M := T12_sends) (pc := 275) (x := h.1 12 0 70) fl_X12_433 dX12_sends_275 (K := ?_)
    refine ev_dup_x1 (M := T12_sends) (pc := 278) dX12_sends_278 (k := ?_)
    refine ev_iconst (M := T12_sends) (pc := 279) dX12_sends_279 (k := ?_)
    refine ev_iadd (M := T12_sends) (pc := 280) dX12_sends_280 (k := ?_)
    obtain ⟨h12, eh12, H1⟩ := lt_e H
    clear H
    refine ev_putI (M := T12_sends) (pc := 281) j_ok1 fl_X12_433 eh12 dX12_sends_281 (K := ?_)
    refine ev_aload_n (M := T12_sends) (pc := 284) 0 dX12_sends_284 (k := ?_)
    refine ev_getR (M := T12_sends) (pc := 285) (t := 182) (x := some (182, 0)) fl_X12_231 dX12_sends_285 (hx := ry_12_82 _ _) (K := ?_)
    refine ev_iload (M := T12_sends) (pc := 288) 3 dX12_sends_288 (k := ?_)
    obtain ⟨⟨hi0, hi1⟩, H2⟩ := g_e H1
    clear H1
    refine ev_iaload (M := T12_sends) (pc := 290) (k := 182) hi0 hi1 dX12_sends_290 (hc := ac_182) (hlen := ln_182 _ _) (K := ?_)
    obtain ⟨⟨hi0, hi1⟩, H3⟩ := g_e H2
    clear H2
    obtain ⟨h13, eh13, H4⟩ := lt_e H3
    clear H3
    refine ev_iastore (M := T12_sends) (pc := 291) (k := 169) j_ok1 hi0 hi1 eh13 dX12_sends_291 (hc := ac_169) (hlen := ln_169 _ _) (K := ?_)
    refine ev_aload_n (M := T12_sends) (pc := 292) 0 dX12_sends_292 (k := ?_)
    refine ev_getR (M := T12_sends) (pc := 293) (t := 182) (x := some (182, 0)) fl_X12_231 dX12_sends_293 (hx := ry_12_82 _ _) (K := ?_)
    refine ev_iload (M := T12_sends) (pc := 296) 3 dX12_sends_296 (k := ?_)
    obtain ⟨⟨hi0, hi1⟩, H5⟩ := g_e H4
    clear H4
    refine ev_iaload (M := T12_sends) (pc := 298) (k := 182) hi0 hi1 dX12_sends_298 (hc := ac_182) (hlen := ln_182 _ _) (K := ?_)
    refine ev_iconst (M := T12_sends) (pc := 299) dX12_sends_299 (k := ?_)
    refine ev_icmpne (M := T12_sends) (pc := 300) 310 dX12_sends_300 (kt := fun hc => ?_) (kf := fun hc => ?_)
    · replace H5 := if_ne hc H5
      refine ev_iconst (M := T12_sends) (pc := 310) dX12_sends_310 (k := ?_)
      refine ev_lv [0, 1, 3] [(0, .inr (.inr (some (12, 0)))), (1, .inl (l1)), (5, .inl (l5))] (k := ?_)
      exact E12_sends_311 k260 hk260 l1 l5 0 h13 _ H5
    · replace H5 := if_pe hc H5
      refine ev_iload (M := T12_sends) (pc := 303) 2 dX12_sends_303 (k := ?_)
      refine ev_iconst (M := T12_sends) (pc := 305) dX12_sends_305 (k := ?_)
      refine ev_iadd (M := T12_sends) (pc := 306) dX12_sends_306 (k := ?_)
      refine ev_goto (M := T12_sends) (pc := 307) 311 dX12_sends_307 (k := ?_)
      refine ev_lv [0, 1, 3] [(0, .inr (.inr (some (12, 0)))), (1, .inl (l1)), (5, .inl (l5))] (k := ?_)
      exact E12_sends_311 k260 hk260 l1 l5 (w32 (l4 + 1)) h13 _ H5
theorem E12_sends_260 (n : Nat) : ∀ (l1 : Int) (l4 : Int) (l5 : Int) (h : JM) (res : JM), F12_sends_260 n l1 l4 l5 h = some res → Ev j_W1 2 0 0 T12_sends 260 [(0, .inr (.inr (some (12, 0)))), (1, .inl (l1)), (4, .inl (l4)), (5, .inl (l5))] [] h none res := by
  induction n with
  | zero =>
    intro l1 l4 l5 h res H
    cases H
  | succ n ih =>
    intro l1 l4 l5 h res H
    exact E12_sends_260b (F12_sends_260 n) ih l1 l4 l5 h res H
set_option maxRecDepth 100000 in
set_option maxHeartbeats 4000000 in
theorem E12_sends_227 (l1 : Int) (h : JM) (res : JM) (H : F12_sends_227 l1 h = some res) : Ev j_W1 2 0 0 T12_sends 227 [(0, .inr (.inr (some (12, 0)))), (1, .inl (l1))] [] h none res := by
  unfold F12_sends_227 at H
  refine ev_aload_n (M := T12_sends) (pc := 227) 0 dX12_sends_227 (k := ?_)
  refine ev_aload_n (M := T12_sends) (pc := 228) 0 dX12_sends_228 (k := ?_)
  refine ev_getR (M := T12_sends) (pc := 229) (t := 182) (x := some (182, 0)) fl_X12_231 dX12_sends_229 (hx := ry_12_82 _ _) (K := ?_)
  refine ev_iconst (M := T12_sends) (pc := 232) dX12_sends_232 (k := ?_)
  refine ev_aload_n (M := T12_sends) (pc := 233) 0 dX12_sends_233 (k := ?_)
  refine ev_getI (M := T12_sends) (pc := 234) (x := h.1 12 0 83) fl_X12_428 dX12_sends_234 (K := ?_)
  obtain ⟨q14, hq, H1⟩ := bd_e H
  clear H
  refine ev_callS (M := T12_sends) (pc := 237) (mc := 0) (ms := 0) (st := [.inr (.inr (some (12, 0)))]) (C12_check hq) md_X12_check ss_X12_check ml_X12_439 dX12_sends_237 _ (by decide) (K := ?_)
  refine ev_bipush (M := T12_sends) (pc := 240) dX12_sends_240 (k := ?_)
  obtain ⟨h15, hq, H2⟩ := bd_e H1
  clear H1
  refine ev_callV (M := T12_sends) (pc := 242) (mc := 0) (ms := 0) (st := []) (C12_number hq) md_X12_number im_X12_number se_X12_number ml_X12_436 dX12_sends_242 _ (by decide) (K := ?_)
  refine ev_aload_n (M := T12_sends) (pc := 245) 0 dX12_sends_245 (k := ?_)
  refine ev_iconst (M := T12_sends) (pc := 246) dX12_sends_246 (k := ?_)
  obtain ⟨h16, eh16, H3⟩ := lt_e H2
  clear H2
  refine ev_putI (M := T12_sends) (pc := 247) j_ok1 fl_X12_433 eh16 dX12_sends_247 (K := ?_)
  refine ev_aload_n (M := T12_sends) (pc := 250) 0 dX12_sends_250 (k := ?_)
  obtain ⟨h17, hq, H4⟩ := bd_e H3
  clear H3
  refine ev_callV (M := T12_sends) (pc := 251) (mc := 0) (ms := 0) (st := []) (C12_flag hq) md_X12_flag im_X12_flag se_X12_flag ml_X12_443 dX12_sends_251 _ (by decide) (K := ?_)
  refine ev_iconst (M := T12_sends) (pc := 254) dX12_sends_254 (k := ?_)
  refine ev_istore (M := T12_sends) (pc := 255) [(4, .inl (0)), (0, .inr (.inr (some (12, 0)))), (1, .inl (l1))] dX12_sends_255 (k := ?_)
  refine ev_iconst (M := T12_sends) (pc := 257) dX12_sends_257 (k := ?_)
  refine ev_istore (M := T12_sends) (pc := 258) [(5, .inl (0)), (4, .inl (0)), (0, .inr (.inr (some (12, 0)))), (1, .inl (l1))] dX12_sends_258 (k := ?_)
  refine ev_lv [2, 3, 1, 0] [(0, .inr (.inr (some (12, 0)))), (1, .inl (l1)), (4, .inl (0)), (5, .inl (0))] (k := ?_)
  exact E12_sends_260 j_fu l1 0 0 h17 _ H4
set_option maxRecDepth 100000 in
set_option maxHeartbeats 4000000 in
theorem E12_sends_188b (k188 : Int → Int → Int → Int → JM → Option JM) (hk188 : ∀ (l1 : Int) (l2 : Int) (l3 : Int) (l4 : Int) (h : JM) (res : JM), k188 l1 l2 l3 l4 h = some res → Ev j_W1 2 0 0 T12_sends 188 [(0, .inr (.inr (some (12, 0)))), (1, .inl (l1)), (2, .inl (l2)), (3, .inl (l3)), (4, .inl (l4))] [] h none res) (l1 : Int) (l2 : Int) (l3 : Int) (l4 : Int) (h : JM) (res : JM) (H : F12_sends_188b k188 l1 l2 l3 l4 h = some res) : Ev j_W1 2 0 0 T12_sends 188 [(0, .inr (.inr (some (12, 0)))), (1, .inl (l1)), (2, .inl (l2)), (3, .inl (l3)), (4, .inl (l4))] [] h none res := by
  unfold F12_sends_188b at H
  refine ev_iload_n (M := T12_sends) (pc := 188) 2 dX12_sends_188 (k := ?_)
  refine ev_ifeq (M := T12_sends) (pc := 189) 227 dX12_sends_189 (kt := fun hc => ?_) (kf := fun hc => ?_)
  · replace H := if_pe hc H
    refine ev_lv [0, 1] [(0, .inr (.inr (some (12, 0)))), (1, .inl (l1))] (k := ?_)
    exact E12_sends_227 l1 h _ H
  · replace H := if_ne hc H
    refine ev_iload (M := T12_sends) (pc := 192) 4 dX12_sends_192 (k := ?_)
    refine ev_aload_n (M := T12_sends) (pc := 194) 0 dX12_sends_194 (k := ?_)
    refine ev_getR (M := T12_sends) (pc := 195) (t := 159) (x := some (159, 0)) fl_X12_170 dX12_sends_195 (hx := ry_12_59 _ _) (K := ?_)
    refine ev_iload_n (M := T12_sends) (pc := 198) 3 dX12_sends_198 (k := ?_)
    obtain ⟨⟨hi0, hi1⟩, H1⟩ := g_e H
    clear H
    refine ev_iaload (M := T12_sends) (pc := 199) (k := 159) hi0 hi1 dX12_sends_199 (hc := ac_159) (hlen := ln_159 _ _) (K := ?_)
    refine ev_icmpge (M := T12_sends) (pc := 200) 227 dX12_sends_200 (kt := fun hc => ?_) (kf := fun hc => ?_)
    · replace H1 := if_pe hc H1
      refine ev_lv [0, 1] [(0, .inr (.inr (some (12, 0)))), (1, .inl (l1))] (k := ?_)
      exact E12_sends_227 l1 h _ H1
    · replace H1 := if_ne hc H1
      refine ev_aload_n (M := T12_sends) (pc := 203) 0 dX12_sends_203 (k := ?_)
      refine ev_aload_n (M := T12_sends) (pc := 204) 0 dX12_sends_204 (k := ?_)
      refine ev_getR (M := T12_sends) (pc := 205) (t := 158) (x := some (158, 0)) fl_X12_167 dX12_sends_205 (hx := ry_12_58 _ _) (K := ?_)
      refine ev_bipush (M := T12_sends) (pc := 208) dX12_sends_208 (k := ?_)
      refine ev_iload_n (M := T12_sends) (pc := 210) 3 dX12_sends_210 (k := ?_)
      refine ev_imul (M := T12_sends) (pc := 211) dX12_sends_211 (k := ?_)
      refine ev_iload (M := T12_sends) (pc := 212) 4 dX12_sends_212 (k := ?_)
      refine ev_iadd (M := T12_sends) (pc := 214) dX12_sends_214 (k := ?_)
      obtain ⟨⟨hi0, hi1⟩, H2⟩ := g_e H1
      clear H1
      refine ev_iaload (M := T12_sends) (pc := 215) (k := 158) hi0 hi1 dX12_sends_215 (hc := ac_158) (hlen := ln_158 _ _) (K := ?_)
      refine ev_bipush (M := T12_sends) (pc := 216) dX12_sends_216 (k := ?_)
      obtain ⟨h18, hq, H3⟩ := bd_e H2
      clear H2
      refine ev_callV (M := T12_sends) (pc := 218) (mc := 0) (ms := 0) (st := []) (C12_number hq) md_X12_number im_X12_number se_X12_number ml_X12_436 dX12_sends_218 _ (by decide) (K := ?_)
      refine ev_iinc (M := T12_sends) (pc := 221) 4 [(4, .inl (w32 (l4 + 1))), (0, .inr (.inr (some (12, 0)))), (1, .inl (l1)), (2, .inl (l2)), (3, .inl (l3))] dX12_sends_221 (k := ?_)
      refine ev_goto (M := T12_sends) (pc := 224) 188 dX12_sends_224 (k := ?_)
      refine ev_lv [1, 2, 3, 4, 0] [(0, .inr (.inr (some (12, 0)))), (1, .inl (l1)), (2, .inl (l2)), (3, .inl (l3)), (4, .inl (w32 (l4 + 1)))] (k := ?_)
      exact hk188 l1 l2 l3 (w32 (l4 + 1)) h18 _ H3
theorem E12_sends_188 (n : Nat) : ∀ (l1 : Int) (l2 : Int) (l3 : Int) (l4 : Int) (h : JM) (res : JM), F12_sends_188 n l1 l2 l3 l4 h = some res → Ev j_W1 2 0 0 T12_sends 188 [(0, .inr (.inr (some (12, 0)))), (1, .inl (l1)), (2, .inl (l2)), (3, .inl (l3)), (4, .inl (l4))] [] h none res := by
  induction n with
  | zero =>
    intro l1 l2 l3 l4 h res H
    cases H
  | succ n ih =>
    intro l1 l2 l3 l4 h res H
    exact E12_sends_188b (F12_sends_188 n) ih l1 l2 l3 l4 h res H
set_option maxRecDepth 100000 in
set_option maxHeartbeats 4000000 in
theorem E12_sends_180 (l1 : Int) (l2 : Int) (l3 : Int) (s0 : Option Int) (s1 : Int) (h : JM) (res : JM) (H : F12_sends_180 l1 l2 l3 s0 s1 h = some res) : Ev j_W1 2 0 0 T12_sends 180 [(0, .inr (.inr (some (12, 0)))), (1, .inl (l1)), (2, .inl (l2)), (3, .inl (l3))] [.inl (s1), .inr (.inr (Option.map (Prod.mk 12) (s0)))] h none res := by
  unfold F12_sends_180 at H
  refine ev_bipush (M := T12_sends) (pc := 180) dX12_sends_180 (k := ?_)
  obtain ⟨a19, ea19, H1⟩ := bd_e H
  clear H
  obtain ⟨hz, H2⟩ := g_e H1
  clear H1
  rw [ea19, hz]
  obtain ⟨h20, hq, H3⟩ := bd_e H2
  clear H2
  refine ev_callV (M := T12_sends) (pc := 182) (mc := 0) (ms := 0) (st := []) (C12_number hq) md_X12_number im_X12_number se_X12_number ml_X12_436 dX12_sends_182 _ (by decide) (K := ?_)
  refine ev_iconst (M := T12_sends) (pc := 185) dX12_sends_185 (k := ?_)
  refine ev_istore (M := T12_sends) (pc := 186) [(4, .inl (0)), (0, .inr (.inr (some (12, 0)))), (1, .inl (l1)), (2, .inl (l2)), (3, .inl (l3))] dX12_sends_186 (k := ?_)
  refine ev_lv [1, 2, 3, 4, 0] [(0, .inr (.inr (some (12, 0)))), (1, .inl (l1)), (2, .inl (l2)), (3, .inl (l3)), (4, .inl (0))] (k := ?_)
  exact E12_sends_188 j_fu l1 l2 l3 0 h20 _ H3
set_option maxRecDepth 100000 in
set_option maxHeartbeats 4000000 in
theorem E12_sends_106 (l1 : Int) (l2 : Int) (l3 : Int) (h : JM) (res : JM) (H : F12_sends_106 l1 l2 l3 h = some res) : Ev j_W1 2 0 0 T12_sends 106 [(0, .inr (.inr (some (12, 0)))), (1, .inl (l1)), (2, .inl (l2)), (3, .inl (l3))] [] h none res := by
  unfold F12_sends_106 at H
  refine ev_aload_n (M := T12_sends) (pc := 106) 0 dX12_sends_106 (k := ?_)
  refine ev_iconst (M := T12_sends) (pc := 107) dX12_sends_107 (k := ?_)
  obtain ⟨h21, eh21, H1⟩ := lt_e H
  clear H
  refine ev_putI (M := T12_sends) (pc := 108) j_ok1 fl_X12_428 eh21 dX12_sends_108 (K := ?_)
  refine ev_aload_n (M := T12_sends) (pc := 111) 0 dX12_sends_111 (k := ?_)
  refine ev_aload_n (M := T12_sends) (pc := 112) 0 dX12_sends_112 (k := ?_)
  refine ev_getR (M := T12_sends) (pc := 113) (t := 164) (x := some (164, 0)) fl_X12_185 dX12_sends_113 (hx := ry_12_64 _ _) (K := ?_)
  refine ev_iload_n (M := T12_sends) (pc := 116) 1 dX12_sends_116 (k := ?_)
  obtain ⟨⟨hi0, hi1⟩, H2⟩ := g_e H1
  clear H1
  refine ev_iaload (M := T12_sends) (pc := 117) (k := 164) hi0 hi1 dX12_sends_117 (hc := ac_164) (hlen := ln_164 _ _) (K := ?_)
  refine ev_sipush (M := T12_sends) (pc := 118) dX12_sends_118 (k := ?_)
  refine ev_irem (M := T12_sends) (pc := 121) dX12_sends_121 (by decide) (k := ?_)
  refine ev_bipush (M := T12_sends) (pc := 122) dX12_sends_122 (k := ?_)
  obtain ⟨h22, hq, H3⟩ := bd_e H2
  clear H2
  refine ev_callV (M := T12_sends) (pc := 124) (mc := 0) (ms := 0) (st := []) (C12_number hq) md_X12_number im_X12_number se_X12_number ml_X12_436 dX12_sends_124 _ (by decide) (K := ?_)
  refine ev_aload_n (M := T12_sends) (pc := 127) 0 dX12_sends_127 (k := ?_)
  refine ev_aload_n (M := T12_sends) (pc := 128) 0 dX12_sends_128 (k := ?_)
  refine ev_getR (M := T12_sends) (pc := 129) (t := 166) (x := some (166, 0)) fl_X12_191 dX12_sends_129 (hx := ry_12_66 _ _) (K := ?_)
  refine ev_iload_n (M := T12_sends) (pc := 132) 1 dX12_sends_132 (k := ?_)
  obtain ⟨⟨hi0, hi1⟩, H4⟩ := g_e H3
  clear H3
  refine ev_iaload (M := T12_sends) (pc := 133) (k := 166) hi0 hi1 dX12_sends_133 (hc := ac_166) (hlen := ln_166 _ _) (K := ?_)
  refine ev_iconst (M := T12_sends) (pc := 134) dX12_sends_134 (k := ?_)
  obtain ⟨h23, hq, H5⟩ := bd_e H4
  clear H4
  refine ev_callV (M := T12_sends) (pc := 135) (mc := 0) (ms := 0) (st := []) (C12_number hq) md_X12_number im_X12_number se_X12_number ml_X12_436 dX12_sends_135 _ (by decide) (K := ?_)
  refine ev_aload_n (M := T12_sends) (pc := 138) 0 dX12_sends_138 (k := ?_)
  refine ev_aload_n (M := T12_sends) (pc := 139) 0 dX12_sends_139 (k := ?_)
  refine ev_getR (M := T12_sends) (pc := 140) (t := 162) (x := some (162, 0)) fl_X12_179 dX12_sends_140 (hx := ry_12_62 _ _) (K := ?_)
  refine ev_iload_n (M := T12_sends) (pc := 143) 1 dX12_sends_143 (k := ?_)
  obtain ⟨⟨hi0, hi1⟩, H6⟩ := g_e H5
  clear H5
  refine ev_iaload (M := T12_sends) (pc := 144) (k := 162) hi0 hi1 dX12_sends_144 (hc := ac_162) (hlen := ln_162 _ _) (K := ?_)
  refine ev_sipush (M := T12_sends) (pc := 145) dX12_sends_145 (k := ?_)
  refine ev_irem (M := T12_sends) (pc := 148) dX12_sends_148 (by decide) (k := ?_)
  refine ev_bipush (M := T12_sends) (pc := 149) dX12_sends_149 (k := ?_)
  obtain ⟨h24, hq, H7⟩ := bd_e H6
  clear H6
  refine ev_callV (M := T12_sends) (pc := 151) (mc := 0) (ms := 0) (st := []) (C12_number hq) md_X12_number im_X12_number se_X12_number ml_X12_436 dX12_sends_151 _ (by decide) (K := ?_)
  refine ev_aload_n (M := T12_sends) (pc := 154) 0 dX12_sends_154 (k := ?_)
  refine ev_aload_n (M := T12_sends) (pc := 155) 0 dX12_sends_155 (k := ?_)
  refine ev_getR (M := T12_sends) (pc := 156) (t := 165) (x := some (165, 0)) fl_X12_188 dX12_sends_156 (hx := ry_12_65 _ _) (K := ?_)
  refine ev_iload_n (M := T12_sends) (pc := 159) 1 dX12_sends_159 (k := ?_)
  obtain ⟨⟨hi0, hi1⟩, H8⟩ := g_e H7
  clear H7
  refine ev_iaload (M := T12_sends) (pc := 160) (k := 165) hi0 hi1 dX12_sends_160 (hc := ac_165) (hlen := ln_165 _ _) (K := ?_)
  refine ev_iconst (M := T12_sends) (pc := 161) dX12_sends_161 (k := ?_)
  obtain ⟨h25, hq, H9⟩ := bd_e H8
  clear H8
  refine ev_callV (M := T12_sends) (pc := 162) (mc := 0) (ms := 0) (st := []) (C12_number hq) md_X12_number im_X12_number se_X12_number ml_X12_436 dX12_sends_162 _ (by decide) (K := ?_)
  refine ev_aload_n (M := T12_sends) (pc := 165) 0 dX12_sends_165 (k := ?_)
  refine ev_iload_n (M := T12_sends) (pc := 166) 2 dX12_sends_166 (k := ?_)
  refine ev_ifeq (M := T12_sends) (pc := 167) 179 dX12_sends_167 (kt := fun hc => ?_) (kf := fun hc => ?_)
  · replace H9 := if_pe hc H9
    refine ev_iconst (M := T12_sends) (pc := 179) dX12_sends_179 (k := ?_)
    exact E12_sends_180 l1 l2 l3 (some 0) 0 h25 _ H9
  · replace H9 := if_ne hc H9
    refine ev_aload_n (M := T12_sends) (pc := 170) 0 dX12_sends_170 (k := ?_)
    refine ev_getR (M := T12_sends) (pc := 171) (t := 159) (x := some (159, 0)) fl_X12_170 dX12_sends_171 (hx := ry_12_59 _ _) (K := ?_)
    refine ev_iload_n (M := T12_sends) (pc := 174) 3 dX12_sends_174 (k := ?_)
    obtain ⟨⟨hi0, hi1⟩, H10⟩ := g_e H9
    clear H9
    refine ev_iaload (M := T12_sends) (pc := 175) (k := 159) hi0 hi1 dX12_sends_175 (hc := ac_159) (hlen := ln_159 _ _) (K := ?_)
    refine ev_goto (M := T12_sends) (pc := 176) 180 dX12_sends_176 (k := ?_)
    exact E12_sends_180 l1 l2 l3 (some 0) (h25.1 159 0 l3) h25 _ H10
set_option maxRecDepth 100000 in
set_option maxHeartbeats 4000000 in
theorem E12_sends_105 (l1 : Int) (l2 : Int) (l3 : Int) (s0 : Option Int) (s1 : Int) (s2 : Int) (h : JM) (res : JM) (H : F12_sends_105 l1 l2 l3 s0 s1 s2 h = some res) : Ev j_W1 2 0 0 T12_sends 105 [(0, .inr (.inr (some (12, 0)))), (1, .inl (l1)), (2, .inl (l2)), (3, .inl (l3))] [.inl (s2), .inl (s1), .inr (.inr (Option.map (Prod.mk 163) (s0)))] h none res := by
  unfold F12_sends_105 at H
  obtain ⟨a26, ea26, H1⟩ := bd_e H
  clear H
  rw [ea26]
  obtain ⟨⟨hi0, hi1⟩, H2⟩ := g_e H1
  clear H1
  obtain ⟨h27, eh27, H3⟩ := lt_e H2
  clear H2
  refine ev_iastore (M := T12_sends) (pc := 105) (k := 163) j_ok1 hi0 hi1 eh27 dX12_sends_105 (hc := ac_163) (hlen := ln_163 _ _) (K := ?_)
  exact E12_sends_106 l1 l2 l3 h27 _ H3
set_option maxRecDepth 100000 in
set_option maxHeartbeats 4000000 in
theorem E12_sends_38 (l1 : Int) (s0 : Int) (h : JM) (res : JM) (H : F12_sends_38 l1 s0 h = some res) : Ev j_W1 2 0 0 T12_sends 38 [(0, .inr (.inr (some (12, 0)))), (1, .inl (l1))] [.inl (s0)] h none res := by
  unfold F12_sends_38 at H
  refine ev_istore_n (M := T12_sends) (pc := 38) [(2, .inl (s0)), (0, .inr (.inr (some (12, 0)))), (1, .inl (l1))] dX12_sends_38 (k := ?_)
  refine ev_sipush (M := T12_sends) (pc := 39) dX12_sends_39 (k := ?_)
  refine ev_iload_n (M := T12_sends) (pc := 42) 2 dX12_sends_42 (k := ?_)
  refine ev_imul (M := T12_sends) (pc := 43) dX12_sends_43 (k := ?_)
  refine ev_aload_n (M := T12_sends) (pc := 44) 1 dX12_sends_44 (k := ?_)
  refine ev_getR (M := T12_sends) (pc := 45) (t := 162) (x := some (162, 0)) fl_X12_179 dX12_sends_45 (hx := ry_12_62 _ _) (K := ?_)
  refine ev_iload_n (M := T12_sends) (pc := 48) 2 dX12_sends_48 (k := ?_)
  obtain ⟨⟨hi0, hi1⟩, H1⟩ := g_e H
  clear H
  refine ev_iaload (M := T12_sends) (pc := 49) (k := 162) hi0 hi1 dX12_sends_49 (hc := ac_162) (hlen := ln_162 _ _) (K := ?_)
  refine ev_sipush (M := T12_sends) (pc := 50) dX12_sends_50 (k := ?_)
  refine ev_irem (M := T12_sends) (pc := 53) dX12_sends_53 (by decide) (k := ?_)
  refine ev_iadd (M := T12_sends) (pc := 54) dX12_sends_54 (k := ?_)
  obtain ⟨x28, ex28, H2⟩ := lt_e H1
  clear H1
  refine ev_topI ex28 ?_
  refine ev_istore_n (M := T12_sends) (pc := 55) [(3, .inl (x28)), (2, .inl (s0)), (0, .inr (.inr (some (12, 0)))), (1, .inl (l1))] dX12_sends_55 (k := ?_)
  refine ev_iload_n (M := T12_sends) (pc := 56) 1 dX12_sends_56 (k := ?_)
  refine ev_ifeq (M := T12_sends) (pc := 57) 106 dX12_sends_57 (kt := fun hc => ?_) (kf := fun hc => ?_)
  · replace H2 := if_pe hc H2
    refine ev_lv [2, 3, 1, 0] [(0, .inr (.inr (some (12, 0)))), (1, .inl (l1)), (2, .inl (s0)), (3, .inl (x28))] (k := ?_)
    exact E12_sends_106 l1 s0 x28 h _ H2
  · replace H2 := if_ne hc H2
    refine ev_aload_n (M := T12_sends) (pc := 60) 2 dX12_sends_60 (k := ?_)
    refine ev_getR (M := T12_sends) (pc := 61) (t := 162) (x := some (162, 0)) fl_X12_179 dX12_sends_61 (hx := ry_12_62 _ _) (K := ?_)
    refine ev_iload_n (M := T12_sends) (pc := 64) 3 dX12_sends_64 (k := ?_)
    refine ev_dup2 (M := T12_sends) (pc := 65) dX12_sends_65 (k := ?_)
    obtain ⟨⟨hi0, hi1⟩, H3⟩ := g_e H2
    clear H2
    refine ev_iaload (M := T12_sends) (pc := 66) (k := 162) hi0 hi1 dX12_sends_66 (hc := ac_162) (hlen := ln_162 _ _) (K := ?_)
    refine ev_iconst (M := T12_sends) (pc := 67) dX12_sends_67 (k := ?_)
    refine ev_iadd (M := T12_sends) (pc := 68) dX12_sends_68 (k := ?_)
    obtain ⟨⟨hi0, hi1⟩, H4⟩ := g_e H3
    clear H3
    obtain ⟨h29, eh29, H5⟩ := lt_e H4
    clear H4
    refine ev_iastore (M := T12_sends) (pc := 69) (k := 162) j_ok1 hi0 hi1 eh29 dX12_sends_69 (hc := ac_162) (hlen := ln_162 _ _) (K := ?_)
    refine ev_aload_n (M := T12_sends) (pc := 70) 2 dX12_sends_70 (k := ?_)
    refine ev_getR (M := T12_sends) (pc := 71) (t := 163) (x := some (163, 0)) fl_X12_182 dX12_sends_71 (hx := ry_12_63 _ _) (K := ?_)
    refine ev_iload_n (M := T12_sends) (pc := 74) 3 dX12_sends_74 (k := ?_)
    refine ev_aload_n (M := T12_sends) (pc := 75) 2 dX12_sends_75 (k := ?_)
    refine ev_getR (M := T12_sends) (pc := 76) (t := 162) (x := some (162, 0)) fl_X12_179 dX12_sends_76 (hx := ry_12_62 _ _) (K := ?_)
    refine ev_iload_n (M := T12_sends) (pc := 79) 3 dX12_sends_79 (k := ?_)
    obtain ⟨⟨hi0, hi1⟩, H6⟩ := g_e H5
    clear H5
    refine ev_iaload (M := T12_sends) (pc := 80) (k := 162) hi0 hi1 dX12_sends_80 (hc := ac_162) (hlen := ln_162 _ _) (K := ?_)
    refine ev_aload_n (M := T12_sends) (pc := 81) 2 dX12_sends_81 (k := ?_)
    refine ev_getR (M := T12_sends) (pc := 82) (t := 163) (x := some (163, 0)) fl_X12_182 dX12_sends_82 (hx := ry_12_63 _ _) (K := ?_)
    refine ev_iload_n (M := T12_sends) (pc := 85) 3 dX12_sends_85 (k := ?_)
    obtain ⟨⟨hi0, hi1⟩, H7⟩ := g_e H6
    clear H6
    refine ev_iaload (M := T12_sends) (pc := 86) (k := 163) hi0 hi1 dX12_sends_86 (hc := ac_163) (hlen := ln_163 _ _) (K := ?_)
    refine ev_icmple (M := T12_sends) (pc := 87) 99 dX12_sends_87 (kt := fun hc => ?_) (kf := fun hc => ?_)
    · replace H7 := if_pe hc H7
      refine ev_aload_n (M := T12_sends) (pc := 99) 2 dX12_sends_99 (k := ?_)
      refine ev_getR (M := T12_sends) (pc := 100) (t := 163) (x := some (163, 0)) fl_X12_182 dX12_sends_100 (hx := ry_12_63 _ _) (K := ?_)
      refine ev_iload_n (M := T12_sends) (pc := 103) 3 dX12_sends_103 (k := ?_)
      obtain ⟨⟨hi0, hi1⟩, H8⟩ := g_e H7
      clear H7
      refine ev_iaload (M := T12_sends) (pc := 104) (k := 163) hi0 hi1 dX12_sends_104 (hc := ac_163) (hlen := ln_163 _ _) (K := ?_)
      refine ev_lv [2, 3, 1, 0] [(0, .inr (.inr (some (12, 0)))), (1, .inl (l1)), (2, .inl (s0)), (3, .inl (x28))] (k := ?_)
      exact E12_sends_105 l1 s0 x28 (some 0) l1 (h29.1 163 0 l1) h29 _ H8
    · replace H7 := if_ne hc H7
      refine ev_aload_n (M := T12_sends) (pc := 90) 2 dX12_sends_90 (k := ?_)
      refine ev_getR (M := T12_sends) (pc := 91) (t := 162) (x := some (162, 0)) fl_X12_179 dX12_sends_91 (hx := ry_12_62 _ _) (K := ?_)
      refine ev_iload_n (M := T12_sends) (pc := 94) 3 dX12_sends_94 (k := ?_)
      obtain ⟨⟨hi0, hi1⟩, H8⟩ := g_e H7
      clear H7
      refine ev_iaload (M := T12_sends) (pc := 95) (k := 162) hi0 hi1 dX12_sends_95 (hc := ac_162) (hlen := ln_162 _ _) (K := ?_)
      refine ev_goto (M := T12_sends) (pc := 96) 105 dX12_sends_96 (k := ?_)
      refine ev_lv [2, 3, 1, 0] [(0, .inr (.inr (some (12, 0)))), (1, .inl (l1)), (2, .inl (s0)), (3, .inl (x28))] (k := ?_)
      exact E12_sends_105 l1 s0 x28 (some 0) l1 (h29.1 162 0 l1) h29 _ H8
set_option maxRecDepth 100000 in
set_option maxHeartbeats 4000000 in
theorem E12_sends_37 (l1 : Int) (h : JM) (res : JM) (H : F12_sends_37 l1 h = some res) : Ev j_W1 2 0 0 T12_sends 37 [(0, .inr (.inr (some (12, 0)))), (1, .inl (l1))] [] h none res := by
  unfold F12_sends_37 at H
  refine ev_iconst (M := T12_sends) (pc := 37) dX12_sends_37 (k := ?_)
  exact E12_sends_38 l1 0 h _ H
set_option maxRecDepth 100000 in
set_option maxHeartbeats 4000000 in
theorem C12_sends {l1 : Int} {h : JM} {res : JM} (H : F12_sends l1 h = some res) : Cn j_W1 2 0 0 yX12_sends cX12_sends 8 none [.inr (.inr (some (12, 0))), .inl (l1)] h none res := by
  refine Cn.by (own := RX12) (b := false) [(0, .inr (.inr (some (12, 0)))), (1, .inl (l1))] rfl (fun z => by cases z) (by decide +kernel) (K := ?_)
  unfold F12_sends at H
  refine ev_aload_n (M := T12_sends) (pc := 0) 0 dX12_sends_0 (k := ?_)
  refine ev_getR (M := T12_sends) (pc := 1) (t := 162) (x := some (162, 0)) fl_X12_179 dX12_sends_1 (hx := ry_12_62 _ _) (K := ?_)
  refine ev_iload_n (M := T12_sends) (pc := 4) 1 dX12_sends_4 (k := ?_)
  obtain ⟨⟨hi0, hi1⟩, H1⟩ := g_e H
  clear H
  refine ev_iaload (M := T12_sends) (pc := 5) (k := 162) hi0 hi1 dX12_sends_5 (hc := ac_162) (hlen := ln_162 _ _) (K := ?_)
  refine ev_aload_n (M := T12_sends) (pc := 6) 0 dX12_sends_6 (k := ?_)
  refine ev_getR (M := T12_sends) (pc := 7) (t := 160) (x := some (160, 0)) fl_X12_173 dX12_sends_7 (hx := ry_12_60 _ _) (K := ?_)
  refine ev_iload_n (M := T12_sends) (pc := 10) 1 dX12_sends_10 (k := ?_)
  obtain ⟨⟨hi0, hi1⟩, H2⟩ := g_e H1
  clear H1
  refine ev_iaload (M := T12_sends) (pc := 11) (k := 160) hi0 hi1 dX12_sends_11 (hc := ac_160) (hlen := ln_160 _ _) (K := ?_)
  refine ev_icmpge (M := T12_sends) (pc := 12) 37 dX12_sends_12 (kt := fun hc => ?_) (kf := fun hc => ?_)
  · replace H2 := if_pe hc H2
    exact E12_sends_37 l1 h _ H2
  · replace H2 := if_ne hc H2
    refine ev_aload_n (M := T12_sends) (pc := 15) 0 dX12_sends_15 (k := ?_)
    refine ev_getR (M := T12_sends) (pc := 16) (t := 162) (x := some (162, 0)) fl_X12_179 dX12_sends_16 (hx := ry_12_62 _ _) (K := ?_)
    refine ev_iload_n (M := T12_sends) (pc := 19) 1 dX12_sends_19 (k := ?_)
    obtain ⟨⟨hi0, hi1⟩, H3⟩ := g_e H2
    clear H2
    refine ev_iaload (M := T12_sends) (pc := 20) (k := 162) hi0 hi1 dX12_sends_20 (hc := ac_162) (hlen := ln_162 _ _) (K := ?_)
    refine ev_aload_n (M := T12_sends) (pc := 21) 0 dX12_sends_21 (k := ?_)
    refine ev_getR (M := T12_sends) (pc := 22) (t := 161) (x := some (161, 0)) fl_X12_176 dX12_sends_22 (hx := ry_12_61 _ _) (K := ?_)
    refine ev_iload_n (M := T12_sends) (pc := 25) 1 dX12_sends_25 (k := ?_)
    obtain ⟨⟨hi0, hi1⟩, H4⟩ := g_e H3
    clear H3
    refine ev_iaload (M := T12_sends) (pc := 26) (k := 161) hi0 hi1 dX12_sends_26 (hc := ac_161) (hlen := ln_161 _ _) (K := ?_)
    refine ev_bipush (M := T12_sends) (pc := 27) dX12_sends_27 (k := ?_)
    refine ev_iadd (M := T12_sends) (pc := 29) dX12_sends_29 (k := ?_)
    refine ev_icmpge (M := T12_sends) (pc := 30) 37 dX12_sends_30 (kt := fun hc => ?_) (kf := fun hc => ?_)
    · replace H4 := if_pe hc H4
      exact E12_sends_37 l1 h _ H4
    · replace H4 := if_ne hc H4
      refine ev_iconst (M := T12_sends) (pc := 33) dX12_sends_33 (k := ?_)
      refine ev_goto (M := T12_sends) (pc := 34) 38 dX12_sends_34 (k := ?_)
      exact E12_sends_38 l1 1 h _ H4
