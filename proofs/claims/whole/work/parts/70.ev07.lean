-- X11_place
abbrev T11_place : JT := (RX11, cX11_place, 6, none, false)
set_option maxRecDepth 100000 in
set_option maxHeartbeats 4000000 in
theorem E11_place_173 (l1 : Option Int) (l3 : Int) (h : JM) (res : JM) (H : F11_place_173 l1 l3 h = some res) : Ev j_W1 4 0 0 T11_place 173 [(0, .inr (.inr (some (11, 0)))), (1, .inr (.inr (Option.map (Prod.mk 0) (l1)))), (3, .inl (l3))] [] h none res := by
  unfold F11_place_173 at H
  refine ev_iload_n 2 dX11_place_173 (k := ?_)
  refine ev_ifle 184 dX11_place_174 (kt := fun hc => ?_) (kf := fun hc => ?_)
  · replace H := if_pe hc H
    cases H
    exact ev_return dX11_place_184
  · replace H := if_ne hc H
    refine ev_aload_n 0 dX11_place_177 (k := ?_)
    refine ev_aload_n 1 dX11_place_178 (k := ?_)
    refine ev_iload_n 2 dX11_place_179 (k := ?_)
    refine ev_iconst dX11_place_180 (k := ?_)
    obtain ⟨h1, hq, H1⟩ := bd_e H
    clear H
    refine ev_callV (mc := 0) (ms := 0) (st := []) (C11_end hq) md_X11_end im_X11_end se_X11_end ml_X11_375 dX11_place_181 _ (by decide) (K := ?_)
    cases H1
    exact ev_return dX11_place_184
set_option maxRecDepth 100000 in
set_option maxHeartbeats 4000000 in
theorem E11_place_141 (l1 : Option Int) (l3 : Int) (h : JM) (res : JM) (H : F11_place_141 l1 l3 h = some res) : Ev j_W1 4 0 0 T11_place 141 [(0, .inr (.inr (some (11, 0)))), (1, .inr (.inr (Option.map (Prod.mk 0) (l1)))), (3, .inl (l3))] [] h none res := by
  unfold F11_place_141 at H
  refine ev_iload_n 2 dX11_place_141 (k := ?_)
  refine ev_bipush dX11_place_142 (k := ?_)
  refine ev_icmpne 156 dX11_place_144 (kt := fun hc => ?_) (kf := fun hc => ?_)
  · replace H := if_ne hc H
    refine ev_iload_n 2 dX11_place_156 (k := ?_)
    refine ev_ifne 173 dX11_place_157 (kt := fun hc => ?_) (kf := fun hc => ?_)
    · replace H := if_ne hc H
      exact E11_place_173 l1 l3 h _ H
    · replace H := if_pe hc H
      refine ev_aload_n 1 dX11_place_160 (k := ?_)
      obtain ⟨a2, ea2, H1⟩ := bd_e H
      clear H
      rw [ea2]
      refine ev_getI (x := h.1 0 a2 9) fl_X11_210 dX11_place_161 (K := ?_)
      refine ev_iconst dX11_place_164 (k := ?_)
      refine ev_icmpeq 173 dX11_place_165 (kt := fun hc => ?_) (kf := fun hc => ?_)
      · replace H1 := if_pe hc H1
        exact E11_place_173 (some a2) l3 h _ H1
      · replace H1 := if_ne hc H1
        refine ev_aload_n 0 dX11_place_168 (k := ?_)
        refine ev_aload_n 1 dX11_place_169 (k := ?_)
        obtain ⟨h3, hq, H2⟩ := bd_e H1
        clear H1
        refine ev_callV (mc := 0) (ms := 0) (st := []) (C11_announce hq) md_X11_announce im_X11_announce se_X11_announce ml_X11_386 dX11_place_170 _ (by decide) (K := ?_)
        exact E11_place_173 (some a2) l3 h3 _ H2
  · replace H := if_pe hc H
    refine ev_aload_n 0 dX11_place_147 (k := ?_)
    refine ev_aload_n 1 dX11_place_148 (k := ?_)
    obtain ⟨q4, hq, H1⟩ := bd_e H
    clear H
    refine ev_callV (mc := 0) (ms := 0) (st := []) (C11_answer hq) md_X11_answer im_X11_answer se_X11_answer ml_X11_390 dX11_place_149 _ (by decide) (K := ?_)
    refine ev_istore_n [(3, .inl (q4.1)), (0, .inr (.inr (some (11, 0)))), (1, .inr (.inr (Option.map (Prod.mk 0) (l1))))] dX11_place_152 (k := ?_)
    refine ev_goto 173 dX11_place_153 (k := ?_)
    refine ev_lv [1, 2, 0] [(0, .inr (.inr (some (11, 0)))), (1, .inr (.inr (Option.map (Prod.mk 0) (l1)))), (3, .inl (q4.1))] (k := ?_)
    exact E11_place_173 l1 q4.1 q4.2 _ H1
set_option maxRecDepth 100000 in
set_option maxHeartbeats 4000000 in
theorem E11_place_135 (k5 : Option Int → Int → Int → JM → Option JM) (hk5 : ∀ (l1 : Option Int) (l3 : Int) (l4 : Int) (h : JM) (res : JM), k5 l1 l3 l4 h = some res → Ev j_W1 4 0 0 T11_place 5 [(0, .inr (.inr (some (11, 0)))), (1, .inr (.inr (Option.map (Prod.mk 0) (l1)))), (3, .inl (l3)), (4, .inl (l4))] [] h none res) (l1 : Option Int) (l3 : Int) (l4 : Int) (h : JM) (res : JM) (H : F11_place_135 k5 l1 l3 l4 h = some res) : Ev j_W1 4 0 0 T11_place 135 [(0, .inr (.inr (some (11, 0)))), (1, .inr (.inr (Option.map (Prod.mk 0) (l1)))), (3, .inl (l3)), (4, .inl (l4))] [] h none res := by
  unfold F11_place_135 at H
  refine ev_iinc 3 [(4, .inl (w32 (l4 + 1))), (0, .inr (.inr (some (11, 0)))), (1, .inr (.inr (Option.map (Prod.mk 0) (l1)))), (3, .inl (l3))] dX11_place_135 (k := ?_)
  refine ev_goto 5 dX11_place_138 (k := ?_)
  refine ev_lv [1, 2, 3, 0] [(0, .inr (.inr (some (11, 0)))), (1, .inr (.inr (Option.map (Prod.mk 0) (l1)))), (3, .inl (l3)), (4, .inl (w32 (l4 + 1)))] (k := ?_)
  exact hk5 l1 l3 (w32 (l4 + 1)) h _ H
set_option maxRecDepth 100000 in
set_option maxHeartbeats 4000000 in
theorem E11_place_5b (k5 : Option Int → Int → Int → JM → Option JM) (hk5 : ∀ (l1 : Option Int) (l3 : Int) (l4 : Int) (h : JM) (res : JM), k5 l1 l3 l4 h = some res → Ev j_W1 4 0 0 T11_place 5 [(0, .inr (.inr (some (11, 0)))), (1, .inr (.inr (Option.map (Prod.mk 0) (l1)))), (3, .inl (l3)), (4, .inl (l4))] [] h none res) (l1 : Option Int) (l3 : Int) (l4 : Int) (h : JM) (res : JM) (H : F11_place_5b k5 l1 l3 l4 h = some res) : Ev j_W1 4 0 0 T11_place 5 [(0, .inr (.inr (some (11, 0)))), (1, .inr (.inr (Option.map (Prod.mk 0) (l1)))), (3, .inl (l3)), (4, .inl (l4))] [] h none res := by
  unfold F11_place_5b at H
  refine ev_iload 3 dX11_place_5 (k := ?_)
  refine ev_bipush dX11_place_7 (k := ?_)
  refine ev_icmpge 141 dX11_place_9 (kt := fun hc => ?_) (kf := fun hc => ?_)
  · replace H := if_pe hc H
    refine ev_lv [0, 1, 2] [(0, .inr (.inr (some (11, 0)))), (1, .inr (.inr (Option.map (Prod.mk 0) (l1)))), (3, .inl (l3))] (k := ?_)
    exact E11_place_141 l1 l3 h _ H
  · replace H := if_ne hc H
    refine ev_aload_n 1 dX11_place_12 (k := ?_)
    obtain ⟨a5, ea5, H1⟩ := bd_e H
    clear H
    rw [ea5]
    refine ev_getR (t := 6) (x := Option.map (Prod.mk 6) (h.2.2 0 a5 7)) fl_X11_379 dX11_place_13 (hx := ry_0_7 _ _) (K := ?_)
    refine ev_astore [(5, .inr (.inr (Option.map (Prod.mk 6) (h.2.2 0 a5 7)))), (0, .inr (.inr (some (11, 0)))), (1, .inr (.inr (some (0, a5)))), (3, .inl (l3)), (4, .inl (l4))] dX11_place_16 (k := ?_)
    refine ev_iload_n 3 dX11_place_18 (k := ?_)
    refine ev_bipush dX11_place_19 (k := ?_)
    refine ev_icmpne 33 dX11_place_21 (kt := fun hc => ?_) (kf := fun hc => ?_)
    · replace H1 := if_ne hc H1
      refine ev_iload_n 3 dX11_place_33 (k := ?_)
      refine ev_iconst dX11_place_34 (k := ?_)
      refine ev_icmpne 141 dX11_place_35 (kt := fun hc => ?_) (kf := fun hc => ?_)
      · replace H1 := if_ne hc H1
        refine ev_lv [1, 2, 3] [(0, .inr (.inr (some (11, 0)))), (1, .inr (.inr (some (0, a5)))), (3, .inl (l3))] (k := ?_)
        exact E11_place_141 (some a5) l3 h _ H1
      · replace H1 := if_pe hc H1
        refine ev_aload 0 dX11_place_38 (k := ?_)
        refine ev_nonnullK (h.2.2 0 a5 7) 46 dX11_place_40 (kt := fun hc => ?_) (kf := fun hc => ?_)
        · replace H1 := if_ne hc H1
          refine ev_aload 0 dX11_place_46 (k := ?_)
          obtain ⟨a6, ea6, H2⟩ := bd_e H1
          clear H1
          rw [ea6]
          refine ev_getI (x := h.1 6 a6 2) fl_X11_462 dX11_place_48 (K := ?_)
          refine ev_ifne 73 dX11_place_51 (kt := fun hc => ?_) (kf := fun hc => ?_)
          · replace H2 := if_ne hc H2
            refine ev_aload 0 dX11_place_73 (k := ?_)
            refine ev_getI (x := h.1 6 a6 2) fl_X11_462 dX11_place_75 (K := ?_)
            refine ev_iconst dX11_place_78 (k := ?_)
            refine ev_icmpne 104 dX11_place_79 (kt := fun hc => ?_) (kf := fun hc => ?_)
            · replace H2 := if_ne hc H2
              refine ev_aload 0 dX11_place_104 (k := ?_)
              refine ev_getI (x := h.1 6 a6 2) fl_X11_462 dX11_place_106 (K := ?_)
              refine ev_iconst dX11_place_109 (k := ?_)
              refine ev_icmpne 127 dX11_place_110 (kt := fun hc => ?_) (kf := fun hc => ?_)
              · replace H2 := if_ne hc H2
                refine ev_aload_n 1 dX11_place_127 (k := ?_)
                refine ev_aload_n 2 dX11_place_128 (k := ?_)
                refine ev_aload 0 dX11_place_129 (k := ?_)
                obtain ⟨q7, hq, H3⟩ := bd_e H2
                clear H2
                refine ev_callV (mc := 0) (ms := 0) (st := []) (C11_placeFar hq) md_X11_placeFar im_X11_placeFar se_X11_placeFar ml_X11_480 dX11_place_131 _ (by decide) (K := ?_)
                refine ev_istore_n [(3, .inl (q7.1)), (5, .inr (.inr (some (6, a6)))), (0, .inr (.inr (some (11, 0)))), (1, .inr (.inr (some (0, a5)))), (4, .inl (l4))] dX11_place_134 (k := ?_)
                refine ev_lv [2, 3, 0, 4] [(0, .inr (.inr (some (11, 0)))), (1, .inr (.inr (some (0, a5)))), (3, .inl (q7.1)), (4, .inl (l4))] (k := ?_)
                exact E11_place_135 k5 hk5 (some a5) q7.1 l4 q7.2 _ H3
              · replace H2 := if_pe hc H2
                refine ev_aload_n 1 dX11_place_113 (k := ?_)
                refine ev_aload_n 2 dX11_place_114 (k := ?_)
                refine ev_aload 0 dX11_place_115 (k := ?_)
                refine ev_getI (x := h.1 6 a6 3) fl_X11_465 dX11_place_117 (K := ?_)
                obtain ⟨q8, hq, H3⟩ := bd_e H2
                clear H2
                refine ev_callV (mc := 0) (ms := 0) (st := []) (C11_placeToRoom hq) md_X11_placeToRoom im_X11_placeToRoom se_X11_placeToRoom ml_X11_476 dX11_place_120 _ (by decide) (K := ?_)
                refine ev_istore_n [(3, .inl (q8.1)), (5, .inr (.inr (some (6, a6)))), (0, .inr (.inr (some (11, 0)))), (1, .inr (.inr (some (0, a5)))), (4, .inl (l4))] dX11_place_123 (k := ?_)
                refine ev_goto 135 dX11_place_124 (k := ?_)
                refine ev_lv [2, 3, 0, 4] [(0, .inr (.inr (some (11, 0)))), (1, .inr (.inr (some (0, a5)))), (3, .inl (q8.1)), (4, .inl (l4))] (k := ?_)
                exact E11_place_135 k5 hk5 (some a5) q8.1 l4 q8.2 _ H3
            · replace H2 := if_pe hc H2
              refine ev_aload_n 1 dX11_place_82 (k := ?_)
              refine ev_aload_n 2 dX11_place_83 (k := ?_)
              refine ev_aload_n 2 dX11_place_84 (k := ?_)
              refine ev_getR (t := 1) (x := Option.map (Prod.mk 1) (h.2.2 0 a5 0)) fl_X11_444 dX11_place_85 (hx := ry_0_0 _ _) (K := ?_)
              obtain ⟨a9, ea9, H3⟩ := bd_e H2
              clear H2
              rw [ea9]
              refine ev_getR (t := 21) (x := some (21, a9)) fl_X11_118 dX11_place_88 (hx := ry_1_2 _ _) (K := ?_)
              refine ev_aload 0 dX11_place_91 (k := ?_)
              refine ev_getI (x := h.1 6 a6 3) fl_X11_465 dX11_place_93 (K := ?_)
              obtain ⟨⟨hi0, hi1⟩, H4⟩ := g_e H3
              clear H3
              refine ev_aaload (k := 21) 2 (x := some (2, (3 * a9 + (h.1 6 a6 3)))) hi0 hi1 dX11_place_96 (hc := ac_21) (hlen := ln_21 _ _) (hx := rz_21 _ _ _) (K := ?_)
              obtain ⟨q10, hq, H5⟩ := bd_e H4
              clear H4
              refine ev_callV (mc := 0) (ms := 0) (st := []) (C11_placeToGroup hq) md_X11_placeToGroup im_X11_placeToGroup se_X11_placeToGroup ml_X11_472 dX11_place_97 _ (by decide) (K := ?_)
              refine ev_istore_n [(3, .inl (q10.1)), (5, .inr (.inr (some (6, a6)))), (0, .inr (.inr (some (11, 0)))), (1, .inr (.inr (some (0, a5)))), (4, .inl (l4))] dX11_place_100 (k := ?_)
              refine ev_goto 135 dX11_place_101 (k := ?_)
              refine ev_lv [2, 3, 0, 4] [(0, .inr (.inr (some (11, 0)))), (1, .inr (.inr (some (0, a5)))), (3, .inl (q10.1)), (4, .inl (l4))] (k := ?_)
              exact E11_place_135 k5 hk5 (some a5) q10.1 l4 q10.2 _ H5
          · replace H2 := if_pe hc H2
            refine ev_aload_n 1 dX11_place_54 (k := ?_)
            refine ev_aload_n 2 dX11_place_55 (k := ?_)
            refine ev_aload_n 1 dX11_place_56 (k := ?_)
            refine ev_getR (t := 39) (x := some (39, 0)) fl_X11_17 dX11_place_57 (hx := ry_11_3 _ _) (K := ?_)
            refine ev_aload 0 dX11_place_60 (k := ?_)
            refine ev_getI (x := h.1 6 a6 3) fl_X11_465 dX11_place_62 (K := ?_)
            obtain ⟨⟨hi0, hi1⟩, H3⟩ := g_e H2
            clear H2
            refine ev_aaload (k := 39) 4 (x := some (4, (h.1 6 a6 3))) hi0 hi1 dX11_place_65 (hc := ac_39) (hlen := ln_39 _ _) (hx := rz_39 _ _ _) (K := ?_)
            obtain ⟨q11, hq, H4⟩ := bd_e H3
            clear H3
            refine ev_callV (mc := 0) (ms := 0) (st := []) (C11_placeToLine hq) md_X11_placeToLine im_X11_placeToLine se_X11_placeToLine ml_X11_468 dX11_place_66 _ (by decide) (K := ?_)
            refine ev_istore_n [(3, .inl (q11.1)), (5, .inr (.inr (some (6, a6)))), (0, .inr (.inr (some (11, 0)))), (1, .inr (.inr (some (0, a5)))), (4, .inl (l4))] dX11_place_69 (k := ?_)
            refine ev_goto 135 dX11_place_70 (k := ?_)
            refine ev_lv [2, 3, 0, 4] [(0, .inr (.inr (some (11, 0)))), (1, .inr (.inr (some (0, a5)))), (3, .inl (q11.1)), (4, .inl (l4))] (k := ?_)
            exact E11_place_135 k5 hk5 (some a5) q11.1 l4 q11.2 _ H4
        · replace H1 := if_pe hc H1
          refine ev_goto 141 dX11_place_43 (k := ?_)
          refine ev_lv [1, 2, 3] [(0, .inr (.inr (some (11, 0)))), (1, .inr (.inr (some (0, a5)))), (3, .inl (l3))] (k := ?_)
          exact E11_place_141 (some a5) l3 h _ H1
    · replace H1 := if_pe hc H1
      refine ev_aload_n 1 dX11_place_24 (k := ?_)
      refine ev_aload_n 2 dX11_place_25 (k := ?_)
      obtain ⟨q12, hq, H2⟩ := bd_e H1
      clear H1
      refine ev_callV (mc := 0) (ms := 0) (st := []) (C11_findRowAnew hq) md_X11_findRowAnew im_X11_findRowAnew se_X11_findRowAnew ml_X11_459 dX11_place_26 _ (by decide) (K := ?_)
      refine ev_istore_n [(3, .inl (q12.1)), (5, .inr (.inr (Option.map (Prod.mk 6) (h.2.2 0 a5 7)))), (0, .inr (.inr (some (11, 0)))), (1, .inr (.inr (some (0, a5)))), (4, .inl (l4))] dX11_place_29 (k := ?_)
      refine ev_goto 135 dX11_place_30 (k := ?_)
      refine ev_lv [2, 3, 0, 4] [(0, .inr (.inr (some (11, 0)))), (1, .inr (.inr (some (0, a5)))), (3, .inl (q12.1)), (4, .inl (l4))] (k := ?_)
      exact E11_place_135 k5 hk5 (some a5) q12.1 l4 q12.2 _ H2
theorem E11_place_5 (n : Nat) : ∀ (l1 : Option Int) (l3 : Int) (l4 : Int) (h : JM) (res : JM), F11_place_5 n l1 l3 l4 h = some res → Ev j_W1 4 0 0 T11_place 5 [(0, .inr (.inr (some (11, 0)))), (1, .inr (.inr (Option.map (Prod.mk 0) (l1)))), (3, .inl (l3)), (4, .inl (l4))] [] h none res := by
  induction n with
  | zero =>
    intro l1 l3 l4 h res H
    cases H
  | succ n ih =>
    intro l1 l3 l4 h res H
    exact E11_place_5b (F11_place_5 n) ih l1 l3 l4 h res H
set_option maxRecDepth 100000 in
set_option maxHeartbeats 4000000 in
theorem C11_place {l1 : Option Int} {l2 : Int} {h : JM} {res : JM} (H : F11_place l1 l2 h = some res) : Cn j_W1 4 0 0 yX11_place cX11_place 6 none [.inr (.inr (some (11, 0))), .inr (.inr (Option.map (Prod.mk 0) (l1))), .inl (l2)] h none res := by
  refine Cn.by (own := RX11) (b := false) [(0, .inr (.inr (some (11, 0)))), (1, .inr (.inr (Option.map (Prod.mk 0) (l1)))), (2, .inl (l2))] rfl (fun z => by cases z) (by decide +kernel) (K := ?_)
  unfold F11_place at H
  refine ev_iload_n 2 dX11_place_0 (k := ?_)
  refine ev_istore_n [(3, .inl (l2)), (0, .inr (.inr (some (11, 0)))), (1, .inr (.inr (Option.map (Prod.mk 0) (l1)))), (2, .inl (l2))] dX11_place_1 (k := ?_)
  refine ev_iconst dX11_place_2 (k := ?_)
  refine ev_istore [(4, .inl (0)), (3, .inl (l2)), (0, .inr (.inr (some (11, 0)))), (1, .inr (.inr (Option.map (Prod.mk 0) (l1)))), (2, .inl (l2))] dX11_place_3 (k := ?_)
  refine ev_lv [2, 3, 1, 0] [(0, .inr (.inr (some (11, 0)))), (1, .inr (.inr (Option.map (Prod.mk 0) (l1)))), (3, .inl (l2)), (4, .inl (0))] (k := ?_)
  exact E11_place_5 j_fu l1 l2 0 h _ H
-- X11_checkRinging
abbrev T11_checkRinging : JT := (RX11, cX11_checkRinging, 4, none, false)
set_option maxRecDepth 100000 in
set_option maxHeartbeats 4000000 in
theorem C11_checkRinging {l1 : Option Int} {l2 : Option Int} {l3 : Int} {h : JM} {res : JM} (H : F11_checkRinging l1 l2 l3 h = some res) : Cn j_W1 5 0 0 yX11_checkRinging cX11_checkRinging 4 none [.inr (.inr (some (11, 0))), .inr (.inr (Option.map (Prod.mk 0) (l1))), .inr (.inr (Option.map (Prod.mk 4) (l2))), .inl (l3)] h none res := by
  refine Cn.by (own := RX11) (b := false) [(0, .inr (.inr (some (11, 0)))), (1, .inr (.inr (Option.map (Prod.mk 0) (l1)))), (2, .inr (.inr (Option.map (Prod.mk 4) (l2)))), (3, .inl (l3))] rfl (fun z => by cases z) (by decide +kernel) (K := ?_)
  unfold F11_checkRinging at H
  refine ev_aload_n 1 dX11_checkRinging_0 (k := ?_)
  obtain ⟨a1, ea1, H1⟩ := bd_e H
  clear H
  rw [ea1]
  refine ev_getR (t := 2) (x := Option.map (Prod.mk 2) (h.2.2 0 a1 5)) fl_X11_495 dX11_checkRinging_1 (hx := ry_0_5 _ _) (K := ?_)
  refine ev_nullK (h.2.2 0 a1 5) 48 dX11_checkRinging_4 (kt := fun hc => ?_) (kf := fun hc => ?_)
  · replace H1 := if_pe hc H1
    refine ev_iload_n 3 dX11_checkRinging_48 (k := ?_)
    refine ev_sipush dX11_checkRinging_49 (k := ?_)
    refine ev_icmpne 65 dX11_checkRinging_52 (kt := fun hc => ?_) (kf := fun hc => ?_)
    · replace H1 := if_ne hc H1
      refine ev_iload_n 3 dX11_checkRinging_65 (k := ?_)
      refine ev_sipush dX11_checkRinging_66 (k := ?_)
      refine ev_icmpne 111 dX11_checkRinging_69 (kt := fun hc => ?_) (kf := fun hc => ?_)
      · replace H1 := if_ne hc H1
        cases H1
        exact ev_return dX11_checkRinging_111
      · replace H1 := if_pe hc H1
        refine ev_aload_n 2 dX11_checkRinging_72 (k := ?_)
        obtain ⟨a2, ea2, H2⟩ := bd_e H1
        clear H1
        rw [ea2]
        refine ev_getR (t := 29) (x := some (29, a2)) fl_X11_141 dX11_checkRinging_73 (hx := ry_4_2 _ _) (K := ?_)
        refine ev_iconst dX11_checkRinging_76 (k := ?_)
        obtain ⟨⟨hi0, hi1⟩, H3⟩ := g_e H2
        clear H2
        refine ev_laload (k := 29) hi0 hi1 dX11_checkRinging_77 (hc := ac_29) (hlen := ln_29 _ _) (K := ?_)
        refine ev_lconst (v := 0) dX11_checkRinging_78 (k := ?_)
        refine ev_lcmp dX11_checkRinging_79 (k := ?_)
        refine ev_ifeq 111 dX11_checkRinging_80 (kt := fun hc => ?_) (kf := fun hc => ?_)
        · replace H3 := if_pe hc H3
          cases H3
          exact ev_return dX11_checkRinging_111
        · replace H3 := if_ne hc H3
          refine ev_aload_n 0 dX11_checkRinging_83 (k := ?_)
          refine ev_aload_n 1 dX11_checkRinging_84 (k := ?_)
          refine ev_aload_n 2 dX11_checkRinging_85 (k := ?_)
          obtain ⟨h3, hq, H4⟩ := bd_e H3
          clear H3
          refine ev_callV (mc := 0) (ms := 0) (st := []) (C11_ringNoMore hq) md_X11_ringNoMore im_X11_ringNoMore se_X11_ringNoMore ml_X11_530 dX11_checkRinging_86 _ (by decide) (K := ?_)
          refine ev_aload_n 1 dX11_checkRinging_89 (k := ?_)
          refine ev_null dX11_checkRinging_90 (k := ?_)
          obtain ⟨h4, eh4, H5⟩ := lt_e H4
          clear H4
          refine ev_putR (t := 4) j_ok1 none fl_X11_237 eh4 (hdg := dX11_checkRinging_91) (hly := rl_0_3 _) (K := ?_)
          refine ev_aload_n 1 dX11_checkRinging_94 (k := ?_)
          refine ev_aload_n 2 dX11_checkRinging_95 (k := ?_)
          refine ev_getR (t := 29) (x := some (29, a2)) fl_X11_141 dX11_checkRinging_96 (hx := ry_4_2 _ _) (K := ?_)
          refine ev_iconst dX11_checkRinging_99 (k := ?_)
          obtain ⟨⟨hi0, hi1⟩, H6⟩ := g_e H5
          clear H5
          refine ev_laload (k := 29) hi0 hi1 dX11_checkRinging_100 (hc := ac_29) (hlen := ln_29 _ _) (K := ?_)
          obtain ⟨h5, eh5, H7⟩ := lt_e H6
          clear H6
          refine ev_putL j_ok1 fl_X11_222 eh5 dX11_checkRinging_101 (K := ?_)
          refine ev_aload_n 0 dX11_checkRinging_104 (k := ?_)
          refine ev_aload_n 1 dX11_checkRinging_105 (k := ?_)
          refine ev_bipush dX11_checkRinging_106 (k := ?_)
          obtain ⟨h6, hq, H8⟩ := bd_e H7
          clear H7
          refine ev_callV (mc := 0) (ms := 0) (st := []) (C11_place hq) md_X11_place im_X11_place se_X11_place ml_X11_355 dX11_checkRinging_108 _ (by decide) (K := ?_)
          cases H8
          exact ev_return dX11_checkRinging_111
    · replace H1 := if_pe hc H1
      refine ev_aload_n 0 dX11_checkRinging_55 (k := ?_)
      refine ev_aload_n 1 dX11_checkRinging_56 (k := ?_)
      refine ev_iconst dX11_checkRinging_57 (k := ?_)
      refine ev_iconst dX11_checkRinging_58 (k := ?_)
      obtain ⟨h7, hq, H2⟩ := bd_e H1
      clear H1
      refine ev_callV (mc := 0) (ms := 0) (st := []) (C11_end hq) md_X11_end im_X11_end se_X11_end ml_X11_375 dX11_checkRinging_59 _ (by decide) (K := ?_)
      refine ev_goto 111 dX11_checkRinging_62 (k := ?_)
      cases H2
      exact ev_return dX11_checkRinging_111
  · replace H1 := if_ne hc H1
    refine ev_iload_n 3 dX11_checkRinging_7 (k := ?_)
    refine ev_sipush dX11_checkRinging_8 (k := ?_)
    refine ev_icmpne 111 dX11_checkRinging_11 (kt := fun hc => ?_) (kf := fun hc => ?_)
    · replace H1 := if_ne hc H1
      cases H1
      exact ev_return dX11_checkRinging_111
    · replace H1 := if_pe hc H1
      refine ev_aload_n 0 dX11_checkRinging_14 (k := ?_)
      refine ev_aload_n 1 dX11_checkRinging_15 (k := ?_)
      refine ev_aload_n 2 dX11_checkRinging_16 (k := ?_)
      obtain ⟨h8, hq, H2⟩ := bd_e H1
      clear H1
      refine ev_callV (mc := 0) (ms := 0) (st := []) (C11_ringNoMore hq) md_X11_ringNoMore im_X11_ringNoMore se_X11_ringNoMore ml_X11_530 dX11_checkRinging_17 _ (by decide) (K := ?_)
      refine ev_aload_n 2 dX11_checkRinging_20 (k := ?_)
      refine ev_iconst dX11_checkRinging_21 (k := ?_)
      obtain ⟨a9, ea9, H3⟩ := bd_e H2
      clear H2
      rw [ea9]
      obtain ⟨h10, eh10, H4⟩ := lt_e H3
      clear H3
      refine ev_putZ j_ok1 (Or.inr rfl) fl_X11_219 eh10 dX11_checkRinging_22 (K := ?_)
      refine ev_aload_n 1 dX11_checkRinging_25 (k := ?_)
      refine ev_null dX11_checkRinging_26 (k := ?_)
      obtain ⟨h11, eh11, H5⟩ := lt_e H4
      clear H4
      refine ev_putR (t := 4) j_ok1 none fl_X11_237 eh11 (hdg := dX11_checkRinging_27) (hly := rl_0_3 _) (K := ?_)
      refine ev_aload_n 0 dX11_checkRinging_30 (k := ?_)
      refine ev_aload_n 1 dX11_checkRinging_31 (k := ?_)
      refine ev_iconst dX11_checkRinging_32 (k := ?_)
      obtain ⟨h12, hq, H6⟩ := bd_e H5
      clear H5
      refine ev_callV (mc := 0) (ms := 0) (st := []) (C11_enter hq) md_X11_enter im_X11_enter se_X11_enter ml_X11_383 dX11_checkRinging_33 _ (by decide) (K := ?_)
      refine ev_aload_n 1 dX11_checkRinging_36 (k := ?_)
      refine ev_getR (t := 2) (x := Option.map (Prod.mk 2) (h12.2.2 0 a1 5)) fl_X11_495 dX11_checkRinging_37 (hx := ry_0_5 _ _) (K := ?_)
      refine ev_aload_n 1 dX11_checkRinging_40 (k := ?_)
      refine ev_iconst dX11_checkRinging_41 (k := ?_)
      obtain ⟨a13, ea13, H7⟩ := bd_e H6
      clear H6
      rw [ea13]
      obtain ⟨h14, hq, H8⟩ := bd_e H7
      clear H7
      refine ev_callV (mc := 0) (ms := 0) (st := []) (C2_letWait hq) md_X2_letWait im_X2_letWait se_X2_letWait ml_X11_513 dX11_checkRinging_42 _ (by decide) (K := ?_)
      refine ev_goto 111 dX11_checkRinging_45 (k := ?_)
      cases H8
      exact ev_return dX11_checkRinging_111
-- X11_endIf
abbrev T11_endIf : JT := (RX11, cX11_endIf, 3, none, false)
set_option maxRecDepth 100000 in
set_option maxHeartbeats 4000000 in
theorem C11_endIf {l1 : Option Int} {l2 : Int} {h : JM} {res : JM} (H : F11_endIf l1 l2 h = some res) : Cn j_W1 4 0 0 yX11_endIf cX11_endIf 3 none [.inr (.inr (some (11, 0))), .inr (.inr (Option.map (Prod.mk 0) (l1))), .inl (l2)] h none res := by
  refine Cn.by (own := RX11) (b := false) [(0, .inr (.inr (some (11, 0)))), (1, .inr (.inr (Option.map (Prod.mk 0) (l1)))), (2, .inl (l2))] rfl (fun z => by cases z) (by decide +kernel) (K := ?_)
  unfold F11_endIf at H
  refine ev_iload_n 2 dX11_endIf_0 (k := ?_)
  refine ev_ifle 11 dX11_endIf_1 (kt := fun hc => ?_) (kf := fun hc => ?_)
  · replace H := if_pe hc H
    cases H
    exact ev_return dX11_endIf_11
  · replace H := if_ne hc H
    refine ev_aload_n 0 dX11_endIf_4 (k := ?_)
    refine ev_aload_n 1 dX11_endIf_5 (k := ?_)
    refine ev_iload_n 2 dX11_endIf_6 (k := ?_)
    refine ev_iconst dX11_endIf_7 (k := ?_)
    obtain ⟨h1, hq, H1⟩ := bd_e H
    clear H
    refine ev_callV (mc := 0) (ms := 0) (st := []) (C11_end hq) md_X11_end im_X11_end se_X11_end ml_X11_375 dX11_endIf_8 _ (by decide) (K := ?_)
    cases H1
    exact ev_return dX11_endIf_11
-- X11_checkTimes
abbrev T11_checkTimes : JT := (RX11, cX11_checkTimes, 3, none, false)
set_option maxRecDepth 100000 in
set_option maxHeartbeats 4000000 in
theorem E11_checkTimes_72 (k2 : Int → JM → Option JM) (hk2 : ∀ (l1 : Int) (h : JM) (res : JM), k2 l1 h = some res → Ev j_W1 6 0 0 T11_checkTimes 2 [(0, .inr (.inr (some (11, 0)))), (1, .inl (l1))] [] h none res) (l1 : Int) (h : JM) (res : JM) (H : F11_checkTimes_72 k2 l1 h = some res) : Ev j_W1 6 0 0 T11_checkTimes 72 [(0, .inr (.inr (some (11, 0)))), (1, .inl (l1))] [] h none res := by
  unfold F11_checkTimes_72 at H
  refine ev_iinc 1 [(1, .inl (w32 (l1 + 1))), (0, .inr (.inr (some (11, 0))))] dX11_checkTimes_72 (k := ?_)
  refine ev_goto 2 dX11_checkTimes_75 (k := ?_)
  refine ev_lv [1, 0] [(0, .inr (.inr (some (11, 0)))), (1, .inl (w32 (l1 + 1)))] (k := ?_)
  exact hk2 (w32 (l1 + 1)) h _ H
set_option maxRecDepth 100000 in
set_option maxHeartbeats 4000000 in
theorem E11_checkTimes_53 (k2 : Int → JM → Option JM) (hk2 : ∀ (l1 : Int) (h : JM) (res : JM), k2 l1 h = some res → Ev j_W1 6 0 0 T11_checkTimes 2 [(0, .inr (.inr (some (11, 0)))), (1, .inl (l1))] [] h none res) (l1 : Int) (l2 : Option Int) (h : JM) (res : JM) (H : F11_checkTimes_53 k2 l1 l2 h = some res) : Ev j_W1 6 0 0 T11_checkTimes 53 [(0, .inr (.inr (some (11, 0)))), (1, .inl (l1)), (2, .inr (.inr (Option.map (Prod.mk 0) (l2))))] [] h none res := by
  unfold F11_checkTimes_53 at H
  refine ev_aload_n 0 dX11_checkTimes_53 (k := ?_)
  refine ev_aload_n 2 dX11_checkTimes_54 (k := ?_)
  refine ev_aload_n 0 dX11_checkTimes_55 (k := ?_)
  refine ev_aload_n 2 dX11_checkTimes_56 (k := ?_)
  refine ev_aload_n 0 dX11_checkTimes_57 (k := ?_)
  refine ev_getI (x := h.1 11 0 10) fl_X11_177 dX11_checkTimes_58 (K := ?_)
  refine ev_aload_n 2 dX11_checkTimes_61 (k := ?_)
  obtain ⟨a1, ea1, H1⟩ := bd_e H
  clear H
  rw [ea1]
  refine ev_getI (x := h.1 0 a1 10) fl_X11_441 dX11_checkTimes_62 (K := ?_)
  refine ev_isub dX11_checkTimes_65 (k := ?_)
  obtain ⟨q2, hq, H2⟩ := bd_e H1
  clear H1
  refine ev_callV (mc := 0) (ms := 0) (st := [.inr (.inr (some (0, a1))), .inr (.inr (some (11, 0)))]) (C11_causeByTime hq) md_X11_causeByTime im_X11_causeByTime se_X11_causeByTime ml_X11_537 dX11_checkTimes_66 _ (by decide) (K := ?_)
  obtain ⟨h3, hq, H3⟩ := bd_e H2
  clear H2
  refine ev_callV (mc := 0) (ms := 0) (st := []) (C11_endIf hq) md_X11_endIf im_X11_endIf se_X11_endIf ml_X11_394 dX11_checkTimes_69 _ (by decide) (K := ?_)
  refine ev_lv [0, 1] [(0, .inr (.inr (some (11, 0)))), (1, .inl (l1))] (k := ?_)
  exact E11_checkTimes_72 k2 hk2 l1 h3 _ H3
set_option maxRecDepth 100000 in
set_option maxHeartbeats 4000000 in
theorem E11_checkTimes_2b (k2 : Int → JM → Option JM) (hk2 : ∀ (l1 : Int) (h : JM) (res : JM), k2 l1 h = some res → Ev j_W1 6 0 0 T11_checkTimes 2 [(0, .inr (.inr (some (11, 0)))), (1, .inl (l1))] [] h none res) (l1 : Int) (h : JM) (res : JM) (H : F11_checkTimes_2b k2 l1 h = some res) : Ev j_W1 6 0 0 T11_checkTimes 2 [(0, .inr (.inr (some (11, 0)))), (1, .inl (l1))] [] h none res := by
  unfold F11_checkTimes_2b at H
  refine ev_iload_n 1 dX11_checkTimes_2 (k := ?_)
  refine ev_aload_n 0 dX11_checkTimes_3 (k := ?_)
  refine ev_getI (x := h.1 11 0 11) fl_X11_452 dX11_checkTimes_4 (K := ?_)
  refine ev_icmpge 78 dX11_checkTimes_7 (kt := fun hc => ?_) (kf := fun hc => ?_)
  · replace H := if_pe hc H
    cases H
    exact ev_return dX11_checkTimes_78
  · replace H := if_ne hc H
    refine ev_aload_n 0 dX11_checkTimes_10 (k := ?_)
    refine ev_getR (t := 40) (x := some (40, 0)) fl_X11_23 dX11_checkTimes_11 (hx := ry_11_4 _ _) (K := ?_)
    refine ev_iload_n 1 dX11_checkTimes_14 (k := ?_)
    obtain ⟨⟨hi0, hi1⟩, H1⟩ := g_e H
    clear H
    refine ev_aaload (k := 40) 0 (x := Option.map (Prod.mk 0) (h.2.2 40 0 l1)) hi0 hi1 dX11_checkTimes_15 (hc := ac_40) (hlen := ln_40 _ _) (hx := rz_40 _ _ _) (K := ?_)
    refine ev_astore_n [(2, .inr (.inr (Option.map (Prod.mk 0) (h.2.2 40 0 l1)))), (0, .inr (.inr (some (11, 0)))), (1, .inl (l1))] dX11_checkTimes_16 (k := ?_)
    refine ev_aload_n 0 dX11_checkTimes_17 (k := ?_)
    obtain ⟨a4, ea4, H2⟩ := bd_e H1
    clear H1
    rw [ea4]
    refine ev_getI (x := h.1 0 a4 9) fl_X11_210 dX11_checkTimes_18 (K := ?_)
    refine ev_iconst dX11_checkTimes_21 (k := ?_)
    refine ev_icmpne 53 dX11_checkTimes_22 (kt := fun hc => ?_) (kf := fun hc => ?_)
    · replace H2 := if_ne hc H2
      refine ev_lv [1, 2, 0] [(0, .inr (.inr (some (11, 0)))), (1, .inl (l1)), (2, .inr (.inr (some (0, a4))))] (k := ?_)
      exact E11_checkTimes_53 k2 hk2 l1 (some a4) h _ H2
    · replace H2 := if_pe hc H2
      refine ev_aload_n 0 dX11_checkTimes_25 (k := ?_)
      refine ev_getR (t := 4) (x := Option.map (Prod.mk 4) (h.2.2 0 a4 3)) fl_X11_237 dX11_checkTimes_26 (hx := ry_0_3 _ _) (K := ?_)
      refine ev_nullK (h.2.2 0 a4 3) 53 dX11_checkTimes_29 (kt := fun hc => ?_) (kf := fun hc => ?_)
      · replace H2 := if_pe hc H2
        refine ev_lv [1, 2, 0] [(0, .inr (.inr (some (11, 0)))), (1, .inl (l1)), (2, .inr (.inr (some (0, a4))))] (k := ?_)
        exact E11_checkTimes_53 k2 hk2 l1 (some a4) h _ H2
      · replace H2 := if_ne hc H2
        refine ev_aload_n 1 dX11_checkTimes_32 (k := ?_)
        refine ev_aload_n 0 dX11_checkTimes_33 (k := ?_)
        refine ev_aload_n 0 dX11_checkTimes_34 (k := ?_)
        refine ev_getR (t := 4) (x := Option.map (Prod.mk 4) (h.2.2 0 a4 3)) fl_X11_237 dX11_checkTimes_35 (hx := ry_0_3 _ _) (K := ?_)
        refine ev_aload_n 1 dX11_checkTimes_38 (k := ?_)
        refine ev_getI (x := h.1 11 0 10) fl_X11_177 dX11_checkTimes_39 (K := ?_)
        refine ev_aload_n 0 dX11_checkTimes_42 (k := ?_)
        refine ev_getI (x := h.1 0 a4 10) fl_X11_441 dX11_checkTimes_43 (K := ?_)
        refine ev_isub dX11_checkTimes_46 (k := ?_)
        obtain ⟨h5, hq, H3⟩ := bd_e H2
        clear H2
        refine ev_callV (mc := 0) (ms := 0) (st := []) (C11_checkRinging hq) md_X11_checkRinging im_X11_checkRinging se_X11_checkRinging ml_X11_533 dX11_checkTimes_47 _ (by decide) (K := ?_)
        refine ev_goto 72 dX11_checkTimes_50 (k := ?_)
        refine ev_lv [1, 2] [(0, .inr (.inr (some (11, 0)))), (1, .inl (l1))] (k := ?_)
        exact E11_checkTimes_72 k2 hk2 l1 h5 _ H3
theorem E11_checkTimes_2 (n : Nat) : ∀ (l1 : Int) (h : JM) (res : JM), F11_checkTimes_2 n l1 h = some res → Ev j_W1 6 0 0 T11_checkTimes 2 [(0, .inr (.inr (some (11, 0)))), (1, .inl (l1))] [] h none res := by
  induction n with
  | zero =>
    intro l1 h res H
    cases H
  | succ n ih =>
    intro l1 h res H
    exact E11_checkTimes_2b (F11_checkTimes_2 n) ih l1 h res H
set_option maxRecDepth 100000 in
set_option maxHeartbeats 4000000 in
theorem C11_checkTimes {h : JM} {res : JM} (H : F11_checkTimes h = some res) : Cn j_W1 6 0 0 yX11_checkTimes cX11_checkTimes 3 none [.inr (.inr (some (11, 0)))] h none res := by
  refine Cn.by (own := RX11) (b := false) [(0, .inr (.inr (some (11, 0))))] rfl (fun z => by cases z) (by decide +kernel) (K := ?_)
  unfold F11_checkTimes at H
  refine ev_iconst dX11_checkTimes_0 (k := ?_)
  refine ev_istore_n [(1, .inl (0)), (0, .inr (.inr (some (11, 0))))] dX11_checkTimes_1 (k := ?_)
  refine ev_lv [1, 0] [(0, .inr (.inr (some (11, 0)))), (1, .inl (0))] (k := ?_)
  exact E11_checkTimes_2 j_fu 0 h _ H
-- X11_isTrunk
abbrev T11_isTrunk : JT := (RX11, cX11_isTrunk, 3, some .boolean, false)
set_option maxRecDepth 100000 in
set_option maxHeartbeats 4000000 in
theorem E11_isTrunk_23 (h : JM) (res : (Int × JM)) (H : F11_isTrunk_23 h = some res) : Ev j_W1 2 0 0 T11_isTrunk 23 [] [] h (some (.inl res.1)) res.2 := by
  unfold F11_isTrunk_23 at H
  refine ev_iconst dX11_isTrunk_23 (k := ?_)
  cases H
  exact ev_zreturn (Or.inl rfl) dX11_isTrunk_24
set_option maxRecDepth 100000 in
set_option maxHeartbeats 4000000 in
theorem C11_isTrunk {l1 : Int} {l2 : Int} {h : JM} {res : (Int × JM)} (H : F11_isTrunk l1 l2 h = some res) : Cn j_W1 2 0 0 yX11_isTrunk cX11_isTrunk 3 (some .boolean) [.inr (.inr (some (11, 0))), .inl (l1), .inl (l2)] h (some (.inl res.1)) res.2 := by
  refine Cn.by (own := RX11) (b := false) [(0, .inr (.inr (some (11, 0)))), (1, .inl (l1)), (2, .inl (l2))] rfl (fun z => by cases z) (by decide +kernel) (K := ?_)
  unfold F11_isTrunk at H
  refine ev_iload_n 1 dX11_isTrunk_0 (k := ?_)
  obtain ⟨q1, hq, H1⟩ := bd_e H
  clear H
  refine ev_callS (mc := 0) (ms := 0) (st := []) (C11_isExchange hq) md_X11_isExchange ss_X11_isExchange ml_X11_91 dX11_isTrunk_1 _ (by decide) (K := ?_)
  refine ev_ifeq 23 dX11_isTrunk_4 (kt := fun hc => ?_) (kf := fun hc => ?_)
  · replace H1 := if_pe hc H1
    refine ev_lv [] [] (k := ?_)
    exact E11_isTrunk_23 q1.2 _ H1
  · replace H1 := if_ne hc H1
    refine ev_iload_n 2 dX11_isTrunk_7 (k := ?_)
    refine ev_iflt 23 dX11_isTrunk_8 (kt := fun hc => ?_) (kf := fun hc => ?_)
    · replace H1 := if_pe hc H1
      refine ev_lv [] [] (k := ?_)
      exact E11_isTrunk_23 q1.2 _ H1
    · replace H1 := if_ne hc H1
      refine ev_iload_n 2 dX11_isTrunk_11 (k := ?_)
      refine ev_aload_n 0 dX11_isTrunk_12 (k := ?_)
      refine ev_getI (x := q1.2.1 11 0 0) fl_X11_55 dX11_isTrunk_13 (K := ?_)
      refine ev_icmpge 23 dX11_isTrunk_16 (kt := fun hc => ?_) (kf := fun hc => ?_)
      · replace H1 := if_pe hc H1
        refine ev_lv [] [] (k := ?_)
        exact E11_isTrunk_23 q1.2 _ H1
      · replace H1 := if_ne hc H1
        refine ev_iconst dX11_isTrunk_19 (k := ?_)
        refine ev_goto 24 dX11_isTrunk_20 (k := ?_)
        cases H1
        exact ev_zreturn (Or.inr rfl) dX11_isTrunk_24
-- X11_circuit
abbrev T11_circuit : JT := (RX11, cX11_circuit, 3, some .int, false)
set_option maxRecDepth 100000 in
set_option maxHeartbeats 4000000 in
theorem C11_circuit {l1 : Int} {l2 : Int} {h : JM} {res : (Int × JM)} (H : F11_circuit l1 l2 h = some res) : Cn j_W1 3 0 0 yX11_circuit cX11_circuit 3 (some .int) [.inr (.inr (some (11, 0))), .inl (l1), .inl (l2)] h (some (.inl res.1)) res.2 := by
  refine Cn.by (own := RX11) (b := false) [(0, .inr (.inr (some (11, 0)))), (1, .inl (l1)), (2, .inl (l2))] rfl (fun z => by cases z) (by decide +kernel) (K := ?_)
  unfold F11_circuit at H
  refine ev_aload_n 0 dX11_circuit_0 (k := ?_)
  refine ev_iload_n 1 dX11_circuit_1 (k := ?_)
  refine ev_iload_n 2 dX11_circuit_2 (k := ?_)
  obtain ⟨q1, hq, H1⟩ := bd_e H
  clear H
  refine ev_callV (mc := 0) (ms := 0) (st := []) (C11_isTrunk hq) md_X11_isTrunk im_X11_isTrunk se_X11_isTrunk ml_X11_246 dX11_circuit_3 _ (by decide) (K := ?_)
  refine ev_ifeq 26 dX11_circuit_6 (kt := fun hc => ?_) (kf := fun hc => ?_)
  · replace H1 := if_pe hc H1
    refine ev_bipush dX11_circuit_26 (k := ?_)
    cases H1
    exact ev_ireturn dX11_circuit_28
  · replace H1 := if_ne hc H1
    refine ev_aload_n 0 dX11_circuit_9 (k := ?_)
    refine ev_getR (t := 38) (x := some (38, 0)) fl_X11_11 dX11_circuit_10 (hx := ry_11_2 _ _) (K := ?_)
    refine ev_iload_n 1 dX11_circuit_13 (k := ?_)
    obtain ⟨⟨hi0, hi1⟩, H2⟩ := g_e H1
    clear H1
    refine ev_aaload (k := 38) 1 (x := some (1, l1)) hi0 hi1 dX11_circuit_14 (hc := ac_38) (hlen := ln_38 _ _) (hx := rz_38 _ _ _) (K := ?_)
    refine ev_getR (t := 20) (x := some (20, l1)) fl_X11_65 dX11_circuit_15 (hx := ry_1_1 _ _) (K := ?_)
    refine ev_iload_n 2 dX11_circuit_18 (k := ?_)
    obtain ⟨⟨hi0, hi1⟩, H3⟩ := g_e H2
    clear H2
    refine ev_aaload (k := 20) 8 (x := some (8, (16 * l1 + l2))) hi0 hi1 dX11_circuit_19 (hc := ac_20) (hlen := ln_20 _ _) (hx := rz_20 _ _ _) (K := ?_)
    refine ev_getI (x := q1.2.1 8 (16 * l1 + l2) 2) fl_X11_250 dX11_circuit_20 (K := ?_)
    refine ev_goto 28 dX11_circuit_23 (k := ?_)
    cases H3
    exact ev_ireturn dX11_circuit_28
-- X11_isLine
abbrev T11_isLine : JT := (RX11, cX11_isLine, 1, some .boolean, false)
set_option maxRecDepth 100000 in
set_option maxHeartbeats 4000000 in
theorem E11_isLine_14 (h : JM) (res : (Int × JM)) (H : F11_isLine_14 h = some res) : Ev j_W1 1 0 0 T11_isLine 14 [] [] h (some (.inl res.1)) res.2 := by
  unfold F11_isLine_14 at H
  refine ev_iconst dX11_isLine_14 (k := ?_)
  cases H
  exact ev_zreturn (Or.inl rfl) dX11_isLine_15
set_option maxRecDepth 100000 in
set_option maxHeartbeats 4000000 in
theorem C11_isLine {l0 : Int} {h : JM} {res : (Int × JM)} (H : F11_isLine l0 h = some res) : Cn j_W1 1 0 0 yX11_isLine cX11_isLine 1 (some .boolean) [.inl (l0)] h (some (.inl res.1)) res.2 := by
  refine Cn.by (own := RX11) (b := false) [(0, .inl (l0))] rfl (fun z => by cases z) (by decide +kernel) (K := ?_)
  unfold F11_isLine at H
  refine ev_iload_n 0 dX11_isLine_0 (k := ?_)
  refine ev_iflt 14 dX11_isLine_1 (kt := fun hc => ?_) (kf := fun hc => ?_)
  · replace H := if_pe hc H
    refine ev_lv [] [] (k := ?_)
    exact E11_isLine_14 h _ H
  · replace H := if_ne hc H
    refine ev_iload_n 0 dX11_isLine_4 (k := ?_)
    refine ev_bipush dX11_isLine_5 (k := ?_)
    refine ev_icmpge 14 dX11_isLine_7 (kt := fun hc => ?_) (kf := fun hc => ?_)
    · replace H := if_pe hc H
      refine ev_lv [] [] (k := ?_)
      exact E11_isLine_14 h _ H
    · replace H := if_ne hc H
      refine ev_iconst dX11_isLine_10 (k := ?_)
      refine ev_goto 15 dX11_isLine_11 (k := ?_)
      cases H
      exact ev_zreturn (Or.inr rfl) dX11_isLine_15
-- X11_isWithin
abbrev T11_isWithin : JT := (RX11, cX11_isWithin, 3, some .boolean, false)
set_option maxRecDepth 100000 in
set_option maxHeartbeats 4000000 in
theorem E11_isWithin_14 (h : JM) (res : (Int × JM)) (H : F11_isWithin_14 h = some res) : Ev j_W1 1 0 0 T11_isWithin 14 [] [] h (some (.inl res.1)) res.2 := by
  unfold F11_isWithin_14 at H
  refine ev_iconst dX11_isWithin_14 (k := ?_)
  cases H
  exact ev_zreturn (Or.inl rfl) dX11_isWithin_15
set_option maxRecDepth 100000 in
set_option maxHeartbeats 4000000 in
theorem C11_isWithin {l0 : Int} {l1 : Int} {l2 : Int} {h : JM} {res : (Int × JM)} (H : F11_isWithin l0 l1 l2 h = some res) : Cn j_W1 1 0 0 yX11_isWithin cX11_isWithin 3 (some .boolean) [.inl (l0), .inl (l1), .inl (l2)] h (some (.inl res.1)) res.2 := by
  refine Cn.by (own := RX11) (b := false) [(0, .inl (l0)), (1, .inl (l1)), (2, .inl (l2))] rfl (fun z => by cases z) (by decide +kernel) (K := ?_)
  unfold F11_isWithin at H
  refine ev_iload_n 0 dX11_isWithin_0 (k := ?_)
  refine ev_iload_n 1 dX11_isWithin_1 (k := ?_)
  refine ev_icmplt 14 dX11_isWithin_2 (kt := fun hc => ?_) (kf := fun hc => ?_)
  · replace H := if_pe hc H
    refine ev_lv [] [] (k := ?_)
    exact E11_isWithin_14 h _ H
  · replace H := if_ne hc H
    refine ev_iload_n 0 dX11_isWithin_5 (k := ?_)
    refine ev_iload_n 2 dX11_isWithin_6 (k := ?_)
    refine ev_icmpgt 14 dX11_isWithin_7 (kt := fun hc => ?_) (kf := fun hc => ?_)
    · replace H := if_pe hc H
      refine ev_lv [] [] (k := ?_)
      exact E11_isWithin_14 h _ H
    · replace H := if_ne hc H
      refine ev_iconst dX11_isWithin_10 (k := ?_)
      refine ev_goto 15 dX11_isWithin_11 (k := ?_)
      cases H
      exact ev_zreturn (Or.inr rfl) dX11_isWithin_15
-- X11_credit
abbrev T11_credit : JT := (RX11, cX11_credit, 4, some .int, false)
set_option maxRecDepth 100000 in
set_option maxHeartbeats 4000000 in
theorem E11_credit_17 (h : JM) (res : (Int × JM)) (H : F11_credit_17 h = some res) : Ev j_W1 2 0 0 T11_credit 17 [] [] h (some (.inl res.1)) res.2 := by
  unfold F11_credit_17 at H
  refine ev_bipush dX11_credit_17 (k := ?_)
  cases H
  exact ev_ireturn dX11_credit_19
set_option maxRecDepth 100000 in
set_option maxHeartbeats 4000000 in
theorem C11_credit {l1 : Int} {l2 : Int} {h : JM} {res : (Int × JM)} (H : F11_credit l1 l2 h = some res) : Cn j_W1 2 0 0 yX11_credit cX11_credit 4 (some .int) [.inr (.inr (some (11, 0))), .inl (l1), .inl (l2)] h (some (.inl res.1)) res.2 := by
  refine Cn.by (own := RX11) (b := false) [(0, .inr (.inr (some (11, 0)))), (1, .inl (l1)), (2, .inl (l2))] rfl (fun z => by cases z) (by decide +kernel) (K := ?_)
  unfold F11_credit at H
  refine ev_iload_n 1 dX11_credit_0 (k := ?_)
  obtain ⟨q1, hq, H1⟩ := bd_e H
  clear H
  refine ev_callS (mc := 0) (ms := 0) (st := []) (C11_isLine hq) md_X11_isLine ss_X11_isLine ml_X11_115 dX11_credit_1 _ (by decide) (K := ?_)
  refine ev_ifeq 17 dX11_credit_4 (kt := fun hc => ?_) (kf := fun hc => ?_)
  · replace H1 := if_pe hc H1
    refine ev_lv [] [] (k := ?_)
    exact E11_credit_17 q1.2 _ H1
  · replace H1 := if_ne hc H1
    refine ev_iload_n 2 dX11_credit_7 (k := ?_)
    refine ev_iconst dX11_credit_8 (k := ?_)
    refine ev_ldc (n := 1000000) ct_X11_149 dX11_credit_9 (k := ?_)
    obtain ⟨q2, hq, H2⟩ := bd_e H1
    clear H1
    refine ev_callS (mc := 0) (ms := 0) (st := []) (C11_isWithin hq) md_X11_isWithin ss_X11_isWithin ml_X11_79 dX11_credit_11 _ (by decide) (K := ?_)
    refine ev_ifne 20 dX11_credit_14 (kt := fun hc => ?_) (kf := fun hc => ?_)
    · replace H2 := if_ne hc H2
      refine ev_aload_n 0 dX11_credit_20 (k := ?_)
      refine ev_getR (t := 39) (x := some (39, 0)) fl_X11_17 dX11_credit_21 (hx := ry_11_3 _ _) (K := ?_)
      refine ev_iload_n 1 dX11_credit_24 (k := ?_)
      obtain ⟨⟨hi0, hi1⟩, H3⟩ := g_e H2
      clear H2
      refine ev_aaload (k := 39) 4 (x := some (4, l1)) hi0 hi1 dX11_credit_25 (hc := ac_39) (hlen := ln_39 _ _) (hx := rz_39 _ _ _) (K := ?_)
      refine ev_getI (x := q2.2.1 4 l1 17) fl_X11_150 dX11_credit_26 (K := ?_)
      obtain ⟨x3, ex3, H4⟩ := lt_e H3
      clear H3
      refine ev_topI ex3 ?_
      refine ev_istore_n [(3, .inl (x3)), (0, .inr (.inr (some (11, 0)))), (1, .inl (l1)), (2, .inl (l2))] dX11_credit_29 (k := ?_)
      refine ev_aload_n 1 dX11_credit_30 (k := ?_)
      refine ev_getR (t := 39) (x := some (39, 0)) fl_X11_17 dX11_credit_31 (hx := ry_11_3 _ _) (K := ?_)
      refine ev_iload_n 2 dX11_credit_34 (k := ?_)
      obtain ⟨⟨hi0, hi1⟩, H5⟩ := g_e H4
      clear H4
      refine ev_aaload (k := 39) 4 (x := some (4, l1)) hi0 hi1 dX11_credit_35 (hc := ac_39) (hlen := ln_39 _ _) (hx := rz_39 _ _ _) (K := ?_)
      refine ev_iload_n 3 dX11_credit_36 (k := ?_)
      obtain ⟨h4, eh4, H6⟩ := lt_e H5
      clear H5
      refine ev_putI j_ok1 fl_X11_150 eh4 dX11_credit_37 (K := ?_)
      refine ev_iload_n 0 dX11_credit_40 (k := ?_)
      cases H6
      exact ev_ireturn dX11_credit_41
    · replace H2 := if_pe hc H2
      refine ev_lv [] [] (k := ?_)
      exact E11_credit_17 q2.2 _ H2
-- X11_dial
abbrev T11_dial : JT := (RX11, cX11_dial, 4, some .int, false)
set_option maxRecDepth 100000 in
set_option maxHeartbeats 4000000 in
theorem E11_dial_29 (h : JM) (res : (Int × JM)) (H : F11_dial_29 h = some res) : Ev j_W1 2 0 0 T11_dial 29 [] [] h (some (.inl res.1)) res.2 := by
  unfold F11_dial_29 at H
  refine ev_bipush dX11_dial_29 (k := ?_)
  cases H
  exact ev_ireturn dX11_dial_31
set_option maxRecDepth 100000 in
set_option maxHeartbeats 4000000 in
theorem C11_dial {l1 : Int} {l2 : Int} {h : JM} {res : (Int × JM)} (H : F11_dial l1 l2 h = some res) : Cn j_W1 2 0 0 yX11_dial cX11_dial 4 (some .int) [.inr (.inr (some (11, 0))), .inl (l1), .inl (l2)] h (some (.inl res.1)) res.2 := by
  refine Cn.by (own := RX11) (b := false) [(0, .inr (.inr (some (11, 0)))), (1, .inl (l1)), (2, .inl (l2))] rfl (fun z => by cases z) (by decide +kernel) (K := ?_)
  unfold F11_dial at H
  refine ev_iload_n 1 dX11_dial_0 (k := ?_)
  obtain ⟨q1, hq, H1⟩ := bd_e H
  clear H
  refine ev_callS (mc := 0) (ms := 0) (st := []) (C11_isLine hq) md_X11_isLine ss_X11_isLine ml_X11_115 dX11_dial_1 _ (by decide) (K := ?_)
  refine ev_ifeq 29 dX11_dial_4 (kt := fun hc => ?_) (kf := fun hc => ?_)
  · replace H1 := if_pe hc H1
    refine ev_lv [] [] (k := ?_)
    exact E11_dial_29 q1.2 _ H1
  · replace H1 := if_ne hc H1
    refine ev_iload_n 2 dX11_dial_7 (k := ?_)
    refine ev_iconst dX11_dial_8 (k := ?_)
    refine ev_bipush dX11_dial_9 (k := ?_)
    obtain ⟨q2, hq, H2⟩ := bd_e H1
    clear H1
    refine ev_callS (mc := 0) (ms := 0) (st := []) (C11_isWithin hq) md_X11_isWithin ss_X11_isWithin ml_X11_79 dX11_dial_11 _ (by decide) (K := ?_)
    refine ev_ifeq 29 dX11_dial_14 (kt := fun hc => ?_) (kf := fun hc => ?_)
    · replace H2 := if_pe hc H2
      refine ev_lv [] [] (k := ?_)
      exact E11_dial_29 q2.2 _ H2
    · replace H2 := if_ne hc H2
      refine ev_aload_n 0 dX11_dial_17 (k := ?_)
      refine ev_getR (t := 39) (x := some (39, 0)) fl_X11_17 dX11_dial_18 (hx := ry_11_3 _ _) (K := ?_)
      refine ev_iload_n 1 dX11_dial_21 (k := ?_)
      obtain ⟨⟨hi0, hi1⟩, H3⟩ := g_e H2
      clear H2
      refine ev_aaload (k := 39) 4 (x := some (4, l1)) hi0 hi1 dX11_dial_22 (hc := ac_39) (hlen := ln_39 _ _) (hx := rz_39 _ _ _) (K := ?_)
      refine ev_getI (x := q2.2.1 4 l1 6) fl_X11_157 dX11_dial_23 (K := ?_)
      refine ev_ifne 32 dX11_dial_26 (kt := fun hc => ?_) (kf := fun hc => ?_)
      · replace H3 := if_ne hc H3
        refine ev_aload_n 0 dX11_dial_32 (k := ?_)
        refine ev_getR (t := 39) (x := some (39, 0)) fl_X11_17 dX11_dial_33 (hx := ry_11_3 _ _) (K := ?_)
        refine ev_iload_n 1 dX11_dial_36 (k := ?_)
        obtain ⟨⟨hi0, hi1⟩, H4⟩ := g_e H3
        clear H3
        refine ev_aaload (k := 39) 4 (x := some (4, l1)) hi0 hi1 dX11_dial_37 (hc := ac_39) (hlen := ln_39 _ _) (hx := rz_39 _ _ _) (K := ?_)
        refine ev_astore_n [(3, .inr (.inr (some (4, l1)))), (0, .inr (.inr (some (11, 0)))), (1, .inl (l1)), (2, .inl (l2))] dX11_dial_38 (k := ?_)
        refine ev_aload_n 0 dX11_dial_39 (k := ?_)
        refine ev_getI (x := q2.2.1 4 l1 4) fl_X11_160 dX11_dial_40 (K := ?_)
        refine ev_bipush dX11_dial_43 (k := ?_)
        refine ev_icmplt 51 dX11_dial_45 (kt := fun hc => ?_) (kf := fun hc => ?_)
        · replace H4 := if_pe hc H4
          refine ev_aload_n 0 dX11_dial_51 (k := ?_)
          refine ev_getR (t := 30) (x := some (30, l1)) fl_X11_163 dX11_dial_52 (hx := ry_4_3 _ _) (K := ?_)
          refine ev_aload_n 0 dX11_dial_55 (k := ?_)
          refine ev_getI (x := q2.2.1 4 l1 4) fl_X11_160 dX11_dial_56 (K := ?_)
          refine ev_iload_n 3 dX11_dial_59 (k := ?_)
          refine ev_i2b dX11_dial_60 (k := ?_)
          obtain ⟨⟨hi0, hi1⟩, H5⟩ := g_e H4
          clear H4
          obtain ⟨h3, eh3, H6⟩ := lt_e H5
          clear H5
          refine ev_bastore (k := 30) j_ok1 hi0 hi1 eh3 dX11_dial_61 (hc := ac_30) (hlen := ln_30 _ _) (K := ?_)
          refine ev_aload_n 0 dX11_dial_62 (k := ?_)
          refine ev_dup dX11_dial_63 (k := ?_)
          refine ev_getI (x := h3.1 4 l1 4) fl_X11_160 dX11_dial_64 (K := ?_)
          refine ev_iconst dX11_dial_67 (k := ?_)
          refine ev_iadd dX11_dial_68 (k := ?_)
          obtain ⟨h4, eh4, H7⟩ := lt_e H6
          clear H6
          refine ev_putI j_ok1 fl_X11_160 eh4 dX11_dial_69 (K := ?_)
          refine ev_aload_n 0 dX11_dial_72 (k := ?_)
          refine ev_getI (x := h4.1 4 l1 4) fl_X11_160 dX11_dial_73 (K := ?_)
          cases H7
          exact ev_ireturn dX11_dial_76
        · replace H4 := if_ne hc H4
          refine ev_bipush dX11_dial_48 (k := ?_)
          cases H4
          exact ev_ireturn dX11_dial_50
      · replace H3 := if_pe hc H3
        refine ev_lv [] [] (k := ?_)
        exact E11_dial_29 q2.2 _ H3
-- X11_feature
abbrev T11_feature : JT := (RX11, cX11_feature, 5, some .int, false)
set_option maxRecDepth 100000 in
set_option maxHeartbeats 4000000 in
theorem E11_feature_16 (h : JM) (res : (Int × JM)) (H : F11_feature_16 h = some res) : Ev j_W1 2 0 0 T11_feature 16 [] [] h (some (.inl res.1)) res.2 := by
  unfold F11_feature_16 at H
  refine ev_bipush dX11_feature_16 (k := ?_)
  cases H
  exact ev_ireturn dX11_feature_18
set_option maxRecDepth 100000 in
set_option maxHeartbeats 4000000 in
theorem C11_feature {l1 : Int} {l2 : Int} {l3 : Int} {h : JM} {res : (Int × JM)} (H : F11_feature l1 l2 l3 h = some res) : Cn j_W1 2 0 0 yX11_feature cX11_feature 5 (some .int) [.inr (.inr (some (11, 0))), .inl (l1), .inl (l2), .inl (l3)] h (some (.inl res.1)) res.2 := by
  refine Cn.by (own := RX11) (b := false) [(0, .inr (.inr (some (11, 0)))), (1, .inl (l1)), (2, .inl (l2)), (3, .inl (l3))] rfl (fun z => by cases z) (by decide +kernel) (K := ?_)
  unfold F11_feature at H
  refine ev_iload_n 1 dX11_feature_0 (k := ?_)
  obtain ⟨q1, hq, H1⟩ := bd_e H
  clear H
  refine ev_callS (mc := 0) (ms := 0) (st := []) (C11_isLine hq) md_X11_isLine ss_X11_isLine ml_X11_115 dX11_feature_1 _ (by decide) (K := ?_)
  refine ev_ifeq 16 dX11_feature_4 (kt := fun hc => ?_) (kf := fun hc => ?_)
  · replace H1 := if_pe hc H1
    refine ev_lv [] [] (k := ?_)
    exact E11_feature_16 q1.2 _ H1
  · replace H1 := if_ne hc H1
    refine ev_iload_n 2 dX11_feature_7 (k := ?_)
    refine ev_iconst dX11_feature_8 (k := ?_)
    refine ev_iconst dX11_feature_9 (k := ?_)
    obtain ⟨q2, hq, H2⟩ := bd_e H1
    clear H1
    refine ev_callS (mc := 0) (ms := 0) (st := []) (C11_isWithin hq) md_X11_isWithin ss_X11_isWithin ml_X11_79 dX11_feature_10 _ (by decide) (K := ?_)
    refine ev_ifne 19 dX11_feature_13 (kt := fun hc => ?_) (kf := fun hc => ?_)
    · replace H2 := if_ne hc H2
      refine ev_aload_n 0 dX11_feature_19 (k := ?_)
      refine ev_getR (t := 39) (x := some (39, 0)) fl_X11_17 dX11_feature_20 (hx := ry_11_3 _ _) (K := ?_)
      refine ev_iload_n 1 dX11_feature_23 (k := ?_)
      obtain ⟨⟨hi0, hi1⟩, H3⟩ := g_e H2
      clear H2
      refine ev_aaload (k := 39) 4 (x := some (4, l1)) hi0 hi1 dX11_feature_24 (hc := ac_39) (hlen := ln_39 _ _) (hx := rz_39 _ _ _) (K := ?_)
      refine ev_getR (t := 28) (x := some (28, l1)) fl_X11_137 dX11_feature_25 (hx := ry_4_1 _ _) (K := ?_)
      refine ev_iload_n 2 dX11_feature_28 (k := ?_)
      obtain ⟨⟨hi0, hi1⟩, H4⟩ := g_e H3
      clear H3
      refine ev_zaload (k := 28) hi0 hi1 dX11_feature_29 (hc := ac_28) (hlen := ln_28 _ _) (K := ?_)
      obtain ⟨x3, ex3, H5⟩ := lt_e H4
      clear H4
      refine ev_topI ex3 ?_
      refine ev_istore [(4, .inl (x3)), (0, .inr (.inr (some (11, 0)))), (1, .inl (l1)), (2, .inl (l2)), (3, .inl (l3))] dX11_feature_30 (k := ?_)
      refine ev_aload_n 1 dX11_feature_32 (k := ?_)
      refine ev_getR (t := 39) (x := some (39, 0)) fl_X11_17 dX11_feature_33 (hx := ry_11_3 _ _) (K := ?_)
      refine ev_iload_n 2 dX11_feature_36 (k := ?_)
      obtain ⟨⟨hi0, hi1⟩, H6⟩ := g_e H5
      clear H5
      refine ev_aaload (k := 39) 4 (x := some (4, l1)) hi0 hi1 dX11_feature_37 (hc := ac_39) (hlen := ln_39 _ _) (hx := rz_39 _ _ _) (K := ?_)
      refine ev_getR (t := 28) (x := some (28, l1)) fl_X11_137 dX11_feature_38 (hx := ry_4_1 _ _) (K := ?_)
      refine ev_iload_n 3 dX11_feature_41 (k := ?_)
      refine ev_iload_n 4 dX11_feature_42 (k := ?_)
      obtain ⟨⟨hi0, hi1⟩, H7⟩ := g_e H6
      clear H6
      obtain ⟨hz, H8⟩ := g_e H7
      clear H7
      obtain ⟨h4, eh4, H9⟩ := lt_e H8
      clear H8
      refine ev_zastore (k := 28) j_ok1 hi0 hi1 hz eh4 dX11_feature_43 (hc := ac_28) (hlen := ln_28 _ _) (K := ?_)
      refine ev_iload 0 dX11_feature_44 (k := ?_)
      refine ev_ifeq 53 dX11_feature_46 (kt := fun hc => ?_) (kf := fun hc => ?_)
      · replace H9 := if_pe hc H9
        refine ev_iconst dX11_feature_53 (k := ?_)
        cases H9
        exact ev_ireturn dX11_feature_54
      · replace H9 := if_ne hc H9
        refine ev_iconst dX11_feature_49 (k := ?_)
        refine ev_goto 54 dX11_feature_50 (k := ?_)
        cases H9
        exact ev_ireturn dX11_feature_54
    · replace H2 := if_pe hc H2
      refine ev_lv [] [] (k := ?_)
      exact E11_feature_16 q2.2 _ H2
-- X11_firstWaiting
abbrev T11_firstWaiting : JT := (RX11, cX11_firstWaiting, 5, some (.object "TelephoneTown$Call"), false)
set_option maxRecDepth 100000 in
set_option maxHeartbeats 4000000 in
theorem E11_firstWaiting_57 (k4 : Option Int → Option Int → Int → JM → Option (Option Int × JM)) (hk4 : ∀ (l1 : Option Int) (l2 : Option Int) (l3 : Int) (h : JM) (res : (Option Int × JM)), k4 l1 l2 l3 h = some res → Ev j_W1 1 0 0 T11_firstWaiting 4 [(0, .inr (.inr (some (11, 0)))), (1, .inr (.inr (Option.map (Prod.mk 2) (l1)))), (2, .inr (.inr (Option.map (Prod.mk 0) (l2)))), (3, .inl (l3))] [] h (some (.inr (.inr (Option.map (Prod.mk 0) res.1)))) res.2) (l1 : Option Int) (l2 : Option Int) (l3 : Int) (h : JM) (res : (Option Int × JM)) (H : F11_firstWaiting_57 k4 l1 l2 l3 h = some res) : Ev j_W1 1 0 0 T11_firstWaiting 57 [(0, .inr (.inr (some (11, 0)))), (1, .inr (.inr (Option.map (Prod.mk 2) (l1)))), (2, .inr (.inr (Option.map (Prod.mk 0) (l2)))), (3, .inl (l3))] [] h (some (.inr (.inr (Option.map (Prod.mk 0) res.1)))) res.2 := by
  unfold F11_firstWaiting_57 at H
  refine ev_iinc 3 [(3, .inl (w32 (l3 + 1))), (0, .inr (.inr (some (11, 0)))), (1, .inr (.inr (Option.map (Prod.mk 2) (l1)))), (2, .inr (.inr (Option.map (Prod.mk 0) (l2))))] dX11_firstWaiting_57 (k := ?_)
  refine ev_goto 4 dX11_firstWaiting_60 (k := ?_)
  refine ev_lv [1, 2, 3, 0] [(0, .inr (.inr (some (11, 0)))), (1, .inr (.inr (Option.map (Prod.mk 2) (l1)))), (2, .inr (.inr (Option.map (Prod.mk 0) (l2)))), (3, .inl (w32 (l3 + 1)))] (k := ?_)
  exact hk4 l1 l2 (w32 (l3 + 1)) h _ H
set_option maxRecDepth 100000 in
set_option maxHeartbeats 4000000 in
theorem E11_firstWaiting_54 (k4 : Option Int → Option Int → Int → JM → Option (Option Int × JM)) (hk4 : ∀ (l1 : Option Int) (l2 : Option Int) (l3 : Int) (h : JM) (res : (Option Int × JM)), k4 l1 l2 l3 h = some res → Ev j_W1 1 0 0 T11_firstWaiting 4 [(0, .inr (.inr (some (11, 0)))), (1, .inr (.inr (Option.map (Prod.mk 2) (l1)))), (2, .inr (.inr (Option.map (Prod.mk 0) (l2)))), (3, .inl (l3))] [] h (some (.inr (.inr (Option.map (Prod.mk 0) res.1)))) res.2) (l1 : Option Int) (l3 : Int) (l4 : Option Int) (h : JM) (res : (Option Int × JM)) (H : F11_firstWaiting_54 k4 l1 l3 l4 h = some res) : Ev j_W1 1 0 0 T11_firstWaiting 54 [(0, .inr (.inr (some (11, 0)))), (1, .inr (.inr (Option.map (Prod.mk 2) (l1)))), (3, .inl (l3)), (4, .inr (.inr (Option.map (Prod.mk 0) (l4))))] [] h (some (.inr (.inr (Option.map (Prod.mk 0) res.1)))) res.2 := by
  unfold F11_firstWaiting_54 at H
  refine ev_aload 3 dX11_firstWaiting_54 (k := ?_)
  refine ev_astore_n [(2, .inr (.inr (Option.map (Prod.mk 0) (l4)))), (0, .inr (.inr (some (11, 0)))), (1, .inr (.inr (Option.map (Prod.mk 2) (l1)))), (3, .inl (l3)), (4, .inr (.inr (Option.map (Prod.mk 0) (l4))))] dX11_firstWaiting_56 (k := ?_)
  refine ev_lv [1, 2, 0, 3] [(0, .inr (.inr (some (11, 0)))), (1, .inr (.inr (Option.map (Prod.mk 2) (l1)))), (2, .inr (.inr (Option.map (Prod.mk 0) (l4)))), (3, .inl (l3))] (k := ?_)
  exact E11_firstWaiting_57 k4 hk4 l1 l4 l3 h _ H
set_option maxRecDepth 100000 in
set_option maxHeartbeats 4000000 in
theorem E11_firstWaiting_4b (k4 : Option Int → Option Int → Int → JM → Option (Option Int × JM)) (hk4 : ∀ (l1 : Option Int) (l2 : Option Int) (l3 : Int) (h : JM) (res : (Option Int × JM)), k4 l1 l2 l3 h = some res → Ev j_W1 1 0 0 T11_firstWaiting 4 [(0, .inr (.inr (some (11, 0)))), (1, .inr (.inr (Option.map (Prod.mk 2) (l1)))), (2, .inr (.inr (Option.map (Prod.mk 0) (l2)))), (3, .inl (l3))] [] h (some (.inr (.inr (Option.map (Prod.mk 0) res.1)))) res.2) (l1 : Option Int) (l2 : Option Int) (l3 : Int) (h : JM) (res : (Option Int × JM)) (H : F11_firstWaiting_4b k4 l1 l2 l3 h = some res) : Ev j_W1 1 0 0 T11_firstWaiting 4 [(0, .inr (.inr (some (11, 0)))), (1, .inr (.inr (Option.map (Prod.mk 2) (l1)))), (2, .inr (.inr (Option.map (Prod.mk 0) (l2)))), (3, .inl (l3))] [] h (some (.inr (.inr (Option.map (Prod.mk 0) res.1)))) res.2 := by
  unfold F11_firstWaiting_4b at H
  refine ev_iload_n 3 dX11_firstWaiting_4 (k := ?_)
  refine ev_aload_n 0 dX11_firstWaiting_5 (k := ?_)
  refine ev_getI (x := h.1 11 0 11) fl_X11_452 dX11_firstWaiting_6 (K := ?_)
  refine ev_icmpge 63 dX11_firstWaiting_9 (kt := fun hc => ?_) (kf := fun hc => ?_)
  · replace H := if_pe hc H
    refine ev_aload_n 2 dX11_firstWaiting_63 (k := ?_)
    cases H
    exact ev_areturn dX11_firstWaiting_64
  · replace H := if_ne hc H
    refine ev_aload_n 0 dX11_firstWaiting_12 (k := ?_)
    refine ev_getR (t := 40) (x := some (40, 0)) fl_X11_23 dX11_firstWaiting_13 (hx := ry_11_4 _ _) (K := ?_)
    refine ev_iload_n 3 dX11_firstWaiting_16 (k := ?_)
    obtain ⟨⟨hi0, hi1⟩, H1⟩ := g_e H
    clear H
    refine ev_aaload (k := 40) 0 (x := Option.map (Prod.mk 0) (h.2.2 40 0 l3)) hi0 hi1 dX11_firstWaiting_17 (hc := ac_40) (hlen := ln_40 _ _) (hx := rz_40 _ _ _) (K := ?_)
    refine ev_astore [(4, .inr (.inr (Option.map (Prod.mk 0) (h.2.2 40 0 l3)))), (0, .inr (.inr (some (11, 0)))), (1, .inr (.inr (Option.map (Prod.mk 2) (l1)))), (2, .inr (.inr (Option.map (Prod.mk 0) (l2)))), (3, .inl (l3))] dX11_firstWaiting_18 (k := ?_)
    refine ev_aload 0 dX11_firstWaiting_20 (k := ?_)
    obtain ⟨a1, ea1, H2⟩ := bd_e H1
    clear H1
    rw [ea1]
    refine ev_getI (x := h.1 0 a1 9) fl_X11_210 dX11_firstWaiting_22 (K := ?_)
    refine ev_iconst dX11_firstWaiting_25 (k := ?_)
    refine ev_icmpne 57 dX11_firstWaiting_26 (kt := fun hc => ?_) (kf := fun hc => ?_)
    · replace H2 := if_ne hc H2
      refine ev_lv [1, 2, 3, 4] [(0, .inr (.inr (some (11, 0)))), (1, .inr (.inr (Option.map (Prod.mk 2) (l1)))), (2, .inr (.inr (Option.map (Prod.mk 0) (l2)))), (3, .inl (l3))] (k := ?_)
      exact E11_firstWaiting_57 k4 hk4 l1 l2 l3 h _ H2
    · replace H2 := if_pe hc H2
      refine ev_aload 0 dX11_firstWaiting_29 (k := ?_)
      refine ev_getR (t := 2) (x := Option.map (Prod.mk 2) (h.2.2 0 a1 5)) fl_X11_495 dX11_firstWaiting_31 (hx := ry_0_5 _ _) (K := ?_)
      refine ev_aload_n 2 dX11_firstWaiting_34 (k := ?_)
      refine ev_acmpneK (h.2.2 0 a1 5) l1 57 dX11_firstWaiting_35 (kt := fun hc => ?_) (kf := fun hc => ?_)
      · replace H2 := if_ne hc H2
        refine ev_lv [1, 2, 3, 4] [(0, .inr (.inr (some (11, 0)))), (1, .inr (.inr (Option.map (Prod.mk 2) (l1)))), (2, .inr (.inr (Option.map (Prod.mk 0) (l2)))), (3, .inl (l3))] (k := ?_)
        exact E11_firstWaiting_57 k4 hk4 l1 l2 l3 h _ H2
      · replace H2 := if_pe hc H2
        refine ev_aload_n 3 dX11_firstWaiting_38 (k := ?_)
        refine ev_nullK l2 54 dX11_firstWaiting_39 (kt := fun hc => ?_) (kf := fun hc => ?_)
        · replace H2 := if_pe hc H2
          refine ev_lv [1, 2, 4, 0] [(0, .inr (.inr (some (11, 0)))), (1, .inr (.inr (Option.map (Prod.mk 2) (l1)))), (3, .inl (l3)), (4, .inr (.inr (some (0, a1))))] (k := ?_)
          exact E11_firstWaiting_54 k4 hk4 l1 l3 (some a1) h _ H2
        · replace H2 := if_ne hc H2
          refine ev_aload 0 dX11_firstWaiting_42 (k := ?_)
          refine ev_getI (x := h.1 0 a1 14) fl_X11_548 dX11_firstWaiting_44 (K := ?_)
          refine ev_aload_n 3 dX11_firstWaiting_47 (k := ?_)
          obtain ⟨a2, ea2, H3⟩ := bd_e H2
          clear H2
          rw [ea2]
          refine ev_getI (x := h.1 0 a2 14) fl_X11_548 dX11_firstWaiting_48 (K := ?_)
          refine ev_icmpge 57 dX11_firstWaiting_51 (kt := fun hc => ?_) (kf := fun hc => ?_)
          · replace H3 := if_pe hc H3
            refine ev_lv [1, 2, 3, 4] [(0, .inr (.inr (some (11, 0)))), (1, .inr (.inr (Option.map (Prod.mk 2) (l1)))), (2, .inr (.inr (some (0, a2)))), (3, .inl (l3))] (k := ?_)
            exact E11_firstWaiting_57 k4 hk4 l1 (some a2) l3 h _ H3
          · replace H3 := if_ne hc H3
            refine ev_lv [1, 2, 4, 0] [(0, .inr (.inr (some (11, 0)))), (1, .inr (.inr (Option.map (Prod.mk 2) (l1)))), (3, .inl (l3)), (4, .inr (.inr (some (0, a1))))] (k := ?_)
            exact E11_firstWaiting_54 k4 hk4 l1 l3 (some a1) h _ H3
theorem E11_firstWaiting_4 (n : Nat) : ∀ (l1 : Option Int) (l2 : Option Int) (l3 : Int) (h : JM) (res : (Option Int × JM)), F11_firstWaiting_4 n l1 l2 l3 h = some res → Ev j_W1 1 0 0 T11_firstWaiting 4 [(0, .inr (.inr (some (11, 0)))), (1, .inr (.inr (Option.map (Prod.mk 2) (l1)))), (2, .inr (.inr (Option.map (Prod.mk 0) (l2)))), (3, .inl (l3))] [] h (some (.inr (.inr (Option.map (Prod.mk 0) res.1)))) res.2 := by
  induction n with
  | zero =>
    intro l1 l2 l3 h res H
    cases H
  | succ n ih =>
    intro l1 l2 l3 h res H
    exact E11_firstWaiting_4b (F11_firstWaiting_4 n) ih l1 l2 l3 h res H
set_option maxRecDepth 100000 in
set_option maxHeartbeats 4000000 in
theorem C11_firstWaiting {l1 : Option Int} {h : JM} {res : (Option Int × JM)} (H : F11_firstWaiting l1 h = some res) : Cn j_W1 1 0 0 yX11_firstWaiting cX11_firstWaiting 5 (some (.object "TelephoneTown$Call")) [.inr (.inr (some (11, 0))), .inr (.inr (Option.map (Prod.mk 2) (l1)))] h (some (.inr (.inr (Option.map (Prod.mk 0) res.1)))) res.2 := by
  refine Cn.by (own := RX11) (b := false) [(0, .inr (.inr (some (11, 0)))), (1, .inr (.inr (Option.map (Prod.mk 2) (l1))))] rfl (fun z => by cases z) (by decide +kernel) (K := ?_)
  unfold F11_firstWaiting at H
  refine ev_null dX11_firstWaiting_0 (k := ?_)
  refine ev_astore_n [(2, .inr (.inr none)), (0, .inr (.inr (some (11, 0)))), (1, .inr (.inr (Option.map (Prod.mk 2) (l1))))] dX11_firstWaiting_1 (k := ?_)
  refine ev_iconst dX11_firstWaiting_2 (k := ?_)
  refine ev_istore_n [(3, .inl (0)), (2, .inr (.inr none)), (0, .inr (.inr (some (11, 0)))), (1, .inr (.inr (Option.map (Prod.mk 2) (l1))))] dX11_firstWaiting_3 (k := ?_)
  refine ev_lv [2, 3, 1, 0] [(0, .inr (.inr (some (11, 0)))), (1, .inr (.inr (Option.map (Prod.mk 2) (l1)))), (2, .inr (.inr none)), (3, .inl (0))] (k := ?_)
  exact E11_firstWaiting_4 j_fu l1 none 0 h _ H
