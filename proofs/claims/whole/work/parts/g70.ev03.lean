-- X5_take
abbrev T5_take : JT := (RX5, cX5_take, 4, some .long, false)
set_option maxRecDepth 100000 in
set_option maxHeartbeats 4000000 in
theorem E5_take_178 (l0 : Int) (h : JM) (res : (Int × JM)) (H : F5_take_178 l0 h = some res) : Ev j_W1 1 0 0 T5_take 178 [(0, .inr (.inr (some (5, l0))))] [] h (some (.inr (.inl res.1))) res.2 := by
  unfold F5_take_178 at H
  refine ev_aload_n (M := T5_take) (pc := 178) 0 dX5_take_178 (k := ?_)
  refine ev_iconst (M := T5_take) (pc := 179) dX5_take_179 (k := ?_)
  refine ev_aload_n (M := T5_take) (pc := 180) 0 dX5_take_180 (k := ?_)
  refine ev_getI (M := T5_take) (pc := 181) (x := h.1 5 l0 6) fl_X5_15 dX5_take_181 (K := ?_)
  refine ev_isub (M := T5_take) (pc := 184) dX5_take_184 (k := ?_)
  obtain ⟨h1, eh1, H1⟩ := lt_e H
  clear H
  refine ev_putI (M := T5_take) (pc := 185) j_ok1 fl_X5_15 eh1 dX5_take_185 (K := ?_)
  refine ev_ldc2 (M := T5_take) (pc := 188) (n := (-1)) cl_X5_38 dX5_take_188 (hv := cw_X5_38) (k := ?_)
  cases H1
  exact ev_lreturn (M := T5_take) (pc := 191) dX5_take_191
set_option maxRecDepth 100000 in
set_option maxHeartbeats 4000000 in
theorem E5_take_143 (h : JM) (res : (Int × JM)) (H : F5_take_143 h = some res) : Ev j_W1 1 0 0 T5_take 143 [] [] h (some (.inr (.inl res.1))) res.2 := by
  unfold F5_take_143 at H
  refine ev_ldc2 (M := T5_take) (pc := 143) (n := (-1)) cl_X5_38 dX5_take_143 (hv := cw_X5_38) (k := ?_)
  cases H
  exact ev_lreturn (M := T5_take) (pc := 146) dX5_take_146
set_option maxRecDepth 100000 in
set_option maxHeartbeats 4000000 in
theorem E5_take_115 (l0 : Int) (l1 : Option Int) (h : JM) (res : (Int × JM)) (H : F5_take_115 l0 l1 h = some res) : Ev j_W1 1 0 0 T5_take 115 [(0, .inr (.inr (some (5, l0)))), (1, .inr (.inr (Option.map (Prod.mk 9) (l1))))] [] h (some (.inr (.inl res.1))) res.2 := by
  unfold F5_take_115 at H
  refine ev_aload_n (M := T5_take) (pc := 115) 1 dX5_take_115 (k := ?_)
  obtain ⟨a2, ea2, H1⟩ := bd_e H
  clear H
  rw [ea2]
  refine ev_getI (M := T5_take) (pc := 116) (x := h.1 9 a2 2) fl_X5_50 dX5_take_116 (K := ?_)
  refine ev_aload_n (M := T5_take) (pc := 119) 0 dX5_take_119 (k := ?_)
  refine ev_getI (M := T5_take) (pc := 120) (x := h.1 5 l0 4) fl_X5_53 dX5_take_120 (K := ?_)
  refine ev_isub (M := T5_take) (pc := 123) dX5_take_123 (k := ?_)
  refine ev_bipush (M := T5_take) (pc := 124) dX5_take_124 (k := ?_)
  refine ev_iand (M := T5_take) (pc := 126) dX5_take_126 (k := ?_)
  obtain ⟨x3, ex3, H2⟩ := lt_e H1
  clear H1
  refine ev_topI ex3 ?_
  refine ev_istore_n (M := T5_take) (pc := 127) [(3, .inl (x3)), (0, .inr (.inr (some (5, l0)))), (1, .inr (.inr (some (9, a2))))] dX5_take_127 (k := ?_)
  refine ev_aload_n (M := T5_take) (pc := 128) 2 dX5_take_128 (k := ?_)
  refine ev_getI (M := T5_take) (pc := 129) (x := h.1 9 a2 3) fl_X5_59 dX5_take_129 (K := ?_)
  refine ev_aload_n (M := T5_take) (pc := 132) 1 dX5_take_132 (k := ?_)
  refine ev_getI (M := T5_take) (pc := 133) (x := h.1 5 l0 6) fl_X5_15 dX5_take_133 (K := ?_)
  refine ev_icmpne (M := T5_take) (pc := 136) 143 dX5_take_136 (kt := fun hc => ?_) (kf := fun hc => ?_)
  · replace H2 := if_ne hc H2
    refine ev_lv [] [] (k := ?_)
    exact E5_take_143 h _ H2
  · replace H2 := if_pe hc H2
    refine ev_iload_n (M := T5_take) (pc := 139) 0 dX5_take_139 (k := ?_)
    refine ev_ifne (M := T5_take) (pc := 140) 147 dX5_take_140 (kt := fun hc => ?_) (kf := fun hc => ?_)
    · replace H2 := if_ne hc H2
      refine ev_iload_n (M := T5_take) (pc := 147) 0 dX5_take_147 (k := ?_)
      refine ev_iconst (M := T5_take) (pc := 148) dX5_take_148 (k := ?_)
      refine ev_icmpne (M := T5_take) (pc := 149) 178 dX5_take_149 (kt := fun hc => ?_) (kf := fun hc => ?_)
      · replace H2 := if_ne hc H2
        refine ev_lv [1] [(0, .inr (.inr (some (5, l0))))] (k := ?_)
        exact E5_take_178 l0 h _ H2
      · replace H2 := if_pe hc H2
        refine ev_aload_n (M := T5_take) (pc := 152) 2 dX5_take_152 (k := ?_)
        refine ev_getL (M := T5_take) (pc := 153) (x := h.2.1 9 a2 4) fl_X5_40 dX5_take_153 (K := ?_)
        refine ev_ldc2 (M := T5_take) (pc := 156) (n := (-1)) cl_X5_38 dX5_take_156 (hv := cw_X5_38) (k := ?_)
        refine ev_lcmp (M := T5_take) (pc := 159) dX5_take_159 (k := ?_)
        refine ev_ifeq (M := T5_take) (pc := 160) 178 dX5_take_160 (kt := fun hc => ?_) (kf := fun hc => ?_)
        · replace H2 := if_pe hc H2
          refine ev_lv [1] [(0, .inr (.inr (some (5, l0))))] (k := ?_)
          exact E5_take_178 l0 h _ H2
        · replace H2 := if_ne hc H2
          refine ev_aload_n (M := T5_take) (pc := 163) 1 dX5_take_163 (k := ?_)
          refine ev_dup (M := T5_take) (pc := 164) dX5_take_164 (k := ?_)
          refine ev_getI (M := T5_take) (pc := 165) (x := h.1 5 l0 4) fl_X5_53 dX5_take_165 (K := ?_)
          refine ev_iconst (M := T5_take) (pc := 168) dX5_take_168 (k := ?_)
          refine ev_iadd (M := T5_take) (pc := 169) dX5_take_169 (k := ?_)
          obtain ⟨h4, eh4, H3⟩ := lt_e H2
          clear H2
          refine ev_putI (M := T5_take) (pc := 170) j_ok1 fl_X5_53 eh4 dX5_take_170 (K := ?_)
          refine ev_aload_n (M := T5_take) (pc := 173) 2 dX5_take_173 (k := ?_)
          refine ev_getL (M := T5_take) (pc := 174) (x := h4.2.1 9 a2 4) fl_X5_40 dX5_take_174 (K := ?_)
          cases H3
          exact ev_lreturn (M := T5_take) (pc := 177) dX5_take_177
    · replace H2 := if_pe hc H2
      refine ev_lv [] [] (k := ?_)
      exact E5_take_143 h _ H2
set_option maxRecDepth 100000 in
set_option maxHeartbeats 4000000 in
theorem E5_take_88 (l0 : Int) (l1 : Option Int) (h : JM) (res : (Int × JM)) (H : F5_take_88 l0 l1 h = some res) : Ev j_W1 1 0 0 T5_take 88 [(0, .inr (.inr (some (5, l0)))), (1, .inr (.inr (Option.map (Prod.mk 9) (l1))))] [] h (some (.inr (.inl res.1))) res.2 := by
  unfold F5_take_88 at H
  refine ev_aload_n (M := T5_take) (pc := 88) 1 dX5_take_88 (k := ?_)
  obtain ⟨a5, ea5, H1⟩ := bd_e H
  clear H
  rw [ea5]
  refine ev_getI (M := T5_take) (pc := 89) (x := h.1 9 a5 1) fl_X5_60 dX5_take_89 (K := ?_)
  refine ev_aload_n (M := T5_take) (pc := 92) 0 dX5_take_92 (k := ?_)
  refine ev_getI (M := T5_take) (pc := 93) (x := h.1 5 l0 5) fl_X5_9 dX5_take_93 (K := ?_)
  refine ev_icmpeq (M := T5_take) (pc := 96) 115 dX5_take_96 (kt := fun hc => ?_) (kf := fun hc => ?_)
  · replace H1 := if_pe hc H1
    exact E5_take_115 l0 (some a5) h _ H1
  · replace H1 := if_ne hc H1
    refine ev_aload_n (M := T5_take) (pc := 99) 0 dX5_take_99 (k := ?_)
    refine ev_aload_n (M := T5_take) (pc := 100) 1 dX5_take_100 (k := ?_)
    refine ev_getI (M := T5_take) (pc := 101) (x := h.1 9 a5 1) fl_X5_60 dX5_take_101 (K := ?_)
    obtain ⟨h6, eh6, H2⟩ := lt_e H1
    clear H1
    refine ev_putI (M := T5_take) (pc := 104) j_ok1 fl_X5_9 eh6 dX5_take_104 (K := ?_)
    refine ev_aload_n (M := T5_take) (pc := 107) 0 dX5_take_107 (k := ?_)
    refine ev_aload_n (M := T5_take) (pc := 108) 0 dX5_take_108 (k := ?_)
    refine ev_getI (M := T5_take) (pc := 109) (x := h6.1 5 l0 1) fl_X5_35 dX5_take_109 (K := ?_)
    obtain ⟨h7, eh7, H3⟩ := lt_e H2
    clear H2
    refine ev_putI (M := T5_take) (pc := 112) j_ok1 fl_X5_44 eh7 dX5_take_112 (K := ?_)
    exact E5_take_115 l0 (some a5) h7 _ H3
set_option maxRecDepth 100000 in
set_option maxHeartbeats 4000000 in
theorem E5_take_18 (l0 : Int) (l1 : Option Int) (h : JM) (res : (Int × JM)) (H : F5_take_18 l0 l1 h = some res) : Ev j_W1 1 0 0 T5_take 18 [(0, .inr (.inr (some (5, l0)))), (1, .inr (.inr (Option.map (Prod.mk 9) (l1))))] [] h (some (.inr (.inl res.1))) res.2 := by
  unfold F5_take_18 at H
  refine ev_aload_n (M := T5_take) (pc := 18) 1 dX5_take_18 (k := ?_)
  obtain ⟨a8, ea8, H1⟩ := bd_e H
  clear H
  rw [ea8]
  refine ev_getI (M := T5_take) (pc := 19) (x := h.1 9 a8 5) fl_X5_61 dX5_take_19 (K := ?_)
  refine ev_ifeq (M := T5_take) (pc := 22) 29 dX5_take_22 (kt := fun hc => ?_) (kf := fun hc => ?_)
  · replace H1 := if_pe hc H1
    refine ev_aload_n (M := T5_take) (pc := 29) 1 dX5_take_29 (k := ?_)
    refine ev_getI (M := T5_take) (pc := 30) (x := h.1 9 a8 0) fl_X5_56 dX5_take_30 (K := ?_)
    refine ev_aload_n (M := T5_take) (pc := 33) 0 dX5_take_33 (k := ?_)
    refine ev_getI (M := T5_take) (pc := 34) (x := h.1 5 l0 1) fl_X5_35 dX5_take_34 (K := ?_)
    refine ev_isub (M := T5_take) (pc := 37) dX5_take_37 (k := ?_)
    refine ev_bipush (M := T5_take) (pc := 38) dX5_take_38 (k := ?_)
    refine ev_iand (M := T5_take) (pc := 40) dX5_take_40 (k := ?_)
    obtain ⟨x9, ex9, H2⟩ := lt_e H1
    clear H1
    refine ev_topI ex9 ?_
    refine ev_istore_n (M := T5_take) (pc := 41) [(2, .inl (x9)), (0, .inr (.inr (some (5, l0)))), (1, .inr (.inr (some (9, a8))))] dX5_take_41 (k := ?_)
    refine ev_iload_n (M := T5_take) (pc := 42) 0 dX5_take_42 (k := ?_)
    refine ev_aload_n (M := T5_take) (pc := 43) 1 dX5_take_43 (k := ?_)
    refine ev_getI (M := T5_take) (pc := 44) (x := h.1 5 l0 3) fl_X5_47 dX5_take_44 (K := ?_)
    refine ev_aload_n (M := T5_take) (pc := 47) 1 dX5_take_47 (k := ?_)
    refine ev_getI (M := T5_take) (pc := 48) (x := h.1 5 l0 1) fl_X5_35 dX5_take_48 (K := ?_)
    refine ev_isub (M := T5_take) (pc := 51) dX5_take_51 (k := ?_)
    refine ev_icmple (M := T5_take) (pc := 52) 59 dX5_take_52 (kt := fun hc => ?_) (kf := fun hc => ?_)
    · replace H2 := if_pe hc H2
      refine ev_aload_n (M := T5_take) (pc := 59) 1 dX5_take_59 (k := ?_)
      refine ev_dup (M := T5_take) (pc := 60) dX5_take_60 (k := ?_)
      refine ev_getI (M := T5_take) (pc := 61) (x := h.1 5 l0 1) fl_X5_35 dX5_take_61 (K := ?_)
      refine ev_iload_n (M := T5_take) (pc := 64) 0 dX5_take_64 (k := ?_)
      refine ev_iadd (M := T5_take) (pc := 65) dX5_take_65 (k := ?_)
      obtain ⟨h10, eh10, H3⟩ := lt_e H2
      clear H2
      refine ev_putI (M := T5_take) (pc := 66) j_ok1 fl_X5_35 eh10 dX5_take_66 (K := ?_)
      refine ev_aload_n (M := T5_take) (pc := 69) 1 dX5_take_69 (k := ?_)
      refine ev_getI (M := T5_take) (pc := 70) (x := h10.1 5 l0 2) fl_X5_44 dX5_take_70 (K := ?_)
      refine ev_aload_n (M := T5_take) (pc := 73) 1 dX5_take_73 (k := ?_)
      refine ev_getI (M := T5_take) (pc := 74) (x := h10.1 5 l0 1) fl_X5_35 dX5_take_74 (K := ?_)
      refine ev_icmpge (M := T5_take) (pc := 77) 88 dX5_take_77 (kt := fun hc => ?_) (kf := fun hc => ?_)
      · replace H3 := if_pe hc H3
        refine ev_lv [1, 2] [(0, .inr (.inr (some (5, l0)))), (1, .inr (.inr (some (9, a8))))] (k := ?_)
        exact E5_take_88 l0 (some a8) h10 _ H3
      · replace H3 := if_ne hc H3
        refine ev_aload_n (M := T5_take) (pc := 80) 1 dX5_take_80 (k := ?_)
        refine ev_aload_n (M := T5_take) (pc := 81) 1 dX5_take_81 (k := ?_)
        refine ev_getI (M := T5_take) (pc := 82) (x := h10.1 5 l0 1) fl_X5_35 dX5_take_82 (K := ?_)
        obtain ⟨h11, eh11, H4⟩ := lt_e H3
        clear H3
        refine ev_putI (M := T5_take) (pc := 85) j_ok1 fl_X5_44 eh11 dX5_take_85 (K := ?_)
        refine ev_lv [1, 2] [(0, .inr (.inr (some (5, l0)))), (1, .inr (.inr (some (9, a8))))] (k := ?_)
        exact E5_take_88 l0 (some a8) h11 _ H4
    · replace H2 := if_ne hc H2
      refine ev_ldc2 (M := T5_take) (pc := 55) (n := (-1)) cl_X5_38 dX5_take_55 (hv := cw_X5_38) (k := ?_)
      cases H2
      exact ev_lreturn (M := T5_take) (pc := 58) dX5_take_58
  · replace H1 := if_ne hc H1
    refine ev_ldc2 (M := T5_take) (pc := 25) (n := (-1)) cl_X5_38 dX5_take_25 (hv := cw_X5_38) (k := ?_)
    cases H1
    exact ev_lreturn (M := T5_take) (pc := 28) dX5_take_28
set_option maxRecDepth 100000 in
set_option maxHeartbeats 4000000 in
theorem C5_take {l0 : Int} {l1 : Option Int} {h : JM} {res : (Int × JM)} (H : F5_take l0 l1 h = some res) : Cn j_W1 1 0 0 yX5_take cX5_take 4 (some .long) [.inr (.inr (some (5, l0))), .inr (.inr (Option.map (Prod.mk 9) (l1)))] h (some (.inr (.inl res.1))) res.2 := by
  refine Cn.by (own := RX5) (b := false) [(0, .inr (.inr (some (5, l0)))), (1, .inr (.inr (Option.map (Prod.mk 9) (l1))))] rfl (fun z => by cases z) (by decide +kernel) (K := ?_)
  unfold F5_take at H
  refine ev_aload_n (M := T5_take) (pc := 0) 1 dX5_take_0 (k := ?_)
  obtain ⟨a12, ea12, H1⟩ := bd_e H
  clear H
  rw [ea12]
  refine ev_getI (M := T5_take) (pc := 1) (x := h.1 9 a12 5) fl_X5_61 dX5_take_1 (K := ?_)
  refine ev_iconst (M := T5_take) (pc := 4) dX5_take_4 (k := ?_)
  refine ev_icmpne (M := T5_take) (pc := 5) 18 dX5_take_5 (kt := fun hc => ?_) (kf := fun hc => ?_)
  · replace H1 := if_ne hc H1
    exact E5_take_18 l0 (some a12) h _ H1
  · replace H1 := if_pe hc H1
    refine ev_aload_n (M := T5_take) (pc := 8) 0 dX5_take_8 (k := ?_)
    refine ev_dup (M := T5_take) (pc := 9) dX5_take_9 (k := ?_)
    refine ev_getI (M := T5_take) (pc := 10) (x := h.1 5 l0 7) fl_X5_64 dX5_take_10 (K := ?_)
    refine ev_iconst (M := T5_take) (pc := 13) dX5_take_13 (k := ?_)
    refine ev_iadd (M := T5_take) (pc := 14) dX5_take_14 (k := ?_)
    obtain ⟨h13, eh13, H2⟩ := lt_e H1
    clear H1
    refine ev_putI (M := T5_take) (pc := 15) j_ok1 fl_X5_64 eh13 dX5_take_15 (K := ?_)
    exact E5_take_18 l0 (some a12) h13 _ H2
-- X6_init
abbrev T6_init : JT := (RX6, cX6_init, 7, none, true)
set_option maxRecDepth 100000 in
set_option maxHeartbeats 4000000 in
theorem C6_init {l0 : Int} {l1 : Int} {l3 : Int} {l4 : Int} {l5 : Int} {l6 : Int} {h : JM} {res : JM} (H : F6_init l0 l1 l3 l4 l5 l6 h = some res) : Cn j_W1 1 0 0 yX6_init cX6_init 7 none [.inr (.inr (some (6, l0))), .inr (.inl (l1)), .inl (l3), .inl (l4), .inl (l5), .inl (l6)] h none res := by
  refine Cn.by (own := RX6) (b := true) [(0, .inr (.inr (some (6, l0)))), (1, .inr (.inl (l1))), (3, .inl (l3)), (4, .inl (l4)), (5, .inl (l5)), (6, .inl (l6))] rfl (fun _ => rfl) (by decide +kernel) (K := ?_)
  unfold F6_init at H
  refine ev_aload_n (M := T6_init) (pc := 0) 0 dX6_init_0 (k := ?_)
  refine ev_objInit (M := T6_init) (pc := 1) (n0 := _) ml_X6_1 j_oi j_oc dX6_init_1 (by decide) (K := ?_)
  refine ev_aload_n (M := T6_init) (pc := 4) 0 dX6_init_4 (k := ?_)
  refine ev_lload_n (M := T6_init) (pc := 5) 1 dX6_init_5 (k := ?_)
  obtain ⟨h1, eh1, H1⟩ := lt_e H
  clear H
  refine ev_putLF (M := T6_init) (pc := 6) j_ok1 fl_X6_7 eh1 dX6_init_6 (K := ?_)
  refine ev_aload_n (M := T6_init) (pc := 9) 0 dX6_init_9 (k := ?_)
  refine ev_iload_n (M := T6_init) (pc := 10) 2 dX6_init_10 (k := ?_)
  obtain ⟨h2, eh2, H2⟩ := lt_e H1
  clear H1
  refine ev_putIF (M := T6_init) (pc := 11) j_ok1 fl_X6_13 eh2 dX6_init_11 (K := ?_)
  refine ev_aload_n (M := T6_init) (pc := 14) 0 dX6_init_14 (k := ?_)
  refine ev_iload (M := T6_init) (pc := 15) 3 dX6_init_15 (k := ?_)
  obtain ⟨h3, eh3, H3⟩ := lt_e H2
  clear H2
  refine ev_putIF (M := T6_init) (pc := 17) j_ok1 fl_X6_17 eh3 dX6_init_17 (K := ?_)
  refine ev_aload_n (M := T6_init) (pc := 20) 0 dX6_init_20 (k := ?_)
  refine ev_iload (M := T6_init) (pc := 21) 4 dX6_init_21 (k := ?_)
  obtain ⟨h4, eh4, H4⟩ := lt_e H3
  clear H3
  refine ev_putIF (M := T6_init) (pc := 23) j_ok1 fl_X6_20 eh4 dX6_init_23 (K := ?_)
  refine ev_aload_n (M := T6_init) (pc := 26) 0 dX6_init_26 (k := ?_)
  refine ev_iload (M := T6_init) (pc := 27) 5 dX6_init_27 (k := ?_)
  obtain ⟨h5, eh5, H5⟩ := lt_e H4
  clear H4
  refine ev_putIF (M := T6_init) (pc := 29) j_ok1 fl_X6_23 eh5 dX6_init_29 (K := ?_)
  cases H5
  exact ev_return (M := T6_init) (pc := 32) dX6_init_32
-- X7_add
abbrev T7_add : JT := (RX7, cX7_add, 5, some .int, false)
set_option maxRecDepth 100000 in
set_option maxHeartbeats 4000000 in
theorem E7_add_42 (l0 : Int) (l3 : Int) (l4 : Int) (h : JM) (res : (Int × JM)) (H : F7_add_42 l0 l3 l4 h = some res) : Ev j_W1 1 0 0 T7_add 42 [(0, .inr (.inr (some (7, l0)))), (3, .inl (l3)), (4, .inl (l4))] [] h (some (.inl res.1)) res.2 := by
  unfold F7_add_42 at H
  refine ev_aload_n (M := T7_add) (pc := 42) 0 dX7_add_42 (k := ?_)
  refine ev_getR (M := T7_add) (pc := 43) (t := 34) (x := some (34, l0)) fl_X7_9 dX7_add_43 (hx := ry_7_0 _ _) (K := ?_)
  refine ev_aload_n (M := T7_add) (pc := 46) 0 dX7_add_46 (k := ?_)
  refine ev_getI (M := T7_add) (pc := 47) (x := h.1 7 l0 2) fl_X7_18 dX7_add_47 (K := ?_)
  refine ev_iload (M := T7_add) (pc := 50) 2 dX7_add_50 (k := ?_)
  obtain ⟨⟨hi0, hi1⟩, H1⟩ := g_e H
  clear H
  obtain ⟨h1, eh1, H2⟩ := lt_e H1
  clear H1
  refine ev_iastore (M := T7_add) (pc := 52) (k := 34) j_ok1 hi0 hi1 eh1 dX7_add_52 (hc := ac_34) (hlen := ln_34 _ _) (K := ?_)
  refine ev_aload_n (M := T7_add) (pc := 53) 0 dX7_add_53 (k := ?_)
  refine ev_getR (M := T7_add) (pc := 54) (t := 35) (x := some (35, l0)) fl_X7_15 dX7_add_54 (hx := ry_7_1 _ _) (K := ?_)
  refine ev_aload_n (M := T7_add) (pc := 57) 0 dX7_add_57 (k := ?_)
  refine ev_getI (M := T7_add) (pc := 58) (x := h1.1 7 l0 2) fl_X7_18 dX7_add_58 (K := ?_)
  refine ev_iload_n (M := T7_add) (pc := 61) 1 dX7_add_61 (k := ?_)
  obtain ⟨⟨hi0, hi1⟩, H3⟩ := g_e H2
  clear H2
  obtain ⟨h2, eh2, H4⟩ := lt_e H3
  clear H3
  refine ev_iastore (M := T7_add) (pc := 62) (k := 35) j_ok1 hi0 hi1 eh2 dX7_add_62 (hc := ac_35) (hlen := ln_35 _ _) (K := ?_)
  refine ev_aload_n (M := T7_add) (pc := 63) 0 dX7_add_63 (k := ?_)
  refine ev_dup (M := T7_add) (pc := 64) dX7_add_64 (k := ?_)
  refine ev_getI (M := T7_add) (pc := 65) (x := h2.1 7 l0 2) fl_X7_18 dX7_add_65 (K := ?_)
  refine ev_iconst (M := T7_add) (pc := 68) dX7_add_68 (k := ?_)
  refine ev_iadd (M := T7_add) (pc := 69) dX7_add_69 (k := ?_)
  obtain ⟨h3, eh3, H5⟩ := lt_e H4
  clear H4
  refine ev_putI (M := T7_add) (pc := 70) j_ok1 fl_X7_18 eh3 dX7_add_70 (K := ?_)
  refine ev_aload_n (M := T7_add) (pc := 73) 0 dX7_add_73 (k := ?_)
  refine ev_getI (M := T7_add) (pc := 74) (x := h3.1 7 l0 2) fl_X7_18 dX7_add_74 (K := ?_)
  cases H5
  exact ev_ireturn (M := T7_add) (pc := 77) dX7_add_77
set_option maxRecDepth 100000 in
set_option maxHeartbeats 4000000 in
theorem E7_add_36 (l0 : Int) (l3 : Int) (l4 : Int) (h : JM) (res : (Int × JM)) (H : F7_add_36 l0 l3 l4 h = some res) : Ev j_W1 1 0 0 T7_add 36 [(0, .inr (.inr (some (7, l0)))), (3, .inl (l3)), (4, .inl (l4))] [] h (some (.inl res.1)) res.2 := by
  unfold F7_add_36 at H
  refine ev_aload_n (M := T7_add) (pc := 36) 0 dX7_add_36 (k := ?_)
  refine ev_iload (M := T7_add) (pc := 37) 2 dX7_add_37 (k := ?_)
  obtain ⟨h4, eh4, H1⟩ := lt_e H
  clear H
  refine ev_putI (M := T7_add) (pc := 39) j_ok1 fl_X7_22 eh4 dX7_add_39 (K := ?_)
  exact E7_add_42 l0 l3 l4 h4 _ H1
set_option maxRecDepth 100000 in
set_option maxHeartbeats 4000000 in
theorem C7_add {l0 : Int} {l1 : Int} {l2 : Int} {l3 : Int} {h : JM} {res : (Int × JM)} (H : F7_add l0 l1 l2 l3 h = some res) : Cn j_W1 1 0 0 yX7_add cX7_add 5 (some .int) [.inr (.inr (some (7, l0))), .inl (l1), .inl (l2), .inl (l3)] h (some (.inl res.1)) res.2 := by
  refine Cn.by (own := RX7) (b := false) [(0, .inr (.inr (some (7, l0)))), (1, .inl (l1)), (2, .inl (l2)), (3, .inl (l3))] rfl (fun z => by cases z) (by decide +kernel) (K := ?_)
  unfold F7_add at H
  refine ev_aload_n (M := T7_add) (pc := 0) 0 dX7_add_0 (k := ?_)
  refine ev_getI (M := T7_add) (pc := 1) (x := h.1 7 l0 2) fl_X7_18 dX7_add_1 (K := ?_)
  refine ev_sipush (M := T7_add) (pc := 4) dX7_add_4 (k := ?_)
  refine ev_icmplt (M := T7_add) (pc := 7) 13 dX7_add_7 (kt := fun hc => ?_) (kf := fun hc => ?_)
  · replace H := if_pe hc H
    refine ev_iconst (M := T7_add) (pc := 13) dX7_add_13 (k := ?_)
    refine ev_iload_n (M := T7_add) (pc := 14) 2 dX7_add_14 (k := ?_)
    refine ev_imul (M := T7_add) (pc := 15) dX7_add_15 (k := ?_)
    refine ev_iload_n (M := T7_add) (pc := 16) 1 dX7_add_16 (k := ?_)
    refine ev_iadd (M := T7_add) (pc := 17) dX7_add_17 (k := ?_)
    obtain ⟨x5, ex5, H1⟩ := lt_e H
    clear H
    refine ev_topI ex5 ?_
    refine ev_istore (M := T7_add) (pc := 18) [(4, .inl (x5)), (0, .inr (.inr (some (7, l0)))), (1, .inl (l1)), (2, .inl (l2)), (3, .inl (l3))] dX7_add_18 (k := ?_)
    refine ev_aload_n (M := T7_add) (pc := 20) 1 dX7_add_20 (k := ?_)
    refine ev_getI (M := T7_add) (pc := 21) (x := h.1 7 l0 2) fl_X7_18 dX7_add_21 (K := ?_)
    refine ev_ifeq (M := T7_add) (pc := 24) 36 dX7_add_24 (kt := fun hc => ?_) (kf := fun hc => ?_)
    · replace H1 := if_pe hc H1
      refine ev_lv [1, 4, 0] [(0, .inr (.inr (some (7, l0)))), (3, .inl (l3)), (4, .inl (x5))] (k := ?_)
      exact E7_add_36 l0 l3 x5 h _ H1
    · replace H1 := if_ne hc H1
      refine ev_iload (M := T7_add) (pc := 27) 0 dX7_add_27 (k := ?_)
      refine ev_aload_n (M := T7_add) (pc := 29) 1 dX7_add_29 (k := ?_)
      refine ev_getI (M := T7_add) (pc := 30) (x := h.1 7 l0 3) fl_X7_22 dX7_add_30 (K := ?_)
      refine ev_icmpge (M := T7_add) (pc := 33) 42 dX7_add_33 (kt := fun hc => ?_) (kf := fun hc => ?_)
      · replace H1 := if_pe hc H1
        refine ev_lv [1, 4, 0] [(0, .inr (.inr (some (7, l0)))), (3, .inl (l3)), (4, .inl (x5))] (k := ?_)
        exact E7_add_42 l0 l3 x5 h _ H1
      · replace H1 := if_ne hc H1
        refine ev_lv [1, 4, 0] [(0, .inr (.inr (some (7, l0)))), (3, .inl (l3)), (4, .inl (x5))] (k := ?_)
        exact E7_add_36 l0 l3 x5 h _ H1
  · replace H := if_ne hc H
    refine ev_bipush (M := T7_add) (pc := 10) dX7_add_10 (k := ?_)
    cases H
    exact ev_ireturn (M := T7_add) (pc := 12) dX7_add_12
-- X7_concern
abbrev T7_concern : JT := (RX7, cX7_concern, 3, some .boolean, false)
set_option maxRecDepth 100000 in
set_option maxHeartbeats 4000000 in
theorem E7_concern_23 (h : JM) (res : (Int × JM)) (H : F7_concern_23 h = some res) : Ev j_W1 1 0 0 T7_concern 23 [] [] h (some (.inl res.1)) res.2 := by
  unfold F7_concern_23 at H
  refine ev_iconst (M := T7_concern) (pc := 23) dX7_concern_23 (k := ?_)
  cases H
  exact ev_zreturn (M := T7_concern) (pc := 24) (Or.inl rfl) dX7_concern_24
set_option maxRecDepth 100000 in
set_option maxHeartbeats 4000000 in
theorem C7_concern {l0 : Int} {l1 : Int} {l2 : Int} {h : JM} {res : (Int × JM)} (H : F7_concern l0 l1 l2 h = some res) : Cn j_W1 1 0 0 yX7_concern cX7_concern 3 (some .boolean) [.inr (.inr (some (7, l0))), .inl (l1), .inl (l2)] h (some (.inl res.1)) res.2 := by
  refine Cn.by (own := RX7) (b := false) [(0, .inr (.inr (some (7, l0)))), (1, .inl (l1)), (2, .inl (l2))] rfl (fun z => by cases z) (by decide +kernel) (K := ?_)
  unfold F7_concern at H
  refine ev_aload_n (M := T7_concern) (pc := 0) 0 dX7_concern_0 (k := ?_)
  refine ev_getI (M := T7_concern) (pc := 1) (x := h.1 7 l0 2) fl_X7_18 dX7_concern_1 (K := ?_)
  refine ev_ifle (M := T7_concern) (pc := 4) 23 dX7_concern_4 (kt := fun hc => ?_) (kf := fun hc => ?_)
  · replace H := if_pe hc H
    refine ev_lv [] [] (k := ?_)
    exact E7_concern_23 h _ H
  · replace H := if_ne hc H
    refine ev_aload_n (M := T7_concern) (pc := 7) 0 dX7_concern_7 (k := ?_)
    refine ev_getI (M := T7_concern) (pc := 8) (x := h.1 7 l0 3) fl_X7_22 dX7_concern_8 (K := ?_)
    refine ev_iconst (M := T7_concern) (pc := 11) dX7_concern_11 (k := ?_)
    refine ev_iload_n (M := T7_concern) (pc := 12) 2 dX7_concern_12 (k := ?_)
    refine ev_imul (M := T7_concern) (pc := 13) dX7_concern_13 (k := ?_)
    refine ev_iload_n (M := T7_concern) (pc := 14) 1 dX7_concern_14 (k := ?_)
    refine ev_iadd (M := T7_concern) (pc := 15) dX7_concern_15 (k := ?_)
    refine ev_icmpne (M := T7_concern) (pc := 16) 23 dX7_concern_16 (kt := fun hc => ?_) (kf := fun hc => ?_)
    · replace H := if_ne hc H
      refine ev_lv [] [] (k := ?_)
      exact E7_concern_23 h _ H
    · replace H := if_pe hc H
      refine ev_iconst (M := T7_concern) (pc := 19) dX7_concern_19 (k := ?_)
      refine ev_goto (M := T7_concern) (pc := 20) 24 dX7_concern_20 (k := ?_)
      cases H
      exact ev_zreturn (M := T7_concern) (pc := 24) (Or.inr rfl) dX7_concern_24
-- X7_forget
abbrev T7_forget : JT := (RX7, cX7_forget, 5, none, false)
set_option maxRecDepth 100000 in
set_option maxHeartbeats 4000000 in
theorem E7_forget_94 (k5 : Int → Int → Int → Int → Int → JM → Option JM) (hk5 : ∀ (l0 : Int) (l1 : Int) (l2 : Int) (l3 : Int) (l4 : Int) (h : JM) (res : JM), k5 l0 l1 l2 l3 l4 h = some res → Ev j_W1 1 0 0 T7_forget 5 [(0, .inr (.inr (some (7, l0)))), (1, .inl (l1)), (2, .inl (l2)), (3, .inl (l3)), (4, .inl (l4))] [] h none res) (l0 : Int) (l1 : Int) (l2 : Int) (l3 : Int) (l4 : Int) (h : JM) (res : JM) (H : F7_forget_94 k5 l0 l1 l2 l3 l4 h = some res) : Ev j_W1 1 0 0 T7_forget 94 [(0, .inr (.inr (some (7, l0)))), (1, .inl (l1)), (2, .inl (l2)), (3, .inl (l3)), (4, .inl (l4))] [] h none res := by
  unfold F7_forget_94 at H
  refine ev_iinc (M := T7_forget) (pc := 94) 4 [(4, .inl (w32 (l4 + 1))), (0, .inr (.inr (some (7, l0)))), (1, .inl (l1)), (2, .inl (l2)), (3, .inl (l3))] dX7_forget_94 (k := ?_)
  refine ev_goto (M := T7_forget) (pc := 97) 5 dX7_forget_97 (k := ?_)
  refine ev_lv [1, 2, 3, 4, 0] [(0, .inr (.inr (some (7, l0)))), (1, .inl (l1)), (2, .inl (l2)), (3, .inl (l3)), (4, .inl (w32 (l4 + 1)))] (k := ?_)
  exact hk5 l0 l1 l2 l3 (w32 (l4 + 1)) h _ H
set_option maxRecDepth 100000 in
set_option maxHeartbeats 4000000 in
theorem E7_forget_88 (k5 : Int → Int → Int → Int → Int → JM → Option JM) (hk5 : ∀ (l0 : Int) (l1 : Int) (l2 : Int) (l3 : Int) (l4 : Int) (h : JM) (res : JM), k5 l0 l1 l2 l3 l4 h = some res → Ev j_W1 1 0 0 T7_forget 5 [(0, .inr (.inr (some (7, l0)))), (1, .inl (l1)), (2, .inl (l2)), (3, .inl (l3)), (4, .inl (l4))] [] h none res) (l0 : Int) (l1 : Int) (l2 : Int) (l3 : Int) (l4 : Int) (s0 : Option Int) (s1 : Int) (h : JM) (res : JM) (H : F7_forget_88 k5 l0 l1 l2 l3 l4 s0 s1 h = some res) : Ev j_W1 1 0 0 T7_forget 88 [(0, .inr (.inr (some (7, l0)))), (1, .inl (l1)), (2, .inl (l2)), (3, .inl (l3)), (4, .inl (l4))] [.inl (s1), .inr (.inr (Option.map (Prod.mk 7) (s0)))] h none res := by
  unfold F7_forget_88 at H
  obtain ⟨a1, ea1, H1⟩ := bd_e H
  clear H
  rw [ea1]
  obtain ⟨h2, eh2, H2⟩ := lt_e H1
  clear H1
  refine ev_putI (M := T7_forget) (pc := 88) j_ok1 fl_X7_22 eh2 dX7_forget_88 (K := ?_)
  refine ev_iinc (M := T7_forget) (pc := 91) 3 [(3, .inl (w32 (l3 + 1))), (0, .inr (.inr (some (7, l0)))), (1, .inl (l1)), (2, .inl (l2)), (4, .inl (l4))] dX7_forget_91 (k := ?_)
  refine ev_lv [1, 2, 3, 0, 4] [(0, .inr (.inr (some (7, l0)))), (1, .inl (l1)), (2, .inl (l2)), (3, .inl (w32 (l3 + 1))), (4, .inl (l4))] (k := ?_)
  exact E7_forget_94 k5 hk5 l0 l1 l2 (w32 (l3 + 1)) l4 h2 _ H2
set_option maxRecDepth 100000 in
set_option maxHeartbeats 4000000 in
theorem E7_forget_74 (k5 : Int → Int → Int → Int → Int → JM → Option JM) (hk5 : ∀ (l0 : Int) (l1 : Int) (l2 : Int) (l3 : Int) (l4 : Int) (h : JM) (res : JM), k5 l0 l1 l2 l3 l4 h = some res → Ev j_W1 1 0 0 T7_forget 5 [(0, .inr (.inr (some (7, l0)))), (1, .inl (l1)), (2, .inl (l2)), (3, .inl (l3)), (4, .inl (l4))] [] h none res) (l0 : Int) (l1 : Int) (l2 : Int) (l3 : Int) (l4 : Int) (s0 : Option Int) (h : JM) (res : JM) (H : F7_forget_74 k5 l0 l1 l2 l3 l4 s0 h = some res) : Ev j_W1 1 0 0 T7_forget 74 [(0, .inr (.inr (some (7, l0)))), (1, .inl (l1)), (2, .inl (l2)), (3, .inl (l3)), (4, .inl (l4))] [.inr (.inr (Option.map (Prod.mk 7) (s0)))] h none res := by
  unfold F7_forget_74 at H
  refine ev_aload_n (M := T7_forget) (pc := 74) 0 dX7_forget_74 (k := ?_)
  refine ev_getR (M := T7_forget) (pc := 75) (t := 34) (x := some (34, l0)) fl_X7_9 dX7_forget_75 (hx := ry_7_0 _ _) (K := ?_)
  refine ev_iload (M := T7_forget) (pc := 78) 4 dX7_forget_78 (k := ?_)
  obtain ⟨⟨hi0, hi1⟩, H1⟩ := g_e H
  clear H
  refine ev_iaload (M := T7_forget) (pc := 80) (k := 34) hi0 hi1 dX7_forget_80 (hc := ac_34) (hlen := ln_34 _ _) (K := ?_)
  refine ev_goto (M := T7_forget) (pc := 81) 88 dX7_forget_81 (k := ?_)
  exact E7_forget_88 k5 hk5 l0 l1 l2 l3 l4 s0 (h.1 34 l0 l4) h _ H1
set_option maxRecDepth 100000 in
set_option maxHeartbeats 4000000 in
theorem E7_forget_5b (k5 : Int → Int → Int → Int → Int → JM → Option JM) (hk5 : ∀ (l0 : Int) (l1 : Int) (l2 : Int) (l3 : Int) (l4 : Int) (h : JM) (res : JM), k5 l0 l1 l2 l3 l4 h = some res → Ev j_W1 1 0 0 T7_forget 5 [(0, .inr (.inr (some (7, l0)))), (1, .inl (l1)), (2, .inl (l2)), (3, .inl (l3)), (4, .inl (l4))] [] h none res) (l0 : Int) (l1 : Int) (l2 : Int) (l3 : Int) (l4 : Int) (h : JM) (res : JM) (H : F7_forget_5b k5 l0 l1 l2 l3 l4 h = some res) : Ev j_W1 1 0 0 T7_forget 5 [(0, .inr (.inr (some (7, l0)))), (1, .inl (l1)), (2, .inl (l2)), (3, .inl (l3)), (4, .inl (l4))] [] h none res := by
  unfold F7_forget_5b at H
  refine ev_iload (M := T7_forget) (pc := 5) 4 dX7_forget_5 (k := ?_)
  refine ev_aload_n (M := T7_forget) (pc := 7) 0 dX7_forget_7 (k := ?_)
  refine ev_getI (M := T7_forget) (pc := 8) (x := h.1 7 l0 2) fl_X7_18 dX7_forget_8 (K := ?_)
  refine ev_icmpge (M := T7_forget) (pc := 11) 100 dX7_forget_11 (kt := fun hc => ?_) (kf := fun hc => ?_)
  · replace H := if_pe hc H
    refine ev_aload_n (M := T7_forget) (pc := 100) 0 dX7_forget_100 (k := ?_)
    refine ev_iload_n (M := T7_forget) (pc := 101) 3 dX7_forget_101 (k := ?_)
    obtain ⟨h3, eh3, H1⟩ := lt_e H
    clear H
    refine ev_putI (M := T7_forget) (pc := 102) j_ok1 fl_X7_18 eh3 dX7_forget_102 (K := ?_)
    cases H1
    exact ev_return (M := T7_forget) (pc := 105) dX7_forget_105
  · replace H := if_ne hc H
    refine ev_aload_n (M := T7_forget) (pc := 14) 0 dX7_forget_14 (k := ?_)
    refine ev_getR (M := T7_forget) (pc := 15) (t := 34) (x := some (34, l0)) fl_X7_9 dX7_forget_15 (hx := ry_7_0 _ _) (K := ?_)
    refine ev_iload (M := T7_forget) (pc := 18) 4 dX7_forget_18 (k := ?_)
    obtain ⟨⟨hi0, hi1⟩, H1⟩ := g_e H
    clear H
    refine ev_iaload (M := T7_forget) (pc := 20) (k := 34) hi0 hi1 dX7_forget_20 (hc := ac_34) (hlen := ln_34 _ _) (K := ?_)
    refine ev_iconst (M := T7_forget) (pc := 21) dX7_forget_21 (k := ?_)
    refine ev_iload_n (M := T7_forget) (pc := 22) 2 dX7_forget_22 (k := ?_)
    refine ev_imul (M := T7_forget) (pc := 23) dX7_forget_23 (k := ?_)
    refine ev_iload_n (M := T7_forget) (pc := 24) 1 dX7_forget_24 (k := ?_)
    refine ev_iadd (M := T7_forget) (pc := 25) dX7_forget_25 (k := ?_)
    refine ev_icmpeq (M := T7_forget) (pc := 26) 94 dX7_forget_26 (kt := fun hc => ?_) (kf := fun hc => ?_)
    · replace H1 := if_pe hc H1
      exact E7_forget_94 k5 hk5 l0 l1 l2 l3 l4 h _ H1
    · replace H1 := if_ne hc H1
      refine ev_aload_n (M := T7_forget) (pc := 29) 0 dX7_forget_29 (k := ?_)
      refine ev_getR (M := T7_forget) (pc := 30) (t := 34) (x := some (34, l0)) fl_X7_9 dX7_forget_30 (hx := ry_7_0 _ _) (K := ?_)
      refine ev_iload_n (M := T7_forget) (pc := 33) 3 dX7_forget_33 (k := ?_)
      refine ev_aload_n (M := T7_forget) (pc := 34) 0 dX7_forget_34 (k := ?_)
      refine ev_getR (M := T7_forget) (pc := 35) (t := 34) (x := some (34, l0)) fl_X7_9 dX7_forget_35 (hx := ry_7_0 _ _) (K := ?_)
      refine ev_iload (M := T7_forget) (pc := 38) 4 dX7_forget_38 (k := ?_)
      obtain ⟨⟨hi0, hi1⟩, H2⟩ := g_e H1
      clear H1
      refine ev_iaload (M := T7_forget) (pc := 40) (k := 34) hi0 hi1 dX7_forget_40 (hc := ac_34) (hlen := ln_34 _ _) (K := ?_)
      obtain ⟨⟨hi0, hi1⟩, H3⟩ := g_e H2
      clear H2
      obtain ⟨h4, eh4, H4⟩ := lt_e H3
      clear H3
      refine ev_iastore (M := T7_forget) (pc := 41) (k := 34) j_ok1 hi0 hi1 eh4 dX7_forget_41 (hc := ac_34) (hlen := ln_34 _ _) (K := ?_)
      refine ev_aload_n (M := T7_forget) (pc := 42) 0 dX7_forget_42 (k := ?_)
      refine ev_getR (M := T7_forget) (pc := 43) (t := 35) (x := some (35, l0)) fl_X7_15 dX7_forget_43 (hx := ry_7_1 _ _) (K := ?_)
      refine ev_iload_n (M := T7_forget) (pc := 46) 3 dX7_forget_46 (k := ?_)
      refine ev_aload_n (M := T7_forget) (pc := 47) 0 dX7_forget_47 (k := ?_)
      refine ev_getR (M := T7_forget) (pc := 48) (t := 35) (x := some (35, l0)) fl_X7_15 dX7_forget_48 (hx := ry_7_1 _ _) (K := ?_)
      refine ev_iload (M := T7_forget) (pc := 51) 4 dX7_forget_51 (k := ?_)
      obtain ⟨⟨hi0, hi1⟩, H5⟩ := g_e H4
      clear H4
      refine ev_iaload (M := T7_forget) (pc := 53) (k := 35) hi0 hi1 dX7_forget_53 (hc := ac_35) (hlen := ln_35 _ _) (K := ?_)
      obtain ⟨⟨hi0, hi1⟩, H6⟩ := g_e H5
      clear H5
      obtain ⟨h5, eh5, H7⟩ := lt_e H6
      clear H6
      refine ev_iastore (M := T7_forget) (pc := 54) (k := 35) j_ok1 hi0 hi1 eh5 dX7_forget_54 (hc := ac_35) (hlen := ln_35 _ _) (K := ?_)
      refine ev_aload_n (M := T7_forget) (pc := 55) 0 dX7_forget_55 (k := ?_)
      refine ev_iload_n (M := T7_forget) (pc := 56) 3 dX7_forget_56 (k := ?_)
      refine ev_ifeq (M := T7_forget) (pc := 57) 74 dX7_forget_57 (kt := fun hc => ?_) (kf := fun hc => ?_)
      · replace H7 := if_pe hc H7
        exact E7_forget_74 k5 hk5 l0 l1 l2 l3 l4 (some l0) h5 _ H7
      · replace H7 := if_ne hc H7
        refine ev_aload_n (M := T7_forget) (pc := 60) 0 dX7_forget_60 (k := ?_)
        refine ev_getR (M := T7_forget) (pc := 61) (t := 34) (x := some (34, l0)) fl_X7_9 dX7_forget_61 (hx := ry_7_0 _ _) (K := ?_)
        refine ev_iload (M := T7_forget) (pc := 64) 4 dX7_forget_64 (k := ?_)
        obtain ⟨⟨hi0, hi1⟩, H8⟩ := g_e H7
        clear H7
        refine ev_iaload (M := T7_forget) (pc := 66) (k := 34) hi0 hi1 dX7_forget_66 (hc := ac_34) (hlen := ln_34 _ _) (K := ?_)
        refine ev_aload_n (M := T7_forget) (pc := 67) 0 dX7_forget_67 (k := ?_)
        refine ev_getI (M := T7_forget) (pc := 68) (x := h5.1 7 l0 3) fl_X7_22 dX7_forget_68 (K := ?_)
        refine ev_icmpge (M := T7_forget) (pc := 71) 84 dX7_forget_71 (kt := fun hc => ?_) (kf := fun hc => ?_)
        · replace H8 := if_pe hc H8
          refine ev_aload_n (M := T7_forget) (pc := 84) 0 dX7_forget_84 (k := ?_)
          refine ev_getI (M := T7_forget) (pc := 85) (x := h5.1 7 l0 3) fl_X7_22 dX7_forget_85 (K := ?_)
          exact E7_forget_88 k5 hk5 l0 l1 l2 l3 l4 (some l0) (h5.1 7 l0 3) h5 _ H8
        · replace H8 := if_ne hc H8
          exact E7_forget_74 k5 hk5 l0 l1 l2 l3 l4 (some l0) h5 _ H8
theorem E7_forget_5 (n : Nat) : ∀ (l0 : Int) (l1 : Int) (l2 : Int) (l3 : Int) (l4 : Int) (h : JM) (res : JM), F7_forget_5 n l0 l1 l2 l3 l4 h = some res → Ev j_W1 1 0 0 T7_forget 5 [(0, .inr (.inr (some (7, l0)))), (1, .inl (l1)), (2, .inl (l2)), (3, .inl (l3)), (4, .inl (l4))] [] h none res := by
  induction n with
  | zero =>
    intro l0 l1 l2 l3 l4 h res H
    cases H
  | succ n ih =>
    intro l0 l1 l2 l3 l4 h res H
    exact E7_forget_5b (F7_forget_5 n) ih l0 l1 l2 l3 l4 h res H
set_option maxRecDepth 100000 in
set_option maxHeartbeats 4000000 in
theorem C7_forget {l0 : Int} {l1 : Int} {l2 : Int} {h : JM} {res : JM} (H : F7_forget l0 l1 l2 h = some res) : Cn j_W1 1 0 0 yX7_forget cX7_forget 5 none [.inr (.inr (some (7, l0))), .inl (l1), .inl (l2)] h none res := by
  refine Cn.by (own := RX7) (b := false) [(0, .inr (.inr (some (7, l0)))), (1, .inl (l1)), (2, .inl (l2))] rfl (fun z => by cases z) (by decide +kernel) (K := ?_)
  unfold F7_forget at H
  refine ev_iconst (M := T7_forget) (pc := 0) dX7_forget_0 (k := ?_)
  refine ev_istore_n (M := T7_forget) (pc := 1) [(3, .inl (0)), (0, .inr (.inr (some (7, l0)))), (1, .inl (l1)), (2, .inl (l2))] dX7_forget_1 (k := ?_)
  refine ev_iconst (M := T7_forget) (pc := 2) dX7_forget_2 (k := ?_)
  refine ev_istore (M := T7_forget) (pc := 3) [(4, .inl (0)), (3, .inl (0)), (0, .inr (.inr (some (7, l0)))), (1, .inl (l1)), (2, .inl (l2))] dX7_forget_3 (k := ?_)
  refine ev_lv [2, 3, 4, 1, 0] [(0, .inr (.inr (some (7, l0)))), (1, .inl (l1)), (2, .inl (l2)), (3, .inl (0)), (4, .inl (0))] (k := ?_)
  exact E7_forget_5 j_fu l0 l1 l2 0 0 h _ H
-- X10_turn
abbrev T10_turn : JT := (RX10, cX10_turn, 2, none, false)
set_option maxRecDepth 100000 in
set_option maxHeartbeats 4000000 in
theorem C10_turn {l1 : Int} {h : JM} {res : JM} (H : F10_turn l1 h = some res) : Cn j_W1 1 0 0 yX10_turn cX10_turn 2 none [.inr (.inr (some (10, 0))), .inl (l1)] h none res := by
  refine Cn.by (own := RX10) (b := false) [(0, .inr (.inr (some (10, 0)))), (1, .inl (l1))] rfl (fun z => by cases z) (by decide +kernel) (K := ?_)
  unfold F10_turn at H
  refine ev_iload_n (M := T10_turn) (pc := 0) 1 dX10_turn_0 (k := ?_)
  refine ev_iflt (M := T10_turn) (pc := 1) 27 dX10_turn_1 (kt := fun hc => ?_) (kf := fun hc => ?_)
  · replace H := if_pe hc H
    cases H
    exact ev_return (M := T10_turn) (pc := 27) dX10_turn_27
  · replace H := if_ne hc H
    refine ev_iload_n (M := T10_turn) (pc := 4) 1 dX10_turn_4 (k := ?_)
    refine ev_aload_n (M := T10_turn) (pc := 5) 0 dX10_turn_5 (k := ?_)
    refine ev_getI (M := T10_turn) (pc := 6) (x := h.1 10 0 1) fl_X10_18 dX10_turn_6 (K := ?_)
    refine ev_icmpge (M := T10_turn) (pc := 9) 27 dX10_turn_9 (kt := fun hc => ?_) (kf := fun hc => ?_)
    · replace H := if_pe hc H
      cases H
      exact ev_return (M := T10_turn) (pc := 27) dX10_turn_27
    · replace H := if_ne hc H
      refine ev_aload_n (M := T10_turn) (pc := 12) 0 dX10_turn_12 (k := ?_)
      refine ev_getR (M := T10_turn) (pc := 13) (t := 36) (x := some (36, 0)) fl_X10_9 dX10_turn_13 (hx := ry_10_0 _ _) (K := ?_)
      refine ev_iload_n (M := T10_turn) (pc := 16) 1 dX10_turn_16 (k := ?_)
      refine ev_iconst (M := T10_turn) (pc := 17) dX10_turn_17 (k := ?_)
      refine ev_aload_n (M := T10_turn) (pc := 18) 0 dX10_turn_18 (k := ?_)
      refine ev_getR (M := T10_turn) (pc := 19) (t := 36) (x := some (36, 0)) fl_X10_9 dX10_turn_19 (hx := ry_10_0 _ _) (K := ?_)
      refine ev_iload_n (M := T10_turn) (pc := 22) 1 dX10_turn_22 (k := ?_)
      obtain ⟨⟨hi0, hi1⟩, H1⟩ := g_e H
      clear H
      refine ev_baload (M := T10_turn) (pc := 23) (k := 36) hi0 hi1 dX10_turn_23 (hc := ac_36) (hlen := ln_36 _ _) (K := ?_)
      refine ev_isub (M := T10_turn) (pc := 24) dX10_turn_24 (k := ?_)
      refine ev_i2b (M := T10_turn) (pc := 25) dX10_turn_25 (k := ?_)
      obtain ⟨⟨hi0, hi1⟩, H2⟩ := g_e H1
      clear H1
      obtain ⟨h1, eh1, H3⟩ := lt_e H2
      clear H2
      refine ev_bastore (M := T10_turn) (pc := 26) (k := 36) j_ok1 hi0 hi1 eh1 dX10_turn_26 (hc := ac_36) (hlen := ln_36 _ _) (K := ?_)
      cases H3
      exact ev_return (M := T10_turn) (pc := 27) dX10_turn_27
-- X7_turn
abbrev T7_turn : JT := (RX7, cX7_turn, 5, none, false)
set_option maxRecDepth 100000 in
set_option maxHeartbeats 4000000 in
theorem E7_turn_38 (k3 : Int → Int → Int → Option Int → Int → JM → Option JM) (hk3 : ∀ (l0 : Int) (l1 : Int) (l2 : Int) (l3 : Option Int) (l4 : Int) (h : JM) (res : JM), k3 l0 l1 l2 l3 l4 h = some res → Ev j_W1 2 0 0 T7_turn 3 [(0, .inr (.inr (some (7, l0)))), (1, .inl (l1)), (2, .inl (l2)), (3, .inr (.inr (Option.map (Prod.mk 10) (l3)))), (4, .inl (l4))] [] h none res) (l0 : Int) (l1 : Int) (l2 : Int) (l3 : Option Int) (l4 : Int) (h : JM) (res : JM) (H : F7_turn_38 k3 l0 l1 l2 l3 l4 h = some res) : Ev j_W1 2 0 0 T7_turn 38 [(0, .inr (.inr (some (7, l0)))), (1, .inl (l1)), (2, .inl (l2)), (3, .inr (.inr (Option.map (Prod.mk 10) (l3)))), (4, .inl (l4))] [] h none res := by
  unfold F7_turn_38 at H
  refine ev_iinc (M := T7_turn) (pc := 38) 4 [(4, .inl (w32 (l4 + 1))), (0, .inr (.inr (some (7, l0)))), (1, .inl (l1)), (2, .inl (l2)), (3, .inr (.inr (Option.map (Prod.mk 10) (l3))))] dX7_turn_38 (k := ?_)
  refine ev_goto (M := T7_turn) (pc := 41) 3 dX7_turn_41 (k := ?_)
  refine ev_lv [1, 2, 3, 4, 0] [(0, .inr (.inr (some (7, l0)))), (1, .inl (l1)), (2, .inl (l2)), (3, .inr (.inr (Option.map (Prod.mk 10) (l3)))), (4, .inl (w32 (l4 + 1)))] (k := ?_)
  exact hk3 l0 l1 l2 l3 (w32 (l4 + 1)) h _ H
set_option maxRecDepth 100000 in
set_option maxHeartbeats 4000000 in
theorem E7_turn_3b (k3 : Int → Int → Int → Option Int → Int → JM → Option JM) (hk3 : ∀ (l0 : Int) (l1 : Int) (l2 : Int) (l3 : Option Int) (l4 : Int) (h : JM) (res : JM), k3 l0 l1 l2 l3 l4 h = some res → Ev j_W1 2 0 0 T7_turn 3 [(0, .inr (.inr (some (7, l0)))), (1, .inl (l1)), (2, .inl (l2)), (3, .inr (.inr (Option.map (Prod.mk 10) (l3)))), (4, .inl (l4))] [] h none res) (l0 : Int) (l1 : Int) (l2 : Int) (l3 : Option Int) (l4 : Int) (h : JM) (res : JM) (H : F7_turn_3b k3 l0 l1 l2 l3 l4 h = some res) : Ev j_W1 2 0 0 T7_turn 3 [(0, .inr (.inr (some (7, l0)))), (1, .inl (l1)), (2, .inl (l2)), (3, .inr (.inr (Option.map (Prod.mk 10) (l3)))), (4, .inl (l4))] [] h none res := by
  unfold F7_turn_3b at H
  refine ev_iload (M := T7_turn) (pc := 3) 4 dX7_turn_3 (k := ?_)
  refine ev_aload_n (M := T7_turn) (pc := 5) 0 dX7_turn_5 (k := ?_)
  refine ev_getI (M := T7_turn) (pc := 6) (x := h.1 7 l0 2) fl_X7_18 dX7_turn_6 (K := ?_)
  refine ev_icmpge (M := T7_turn) (pc := 9) 44 dX7_turn_9 (kt := fun hc => ?_) (kf := fun hc => ?_)
  · replace H := if_pe hc H
    cases H
    exact ev_return (M := T7_turn) (pc := 44) dX7_turn_44
  · replace H := if_ne hc H
    refine ev_aload_n (M := T7_turn) (pc := 12) 0 dX7_turn_12 (k := ?_)
    refine ev_getR (M := T7_turn) (pc := 13) (t := 34) (x := some (34, l0)) fl_X7_9 dX7_turn_13 (hx := ry_7_0 _ _) (K := ?_)
    refine ev_iload (M := T7_turn) (pc := 16) 4 dX7_turn_16 (k := ?_)
    obtain ⟨⟨hi0, hi1⟩, H1⟩ := g_e H
    clear H
    refine ev_iaload (M := T7_turn) (pc := 18) (k := 34) hi0 hi1 dX7_turn_18 (hc := ac_34) (hlen := ln_34 _ _) (K := ?_)
    refine ev_iconst (M := T7_turn) (pc := 19) dX7_turn_19 (k := ?_)
    refine ev_iload_n (M := T7_turn) (pc := 20) 2 dX7_turn_20 (k := ?_)
    refine ev_imul (M := T7_turn) (pc := 21) dX7_turn_21 (k := ?_)
    refine ev_iload_n (M := T7_turn) (pc := 22) 1 dX7_turn_22 (k := ?_)
    refine ev_iadd (M := T7_turn) (pc := 23) dX7_turn_23 (k := ?_)
    refine ev_icmpne (M := T7_turn) (pc := 24) 38 dX7_turn_24 (kt := fun hc => ?_) (kf := fun hc => ?_)
    · replace H1 := if_ne hc H1
      exact E7_turn_38 k3 hk3 l0 l1 l2 l3 l4 h _ H1
    · replace H1 := if_pe hc H1
      refine ev_aload_n (M := T7_turn) (pc := 27) 3 dX7_turn_27 (k := ?_)
      refine ev_aload_n (M := T7_turn) (pc := 28) 0 dX7_turn_28 (k := ?_)
      refine ev_getR (M := T7_turn) (pc := 29) (t := 35) (x := some (35, l0)) fl_X7_15 dX7_turn_29 (hx := ry_7_1 _ _) (K := ?_)
      refine ev_iload (M := T7_turn) (pc := 32) 4 dX7_turn_32 (k := ?_)
      obtain ⟨⟨hi0, hi1⟩, H2⟩ := g_e H1
      clear H1
      refine ev_iaload (M := T7_turn) (pc := 34) (k := 35) hi0 hi1 dX7_turn_34 (hc := ac_35) (hlen := ln_35 _ _) (K := ?_)
      obtain ⟨a1, ea1, H3⟩ := bd_e H2
      clear H2
      obtain ⟨hz, H4⟩ := g_e H3
      clear H3
      rw [ea1, hz]
      obtain ⟨h2, hq, H5⟩ := bd_e H4
      clear H4
      refine ev_callV (M := T7_turn) (pc := 35) (mc := 0) (ms := 0) (st := []) (C10_turn hq) md_X10_turn im_X10_turn se_X10_turn ml_X7_25 dX7_turn_35 _ (by decide) (K := ?_)
      exact E7_turn_38 k3 hk3 l0 l1 l2 (some 0) l4 h2 _ H5
theorem E7_turn_3 (n : Nat) : ∀ (l0 : Int) (l1 : Int) (l2 : Int) (l3 : Option Int) (l4 : Int) (h : JM) (res : JM), F7_turn_3 n l0 l1 l2 l3 l4 h = some res → Ev j_W1 2 0 0 T7_turn 3 [(0, .inr (.inr (some (7, l0)))), (1, .inl (l1)), (2, .inl (l2)), (3, .inr (.inr (Option.map (Prod.mk 10) (l3)))), (4, .inl (l4))] [] h none res := by
  induction n with
  | zero =>
    intro l0 l1 l2 l3 l4 h res H
    cases H
  | succ n ih =>
    intro l0 l1 l2 l3 l4 h res H
    exact E7_turn_3b (F7_turn_3 n) ih l0 l1 l2 l3 l4 h res H
set_option maxRecDepth 100000 in
set_option maxHeartbeats 4000000 in
theorem C7_turn {l0 : Int} {l1 : Int} {l2 : Int} {l3 : Option Int} {h : JM} {res : JM} (H : F7_turn l0 l1 l2 l3 h = some res) : Cn j_W1 2 0 0 yX7_turn cX7_turn 5 none [.inr (.inr (some (7, l0))), .inl (l1), .inl (l2), .inr (.inr (Option.map (Prod.mk 10) (l3)))] h none res := by
  refine Cn.by (own := RX7) (b := false) [(0, .inr (.inr (some (7, l0)))), (1, .inl (l1)), (2, .inl (l2)), (3, .inr (.inr (Option.map (Prod.mk 10) (l3))))] rfl (fun z => by cases z) (by decide +kernel) (K := ?_)
  unfold F7_turn at H
  refine ev_iconst (M := T7_turn) (pc := 0) dX7_turn_0 (k := ?_)
  refine ev_istore (M := T7_turn) (pc := 1) [(4, .inl (0)), (0, .inr (.inr (some (7, l0)))), (1, .inl (l1)), (2, .inl (l2)), (3, .inr (.inr (Option.map (Prod.mk 10) (l3))))] dX7_turn_1 (k := ?_)
  refine ev_lv [1, 2, 3, 4, 0] [(0, .inr (.inr (some (7, l0)))), (1, .inl (l1)), (2, .inl (l2)), (3, .inr (.inr (Option.map (Prod.mk 10) (l3)))), (4, .inl (0))] (k := ?_)
  exact E7_turn_3 j_fu l0 l1 l2 l3 0 h _ H
-- X8_isSent
abbrev T8_isSent : JT := (RX8, cX8_isSent, 1, some .boolean, false)
set_option maxRecDepth 100000 in
set_option maxHeartbeats 4000000 in
theorem E8_isSent_22 (h : JM) (res : (Int × JM)) (H : F8_isSent_22 h = some res) : Ev j_W1 1 0 0 T8_isSent 22 [] [] h (some (.inl res.1)) res.2 := by
  unfold F8_isSent_22 at H
  refine ev_iconst (M := T8_isSent) (pc := 22) dX8_isSent_22 (k := ?_)
  cases H
  exact ev_zreturn (M := T8_isSent) (pc := 23) (Or.inl rfl) dX8_isSent_23
set_option maxRecDepth 100000 in
set_option maxHeartbeats 4000000 in
theorem C8_isSent {l0 : Int} {h : JM} {res : (Int × JM)} (H : F8_isSent l0 h = some res) : Cn j_W1 1 0 0 yX8_isSent cX8_isSent 1 (some .boolean) [.inr (.inr (some (8, l0)))] h (some (.inl res.1)) res.2 := by
  refine Cn.by (own := RX8) (b := false) [(0, .inr (.inr (some (8, l0))))] rfl (fun z => by cases z) (by decide +kernel) (K := ?_)
  unfold F8_isSent at H
  refine ev_aload_n (M := T8_isSent) (pc := 0) 0 dX8_isSent_0 (k := ?_)
  refine ev_getR (M := T8_isSent) (pc := 1) (t := 0) (x := Option.map (Prod.mk 0) (h.2.2 8 l0 3)) fl_X8_24 dX8_isSent_1 (hx := ry_8_3 _ _) (K := ?_)
  refine ev_nullK (M := T8_isSent) (pc := 4) (h.2.2 8 l0 3) 22 dX8_isSent_4 (kt := fun hc => ?_) (kf := fun hc => ?_)
  · replace H := if_pe hc H
    refine ev_lv [] [] (k := ?_)
    exact E8_isSent_22 h _ H
  · replace H := if_ne hc H
    refine ev_aload_n (M := T8_isSent) (pc := 7) 0 dX8_isSent_7 (k := ?_)
    refine ev_getR (M := T8_isSent) (pc := 8) (t := 0) (x := Option.map (Prod.mk 0) (h.2.2 8 l0 3)) fl_X8_24 dX8_isSent_8 (hx := ry_8_3 _ _) (K := ?_)
    obtain ⟨a1, ea1, H1⟩ := bd_e H
    clear H
    rw [ea1]
    refine ev_getI (M := T8_isSent) (pc := 11) (x := h.1 0 a1 9) fl_X8_28 dX8_isSent_11 (K := ?_)
    refine ev_iconst (M := T8_isSent) (pc := 14) dX8_isSent_14 (k := ?_)
    refine ev_icmpne (M := T8_isSent) (pc := 15) 22 dX8_isSent_15 (kt := fun hc => ?_) (kf := fun hc => ?_)
    · replace H1 := if_ne hc H1
      refine ev_lv [] [] (k := ?_)
      exact E8_isSent_22 h _ H1
    · replace H1 := if_pe hc H1
      refine ev_iconst (M := T8_isSent) (pc := 18) dX8_isSent_18 (k := ?_)
      refine ev_goto (M := T8_isSent) (pc := 19) 23 dX8_isSent_19 (k := ?_)
      cases H1
      exact ev_zreturn (M := T8_isSent) (pc := 23) (Or.inr rfl) dX8_isSent_23
-- X9_causeOf
abbrev T9_causeOf : JT := (RX9, cX9_causeOf, 2, some .int, false)
set_option maxRecDepth 100000 in
set_option maxHeartbeats 4000000 in
theorem C9_causeOf {l0 : Int} {h : JM} {res : (Int × JM)} (H : F9_causeOf l0 h = some res) : Cn j_W1 1 0 0 yX9_causeOf cX9_causeOf 2 (some .int) [.inr (.inl (l0))] h (some (.inl res.1)) res.2 := by
  refine Cn.by (own := RX9) (b := false) [(0, .inr (.inl (l0)))] rfl (fun z => by cases z) (by decide +kernel) (K := ?_)
  unfold F9_causeOf at H
  refine ev_lload_n (M := T9_causeOf) (pc := 0) 0 dX9_causeOf_0 (k := ?_)
  refine ev_l2i (M := T9_causeOf) (pc := 1) dX9_causeOf_1 (k := ?_)
  refine ev_sipush (M := T9_causeOf) (pc := 2) dX9_causeOf_2 (k := ?_)
  refine ev_iand (M := T9_causeOf) (pc := 5) dX9_causeOf_5 (k := ?_)
  cases H
  exact ev_ireturn (M := T9_causeOf) (pc := 6) dX9_causeOf_6
-- X9_circuitOf
abbrev T9_circuitOf : JT := (RX9, cX9_circuitOf, 2, some .int, false)
set_option maxRecDepth 100000 in
set_option maxHeartbeats 4000000 in
theorem C9_circuitOf {l0 : Int} {h : JM} {res : (Int × JM)} (H : F9_circuitOf l0 h = some res) : Cn j_W1 1 0 0 yX9_circuitOf cX9_circuitOf 2 (some .int) [.inr (.inl (l0))] h (some (.inl res.1)) res.2 := by
  refine Cn.by (own := RX9) (b := false) [(0, .inr (.inl (l0)))] rfl (fun z => by cases z) (by decide +kernel) (K := ?_)
  unfold F9_circuitOf at H
  refine ev_lload_n (M := T9_circuitOf) (pc := 0) 0 dX9_circuitOf_0 (k := ?_)
  refine ev_bipush (M := T9_circuitOf) (pc := 1) dX9_circuitOf_1 (k := ?_)
  refine ev_lshr (M := T9_circuitOf) (pc := 3) dX9_circuitOf_3 (k := ?_)
  refine ev_l2i (M := T9_circuitOf) (pc := 4) dX9_circuitOf_4 (k := ?_)
  refine ev_bipush (M := T9_circuitOf) (pc := 5) dX9_circuitOf_5 (k := ?_)
  refine ev_iand (M := T9_circuitOf) (pc := 7) dX9_circuitOf_7 (k := ?_)
  cases H
  exact ev_ireturn (M := T9_circuitOf) (pc := 8) dX9_circuitOf_8
-- X9_forwardsOf
abbrev T9_forwardsOf : JT := (RX9, cX9_forwardsOf, 2, some .int, false)
set_option maxRecDepth 100000 in
set_option maxHeartbeats 4000000 in
theorem C9_forwardsOf {l0 : Int} {h : JM} {res : (Int × JM)} (H : F9_forwardsOf l0 h = some res) : Cn j_W1 1 0 0 yX9_forwardsOf cX9_forwardsOf 2 (some .int) [.inr (.inl (l0))] h (some (.inl res.1)) res.2 := by
  refine Cn.by (own := RX9) (b := false) [(0, .inr (.inl (l0)))] rfl (fun z => by cases z) (by decide +kernel) (K := ?_)
  unfold F9_forwardsOf at H
  refine ev_lload_n (M := T9_forwardsOf) (pc := 0) 0 dX9_forwardsOf_0 (k := ?_)
  refine ev_bipush (M := T9_forwardsOf) (pc := 1) dX9_forwardsOf_1 (k := ?_)
  refine ev_lshr (M := T9_forwardsOf) (pc := 3) dX9_forwardsOf_3 (k := ?_)
  refine ev_l2i (M := T9_forwardsOf) (pc := 4) dX9_forwardsOf_4 (k := ?_)
  refine ev_bipush (M := T9_forwardsOf) (pc := 5) dX9_forwardsOf_5 (k := ?_)
  refine ev_iand (M := T9_forwardsOf) (pc := 7) dX9_forwardsOf_7 (k := ?_)
  cases H
  exact ev_ireturn (M := T9_forwardsOf) (pc := 8) dX9_forwardsOf_8
-- X9_keysOf
abbrev T9_keysOf : JT := (RX9, cX9_keysOf, 2, some .long, false)
set_option maxRecDepth 100000 in
set_option maxHeartbeats 4000000 in
theorem C9_keysOf {l0 : Int} {h : JM} {res : (Int × JM)} (H : F9_keysOf l0 h = some res) : Cn j_W1 1 0 0 yX9_keysOf cX9_keysOf 2 (some .long) [.inr (.inl (l0))] h (some (.inr (.inl res.1))) res.2 := by
  refine Cn.by (own := RX9) (b := false) [(0, .inr (.inl (l0)))] rfl (fun z => by cases z) (by decide +kernel) (K := ?_)
  unfold F9_keysOf at H
  refine ev_lload_n (M := T9_keysOf) (pc := 0) 0 dX9_keysOf_0 (k := ?_)
  refine ev_ldc2 (M := T9_keysOf) (pc := 1) (n := 4503599627370495) cl_X9_33 dX9_keysOf_1 (hv := cw_X9_33) (k := ?_)
  refine ev_land (M := T9_keysOf) (pc := 4) dX9_keysOf_4 (k := ?_)
  cases H
  exact ev_lreturn (M := T9_keysOf) (pc := 5) dX9_keysOf_5
-- X9_typeOf
abbrev T9_typeOf : JT := (RX9, cX9_typeOf, 2, some .int, false)
set_option maxRecDepth 100000 in
set_option maxHeartbeats 4000000 in
theorem C9_typeOf {l0 : Int} {h : JM} {res : (Int × JM)} (H : F9_typeOf l0 h = some res) : Cn j_W1 1 0 0 yX9_typeOf cX9_typeOf 2 (some .int) [.inr (.inl (l0))] h (some (.inl res.1)) res.2 := by
  refine Cn.by (own := RX9) (b := false) [(0, .inr (.inl (l0)))] rfl (fun z => by cases z) (by decide +kernel) (K := ?_)
  unfold F9_typeOf at H
  refine ev_lload_n (M := T9_typeOf) (pc := 0) 0 dX9_typeOf_0 (k := ?_)
  refine ev_bipush (M := T9_typeOf) (pc := 1) dX9_typeOf_1 (k := ?_)
  refine ev_lshr (M := T9_typeOf) (pc := 3) dX9_typeOf_3 (k := ?_)
  refine ev_l2i (M := T9_typeOf) (pc := 4) dX9_typeOf_4 (k := ?_)
  refine ev_bipush (M := T9_typeOf) (pc := 5) dX9_typeOf_5 (k := ?_)
  refine ev_iand (M := T9_typeOf) (pc := 7) dX9_typeOf_7 (k := ?_)
  cases H
  exact ev_ireturn (M := T9_typeOf) (pc := 8) dX9_typeOf_8
