/-! ===== what constructors make: the reference's arrays ===== -/
def m_ar : List (Nat × Nat × Int × Int) := [(103, 1103, 12, 3), (105, 1105, 2, 5), (106, 1106, 576, 6), (107, 1107, 48, 7), (108, 1108, 48, 8), (109, 1109, 48, 9), (110, 1110, 48, 10), (111, 1111, 48, 11), (112, 1112, 16, 12), (113, 1113, 16, 13), (114, 1114, 16, 14), (115, 1115, 16, 15), (116, 1116, 16, 16), (117, 1117, 320, 17), (118, 1118, 16, 18), (119, 1119, 16, 19), (120, 1120, 16, 20), (121, 1121, 16, 21), (122, 1122, 16, 22), (123, 1123, 16, 23), (124, 1124, 16, 24), (125, 1125, 16, 25), (126, 1126, 16, 26), (127, 1127, 48, 27), (128, 1128, 576, 28), (129, 1129, 48, 29), (130, 1130, 16, 30), (131, 1131, 16, 31), (133, 1133, 80, 33), (134, 1134, 80, 34), (135, 1135, 80, 35), (136, 1136, 80, 36), (137, 1137, 80, 37), (138, 1138, 80, 38), (139, 1139, 960, 39), (140, 1140, 80, 40), (141, 1141, 80, 41), (142, 1142, 80, 42), (143, 1143, 80, 43), (144, 1144, 80, 44), (145, 1145, 80, 45), (146, 1146, 80, 46), (147, 1147, 80, 47), (148, 1148, 80, 48), (149, 1149, 48, 49), (150, 1150, 6, 50), (151, 1151, 6, 51), (152, 1152, 480, 52), (153, 1153, 6, 53), (154, 1154, 32, 54), (155, 1155, 32, 55), (156, 1156, 20, 56), (158, 1158, 8192, 58), (159, 1159, 512, 59), (160, 1160, 2, 60), (161, 1161, 2, 61), (162, 1162, 2, 62), (163, 1163, 2, 63), (164, 1164, 2, 64), (165, 1165, 2, 65), (166, 1166, 2, 66), (167, 1167, 2, 67), (168, 1168, 64, 68), (169, 1169, 320, 69), (171, 1171, 40960, 71), (172, 1172, 128, 72), (173, 1173, 2560, 73), (174, 1174, 8, 74), (176, 1176, 300, 76), (177, 1177, 300, 77), (178, 1178, 300, 78), (180, 1180, 300, 80), (181, 1181, 300, 81), (182, 1182, 320, 82), (184, 1184, 32, 84), (185, 1185, 32, 85), (186, 1186, 4, 86), (187, 1187, 4, 87), (188, 1188, 4, 88), (189, 1189, 4, 89), (191, 1191, 1500, 91)]
def prg : List (Nat × Nat × Int × Int) → (JM → Option JM) → JM → Option JM
  | [], K, h => K h
  | x :: t, K, h => g_ (¬ h.1 x.2.1 0 0 = 1) (lt_ (j_nw h x.1 0 x.2.2.1) (fun h1 => lt_ (sR h1 12 0 x.2.2.2 (some 0)) (fun h2 => prg t K h2)))
def am : List (Nat × Nat × Int × Int) → JM → JM
  | [], h => h
  | x :: t, h => am t (sR (j_nw h x.1 0 x.2.2.1) 12 0 x.2.2.2 (some 0))
def lok (L : List (Nat × Nat × Int × Int)) : Prop := (∀ x ∈ L, x.2.1 = x.1 + 1000 ∧ 100 ≤ x.1 ∧ x.1 < 200) ∧ L.Pairwise (fun x y => x.1 ≠ y.1)
theorem m_lok : lok m_ar := by
  refine ⟨by decide +kernel, by decide +kernel⟩
theorem lok_t {x : Nat × Nat × Int × Int} {t : List (Nat × Nat × Int × Int)} (h : lok (x :: t)) : lok t ∧ (x.2.1 = x.1 + 1000 ∧ 100 ≤ x.1 ∧ x.1 < 200) ∧ ∀ y ∈ t, x.1 ≠ y.1 :=
  ⟨⟨fun y hy => h.1 y (List.mem_cons_of_mem _ hy), (List.pairwise_cons.1 h.2).2⟩, h.1 x (List.mem_cons_self), (List.pairwise_cons.1 h.2).1⟩
theorem prg_ok {K : JM → Option JM} : ∀ (L : List (Nat × Nat × Int × Int)) (h : JM), lok L → (∀ x ∈ L, h.1 x.2.1 0 0 ≠ 1) → prg L K h = K (am L h)
  | [], h, _, _ => rfl
  | x :: t, h, l, g => by
    obtain ⟨l1, l2, l3⟩ := lok_t l
    show g_ (¬ h.1 x.2.1 0 0 = 1) (lt_ (j_nw h x.1 0 x.2.2.1) (fun h1 => lt_ (sR h1 12 0 x.2.2.2 (some 0)) (fun h2 => prg t K h2))) = K (am t (sR (j_nw h x.1 0 x.2.2.1) 12 0 x.2.2.2 (some 0)))
    rw [g_t (g x List.mem_cons_self), lt_d, lt_d]
    refine prg_ok t _ l1 (fun y hy => ?_)
    show (j_nw h x.1 0 x.2.2.1).1 y.2.1 0 0 ≠ 1
    have a := l1.1 y hy
    have b := l3 y hy
    rw [nwI (Or.inl (by omega)) (Or.inl (by omega))]
    exact g y (List.mem_cons_of_mem _ hy)
theorem am_fr : ∀ (L : List (Nat × Nat × Int × Int)) (h : JM), lok L → fr (fun k n => n = 0 ∧ (k = 12 ∨ ∃ x ∈ L, k = x.1 ∨ k = x.2.1)) h (am L h)
  | [], h, _ => fr_rfl h
  | x :: t, h, l => by
    obtain ⟨l1, l2, l3⟩ := lok_t l
    refine fr_tr (fr_R (fr_N (fr_rfl h) ⟨rfl, Or.inr ⟨x, List.mem_cons_self, Or.inl rfl⟩⟩ ⟨rfl, Or.inr ⟨x, List.mem_cons_self, Or.inr l2.1.symm⟩⟩ _) ⟨rfl, Or.inl rfl⟩ _ _) (fr_mono (fun k n q => ⟨q.1, ?_⟩) (am_fr t _ l1))
    rcases q.2 with q2 | ⟨y, hy, q2⟩
    · exact Or.inl q2
    · exact Or.inr ⟨y, List.mem_cons_of_mem _ hy, q2⟩
/-- an int that was 0 and is no ghost stays 0; a field of the reference that is no array's stays -/
theorem am_z {k : Nat} {n j : Int} (hk : k < 1000) : ∀ (L : List (Nat × Nat × Int × Int)) (h : JM), h.1 k n j = 0 → (am L h).1 k n j = 0
  | [], h, z => z
  | x :: t, h, z => by
    refine am_z hk t _ ?_
    show (j_nw h x.1 0 x.2.2.1).1 k n j = 0
    rw [nN_I]
    by_cases q : k = x.1 ∧ n = 0
    · rw [if_pos q]
    · rw [if_neg q, if_neg (fun y => by omega)]; exact z
theorem am_k : ∀ (L : List (Nat × Nat × Int × Int)) (h : JM) (f : Int), lok L → h.2.2 12 0 f = some 0 → (am L h).2.2 12 0 f = some 0
  | [], h, f, _, z => z
  | x :: t, h, f, l, z => by
    obtain ⟨l1, l2, l3⟩ := lok_t l
    refine am_k t _ f l1 ?_
    by_cases q : f = x.2.2.2
    · rw [q, rR_s]
    · rw [rR_o (Or.inr (Or.inr q)), nwR (Or.inl (by omega))]; exact z
theorem am_r : ∀ (L : List (Nat × Nat × Int × Int)) (h : JM), lok L → ∀ x ∈ L, (am L h).2.2 12 0 x.2.2.2 = some 0 ∧ (am L h).1 x.2.1 0 1 = x.2.2.1
  | [], h, _, x, hx => by cases hx
  | y :: t, h, l, x, hx => by
    obtain ⟨l1, l2, l3⟩ := lok_t l
    rcases List.mem_cons.1 hx with q | q
    · subst q
      refine ⟨am_k t _ _ l1 (rR_s _ _ _ _ _), ?_⟩
      have F := am_fr t (sR (j_nw h x.1 0 x.2.2.1) 12 0 x.2.2.2 (some 0)) l1
      have t1 := (F x.2.1 0 (fun p => by
        rcases p.2 with p2 | ⟨y, hy, p2⟩
        · omega
        · have a := l1.1 y hy
          have b := l3 y hy
          omega) 1).1
      show (am t (sR (j_nw h x.1 0 x.2.2.1) 12 0 x.2.2.2 (some 0))).1 x.2.1 0 1 = x.2.2.1
      rw [t1]
      show (j_nw h x.1 0 x.2.2.1).1 x.2.1 0 1 = x.2.2.1
      rw [l2.1]; exact nw_G h x.1 0 x.2.2.1
    · exact am_r t _ l1 x q
set_option maxRecDepth 100000 in
theorem f12_pr (a b : Int) (h : JM) : F12_init a b h = prg m_ar (fun h => if 1 ≤ a then (if a ≤ 16 then F12_init_678 b (some 0) a h else F12_init_678 b (some 0) 16 h) else F12_init_678 b (some 0) 1 h) h := by
  unfold F12_init m_ar
  rfl
