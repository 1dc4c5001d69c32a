def j_f0 : Nat := 100
-- X12_highest
-- X12_codeOf
-- X0_init
set_option maxRecDepth 100000 in
def F0_init (l0 : Int) (h : JM) : Option JM :=
 lt_ (sI h 0 l0 9 (-1)) (fun h1 =>
 some h1)
-- X9_init
set_option maxRecDepth 100000 in
def F9_init (l0 : Int) (h : JM) : Option JM :=
 lt_ (sL h 9 l0 4 (-1)) (fun h1 =>
 lt_ (sI h1 9 l0 5 2) (fun h2 =>
 some h2))
-- X5_init
set_option maxRecDepth 100000 in
def F5_init_69b (k69 : Int → Int → JM → Option JM) (l0 : Int) (l1 : Int) (h : JM) : Option JM :=
 (h.2.2 5 l0 10).bind (fun a1 =>
 g_ ((0 : Int) ≤ h.1 1033 a1 1 ∧ h.1 1033 a1 1 < (2147483648 : Int)) (
 if h.1 1033 a1 1 ≤ l1 then (
 some h) else (
 g_ (¬ h.1 1009 (128 + 2 * l0 + l1) 0 = 1) (lt_ (j_nw h 9 (128 + 2 * l0 + l1) 0) (fun h2 =>
 (F9_init (128 + 2 * l0 + l1) h2).bind (fun h3 =>
 (h.2.2 5 l0 10).bind (fun a4 =>
 g_ ((0 : Int) ≤ l1 ∧ l1 < (h3.1 1033 a4 1 : Int)) (
 lt_ (sR h3 33 a4 l1 (some (128 + 2 * l0 + l1))) (fun h5 =>
 k69 l0 (w32 (l1 + 1)) h5)))))))))
def F5_init_69 : Nat → Int → Int → JM → Option JM
  | 0, _, _, _ => none
  | n + 1, l0, l1, h => F5_init_69b (F5_init_69 n) l0 l1 h
set_option maxRecDepth 100000 in
def F5_init_42b (k42 : Int → Int → JM → Option JM) (l0 : Int) (l1 : Int) (h : JM) : Option JM :=
 if 64 ≤ l1 then (
 F5_init_69 j_f0 l0 0 h) else (
 g_ (¬ h.1 1009 (64 * l0 + l1) 0 = 1) (lt_ (j_nw h 9 (64 * l0 + l1) 0) (fun h6 =>
 (F9_init (64 * l0 + l1) h6).bind (fun h7 =>
 (h.2.2 5 l0 9).bind (fun a8 =>
 g_ ((0 : Int) ≤ l1 ∧ l1 < (h7.1 1032 a8 1 : Int)) (
 lt_ (sR h7 32 a8 l1 (some (64 * l0 + l1))) (fun h9 =>
 k42 l0 (w32 (l1 + 1)) h9)))))))
def F5_init_42 : Nat → Int → Int → JM → Option JM
  | 0, _, _, _ => none
  | n + 1, l0, l1, h => F5_init_42b (F5_init_42 n) l0 l1 h
set_option maxRecDepth 100000 in
def F5_init (l0 : Int) (h : JM) : Option JM :=
 lt_ (sI h 5 l0 5 1) (fun h10 =>
 lt_ (sI h10 5 l0 6 1) (fun h11 =>
 g_ (¬ h11.1 1031 l0 0 = 1) (lt_ (j_nw h11 31 l0 200) (fun h12 =>
 lt_ (sR h12 5 l0 8 (some l0)) (fun h13 =>
 g_ (¬ h13.1 1032 l0 0 = 1) (lt_ (j_nw h13 32 l0 64) (fun h14 =>
 lt_ (sR h14 5 l0 9 (some l0)) (fun h15 =>
 g_ (¬ h15.1 1033 l0 0 = 1) (lt_ (j_nw h15 33 l0 2) (fun h16 =>
 lt_ (sR h16 5 l0 10 (some l0)) (fun h17 =>
 F5_init_42 j_f0 l0 0 h17)))))))))))
-- X8_init
set_option maxRecDepth 100000 in
def F8_init (l0 : Int) (l1 : Int) (h : JM) : Option JM :=
 lt_ (sI h 8 l0 2 0) (fun h1 =>
 lt_ (sI h1 8 l0 4 213) (fun h2 =>
 lt_ (sI h2 8 l0 5 213) (fun h3 =>
 lt_ (sI h3 8 l0 0 l1) (fun h4 =>
 some h4))))
-- X2_init
set_option maxRecDepth 100000 in
def F2_init (l0 : Int) (h : JM) : Option JM :=
 g_ (¬ h.1 1025 l0 0 = 1) (lt_ (j_nw h 25 l0 8) (fun h1 =>
 lt_ (sR h1 2 l0 0 (some l0)) (fun h2 =>
 lt_ (sI h2 2 l0 4 1) (fun h3 =>
 lt_ (sI h3 2 l0 5 0) (fun h4 =>
 some h4)))))
-- X1_init
set_option maxRecDepth 100000 in
def F1_init_88b (k88 : Int → Int → JM → Option JM) (l0 : Int) (l3 : Int) (h : JM) : Option JM :=
 if 3 ≤ l3 then (
 some h) else (
 g_ (¬ h.1 1002 (3 * l0 + l3) 0 = 1) (lt_ (j_nw h 2 (3 * l0 + l3) 0) (fun h1 =>
 (F2_init (3 * l0 + l3) h1).bind (fun h2 =>
 (h.2.2 1 l0 2).bind (fun a3 =>
 g_ ((0 : Int) ≤ l3 ∧ l3 < (h2.1 1021 a3 1 : Int)) (
 lt_ (sR h2 21 a3 l3 (some (3 * l0 + l3))) (fun h4 =>
 k88 l0 (w32 (l3 + 1)) h4)))))))
def F1_init_88 : Nat → Int → Int → JM → Option JM
  | 0, _, _, _ => none
  | n + 1, l0, l3, h => F1_init_88b (F1_init_88 n) l0 l3 h
set_option maxRecDepth 100000 in
def F1_init_61b (k61 : Int → Int → Int → JM → Option JM) (l0 : Int) (l2 : Int) (l3 : Int) (h : JM) : Option JM :=
 if l2 ≤ l3 then (
 F1_init_88 j_f0 l0 0 h) else (
 g_ (¬ h.1 1008 (16 * l0 + l3) 0 = 1) (lt_ (j_nw h 8 (16 * l0 + l3) 0) (fun h5 =>
 (F8_init (16 * l0 + l3) l3 h5).bind (fun h6 =>
 (h.2.2 1 l0 1).bind (fun a7 =>
 g_ ((0 : Int) ≤ l3 ∧ l3 < (h6.1 1020 a7 1 : Int)) (
 lt_ (sR h6 20 a7 l3 (some (16 * l0 + l3))) (fun h8 =>
 k61 l0 l2 (w32 (l3 + 1)) h8)))))))
def F1_init_61 : Nat → Int → Int → Int → JM → Option JM
  | 0, _, _, _, _ => none
  | n + 1, l0, l2, l3, h => F1_init_61b (F1_init_61 n) l0 l2 l3 h
set_option maxRecDepth 100000 in
def F1_init (l0 : Int) (l1 : Int) (l2 : Int) (h : JM) : Option JM :=
 g_ (¬ h.1 1021 l0 0 = 1) (lt_ (j_nw h 21 l0 3) (fun h9 =>
 lt_ (sR h9 1 l0 2 (some l0)) (fun h10 =>
 g_ (¬ h10.1 1022 l0 0 = 1) (lt_ (j_nw h10 22 l0 24) (fun h11 =>
 lt_ (sR h11 1 l0 3 (some l0)) (fun h12 =>
 g_ (¬ h12.1 1023 l0 0 = 1) (lt_ (j_nw h12 23 l0 2) (fun h13 =>
 lt_ (sR h13 1 l0 5 (some l0)) (fun h14 =>
 g_ (¬ h14.1 1024 l0 0 = 1) (lt_ (j_nw h14 24 l0 2) (fun h15 =>
 lt_ (sR h15 1 l0 6 (some l0)) (fun h16 =>
 g_ (¬ h16.1 1005 l0 0 = 1) (lt_ (j_nw h16 5 l0 0) (fun h17 =>
 (F5_init l0 h17).bind (fun h18 =>
 lt_ (sR h18 1 l0 7 (some l0)) (fun h19 =>
 lt_ (sI h19 1 l0 0 l1) (fun h20 =>
 g_ (¬ h20.1 1020 l0 0 = 1 ∧ (0 : Int) ≤ l2 ∧ l2 ≤ 100) (lt_ (j_nw h20 20 l0 l2) (fun h21 =>
 lt_ (sR h21 1 l0 1 (some l0)) (fun h22 =>
 F1_init_61 j_f0 l0 l2 0 h22))))))))))))))))))))
-- X4_init
set_option maxRecDepth 100000 in
def F4_init (l0 : Int) (l1 : Int) (h : JM) : Option JM :=
 g_ (¬ h.1 1028 l0 0 = 1) (lt_ (j_nw h 28 l0 3) (fun h1 =>
 lt_ (sR h1 4 l0 1 (some l0)) (fun h2 =>
 g_ (¬ h2.1 1029 l0 0 = 1) (lt_ (j_nw h2 29 l0 3) (fun h3 =>
 lt_ (sR h3 4 l0 2 (some l0)) (fun h4 =>
 g_ (¬ h4.1 1030 l0 0 = 1) (lt_ (j_nw h4 30 l0 20) (fun h5 =>
 lt_ (sR h5 4 l0 3 (some l0)) (fun h6 =>
 lt_ (sI h6 4 l0 17 (-1)) (fun h7 =>
 lt_ (sI h7 4 l0 0 l1) (fun h8 =>
 some h8)))))))))))
-- X3_init
set_option maxRecDepth 100000 in
def F3_init_23b (k23 : Int → JM → Option JM) (l1 : Int) (h : JM) : Option JM :=
 if 4 ≤ l1 then (
 some h) else (
 (h.2.2 3 0 0).bind (fun a1 =>
 g_ ((0 : Int) ≤ w32 ((w32 (l1 * 4)) + 1) ∧ w32 ((w32 (l1 * 4)) + 1) < (h.1 1026 a1 1 : Int)) (
 lt_ (sI h 26 a1 (w32 ((w32 (l1 * 4)) + 1)) 100) (fun h2 =>
 k23 (w32 (l1 + 1)) h2))))
def F3_init_23 : Nat → Int → JM → Option JM
  | 0, _, _ => none
  | n + 1, l1, h => F3_init_23b (F3_init_23 n) l1 h
set_option maxRecDepth 100000 in
def F3_init (h : JM) : Option JM :=
 g_ (¬ h.1 1026 0 0 = 1) (lt_ (j_nw h 26 0 16) (fun h3 =>
 lt_ (sR h3 3 0 0 (some 0)) (fun h4 =>
 g_ (¬ h4.1 1027 0 0 = 1) (lt_ (j_nw h4 27 0 1500) (fun h5 =>
 lt_ (sR h5 3 0 1 (some 0)) (fun h6 =>
 F3_init_23 j_f0 0 h6))))))
-- X7_init
set_option maxRecDepth 100000 in
def F7_init (l0 : Int) (h : JM) : Option JM :=
 g_ (¬ h.1 1034 l0 0 = 1) (lt_ (j_nw h 34 l0 300) (fun h1 =>
 lt_ (sR h1 7 l0 0 (some l0)) (fun h2 =>
 g_ (¬ h2.1 1035 l0 0 = 1) (lt_ (j_nw h2 35 l0 300) (fun h3 =>
 lt_ (sR h3 7 l0 1 (some l0)) (fun h4 =>
 some h4))))))
-- X10_init
set_option maxRecDepth 100000 in
def F10_init (h : JM) : Option JM :=
 g_ (¬ h.1 1036 0 0 = 1) (lt_ (j_nw h 36 0 256) (fun h1 =>
 lt_ (sR h1 10 0 0 (some 0)) (fun h2 =>
 g_ (¬ h2.1 1037 0 0 = 1) (lt_ (j_nw h2 37 0 256) (fun h3 =>
 lt_ (sR h3 10 0 4 (some 0)) (fun h4 =>
 some h4))))))
-- X11_init
set_option maxRecDepth 100000 in
def F11_init_259b (k259 : Int → JM → Option JM) (l3 : Int) (h : JM) : Option JM :=
 if 72 ≤ l3 then (
 some h) else (
 g_ (¬ h.1 1000 l3 0 = 1) (lt_ (j_nw h 0 l3 0) (fun h1 =>
 (F0_init l3 h1).bind (fun h2 =>
 (h.2.2 11 0 4).bind (fun a3 =>
 g_ ((0 : Int) ≤ l3 ∧ l3 < (h2.1 1040 a3 1 : Int)) (
 lt_ (sR h2 40 a3 l3 (some l3)) (fun h4 =>
 k259 (w32 (l3 + 1)) h4)))))))
def F11_init_259 : Nat → Int → JM → Option JM
  | 0, _, _ => none
  | n + 1, l3, h => F11_init_259b (F11_init_259 n) l3 h
set_option maxRecDepth 100000 in
def F11_init_231b (k231 : Int → JM → Option JM) (l3 : Int) (h : JM) : Option JM :=
 if 16 ≤ l3 then (
 F11_init_259 j_f0 0 h) else (
 g_ (¬ h.1 1004 l3 0 = 1) (lt_ (j_nw h 4 l3 0) (fun h5 =>
 (F4_init l3 l3 h5).bind (fun h6 =>
 (h.2.2 11 0 3).bind (fun a7 =>
 g_ ((0 : Int) ≤ l3 ∧ l3 < (h6.1 1039 a7 1 : Int)) (
 lt_ (sR h6 39 a7 l3 (some l3)) (fun h8 =>
 k231 (w32 (l3 + 1)) h8)))))))
def F11_init_231 : Nat → Int → JM → Option JM
  | 0, _, _ => none
  | n + 1, l3, h => F11_init_231b (F11_init_231 n) l3 h
set_option maxRecDepth 100000 in
def F11_init_165b (k165 : Int → JM → Option JM) (l3 : Int) (h : JM) : Option JM :=
 if h.1 11 0 0 ≤ l3 then (
 F11_init_231 j_f0 0 h) else (
 (h.2.2 11 0 2).bind (fun a9 =>
 g_ ((0 : Int) ≤ 0 ∧ 0 < (h.1 1038 a9 1 : Int)) (
 (h.2.2 38 a9 0).bind (fun a10 =>
 (h.2.2 1 a10 1).bind (fun a11 =>
 g_ ((0 : Int) ≤ l3 ∧ l3 < (h.1 1020 a11 1 : Int)) (
 (h.2.2 11 0 2).bind (fun a12 =>
 g_ ((0 : Int) ≤ 1 ∧ 1 < (h.1 1038 a12 1 : Int)) (
 (h.2.2 38 a12 1).bind (fun a13 =>
 (h.2.2 1 a13 1).bind (fun a14 =>
 g_ ((0 : Int) ≤ l3 ∧ l3 < (h.1 1020 a14 1 : Int)) (
 (h.2.2 20 a11 l3).bind (fun a15 =>
 lt_ (sR h 8 a15 1 (h.2.2 20 a14 l3)) (fun h16 =>
 (h16.2.2 11 0 2).bind (fun a17 =>
 g_ ((0 : Int) ≤ 1 ∧ 1 < (h16.1 1038 a17 1 : Int)) (
 (h16.2.2 38 a17 1).bind (fun a18 =>
 (h16.2.2 1 a18 1).bind (fun a19 =>
 g_ ((0 : Int) ≤ l3 ∧ l3 < (h16.1 1020 a19 1 : Int)) (
 (h16.2.2 11 0 2).bind (fun a20 =>
 g_ ((0 : Int) ≤ 0 ∧ 0 < (h16.1 1038 a20 1 : Int)) (
 (h16.2.2 38 a20 0).bind (fun a21 =>
 (h16.2.2 1 a21 1).bind (fun a22 =>
 g_ ((0 : Int) ≤ l3 ∧ l3 < (h16.1 1020 a22 1 : Int)) (
 (h16.2.2 20 a19 l3).bind (fun a23 =>
 lt_ (sR h16 8 a23 1 (h16.2.2 20 a22 l3)) (fun h24 =>
 k165 (w32 (l3 + 1)) h24)))))))))))))))))))))))))
def F11_init_165 : Nat → Int → JM → Option JM
  | 0, _, _ => none
  | n + 1, l3, h => F11_init_165b (F11_init_165 n) l3 h
set_option maxRecDepth 100000 in
def F11_init_134b (k134 : Int → JM → Option JM) (l3 : Int) (h : JM) : Option JM :=
 if 2 ≤ l3 then (
 F11_init_165 j_f0 0 h) else (
 g_ (¬ h.1 1001 l3 0 = 1) (lt_ (j_nw h 1 l3 0) (fun h25 =>
 (F1_init l3 l3 (h25.1 11 0 0) h25).bind (fun h26 =>
 (h.2.2 11 0 2).bind (fun a27 =>
 g_ ((0 : Int) ≤ l3 ∧ l3 < (h26.1 1038 a27 1 : Int)) (
 lt_ (sR h26 38 a27 l3 (some l3)) (fun h28 =>
 k134 (w32 (l3 + 1)) h28)))))))
def F11_init_134 : Nat → Int → JM → Option JM
  | 0, _, _ => none
  | n + 1, l3, h => F11_init_134b (F11_init_134 n) l3 h
set_option maxRecDepth 100000 in
def F11_init_129 (s0 : Option Int) (s1 : Int) (h : JM) : Option JM :=
 (s0).bind (fun a29 =>
 lt_ (sI h 11 a29 1 s1) (fun h30 =>
 F11_init_134 j_f0 0 h30))
set_option maxRecDepth 100000 in
def F11_init_101 (l2 : Int) (s0 : Option Int) (s1 : Int) (h : JM) : Option JM :=
 (s0).bind (fun a31 =>
 lt_ (sI h 11 a31 0 s1) (fun h32 =>
 if 0 ≤ l2 then (
 if l2 ≤ h32.1 11 0 0 then (
 F11_init_129 (some 0) l2 h32) else (
 F11_init_129 (some 0) (h32.1 11 0 0) h32)) else (
 F11_init_129 (some 0) 0 h32)))
set_option maxRecDepth 100000 in
def F11_init (l1 : Int) (l2 : Int) (h : JM) : Option JM :=
 g_ (¬ h.1 1038 0 0 = 1) (lt_ (j_nw h 38 0 2) (fun h33 =>
 lt_ (sR h33 11 0 2 (some 0)) (fun h34 =>
 g_ (¬ h34.1 1039 0 0 = 1) (lt_ (j_nw h34 39 0 16) (fun h35 =>
 lt_ (sR h35 11 0 3 (some 0)) (fun h36 =>
 g_ (¬ h36.1 1040 0 0 = 1) (lt_ (j_nw h36 40 0 72) (fun h37 =>
 lt_ (sR h37 11 0 4 (some 0)) (fun h38 =>
 g_ (¬ h38.1 1003 0 0 = 1) (lt_ (j_nw h38 3 0 0) (fun h39 =>
 (F3_init h39).bind (fun h40 =>
 lt_ (sR h40 11 0 5 (some 0)) (fun h41 =>
 g_ (¬ h41.1 1007 0 0 = 1) (lt_ (j_nw h41 7 0 0) (fun h42 =>
 (F7_init 0 h42).bind (fun h43 =>
 lt_ (sR h43 11 0 6 (some 0)) (fun h44 =>
 g_ (¬ h44.1 1007 1 0 = 1) (lt_ (j_nw h44 7 1 0) (fun h45 =>
 (F7_init 1 h45).bind (fun h46 =>
 lt_ (sR h46 11 0 7 (some 1)) (fun h47 =>
 g_ (¬ h47.1 1010 0 0 = 1) (lt_ (j_nw h47 10 0 0) (fun h48 =>
 (F10_init h48).bind (fun h49 =>
 lt_ (sR h49 11 0 8 (some 0)) (fun h50 =>
 lt_ (sL h50 11 0 9 0) (fun h51 =>
 if 1 ≤ l1 then (
 if l1 ≤ 16 then (
 F11_init_101 l2 (some 0) l1 h51) else (
 F11_init_101 l2 (some 0) 16 h51)) else (
 F11_init_101 l2 (some 0) 1 h51)))))))))))))))))))))))))))
-- X12_init
set_option maxRecDepth 100000 in
def F12_init_806b (k806 : Int → JM → Option JM) (l3 : Int) (h : JM) : Option JM :=
 if 4 ≤ l3 then (
 (h.2.2 12 0 65).bind (fun a1 =>
 g_ ((0 : Int) ≤ 0 ∧ 0 < (h.1 1165 a1 1 : Int)) (
 lt_ (sI h 165 a1 0 1) (fun h2 =>
 (h2.2.2 12 0 65).bind (fun a3 =>
 g_ ((0 : Int) ≤ 1 ∧ 1 < (h2.1 1165 a3 1 : Int)) (
 lt_ (sI h2 165 a3 1 1) (fun h4 =>
 (h4.2.2 12 0 66).bind (fun a5 =>
 g_ ((0 : Int) ≤ 0 ∧ 0 < (h4.1 1166 a5 1 : Int)) (
 lt_ (sI h4 166 a5 0 1) (fun h6 =>
 (h6.2.2 12 0 66).bind (fun a7 =>
 g_ ((0 : Int) ≤ 1 ∧ 1 < (h6.1 1166 a7 1 : Int)) (
 lt_ (sI h6 166 a7 1 1) (fun h8 =>
 some h8))))))))))))) else (
 (h.2.2 12 0 87).bind (fun a9 =>
 g_ ((0 : Int) ≤ l3 ∧ l3 < (h.1 1187 a9 1 : Int)) (
 lt_ (sI h 187 a9 l3 100) (fun h10 =>
 k806 (w32 (l3 + 1)) h10))))
def F12_init_806 : Nat → Int → JM → Option JM
  | 0, _, _ => none
  | n + 1, l3, h => F12_init_806b (F12_init_806 n) l3 h
set_option maxRecDepth 100000 in
def F12_init_785b (k785 : Int → JM → Option JM) (l3 : Int) (h : JM) : Option JM :=
 if 80 ≤ l3 then (
 F12_init_806 j_f0 0 h) else (
 (h.2.2 12 0 33).bind (fun a11 =>
 g_ ((0 : Int) ≤ l3 ∧ l3 < (h.1 1133 a11 1 : Int)) (
 lt_ (sI h 133 a11 l3 (-1)) (fun h12 =>
 k785 (w32 (l3 + 1)) h12))))
def F12_init_785 : Nat → Int → JM → Option JM
  | 0, _, _ => none
  | n + 1, l3, h => F12_init_785b (F12_init_785 n) l3 h
set_option maxRecDepth 100000 in
def F12_init_753b (k753 : Int → JM → Option JM) (l3 : Int) (h : JM) : Option JM :=
 if 32 ≤ l3 then (
 F12_init_785 j_f0 0 h) else (
 (h.2.2 12 0 55).bind (fun a13 =>
 g_ ((0 : Int) ≤ l3 ∧ l3 < (h.1 1155 a13 1 : Int)) (
 lt_ (sI h 155 a13 l3 (-1)) (fun h14 =>
 (F12_codeOf 0 0 h14).bind (fun q15 =>
 (h14.2.2 12 0 84).bind (fun a16 =>
 g_ ((0 : Int) ≤ l3 ∧ l3 < (q15.2.1 1184 a16 1 : Int)) (
 lt_ (sI q15.2 184 a16 l3 q15.1) (fun h17 =>
 k753 (w32 (l3 + 1)) h17))))))))
def F12_init_753 : Nat → Int → JM → Option JM
  | 0, _, _ => none
  | n + 1, l3, h => F12_init_753b (F12_init_753 n) l3 h
set_option maxRecDepth 100000 in
def F12_init_711b (k711 : Int → JM → Option JM) (l3 : Int) (h : JM) : Option JM :=
 if 16 ≤ l3 then (
 F12_init_753 j_f0 0 h) else (
 (h.2.2 12 0 19).bind (fun a18 =>
 g_ ((0 : Int) ≤ l3 ∧ l3 < (h.1 1119 a18 1 : Int)) (
 lt_ (sI h 119 a18 l3 (-1)) (fun h19 =>
 (h19.2.2 12 0 20).bind (fun a20 =>
 g_ ((0 : Int) ≤ l3 ∧ l3 < (h19.1 1120 a20 1 : Int)) (
 lt_ (sI h19 120 a20 l3 (-1)) (fun h21 =>
 (h21.2.2 12 0 21).bind (fun a22 =>
 g_ ((0 : Int) ≤ l3 ∧ l3 < (h21.1 1121 a22 1 : Int)) (
 lt_ (sI h21 121 a22 l3 (-1)) (fun h23 =>
 (h23.2.2 12 0 26).bind (fun a24 =>
 g_ ((0 : Int) ≤ l3 ∧ l3 < (h23.1 1126 a24 1 : Int)) (
 lt_ (sI h23 126 a24 l3 (-1)) (fun h25 =>
 k711 (w32 (l3 + 1)) h25)))))))))))))
def F12_init_711 : Nat → Int → JM → Option JM
  | 0, _, _ => none
  | n + 1, l3, h => F12_init_711b (F12_init_711 n) l3 h
set_option maxRecDepth 100000 in
def F12_init_706 (s0 : Option Int) (s1 : Int) (h : JM) : Option JM :=
 (s0).bind (fun a26 =>
 lt_ (sI h 12 a26 1 s1) (fun h27 =>
 F12_init_711 j_f0 0 h27))
set_option maxRecDepth 100000 in
def F12_init_678 (l2 : Int) (s0 : Option Int) (s1 : Int) (h : JM) : Option JM :=
 (s0).bind (fun a28 =>
 lt_ (sI h 12 a28 0 s1) (fun h29 =>
 if 0 ≤ l2 then (
 if l2 ≤ h29.1 12 0 0 then (
 F12_init_706 (some 0) l2 h29) else (
 F12_init_706 (some 0) (h29.1 12 0 0) h29)) else (
 F12_init_706 (some 0) 0 h29)))
set_option maxRecDepth 100000 in
def F12_init (l1 : Int) (l2 : Int) (h : JM) : Option JM :=
 g_ (¬ h.1 1103 0 0 = 1) (lt_ (j_nw h 103 0 12) (fun h30 =>
 lt_ (sR h30 12 0 3 (some 0)) (fun h31 =>
 g_ (¬ h31.1 1105 0 0 = 1) (lt_ (j_nw h31 105 0 2) (fun h32 =>
 lt_ (sR h32 12 0 5 (some 0)) (fun h33 =>
 g_ (¬ h33.1 1106 0 0 = 1) (lt_ (j_nw h33 106 0 576) (fun h34 =>
 lt_ (sR h34 12 0 6 (some 0)) (fun h35 =>
 g_ (¬ h35.1 1107 0 0 = 1) (lt_ (j_nw h35 107 0 48) (fun h36 =>
 lt_ (sR h36 12 0 7 (some 0)) (fun h37 =>
 g_ (¬ h37.1 1108 0 0 = 1) (lt_ (j_nw h37 108 0 48) (fun h38 =>
 lt_ (sR h38 12 0 8 (some 0)) (fun h39 =>
 g_ (¬ h39.1 1109 0 0 = 1) (lt_ (j_nw h39 109 0 48) (fun h40 =>
 lt_ (sR h40 12 0 9 (some 0)) (fun h41 =>
 g_ (¬ h41.1 1110 0 0 = 1) (lt_ (j_nw h41 110 0 48) (fun h42 =>
 lt_ (sR h42 12 0 10 (some 0)) (fun h43 =>
 g_ (¬ h43.1 1111 0 0 = 1) (lt_ (j_nw h43 111 0 48) (fun h44 =>
 lt_ (sR h44 12 0 11 (some 0)) (fun h45 =>
 g_ (¬ h45.1 1112 0 0 = 1) (lt_ (j_nw h45 112 0 16) (fun h46 =>
 lt_ (sR h46 12 0 12 (some 0)) (fun h47 =>
 g_ (¬ h47.1 1113 0 0 = 1) (lt_ (j_nw h47 113 0 16) (fun h48 =>
 lt_ (sR h48 12 0 13 (some 0)) (fun h49 =>
 g_ (¬ h49.1 1114 0 0 = 1) (lt_ (j_nw h49 114 0 16) (fun h50 =>
 lt_ (sR h50 12 0 14 (some 0)) (fun h51 =>
 g_ (¬ h51.1 1115 0 0 = 1) (lt_ (j_nw h51 115 0 16) (fun h52 =>
 lt_ (sR h52 12 0 15 (some 0)) (fun h53 =>
 g_ (¬ h53.1 1116 0 0 = 1) (lt_ (j_nw h53 116 0 16) (fun h54 =>
 lt_ (sR h54 12 0 16 (some 0)) (fun h55 =>
 g_ (¬ h55.1 1117 0 0 = 1) (lt_ (j_nw h55 117 0 320) (fun h56 =>
 lt_ (sR h56 12 0 17 (some 0)) (fun h57 =>
 g_ (¬ h57.1 1118 0 0 = 1) (lt_ (j_nw h57 118 0 16) (fun h58 =>
 lt_ (sR h58 12 0 18 (some 0)) (fun h59 =>
 g_ (¬ h59.1 1119 0 0 = 1) (lt_ (j_nw h59 119 0 16) (fun h60 =>
 lt_ (sR h60 12 0 19 (some 0)) (fun h61 =>
 g_ (¬ h61.1 1120 0 0 = 1) (lt_ (j_nw h61 120 0 16) (fun h62 =>
 lt_ (sR h62 12 0 20 (some 0)) (fun h63 =>
 g_ (¬ h63.1 1121 0 0 = 1) (lt_ (j_nw h63 121 0 16) (fun h64 =>
 lt_ (sR h64 12 0 21 (some 0)) (fun h65 =>
 g_ (¬ h65.1 1122 0 0 = 1) (lt_ (j_nw h65 122 0 16) (fun h66 =>
 lt_ (sR h66 12 0 22 (some 0)) (fun h67 =>
 g_ (¬ h67.1 1123 0 0 = 1) (lt_ (j_nw h67 123 0 16) (fun h68 =>
 lt_ (sR h68 12 0 23 (some 0)) (fun h69 =>
 g_ (¬ h69.1 1124 0 0 = 1) (lt_ (j_nw h69 124 0 16) (fun h70 =>
 lt_ (sR h70 12 0 24 (some 0)) (fun h71 =>
 g_ (¬ h71.1 1125 0 0 = 1) (lt_ (j_nw h71 125 0 16) (fun h72 =>
 lt_ (sR h72 12 0 25 (some 0)) (fun h73 =>
 g_ (¬ h73.1 1126 0 0 = 1) (lt_ (j_nw h73 126 0 16) (fun h74 =>
 lt_ (sR h74 12 0 26 (some 0)) (fun h75 =>
 g_ (¬ h75.1 1127 0 0 = 1) (lt_ (j_nw h75 127 0 48) (fun h76 =>
 lt_ (sR h76 12 0 27 (some 0)) (fun h77 =>
 g_ (¬ h77.1 1128 0 0 = 1) (lt_ (j_nw h77 128 0 576) (fun h78 =>
 lt_ (sR h78 12 0 28 (some 0)) (fun h79 =>
 g_ (¬ h79.1 1129 0 0 = 1) (lt_ (j_nw h79 129 0 48) (fun h80 =>
 lt_ (sR h80 12 0 29 (some 0)) (fun h81 =>
 g_ (¬ h81.1 1130 0 0 = 1) (lt_ (j_nw h81 130 0 16) (fun h82 =>
 lt_ (sR h82 12 0 30 (some 0)) (fun h83 =>
 g_ (¬ h83.1 1131 0 0 = 1) (lt_ (j_nw h83 131 0 16) (fun h84 =>
 lt_ (sR h84 12 0 31 (some 0)) (fun h85 =>
 g_ (¬ h85.1 1133 0 0 = 1) (lt_ (j_nw h85 133 0 80) (fun h86 =>
 lt_ (sR h86 12 0 33 (some 0)) (fun h87 =>
 g_ (¬ h87.1 1134 0 0 = 1) (lt_ (j_nw h87 134 0 80) (fun h88 =>
 lt_ (sR h88 12 0 34 (some 0)) (fun h89 =>
 g_ (¬ h89.1 1135 0 0 = 1) (lt_ (j_nw h89 135 0 80) (fun h90 =>
 lt_ (sR h90 12 0 35 (some 0)) (fun h91 =>
 g_ (¬ h91.1 1136 0 0 = 1) (lt_ (j_nw h91 136 0 80) (fun h92 =>
 lt_ (sR h92 12 0 36 (some 0)) (fun h93 =>
 g_ (¬ h93.1 1137 0 0 = 1) (lt_ (j_nw h93 137 0 80) (fun h94 =>
 lt_ (sR h94 12 0 37 (some 0)) (fun h95 =>
 g_ (¬ h95.1 1138 0 0 = 1) (lt_ (j_nw h95 138 0 80) (fun h96 =>
 lt_ (sR h96 12 0 38 (some 0)) (fun h97 =>
 g_ (¬ h97.1 1139 0 0 = 1) (lt_ (j_nw h97 139 0 960) (fun h98 =>
 lt_ (sR h98 12 0 39 (some 0)) (fun h99 =>
 g_ (¬ h99.1 1140 0 0 = 1) (lt_ (j_nw h99 140 0 80) (fun h100 =>
 lt_ (sR h100 12 0 40 (some 0)) (fun h101 =>
 g_ (¬ h101.1 1141 0 0 = 1) (lt_ (j_nw h101 141 0 80) (fun h102 =>
 lt_ (sR h102 12 0 41 (some 0)) (fun h103 =>
 g_ (¬ h103.1 1142 0 0 = 1) (lt_ (j_nw h103 142 0 80) (fun h104 =>
 lt_ (sR h104 12 0 42 (some 0)) (fun h105 =>
 g_ (¬ h105.1 1143 0 0 = 1) (lt_ (j_nw h105 143 0 80) (fun h106 =>
 lt_ (sR h106 12 0 43 (some 0)) (fun h107 =>
 g_ (¬ h107.1 1144 0 0 = 1) (lt_ (j_nw h107 144 0 80) (fun h108 =>
 lt_ (sR h108 12 0 44 (some 0)) (fun h109 =>
 g_ (¬ h109.1 1145 0 0 = 1) (lt_ (j_nw h109 145 0 80) (fun h110 =>
 lt_ (sR h110 12 0 45 (some 0)) (fun h111 =>
 g_ (¬ h111.1 1146 0 0 = 1) (lt_ (j_nw h111 146 0 80) (fun h112 =>
 lt_ (sR h112 12 0 46 (some 0)) (fun h113 =>
 g_ (¬ h113.1 1147 0 0 = 1) (lt_ (j_nw h113 147 0 80) (fun h114 =>
 lt_ (sR h114 12 0 47 (some 0)) (fun h115 =>
 g_ (¬ h115.1 1148 0 0 = 1) (lt_ (j_nw h115 148 0 80) (fun h116 =>
 lt_ (sR h116 12 0 48 (some 0)) (fun h117 =>
 g_ (¬ h117.1 1149 0 0 = 1) (lt_ (j_nw h117 149 0 48) (fun h118 =>
 lt_ (sR h118 12 0 49 (some 0)) (fun h119 =>
 g_ (¬ h119.1 1150 0 0 = 1) (lt_ (j_nw h119 150 0 6) (fun h120 =>
 lt_ (sR h120 12 0 50 (some 0)) (fun h121 =>
 g_ (¬ h121.1 1151 0 0 = 1) (lt_ (j_nw h121 151 0 6) (fun h122 =>
 lt_ (sR h122 12 0 51 (some 0)) (fun h123 =>
 g_ (¬ h123.1 1152 0 0 = 1) (lt_ (j_nw h123 152 0 480) (fun h124 =>
 lt_ (sR h124 12 0 52 (some 0)) (fun h125 =>
 g_ (¬ h125.1 1153 0 0 = 1) (lt_ (j_nw h125 153 0 6) (fun h126 =>
 lt_ (sR h126 12 0 53 (some 0)) (fun h127 =>
 g_ (¬ h127.1 1154 0 0 = 1) (lt_ (j_nw h127 154 0 32) (fun h128 =>
 lt_ (sR h128 12 0 54 (some 0)) (fun h129 =>
 g_ (¬ h129.1 1155 0 0 = 1) (lt_ (j_nw h129 155 0 32) (fun h130 =>
 lt_ (sR h130 12 0 55 (some 0)) (fun h131 =>
 g_ (¬ h131.1 1156 0 0 = 1) (lt_ (j_nw h131 156 0 20) (fun h132 =>
 lt_ (sR h132 12 0 56 (some 0)) (fun h133 =>
 g_ (¬ h133.1 1158 0 0 = 1) (lt_ (j_nw h133 158 0 8192) (fun h134 =>
 lt_ (sR h134 12 0 58 (some 0)) (fun h135 =>
 g_ (¬ h135.1 1159 0 0 = 1) (lt_ (j_nw h135 159 0 512) (fun h136 =>
 lt_ (sR h136 12 0 59 (some 0)) (fun h137 =>
 g_ (¬ h137.1 1160 0 0 = 1) (lt_ (j_nw h137 160 0 2) (fun h138 =>
 lt_ (sR h138 12 0 60 (some 0)) (fun h139 =>
 g_ (¬ h139.1 1161 0 0 = 1) (lt_ (j_nw h139 161 0 2) (fun h140 =>
 lt_ (sR h140 12 0 61 (some 0)) (fun h141 =>
 g_ (¬ h141.1 1162 0 0 = 1) (lt_ (j_nw h141 162 0 2) (fun h142 =>
 lt_ (sR h142 12 0 62 (some 0)) (fun h143 =>
 g_ (¬ h143.1 1163 0 0 = 1) (lt_ (j_nw h143 163 0 2) (fun h144 =>
 lt_ (sR h144 12 0 63 (some 0)) (fun h145 =>
 g_ (¬ h145.1 1164 0 0 = 1) (lt_ (j_nw h145 164 0 2) (fun h146 =>
 lt_ (sR h146 12 0 64 (some 0)) (fun h147 =>
 g_ (¬ h147.1 1165 0 0 = 1) (lt_ (j_nw h147 165 0 2) (fun h148 =>
 lt_ (sR h148 12 0 65 (some 0)) (fun h149 =>
 g_ (¬ h149.1 1166 0 0 = 1) (lt_ (j_nw h149 166 0 2) (fun h150 =>
 lt_ (sR h150 12 0 66 (some 0)) (fun h151 =>
 g_ (¬ h151.1 1167 0 0 = 1) (lt_ (j_nw h151 167 0 2) (fun h152 =>
 lt_ (sR h152 12 0 67 (some 0)) (fun h153 =>
 g_ (¬ h153.1 1168 0 0 = 1) (lt_ (j_nw h153 168 0 64) (fun h154 =>
 lt_ (sR h154 12 0 68 (some 0)) (fun h155 =>
 g_ (¬ h155.1 1169 0 0 = 1) (lt_ (j_nw h155 169 0 320) (fun h156 =>
 lt_ (sR h156 12 0 69 (some 0)) (fun h157 =>
 g_ (¬ h157.1 1171 0 0 = 1) (lt_ (j_nw h157 171 0 40960) (fun h158 =>
 lt_ (sR h158 12 0 71 (some 0)) (fun h159 =>
 g_ (¬ h159.1 1172 0 0 = 1) (lt_ (j_nw h159 172 0 128) (fun h160 =>
 lt_ (sR h160 12 0 72 (some 0)) (fun h161 =>
 g_ (¬ h161.1 1173 0 0 = 1) (lt_ (j_nw h161 173 0 2560) (fun h162 =>
 lt_ (sR h162 12 0 73 (some 0)) (fun h163 =>
 g_ (¬ h163.1 1174 0 0 = 1) (lt_ (j_nw h163 174 0 8) (fun h164 =>
 lt_ (sR h164 12 0 74 (some 0)) (fun h165 =>
 g_ (¬ h165.1 1176 0 0 = 1) (lt_ (j_nw h165 176 0 300) (fun h166 =>
 lt_ (sR h166 12 0 76 (some 0)) (fun h167 =>
 g_ (¬ h167.1 1177 0 0 = 1) (lt_ (j_nw h167 177 0 300) (fun h168 =>
 lt_ (sR h168 12 0 77 (some 0)) (fun h169 =>
 g_ (¬ h169.1 1178 0 0 = 1) (lt_ (j_nw h169 178 0 300) (fun h170 =>
 lt_ (sR h170 12 0 78 (some 0)) (fun h171 =>
 g_ (¬ h171.1 1180 0 0 = 1) (lt_ (j_nw h171 180 0 300) (fun h172 =>
 lt_ (sR h172 12 0 80 (some 0)) (fun h173 =>
 g_ (¬ h173.1 1181 0 0 = 1) (lt_ (j_nw h173 181 0 300) (fun h174 =>
 lt_ (sR h174 12 0 81 (some 0)) (fun h175 =>
 g_ (¬ h175.1 1182 0 0 = 1) (lt_ (j_nw h175 182 0 320) (fun h176 =>
 lt_ (sR h176 12 0 82 (some 0)) (fun h177 =>
 g_ (¬ h177.1 1184 0 0 = 1) (lt_ (j_nw h177 184 0 32) (fun h178 =>
 lt_ (sR h178 12 0 84 (some 0)) (fun h179 =>
 g_ (¬ h179.1 1185 0 0 = 1) (lt_ (j_nw h179 185 0 32) (fun h180 =>
 lt_ (sR h180 12 0 85 (some 0)) (fun h181 =>
 g_ (¬ h181.1 1186 0 0 = 1) (lt_ (j_nw h181 186 0 4) (fun h182 =>
 lt_ (sR h182 12 0 86 (some 0)) (fun h183 =>
 g_ (¬ h183.1 1187 0 0 = 1) (lt_ (j_nw h183 187 0 4) (fun h184 =>
 lt_ (sR h184 12 0 87 (some 0)) (fun h185 =>
 g_ (¬ h185.1 1188 0 0 = 1) (lt_ (j_nw h185 188 0 4) (fun h186 =>
 lt_ (sR h186 12 0 88 (some 0)) (fun h187 =>
 g_ (¬ h187.1 1189 0 0 = 1) (lt_ (j_nw h187 189 0 4) (fun h188 =>
 lt_ (sR h188 12 0 89 (some 0)) (fun h189 =>
 g_ (¬ h189.1 1191 0 0 = 1) (lt_ (j_nw h189 191 0 1500) (fun h190 =>
 lt_ (sR h190 12 0 91 (some 0)) (fun h191 =>
 if 1 ≤ l1 then (
 if l1 ≤ 16 then (
 F12_init_678 l2 (some 0) l1 h191) else (
 F12_init_678 l2 (some 0) 16 h191)) else (
 F12_init_678 l2 (some 0) 1 h191))))))))))))))))))))))))))))))))))))))))))))))))))))))))))))))))))))))))))))))))))))))))))))))))))))))))))))))))))))))))))))))))))))))))))))))))))))))))))))))))))))))))))))))))))))))))))))))))))))))))))))))))))))))))))))))))))))))))))))))))))))
