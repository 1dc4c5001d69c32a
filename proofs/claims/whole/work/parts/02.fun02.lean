-- X12_comes
def F12_comes_224 (l4 : Int) (h : JM) : Option JM :=
 (F12_answered l4 h).bind (fun h1 =>
 some h1)
def F12_comes_148 (l1 : Int) (l3 : Int) (h : JM) : Option JM :=
 g_ ((0 : Int) ≤ l3 ∧ l3 < (32 : Int)) (
 if h.1 154 0 l3 = 0 then (
 (F12_incoming l1 h).bind (fun h2 =>
 some h2)) else (
 some h))
def F12_comes_44 (l1 : Int) (l3 : Int) (l4 : Int) (s0 : Int) (h : JM) : Option JM :=
 g_ ((0 : Int) ≤ 1 ∧ 1 < (64 : Int)) (
 if h.1 168 0 1 = 1 then (
 if s0 = 0 then (
 F12_comes_148 l1 l3 h) else (
 g_ ((0 : Int) ≤ l4 ∧ l4 < (80 : Int)) (
 if h.1 133 0 l4 = 1 then (
 g_ ((0 : Int) ≤ 0 ∧ 0 < (64 : Int)) (
 if j_rem (h.1 168 0 0) 2 = l1 then (
 F12_comes_148 l1 l3 h) else (
 g_ ((0 : Int) ≤ l3 ∧ l3 < (32 : Int)) (
 lt_ (sI h 154 0 l3 2) (fun h3 =>
 g_ ((0 : Int) ≤ l3 ∧ l3 < (32 : Int)) (
 lt_ (sI h3 155 0 l3 (-1)) (fun h4 =>
 g_ ((0 : Int) ≤ l4 ∧ l4 < (80 : Int)) (
 lt_ (sI h4 137 0 l4 (-1)) (fun h5 =>
 (F12_toFar l4 h5).bind (fun h6 =>
 (F12_incoming l1 h6).bind (fun h7 =>
 some h7))))))))))) else (
 F12_comes_148 l1 l3 h)))) else (
 if h.1 168 0 1 = 2 then (
 if s0 = 0 then (
 some h) else (
 g_ ((0 : Int) ≤ l4 ∧ l4 < (80 : Int)) (
 if h.1 133 0 l4 = 1 then (
 (F12_becomes l4 2 h).bind (fun h8 =>
 (F12_acm l4 h8).bind (fun h9 =>
 some h9))) else (
 some h)))) else (
 if h.1 168 0 1 = 3 then (
 if s0 = 0 then (
 some h) else (
 g_ ((0 : Int) ≤ l4 ∧ l4 < (80 : Int)) (
 if h.1 133 0 l4 = 1 then (
 F12_comes_224 l4 h) else (
 g_ ((0 : Int) ≤ l4 ∧ l4 < (80 : Int)) (
 if h.1 133 0 l4 = 2 then (
 F12_comes_224 l4 h) else (
 some h)))))) else (
 if h.1 168 0 1 = 4 then (
 g_ ((0 : Int) ≤ l3 ∧ l3 < (32 : Int)) (
 if h.1 154 0 l3 = 0 then (
 some h) else (
 g_ ((0 : Int) ≤ 2 ∧ 2 < (64 : Int)) (
 lt_ (h.1 168 0 2) (fun x10 =>
 g_ ((0 : Int) ≤ 0 ∧ 0 < (64 : Int)) (
 lt_ (h.1 168 0 0) (fun x11 =>
 (F12_begins x11 5 h).bind (fun h12 =>
 (F12_goes l1 h12).bind (fun h13 =>
 g_ ((0 : Int) ≤ l3 ∧ l3 < (32 : Int)) (
 if h13.1 154 0 l3 = 3 then (
 some h13) else (
 g_ ((0 : Int) ≤ l3 ∧ l3 < (32 : Int)) (
 lt_ (sI h13 154 0 l3 0) (fun h14 =>
 g_ ((0 : Int) ≤ l3 ∧ l3 < (32 : Int)) (
 lt_ (sI h14 155 0 l3 (-1)) (fun h15 =>
 (F12_over l4 x10 (w32 (100 + x11)) h15).bind (fun h16 =>
 some h16)))))))))))))))) else (
 g_ ((0 : Int) ≤ l3 ∧ l3 < (32 : Int)) (
 if h.1 154 0 l3 = 3 then (
 g_ ((0 : Int) ≤ l3 ∧ l3 < (32 : Int)) (
 lt_ (sI h 154 0 l3 0) (fun h17 =>
 some h17))) else (
 some h)))))))
def F12_comes (l1 : Int) (l2 : Int) (h : JM) : Option JM :=
 (F12_isSo l2 h).bind (fun q18 =>
 if q18.1 = 0 then (
 some q18.2) else (
 g_ ((0 : Int) ≤ 0 ∧ 0 < (64 : Int)) (
 lt_ (w32 ((w32 (16 * l1)) + (q18.2.1 168 0 0))) (fun x19 =>
 g_ ((0 : Int) ≤ x19 ∧ x19 < (32 : Int)) (
 lt_ (q18.2.1 155 0 x19) (fun x20 =>
 g_ ((0 : Int) ≤ x19 ∧ x19 < (32 : Int)) (
 if q18.2.1 154 0 x19 = 1 then (
 F12_comes_44 l1 x19 x20 1 q18.2) else (
 F12_comes_44 l1 x19 x20 0 q18.2))))))))
-- X12_isLine
def F12_isLine (l0 : Int) (h : JM) : Option (Int × JM) :=
 (F12_in l0 0 15 h).bind (fun q1 =>
 g_ (q1.1 = 0 ∨ q1.1 = 1) (some (q1.1, q1.2)))
-- X12_credit
def F12_credit_21 (h : JM) : Option (Int × JM) :=
 some ((-2), h)
def F12_credit (l1 : Int) (l2 : Int) (h : JM) : Option (Int × JM) :=
 (F12_isLine l1 h).bind (fun q1 =>
 if q1.1 = 0 then (
 F12_credit_21 q1.2) else (
 (F12_in l2 (-1) 1000000 q1.2).bind (fun q2 =>
 if q2.1 = 0 then (
 F12_credit_21 q2.2) else (
 g_ ((0 : Int) ≤ l1 ∧ l1 < (16 : Int)) (
 lt_ (q2.2.1 126 0 l1) (fun x3 =>
 g_ ((0 : Int) ≤ l1 ∧ l1 < (16 : Int)) (
 lt_ (sI q2.2 126 0 l1 l2) (fun h4 =>
 some (x3, h4)))))))))
-- X12_dial
def F12_dial_28 (h : JM) : Option (Int × JM) :=
 some ((-2), h)
def F12_dial (l1 : Int) (l2 : Int) (h : JM) : Option (Int × JM) :=
 (F12_isLine l1 h).bind (fun q1 =>
 if q1.1 = 0 then (
 F12_dial_28 q1.2) else (
 (F12_in l2 0 11 q1.2).bind (fun q2 =>
 if q2.1 = 0 then (
 F12_dial_28 q2.2) else (
 g_ ((0 : Int) ≤ l1 ∧ l1 < (16 : Int)) (
 if q2.2.1 112 0 l1 = 0 then (
 F12_dial_28 q2.2) else (
 g_ ((0 : Int) ≤ l1 ∧ l1 < (16 : Int)) (
 if q2.2.1 118 0 l1 = 20 then (
 some ((-3), q2.2)) else (
 g_ ((0 : Int) ≤ l1 ∧ l1 < (16 : Int)) (
 g_ ((0 : Int) ≤ l1 ∧ l1 < (16 : Int)) (
 lt_ (sI q2.2 118 0 l1 (w32 ((q2.2.1 118 0 l1) + 1))) (fun h3 =>
 g_ ((0 : Int) ≤ w32 ((w32 (20 * l1)) + (q2.2.1 118 0 l1)) ∧ w32 ((w32 (20 * l1)) + (q2.2.1 118 0 l1)) < (320 : Int)) (
 lt_ (sI h3 117 0 (w32 ((w32 (20 * l1)) + (q2.2.1 118 0 l1))) l2) (fun h4 =>
 g_ ((0 : Int) ≤ l1 ∧ l1 < (16 : Int)) (
 some (h4.1 118 0 l1, h4)))))))))))))))
-- X12_feature
def F12_feature_19 (h : JM) : Option (Int × JM) :=
 some ((-2), h)
def F12_feature (l1 : Int) (l2 : Int) (l3 : Int) (h : JM) : Option (Int × JM) :=
 (F12_isLine l1 h).bind (fun q1 =>
 if q1.1 = 0 then (
 F12_feature_19 q1.2) else (
 (F12_in l2 0 2 q1.2).bind (fun q2 =>
 if q2.1 = 0 then (
 F12_feature_19 q2.2) else (
 g_ ((0 : Int) ≤ w32 ((w32 (3 * l1)) + l2) ∧ w32 ((w32 (3 * l1)) + l2) < (48 : Int)) (
 lt_ (q2.2.1 127 0 (w32 ((w32 (3 * l1)) + l2))) (fun x3 =>
 g_ ((0 : Int) ≤ w32 ((w32 (3 * l1)) + l2) ∧ w32 ((w32 (3 * l1)) + l2) < (48 : Int)) (
 g_ (l3 = 0 ∨ l3 = 1) (lt_ (sI q2.2 127 0 (w32 ((w32 (3 * l1)) + l2)) l3) (fun h4 =>
 if x3 = 0 then (
 some (0, h4)) else (
 some (1, h4)))))))))))
-- X12_flag
def F12_flag_38 (k2 : Int → JM → Option JM) (l1 : Int) (s0 : Option Int) (s1 : Int) (s2 : Int) (h : JM) : Option JM :=
 (s0).bind (fun a1 =>
 g_ ((0 : Int) ≤ s1 ∧ s1 < (320 : Int)) (
 lt_ (sI h 169 a1 s1 s2) (fun h2 =>
 k2 (w32 (l1 + 1)) h2)))
def F12_flag_33 (k2 : Int → JM → Option JM) (l1 : Int) (s0 : Option Int) (s1 : Int) (h : JM) : Option JM :=
 F12_flag_38 k2 l1 s0 s1 0 h
def F12_flag_2b (k2 : Int → JM → Option JM) (l1 : Int) (h : JM) : Option JM :=
 if 8 ≤ l1 then (
 some h) else (
 lt_ (sI h 12 0 70 (w32 ((h.1 12 0 70) + 1))) (fun h3 =>
 if l1 = 0 then (
 F12_flag_33 k2 l1 (some 0) (h.1 12 0 70) h3) else (
 if l1 = 7 then (
 F12_flag_33 k2 l1 (some 0) (h.1 12 0 70) h3) else (
 F12_flag_38 k2 l1 (some 0) (h.1 12 0 70) 1 h3))))
def F12_flag_2 : Nat → Int → JM → Option JM
  | 0, _, _ => none
  | n + 1, l1, h => F12_flag_2b (F12_flag_2 n) l1 h
def F12_flag (h : JM) : Option JM :=
 F12_flag_2 j_fu 0 h
-- X12_flashes
def F12_flashes (l1 : Int) (h : JM) : Option JM :=
 g_ ((0 : Int) ≤ l1 ∧ l1 < (16 : Int)) (
 if h.1 120 0 l1 = (-1) then (
 some h) else (
 g_ ((0 : Int) ≤ l1 ∧ l1 < (16 : Int)) (
 lt_ (h.1 120 0 l1) (fun x1 =>
 g_ ((0 : Int) ≤ l1 ∧ l1 < (16 : Int)) (
 g_ ((0 : Int) ≤ l1 ∧ l1 < (16 : Int)) (
 lt_ (sI h 120 0 l1 (h.1 119 0 l1)) (fun h2 =>
 g_ ((0 : Int) ≤ l1 ∧ l1 < (16 : Int)) (
 lt_ (sI h2 119 0 l1 x1) (fun h3 =>
 g_ ((0 : Int) ≤ x1 ∧ x1 < (80 : Int)) (
 if h3.1 133 0 x1 = 2 then (
 (F12_answered x1 h3).bind (fun h4 =>
 some h4)) else (
 some h3)))))))))))
-- X12_forward
def F12_forward_31b (k31 : Int → Int → JM → Option (Int × JM)) (l3 : Int) (l4 : Int) (h : JM) : Option (Int × JM) :=
 if h.1 12 0 4 ≤ l4 then (
 g_ ((0 : Int) ≤ l3 ∧ l3 < (48 : Int)) (
 lt_ (sI h 129 0 l3 (h.1 12 0 4)) (fun h1 =>
 lt_ (sI h1 12 0 4 0) (fun h2 =>
 some (1, h2))))) else (
 g_ ((0 : Int) ≤ l4 ∧ l4 < (12 : Int)) (
 g_ ((0 : Int) ≤ w32 ((w32 (12 * l3)) + l4) ∧ w32 ((w32 (12 * l3)) + l4) < (576 : Int)) (
 lt_ (sI h 128 0 (w32 ((w32 (12 * l3)) + l4)) (h.1 103 0 l4)) (fun h3 =>
 k31 l3 (w32 (l4 + 1)) h3))))
def F12_forward_31 : Nat → Int → Int → JM → Option (Int × JM)
  | 0, _, _, _ => none
  | n + 1, l3, l4, h => F12_forward_31b (F12_forward_31 n) l3 l4 h
def F12_forward_19 (h : JM) : Option (Int × JM) :=
 some ((-2), h)
def F12_forward (l1 : Int) (l2 : Int) (h : JM) : Option (Int × JM) :=
 (F12_isLine l1 h).bind (fun q4 =>
 if q4.1 = 0 then (
 F12_forward_19 q4.2) else (
 (F12_in l2 0 2 q4.2).bind (fun q5 =>
 if q5.1 = 0 then (
 F12_forward_19 q5.2) else (
 lt_ (w32 ((w32 (3 * l1)) + l2)) (fun x6 =>
 F12_forward_31 j_fu x6 0 q5.2)))))
-- X12_heardOf
def F12_heardOf (l0 : Int) (l1 : Int) (h : JM) : Option (Int × JM) :=
 (F12_codeOf l0 l1 h).bind (fun q1 =>
 (F12_back l0 q1.1 q1.2).bind (fun q2 =>
 some (q2.1, q2.2)))
-- X12_gets
def F12_gets (l1 : Int) (l2 : Int) (l3 : Int) (h : JM) : Option JM :=
 g_ ((0 : Int) ≤ l1 ∧ l1 < (80 : Int)) (
 lt_ (h.1 135 0 l1) (fun x1 =>
 (F12_isCircuit l2 h).bind (fun q2 =>
 if q2.1 = 0 then (
 g_ ((0 : Int) ≤ l2 ∧ l2 < (16 : Int)) (
 if q2.2.1 119 0 l2 = l1 then (
 (F12_heardOf x1 l3 q2.2).bind (fun q3 =>
 g_ ((0 : Int) ≤ l2 ∧ l2 < (16 : Int)) (
 lt_ (sI q3.2 131 0 l2 q3.1) (fun h4 =>
 some h4)))) else (
 some q2.2))) else (
 (F12_codeOf 0 l3 q2.2).bind (fun q5 =>
 g_ ((0 : Int) ≤ w32 ((w32 ((w32 (16 * x1)) + l2)) - 100) ∧ w32 ((w32 ((w32 (16 * x1)) + l2)) - 100) < (32 : Int)) (
 lt_ (sI q5.2 185 0 (w32 ((w32 ((w32 (16 * x1)) + l2)) - 100)) q5.1) (fun h6 =>
 some h6)))))))
-- X12_given
def F12_given (l1 : Int) (l2 : Int) (h : JM) : Option (Int × JM) :=
 g_ ((0 : Int) ≤ l1 ∧ l1 < (80 : Int)) (
 lt_ (h.1 135 0 l1) (fun x1 =>
 (F12_isCircuit l2 h).bind (fun q2 =>
 if q2.1 = 0 then (
 g_ ((0 : Int) ≤ l2 ∧ l2 < (16 : Int)) (
 if q2.2.1 119 0 l2 = l1 then (
 g_ ((0 : Int) ≤ l2 ∧ l2 < (16 : Int)) (
 (F12_heardOf x1 (q2.2.1 130 0 l2) q2.2).bind (fun q3 =>
 some (q3.1, q3.2)))) else (
 some (0, q2.2)))) else (
 g_ ((0 : Int) ≤ w32 ((w32 ((w32 (16 * (w32 (1 - x1)))) + l2)) - 100) ∧ w32 ((w32 ((w32 (16 * (w32 (1 - x1)))) + l2)) - 100) < (32 : Int)) (
 (F12_back 0 (q2.2.1 184 0 (w32 ((w32 ((w32 (16 * (w32 (1 - x1)))) + l2)) - 100))) q2.2).bind (fun q4 =>
 some (q4.1, q4.2)))))))
-- X12_group
def F12_group_32 (h : JM) : Option (Int × JM) :=
 some ((-2), h)
def F12_group (l1 : Int) (l2 : Int) (l3 : Int) (h : JM) : Option (Int × JM) :=
 (F12_in l1 0 1 h).bind (fun q1 =>
 if q1.1 = 0 then (
 F12_group_32 q1.2) else (
 (F12_in l2 0 2 q1.2).bind (fun q2 =>
 if q2.1 = 0 then (
 F12_group_32 q2.2) else (
 (F12_in l3 0 1 q2.2).bind (fun q3 =>
 if q3.1 = 0 then (
 F12_group_32 q3.2) else (
 if l3 = 0 then (
 g_ ((0 : Int) ≤ w32 ((w32 (3 * l1)) + l2) ∧ w32 ((w32 (3 * l1)) + l2) < (6 : Int)) (
 some (q3.2.1 153 0 (w32 ((w32 (3 * l1)) + l2)), q3.2))) else (
 g_ ((0 : Int) ≤ w32 ((w32 (3 * l1)) + l2) ∧ w32 ((w32 (3 * l1)) + l2) < (6 : Int)) (
 some (q3.2.1 150 0 (w32 ((w32 (3 * l1)) + l2)), q3.2)))))))))
-- X12_hangs
def F12_hangs_76 (l1 : Int) (h : JM) : Option JM :=
 g_ ((0 : Int) ≤ l1 ∧ l1 < (16 : Int)) (
 lt_ (sI h 123 0 l1 0) (fun h1 =>
 some h1))
def F12_hangs_49 (l1 : Int) (h : JM) : Option JM :=
 g_ ((0 : Int) ≤ l1 ∧ l1 < (16 : Int)) (
 lt_ (h.1 120 0 l1) (fun x2 =>
 g_ ((0 : Int) ≤ l1 ∧ l1 < (16 : Int)) (
 lt_ (sI h 120 0 l1 (-1)) (fun h3 =>
 if x2 = (-1) then (
 F12_hangs_76 l1 h3) else (
 (F12_over x2 7 l1 h3).bind (fun h4 =>
 F12_hangs_76 l1 h4))))))
def F12_hangs (l1 : Int) (h : JM) : Option JM :=
 g_ ((0 : Int) ≤ l1 ∧ l1 < (16 : Int)) (
 lt_ (sI h 112 0 l1 0) (fun h5 =>
 (F12_clears l1 h5).bind (fun h6 =>
 g_ ((0 : Int) ≤ l1 ∧ l1 < (16 : Int)) (
 lt_ (sI h6 125 0 l1 (h6.1 12 0 2)) (fun h7 =>
 g_ ((0 : Int) ≤ l1 ∧ l1 < (16 : Int)) (
 lt_ (h7.1 119 0 l1) (fun x8 =>
 g_ ((0 : Int) ≤ l1 ∧ l1 < (16 : Int)) (
 lt_ (sI h7 119 0 l1 (-1)) (fun h9 =>
 if x8 = (-1) then (
 F12_hangs_49 l1 h9) else (
 (F12_over x8 7 l1 h9).bind (fun h10 =>
 F12_hangs_49 l1 h10)))))))))))
-- X12_heard
def F12_heard (l1 : Int) (h : JM) : Option (Int × JM) :=
 (F12_isLine l1 h).bind (fun q1 =>
 if q1.1 = 0 then (
 some ((-2), q1.2)) else (
 g_ ((0 : Int) ≤ l1 ∧ l1 < (16 : Int)) (
 some (q1.2.1 131 0 l1, q1.2))))
-- X12_hook
def F12_hook_24 (l1 : Int) (l2 : Int) (s0 : Int) (h : JM) : Option (Int × JM) :=
 g_ ((0 : Int) ≤ l1 ∧ l1 < (16 : Int)) (
 g_ (l2 = 0 ∨ l2 = 1) (lt_ (sI h 113 0 l1 l2) (fun h1 =>
 some (s0, h1))))
def F12_hook (l1 : Int) (l2 : Int) (h : JM) : Option (Int × JM) :=
 (F12_isLine l1 h).bind (fun q2 =>
 if q2.1 = 0 then (
 some ((-2), q2.2)) else (
 g_ ((0 : Int) ≤ l1 ∧ l1 < (16 : Int)) (
 if q2.2.1 113 0 l1 = 0 then (
 F12_hook_24 l1 l2 0 q2.2) else (
 F12_hook_24 l1 l2 1 q2.2))))
-- X12_inRoomOthers
def F12_inRoomOthers_69 (k4 : Int → Int → Int → JM → Option (Int × JM)) (l1 : Int) (l2 : Int) (l3 : Int) (h : JM) : Option (Int × JM) :=
 k4 l1 l2 (w32 (l3 + 1)) h
def F12_inRoomOthers_4b (k4 : Int → Int → Int → JM → Option (Int × JM)) (l1 : Int) (l2 : Int) (l3 : Int) (h : JM) : Option (Int × JM) :=
 if 80 ≤ l3 then (
 if l2 ≤ 8000 then (
 if (-8000) ≤ l2 then (
 some (l2, h)) else (
 some ((-8000), h))) else (
 some (8000, h))) else (
 if l3 = l1 then (
 F12_inRoomOthers_69 k4 l1 l2 l3 h) else (
 g_ ((0 : Int) ≤ l3 ∧ l3 < (80 : Int)) (
 if h.1 133 0 l3 = 3 then (
 g_ ((0 : Int) ≤ l3 ∧ l3 < (80 : Int)) (
 g_ ((0 : Int) ≤ l1 ∧ l1 < (80 : Int)) (
 if h.1 135 0 l3 = h.1 135 0 l1 then (
 g_ ((0 : Int) ≤ l3 ∧ l3 < (80 : Int)) (
 g_ ((0 : Int) ≤ l1 ∧ l1 < (80 : Int)) (
 if h.1 137 0 l3 = h.1 137 0 l1 then (
 g_ ((0 : Int) ≤ l3 ∧ l3 < (80 : Int)) (
 (F12_given l3 (h.1 136 0 l3) h).bind (fun q1 =>
 lt_ (w32 (l2 + q1.1)) (fun x2 =>
 F12_inRoomOthers_69 k4 l1 x2 l3 q1.2)))) else (
 F12_inRoomOthers_69 k4 l1 l2 l3 h)))) else (
 F12_inRoomOthers_69 k4 l1 l2 l3 h)))) else (
 F12_inRoomOthers_69 k4 l1 l2 l3 h))))
def F12_inRoomOthers_4 : Nat → Int → Int → Int → JM → Option (Int × JM)
  | 0, _, _, _, _ => none
  | n + 1, l1, l2, l3, h => F12_inRoomOthers_4b (F12_inRoomOthers_4 n) l1 l2 l3 h
def F12_inRoomOthers (l1 : Int) (h : JM) : Option (Int × JM) :=
 F12_inRoomOthers_4 j_fu l1 0 0 h
-- X12_isFlag
def F12_isFlag_28 (k2 : Option Int → Int → Int → JM → Option (Int × JM)) (l0 : Option Int) (l1 : Int) (l2 : Int) (s0 : Int) (s1 : Int) (h : JM) : Option (Int × JM) :=
 if s0 = s1 then (
 k2 l0 l1 (w32 (l2 + 1)) h) else (
 some (0, h))
def F12_isFlag_23 (k2 : Option Int → Int → Int → JM → Option (Int × JM)) (l0 : Option Int) (l1 : Int) (l2 : Int) (s0 : Int) (h : JM) : Option (Int × JM) :=
 F12_isFlag_28 k2 l0 l1 l2 s0 0 h
def F12_isFlag_2b (k2 : Option Int → Int → Int → JM → Option (Int × JM)) (l0 : Option Int) (l1 : Int) (l2 : Int) (h : JM) : Option (Int × JM) :=
 if 8 ≤ l2 then (
 some (1, h)) else (
 (l0).bind (fun a1 =>
 g_ ((0 : Int) ≤ w32 (l1 + l2) ∧ w32 (l1 + l2) < (2560 : Int)) (
 if l2 = 0 then (
 F12_isFlag_23 k2 (some a1) l1 l2 (h.1 173 a1 (w32 (l1 + l2))) h) else (
 if l2 = 7 then (
 F12_isFlag_23 k2 (some a1) l1 l2 (h.1 173 a1 (w32 (l1 + l2))) h) else (
 F12_isFlag_28 k2 (some a1) l1 l2 (h.1 173 a1 (w32 (l1 + l2))) 1 h)))))
def F12_isFlag_2 : Nat → Option Int → Int → Int → JM → Option (Int × JM)
  | 0, _, _, _, _ => none
  | n + 1, l0, l1, l2, h => F12_isFlag_2b (F12_isFlag_2 n) l0 l1 l2 h
def F12_isFlag (l0 : Option Int) (l1 : Int) (h : JM) : Option (Int × JM) :=
 F12_isFlag_2 j_fu l0 l1 0 h
-- X12_read
def F12_read_7b (k7 : Int → Int → Int → JM → Option (Int × JM)) (l1 : Int) (l3 : Int) (l4 : Int) (h : JM) : Option (Int × JM) :=
 if l4 < 0 then (
 some (l3, h)) else (
 g_ ((0 : Int) ≤ w32 (l1 + l4) ∧ w32 (l1 + l4) < (320 : Int)) (
 lt_ (w32 ((w32 (2 * l3)) + (h.1 182 0 (w32 (l1 + l4))))) (fun x1 =>
 k7 l1 x1 (w32 (l4 + (-1))) h)))
def F12_read_7 : Nat → Int → Int → Int → JM → Option (Int × JM)
  | 0, _, _, _, _ => none
  | n + 1, l1, l3, l4, h => F12_read_7b (F12_read_7 n) l1 l3 l4 h
def F12_read (l1 : Int) (l2 : Int) (h : JM) : Option (Int × JM) :=
 lt_ (w32 (l2 - 1)) (fun x2 =>
 F12_read_7 j_fu l1 0 x2 h)
-- X12_isRight
def F12_isRight_213 (h : JM) : Option (Int × JM) :=
 some (0, h)
def F12_isRight_172 (k89 : Int → Int → Int → Int → JM → Option (Int × JM)) (l4 : Int) (l5 : Int) (l6 : Int) (l7 : Int) (h : JM) : Option (Int × JM) :=
 k89 l4 l5 l6 (w32 (l7 + 1)) h
def F12_isRight_170 (k89 : Int → Int → Int → Int → JM → Option (Int × JM)) (l4 : Int) (l6 : Int) (l7 : Int) (s0 : Int) (h : JM) : Option (Int × JM) :=
 F12_isRight_172 k89 l4 s0 l6 l7 h
def F12_isRight_119 (k89 : Int → Int → Int → Int → JM → Option (Int × JM)) (l4 : Int) (l7 : Int) (s0 : Int) (s1 : Int) (h : JM) : Option (Int × JM) :=
 lt_ (j_and s0 s1) (fun x1 =>
 F12_isRight_172 k89 l4 0 x1 l7 h)
def F12_isRight_89b (k89 : Int → Int → Int → Int → JM → Option (Int × JM)) (l4 : Int) (l5 : Int) (l6 : Int) (l7 : Int) (h : JM) : Option (Int × JM) :=
 if l4 ≤ l7 then (
 if l6 = 0 then (
 F12_isRight_213 h) else (
 if h.1 12 0 83 < 40 then (
 F12_isRight_213 h) else (
 (F12_read 16 6 h).bind (fun q2 =>
 if h.1 12 0 83 = w32 (40 + (w32 (8 * q2.1))) then (
 (F12_check (some 0) 0 (w32 ((q2.2.1 12 0 83) - 16)) q2.2).bind (fun q3 =>
 (F12_read (w32 ((q3.2.1 12 0 83) - 16)) 16 q3.2).bind (fun q4 =>
 if q3.1 = q4.1 then (
 some (1, q4.2)) else (
 some (0, q4.2))))) else (
 F12_isRight_213 q2.2))))) else (
 if l5 = 5 then (
 g_ ((0 : Int) ≤ l7 ∧ l7 < (2560 : Int)) (
 if h.1 173 0 l7 = 0 then (
 F12_isRight_119 k89 l4 l7 l6 1 h) else (
 F12_isRight_119 k89 l4 l7 l6 0 h))) else (
 lt_ (sI h 12 0 83 (w32 ((h.1 12 0 83) + 1))) (fun h5 =>
 g_ ((0 : Int) ≤ l7 ∧ l7 < (2560 : Int)) (
 g_ ((0 : Int) ≤ h.1 12 0 83 ∧ h.1 12 0 83 < (320 : Int)) (
 lt_ (sI h5 182 0 (h.1 12 0 83) (h5.1 173 0 l7)) (fun h6 =>
 g_ ((0 : Int) ≤ l7 ∧ l7 < (2560 : Int)) (
 if h6.1 173 0 l7 = 1 then (
 F12_isRight_170 k89 l4 l6 l7 (w32 (l5 + 1)) h6) else (
 F12_isRight_170 k89 l4 l6 l7 0 h6))))))))
def F12_isRight_89 : Nat → Int → Int → Int → Int → JM → Option (Int × JM)
  | 0, _, _, _, _, _ => none
  | n + 1, l4, l5, l6, l7, h => F12_isRight_89b (F12_isRight_89 n) l4 l5 l6 l7 h
def F12_isRight_61 (l2 : Int) (l3 : Int) (l4 : Int) (h : JM) : Option (Int × JM) :=
 if w32 (l4 + 8) ≤ l3 then (
 lt_ (sI h 12 0 83 0) (fun h7 =>
 lt_ (w32 (l2 + 8)) (fun x8 =>
 F12_isRight_89 j_fu l4 0 1 x8 h7))) else (
 some (0, h))
def F12_isRight_34b (k34 : Int → Int → Int → JM → Option (Int × JM)) (l2 : Int) (l3 : Int) (l4 : Int) (h : JM) : Option (Int × JM) :=
 if l3 < w32 (l4 + 8) then (
 F12_isRight_61 l2 l3 l4 h) else (
 (F12_isFlag (some 0) l4 h).bind (fun q9 =>
 if q9.1 = 0 then (
 k34 l2 l3 (w32 (l4 + 1)) q9.2) else (
 F12_isRight_61 l2 l3 l4 q9.2)))
def F12_isRight_34 : Nat → Int → Int → Int → JM → Option (Int × JM)
  | 0, _, _, _, _ => none
  | n + 1, l2, l3, l4, h => F12_isRight_34b (F12_isRight_34 n) l2 l3 l4 h
def F12_isRight (l1 : Int) (h : JM) : Option (Int × JM) :=
 lt_ (w32 (320 * l1)) (fun x10 =>
 g_ ((0 : Int) ≤ l1 ∧ l1 < (8 : Int)) (
 lt_ (w32 (x10 + (h.1 174 0 l1))) (fun x11 =>
 (F12_isFlag (some 0) x10 h).bind (fun q12 =>
 if q12.1 = 0 then (
 some (0, q12.2)) else (
 lt_ (w32 (x10 + 8)) (fun x13 =>
 F12_isRight_34 j_fu x10 x11 x13 q12.2))))))
-- X12_key
def F12_key (l1 : Int) (h : JM) : Option (Int × JM) :=
 (F12_in l1 0 11 h).bind (fun q1 =>
 if q1.1 = 0 then (
 some ((-2), q1.2)) else (
 if q1.2.1 12 0 4 = 12 then (
 some ((-3), q1.2)) else (
 lt_ (sI q1.2 12 0 4 (w32 ((q1.2.1 12 0 4) + 1))) (fun h2 =>
 g_ ((0 : Int) ≤ q1.2.1 12 0 4 ∧ q1.2.1 12 0 4 < (12 : Int)) (
 lt_ (sI h2 103 0 (q1.2.1 12 0 4) l1) (fun h3 =>
 some (h3.1 12 0 4, h3)))))))
-- X12_keyComes
def F12_keyComes (l1 : Int) (l2 : Int) (h : JM) : Option JM :=
 g_ ((0 : Int) ≤ l1 ∧ l1 < (16 : Int)) (
 lt_ (h.1 119 0 l1) (fun x1 =>
 if x1 = (-1) then (
 some h) else (
 g_ ((0 : Int) ≤ x1 ∧ x1 < (80 : Int)) (
 if h.1 133 0 x1 = 0 then (
 g_ ((0 : Int) ≤ x1 ∧ x1 < (80 : Int)) (
 g_ ((0 : Int) ≤ x1 ∧ x1 < (80 : Int)) (
 lt_ (sI h 140 0 x1 (w32 ((h.1 140 0 x1) + 1))) (fun h2 =>
 g_ ((0 : Int) ≤ w32 ((w32 (12 * x1)) + (h.1 140 0 x1)) ∧ w32 ((w32 (12 * x1)) + (h.1 140 0 x1)) < (960 : Int)) (
 lt_ (sI h2 139 0 (w32 ((w32 (12 * x1)) + (h.1 140 0 x1))) l2) (fun h3 =>
 g_ ((0 : Int) ≤ x1 ∧ x1 < (80 : Int)) (
 lt_ (sI h3 145 0 x1 (h3.1 12 0 2)) (fun h4 =>
 (F12_analysis x1 h4).bind (fun q5 =>
 if q5.1 = (-2) then (
 (F12_over x1 1 (-1) q5.2).bind (fun h7 =>
 some h7)) else (
 if q5.1 = (-1) then (
 some q5.2) else (
 (F12_placesN 8 x1 q5.1 q5.2).bind (fun h6 =>
 some h6)))))))))))) else (
 some h)))))
-- X12_keyless
def F12_keyless (h : JM) : Option (Int × JM) :=
 lt_ (h.1 12 0 4) (fun x1 =>
 lt_ (sI h 12 0 4 0) (fun h2 =>
 some (x1, h2)))
-- X12_lifts
def F12_lifts (l1 : Int) (h : JM) : Option JM :=
 g_ ((0 : Int) ≤ l1 ∧ l1 < (16 : Int)) (
 lt_ (sI h 112 0 l1 1) (fun h1 =>
 (F12_clears l1 h1).bind (fun h2 =>
 g_ ((0 : Int) ≤ l1 ∧ l1 < (16 : Int)) (
 lt_ (sI h2 124 0 l1 0) (fun h3 =>
 g_ ((0 : Int) ≤ l1 ∧ l1 < (16 : Int)) (
 lt_ (h3.1 121 0 l1) (fun x4 =>
 g_ ((0 : Int) ≤ l1 ∧ l1 < (16 : Int)) (
 lt_ (sI h3 121 0 l1 (-1)) (fun h5 =>
 if x4 = (-1) then (
 (F12_makes (j_div l1 8) l1 h5).bind (fun q8 =>
 g_ ((0 : Int) ≤ l1 ∧ l1 < (16 : Int)) (
 lt_ (sI q8.2 119 0 l1 q8.1) (fun h9 =>
 some h9)))) else (
 g_ ((0 : Int) ≤ l1 ∧ l1 < (16 : Int)) (
 lt_ (sI h5 119 0 l1 x4) (fun h6 =>
 (F12_answered x4 h6).bind (fun h7 =>
 some h7)))))))))))))
-- X12_sounds
def F12_sounds_136 (h : JM) : Option (Int × JM) :=
 some (7, h)
def F12_sounds (l1 : Int) (h : JM) : Option (Int × JM) :=
 g_ ((0 : Int) ≤ l1 ∧ l1 < (16 : Int)) (
 if h.1 112 0 l1 = 0 then (
 g_ ((0 : Int) ≤ l1 ∧ l1 < (16 : Int)) (
 if h.1 121 0 l1 = (-1) then (
 some (0, h)) else (
 some (5, h)))) else (
 g_ ((0 : Int) ≤ l1 ∧ l1 < (16 : Int)) (
 lt_ (h.1 119 0 l1) (fun x1 =>
 if x1 = (-1) then (
 g_ ((0 : Int) ≤ l1 ∧ l1 < (16 : Int)) (
 some (h.1 123 0 l1, h))) else (
 g_ ((0 : Int) ≤ x1 ∧ x1 < (80 : Int)) (
 if h.1 133 0 x1 = 0 then (
 g_ ((0 : Int) ≤ x1 ∧ x1 < (80 : Int)) (
 if h.1 140 0 x1 = 0 then (
 some (1, h)) else (
 some (0, h)))) else (
 if h.1 133 0 x1 = 1 then (
 some (0, h)) else (
 if h.1 133 0 x1 = 2 then (
 some (2, h)) else (
 if h.1 133 0 x1 = 4 then (
 some (6, h)) else (
 g_ ((0 : Int) ≤ l1 ∧ l1 < (16 : Int)) (
 if h.1 120 0 l1 = (-1) then (
 F12_sounds_136 h) else (
 g_ ((0 : Int) ≤ l1 ∧ l1 < (16 : Int)) (
 g_ ((0 : Int) ≤ h.1 120 0 l1 ∧ h.1 120 0 l1 < (80 : Int)) (
 if h.1 133 0 (h.1 120 0 l1) = 2 then (
 some (8, h)) else (
 F12_sounds_136 h)))))))))))))))
-- X12_line
def F12_line_19 (h : JM) : Option (Int × JM) :=
 some ((-2), h)
def F12_line (l1 : Int) (l2 : Int) (h : JM) : Option (Int × JM) :=
 (F12_isLine l1 h).bind (fun q1 =>
 if q1.1 = 0 then (
 F12_line_19 q1.2) else (
 (F12_in l2 0 8 q1.2).bind (fun q2 =>
 if q2.1 = 0 then (
 F12_line_19 q2.2) else (
 g_ ((0 : Int) ≤ l1 ∧ l1 < (16 : Int)) (
 lt_ (q2.2.1 119 0 l1) (fun x3 =>
 g_ ((0 : Int) ≤ l1 ∧ l1 < (16 : Int)) (
 lt_ (q2.2.1 120 0 l1) (fun x4 =>
 if l2 = 0 then (
 g_ ((0 : Int) ≤ l1 ∧ l1 < (16 : Int)) (
 if q2.2.1 112 0 l1 = 0 then (
 some (0, q2.2)) else (
 some (1, q2.2)))) else (
 if l2 = 1 then (
 (F12_sounds l1 q2.2).bind (fun q5 =>
 some (q5.1, q5.2))) else (
 if l2 = 2 then (
 if x3 = (-1) then (
 some ((-1), q2.2)) else (
 g_ ((0 : Int) ≤ x3 ∧ x3 < (80 : Int)) (
 some (q2.2.1 133 0 x3, q2.2)))) else (
 if l2 = 3 then (
 if x4 = (-1) then (
 some (0, q2.2)) else (
 g_ ((0 : Int) ≤ x4 ∧ x4 < (80 : Int)) (
 if q2.2.1 133 0 x4 = 2 then (
 some (1, q2.2)) else (
 some (2, q2.2))))) else (
 if l2 = 4 then (
 g_ ((0 : Int) ≤ l1 ∧ l1 < (16 : Int)) (
 some (q2.2.1 122 0 l1, q2.2))) else (
 if l2 = 5 then (
 g_ ((0 : Int) ≤ l1 ∧ l1 < (16 : Int)) (
 if q2.2.1 124 0 l1 = 0 then (
 some (0, q2.2)) else (
 some (1, q2.2)))) else (
 if l2 = 6 then (
 g_ ((0 : Int) ≤ l1 ∧ l1 < (16 : Int)) (
 some (q2.2.1 126 0 l1, q2.2))) else (
 if l2 = 7 then (
 if x3 = (-1) then (
 some (0, q2.2)) else (
 g_ ((0 : Int) ≤ x3 ∧ x3 < (80 : Int)) (
 some (q2.2.1 140 0 x3, q2.2)))) else (
 g_ ((0 : Int) ≤ l1 ∧ l1 < (16 : Int)) (
 some (q2.2.1 118 0 l1, q2.2))))))))))))))))))
-- X12_link
def F12_link_22 (h : JM) : Option (Int × JM) :=
 some ((-2), h)
def F12_link (l1 : Int) (l2 : Int) (h : JM) : Option (Int × JM) :=
 (F12_in l1 0 1 h).bind (fun q1 =>
 if q1.1 = 0 then (
 F12_link_22 q1.2) else (
 (F12_in l2 0 6 q1.2).bind (fun q2 =>
 if q2.1 = 0 then (
 F12_link_22 q2.2) else (
 if l2 = 0 then (
 g_ ((0 : Int) ≤ l1 ∧ l1 < (2 : Int)) (
 some (q2.2.1 160 0 l1, q2.2))) else (
 if l2 = 1 then (
 g_ ((0 : Int) ≤ l1 ∧ l1 < (2 : Int)) (
 some (q2.2.1 161 0 l1, q2.2))) else (
 if l2 = 2 then (
 g_ ((0 : Int) ≤ l1 ∧ l1 < (2 : Int)) (
 some (q2.2.1 162 0 l1, q2.2))) else (
 if l2 = 3 then (
 g_ ((0 : Int) ≤ l1 ∧ l1 < (2 : Int)) (
 some (q2.2.1 164 0 l1, q2.2))) else (
 if l2 = 4 then (
 g_ ((0 : Int) ≤ l1 ∧ l1 < (2 : Int)) (
 some (q2.2.1 165 0 l1, q2.2))) else (
 if l2 = 5 then (
 g_ ((0 : Int) ≤ l1 ∧ l1 < (2 : Int)) (
 some (q2.2.1 166 0 l1, q2.2))) else (
 g_ ((0 : Int) ≤ l1 ∧ l1 < (2 : Int)) (
 some (q2.2.1 167 0 l1, q2.2))))))))))))
-- X12_looks
def F12_looks_219b (k219 : Int → Int → Int → JM → Option JM) (l1 : Int) (l2 : Int) (l3 : Int) (h : JM) : Option JM :=
 g_ ((0 : Int) ≤ l1 ∧ l1 < (16 : Int)) (
 if h.1 118 0 l1 ≤ l3 then (
 (F12_keyComes l1 l2 h).bind (fun h1 =>
 some h1)) else (
 g_ ((0 : Int) ≤ w32 ((w32 ((w32 (20 * l1)) + l3)) + 1) ∧ w32 ((w32 ((w32 (20 * l1)) + l3)) + 1) < (320 : Int)) (
 g_ ((0 : Int) ≤ w32 ((w32 (20 * l1)) + l3) ∧ w32 ((w32 (20 * l1)) + l3) < (320 : Int)) (
 lt_ (sI h 117 0 (w32 ((w32 (20 * l1)) + l3)) (h.1 117 0 (w32 ((w32 ((w32 (20 * l1)) + l3)) + 1)))) (fun h2 =>
 k219 l1 l2 (w32 (l3 + 1)) h2)))))
def F12_looks_219 : Nat → Int → Int → Int → JM → Option JM
  | 0, _, _, _, _ => none
  | n + 1, l1, l2, l3, h => F12_looks_219b (F12_looks_219 n) l1 l2 l3 h
def F12_looks_126 (l1 : Int) (h : JM) : Option JM :=
 g_ ((0 : Int) ≤ l1 ∧ l1 < (16 : Int)) (
 if h.1 115 0 l1 ≤ 0 then (
 g_ ((0 : Int) ≤ l1 ∧ l1 < (16 : Int)) (
 if h.1 118 0 l1 ≤ 0 then (
 some h) else (
 g_ ((0 : Int) ≤ w32 (20 * l1) ∧ w32 (20 * l1) < (320 : Int)) (
 lt_ (h.1 117 0 (w32 (20 * l1))) (fun x3 =>
 g_ ((0 : Int) ≤ l1 ∧ l1 < (16 : Int)) (
 g_ ((0 : Int) ≤ l1 ∧ l1 < (16 : Int)) (
 lt_ (sI h 118 0 l1 (w32 ((h.1 118 0 l1) - 1))) (fun h4 =>
 F12_looks_219 j_fu l1 x3 0 h4)))))))) else (
 g_ ((0 : Int) ≤ l1 ∧ l1 < (16 : Int)) (
 g_ ((0 : Int) ≤ l1 ∧ l1 < (16 : Int)) (
 lt_ (sI h 116 0 l1 (w32 ((h.1 116 0 l1) + 1))) (fun h5 =>
 g_ ((0 : Int) ≤ l1 ∧ l1 < (16 : Int)) (
 if h5.1 116 0 l1 = 20 then (
 g_ ((0 : Int) ≤ l1 ∧ l1 < (16 : Int)) (
 lt_ (h5.1 115 0 l1) (fun x6 =>
 g_ ((0 : Int) ≤ l1 ∧ l1 < (16 : Int)) (
 lt_ (sI h5 115 0 l1 0) (fun h7 =>
 if 10 < x6 then (
 some h7) else (
 (F12_keyComes l1 (j_rem x6 10) h7).bind (fun h8 =>
 some h8))))))) else (
 some h5)))))))
def F12_looks (l1 : Int) (h : JM) : Option JM :=
 g_ ((0 : Int) ≤ l1 ∧ l1 < (16 : Int)) (
 if h.1 112 0 l1 = 0 then (
 g_ ((0 : Int) ≤ l1 ∧ l1 < (16 : Int)) (
 if h.1 113 0 l1 = 0 then (
 some h) else (
 (F12_lifts l1 h).bind (fun h17 =>
 some h17)))) else (
 g_ ((0 : Int) ≤ l1 ∧ l1 < (16 : Int)) (
 if h.1 113 0 l1 = 0 then (
 g_ ((0 : Int) ≤ l1 ∧ l1 < (16 : Int)) (
 g_ ((0 : Int) ≤ l1 ∧ l1 < (16 : Int)) (
 lt_ (sI h 114 0 l1 (w32 ((h.1 114 0 l1) + 1))) (fun h15 =>
 g_ ((0 : Int) ≤ l1 ∧ l1 < (16 : Int)) (
 if h15.1 114 0 l1 = 40 then (
 (F12_hangs l1 h15).bind (fun h16 =>
 some h16)) else (
 some h15)))))) else (
 g_ ((0 : Int) ≤ l1 ∧ l1 < (16 : Int)) (
 if h.1 114 0 l1 ≤ 9 then (
 g_ ((0 : Int) ≤ l1 ∧ l1 < (16 : Int)) (
 if h.1 114 0 l1 ≤ 0 then (
 F12_looks_126 l1 h) else (
 g_ ((0 : Int) ≤ l1 ∧ l1 < (16 : Int)) (
 g_ ((0 : Int) ≤ l1 ∧ l1 < (16 : Int)) (
 lt_ (sI h 115 0 l1 (w32 ((h.1 115 0 l1) + 1))) (fun h9 =>
 g_ ((0 : Int) ≤ l1 ∧ l1 < (16 : Int)) (
 lt_ (sI h9 116 0 l1 0) (fun h10 =>
 g_ ((0 : Int) ≤ l1 ∧ l1 < (16 : Int)) (
 lt_ (sI h10 114 0 l1 0) (fun h11 =>
 F12_looks_126 l1 h11)))))))))) else (
 g_ ((0 : Int) ≤ l1 ∧ l1 < (16 : Int)) (
 lt_ (sI h 115 0 l1 0) (fun h12 =>
 g_ ((0 : Int) ≤ l1 ∧ l1 < (16 : Int)) (
 lt_ (sI h12 114 0 l1 0) (fun h13 =>
 (F12_flashes l1 h13).bind (fun h14 =>
 F12_looks_126 l1 h14)))))))))))
-- X12_lose
def F12_lose_95 (k40 : Int → Int → Int → Int → JM → Option (Int × JM)) (l1 : Int) (l2 : Int) (l3 : Int) (l4 : Int) (h : JM) : Option (Int × JM) :=
 k40 l1 l2 l3 (w32 (l4 + 1)) h
def F12_lose_40b (k40 : Int → Int → Int → Int → JM → Option (Int × JM)) (l1 : Int) (l2 : Int) (l3 : Int) (l4 : Int) (h : JM) : Option (Int × JM) :=
 if h.1 12 0 79 ≤ l4 then (
 lt_ (sI h 12 0 79 l3) (fun h1 =>
 if h1.1 12 0 79 = 300 then (
 some ((-3), h1)) else (
 g_ ((0 : Int) ≤ h1.1 12 0 79 ∧ h1.1 12 0 79 < (300 : Int)) (
 lt_ (sI h1 180 0 (h1.1 12 0 79) l1) (fun h2 =>
 lt_ (sI h2 12 0 79 (w32 ((h2.1 12 0 79) + 1))) (fun h3 =>
 g_ ((0 : Int) ≤ h2.1 12 0 79 ∧ h2.1 12 0 79 < (300 : Int)) (
 lt_ (sI h3 181 0 (h2.1 12 0 79) l2) (fun h4 =>
 some (h4.1 12 0 79, h4))))))))) else (
 g_ ((0 : Int) ≤ l4 ∧ l4 < (300 : Int)) (
 if h.1 12 0 2 ≤ h.1 181 0 l4 then (
 g_ ((0 : Int) ≤ l4 ∧ l4 < (300 : Int)) (
 g_ ((0 : Int) ≤ l3 ∧ l3 < (300 : Int)) (
 lt_ (sI h 180 0 l3 (h.1 180 0 l4)) (fun h5 =>
 g_ ((0 : Int) ≤ l4 ∧ l4 < (300 : Int)) (
 g_ ((0 : Int) ≤ l3 ∧ l3 < (300 : Int)) (
 lt_ (sI h5 181 0 l3 (h5.1 181 0 l4)) (fun h6 =>
 F12_lose_95 k40 l1 l2 (w32 (l3 + 1)) l4 h6))))))) else (
 F12_lose_95 k40 l1 l2 l3 l4 h)))
def F12_lose_40 : Nat → Int → Int → Int → Int → JM → Option (Int × JM)
  | 0, _, _, _, _, _ => none
  | n + 1, l1, l2, l3, l4, h => F12_lose_40b (F12_lose_40 n) l1 l2 l3 l4 h
def F12_lose_32 (h : JM) : Option (Int × JM) :=
 some ((-2), h)
def F12_lose (l1 : Int) (l2 : Int) (h : JM) : Option (Int × JM) :=
 (F12_in l1 0 1 h).bind (fun q7 =>
 if q7.1 = 0 then (
 F12_lose_32 q7.2) else (
 (F12_in l2 (q7.2.1 12 0 2) (w64 ((q7.2.1 12 0 2) + 100000)) q7.2).bind (fun q8 =>
 if q8.1 = 0 then (
 F12_lose_32 q8.2) else (
 F12_lose_40 j_fu l1 l2 0 0 q8.2))))
-- X12_member
def F12_member_34b (k34 : Int → Int → Int → JM → Option (Int × JM)) (l2 : Int) (l3 : Int) (l4 : Int) (h : JM) : Option (Int × JM) :=
 g_ ((0 : Int) ≤ l3 ∧ l3 < (6 : Int)) (
 if h.1 150 0 l3 ≤ l4 then (
 g_ ((0 : Int) ≤ l3 ∧ l3 < (6 : Int)) (
 g_ ((0 : Int) ≤ l3 ∧ l3 < (6 : Int)) (
 lt_ (sI h 150 0 l3 (w32 ((h.1 150 0 l3) + 1))) (fun h1 =>
 g_ ((0 : Int) ≤ w32 ((w32 (8 * l3)) + (h.1 150 0 l3)) ∧ w32 ((w32 (8 * l3)) + (h.1 150 0 l3)) < (48 : Int)) (
 lt_ (sI h1 149 0 (w32 ((w32 (8 * l3)) + (h.1 150 0 l3))) l2) (fun h2 =>
 g_ ((0 : Int) ≤ l3 ∧ l3 < (6 : Int)) (
 some (h2.1 150 0 l3, h2)))))))) else (
 g_ ((0 : Int) ≤ w32 ((w32 (8 * l3)) + l4) ∧ w32 ((w32 (8 * l3)) + l4) < (48 : Int)) (
 if h.1 149 0 (w32 ((w32 (8 * l3)) + l4)) = l2 then (
 some ((-2), h)) else (
 k34 l2 l3 (w32 (l4 + 1)) h))))
def F12_member_34 : Nat → Int → Int → Int → JM → Option (Int × JM)
  | 0, _, _, _, _ => none
  | n + 1, l2, l3, l4, h => F12_member_34b (F12_member_34 n) l2 l3 l4 h
def F12_member_19 (h : JM) : Option (Int × JM) :=
 some ((-2), h)
def F12_member (l1 : Int) (l2 : Int) (h : JM) : Option (Int × JM) :=
 (F12_in l1 0 2 h).bind (fun q3 =>
 if q3.1 = 0 then (
 F12_member_19 q3.2) else (
 (F12_isLine l2 q3.2).bind (fun q4 =>
 if q4.1 = 0 then (
 F12_member_19 q4.2) else (
 lt_ (w32 ((w32 (3 * (j_div l2 8))) + l1)) (fun x5 =>
 F12_member_34 j_fu l2 x5 0 q4.2)))))
-- X12_modulo
def F12_modulo (l0 : Int) (h : JM) : Option (Int × JM) :=
 some (j_rem (w32 ((j_rem l0 128) + 128)) 128, h)
-- X12_number
def F12_number_2b (k2 : Int → Int → Int → JM → Option JM) (l1 : Int) (l2 : Int) (l3 : Int) (h : JM) : Option JM :=
 if l2 ≤ l3 then (
 some h) else (
 lt_ (sI h 12 0 83 (w32 ((h.1 12 0 83) + 1))) (fun h1 =>
 g_ ((0 : Int) ≤ h.1 12 0 83 ∧ h.1 12 0 83 < (320 : Int)) (
 lt_ (sI h1 182 0 (h.1 12 0 83) (j_and (j_shr l1 l3) 1)) (fun h2 =>
 k2 l1 l2 (w32 (l3 + 1)) h2))))
def F12_number_2 : Nat → Int → Int → Int → JM → Option JM
  | 0, _, _, _, _ => none
  | n + 1, l1, l2, l3, h => F12_number_2b (F12_number_2 n) l1 l2 l3 h
def F12_number (l1 : Int) (l2 : Int) (h : JM) : Option JM :=
 F12_number_2 j_fu l1 l2 0 h
-- X12_partner
def F12_partner_32 (h : JM) : Option (Int × JM) :=
 some ((-1), h)
def F12_partner (l1 : Int) (h : JM) : Option (Int × JM) :=
 (F12_isLine l1 h).bind (fun q1 =>
 if q1.1 = 0 then (
 some ((-2), q1.2)) else (
 g_ ((0 : Int) ≤ l1 ∧ l1 < (16 : Int)) (
 lt_ (q1.2.1 119 0 l1) (fun x2 =>
 if x2 = (-1) then (
 F12_partner_32 q1.2) else (
 g_ ((0 : Int) ≤ x2 ∧ x2 < (80 : Int)) (
 if q1.2.1 133 0 x2 = 3 then (
 g_ ((0 : Int) ≤ x2 ∧ x2 < (80 : Int)) (
 if q1.2.1 136 0 x2 = l1 then (
 g_ ((0 : Int) ≤ x2 ∧ x2 < (80 : Int)) (
 some (q1.2.1 137 0 x2, q1.2))) else (
 g_ ((0 : Int) ≤ x2 ∧ x2 < (80 : Int)) (
 some (q1.2.1 136 0 x2, q1.2))))) else (
 F12_partner_32 q1.2)))))))
-- X12_plan
def F12_plan_281b (k281 : Int → Int → Int → Int → Int → Int → Int → JM → Option (Int × JM)) (l1 : Int) (l2 : Int) (l3 : Int) (l4 : Int) (l5 : Int) (l7 : Int) (l8 : Int) (h : JM) : Option (Int × JM) :=
 if h.1 12 0 4 ≤ l8 then (
 g_ ((0 : Int) ≤ l7 ∧ l7 < (48 : Int)) (
 lt_ (sI h 107 0 l7 (h.1 12 0 4)) (fun h1 =>
 g_ ((0 : Int) ≤ l7 ∧ l7 < (48 : Int)) (
 lt_ (sI h1 108 0 l7 l2) (fun h2 =>
 g_ ((0 : Int) ≤ l7 ∧ l7 < (48 : Int)) (
 lt_ (sI h2 109 0 l7 l3) (fun h3 =>
 g_ ((0 : Int) ≤ l7 ∧ l7 < (48 : Int)) (
 lt_ (sI h3 110 0 l7 l4) (fun h4 =>
 g_ ((0 : Int) ≤ l7 ∧ l7 < (48 : Int)) (
 lt_ (sI h4 111 0 l7 l5) (fun h5 =>
 lt_ (sI h5 12 0 4 0) (fun h6 =>
 g_ ((0 : Int) ≤ l1 ∧ l1 < (2 : Int)) (
 g_ ((0 : Int) ≤ l1 ∧ l1 < (2 : Int)) (
 lt_ (sI h6 105 0 l1 (w32 ((h6.1 105 0 l1) + 1))) (fun h7 =>
 some (h6.1 105 0 l1, h7)))))))))))))))) else (
 g_ ((0 : Int) ≤ l8 ∧ l8 < (12 : Int)) (
 g_ ((0 : Int) ≤ w32 ((w32 (12 * l7)) + l8) ∧ w32 ((w32 (12 * l7)) + l8) < (576 : Int)) (
 lt_ (sI h 106 0 (w32 ((w32 (12 * l7)) + l8)) (h.1 103 0 l8)) (fun h8 =>
 k281 l1 l2 l3 l4 l5 l7 (w32 (l8 + 1)) h8))))
def F12_plan_281 : Nat → Int → Int → Int → Int → Int → Int → Int → JM → Option (Int × JM)
  | 0, _, _, _, _, _, _, _, _ => none
  | n + 1, l1, l2, l3, l4, l5, l7, l8, h => F12_plan_281b (F12_plan_281 n) l1 l2 l3 l4 l5 l7 l8 h
def F12_plan_237 (k143 : Int → Int → Int → Int → Int → Int → JM → Option (Int × JM)) (l1 : Int) (l2 : Int) (l3 : Int) (l4 : Int) (l5 : Int) (l7 : Int) (l9 : Int) (h : JM) : Option (Int × JM) :=
 if l9 = 0 then (
 k143 l1 l2 l3 l4 l5 (w32 (l7 + 1)) h) else (
 some ((-2), h))
def F12_plan_229 (k143 : Int → Int → Int → Int → Int → Int → JM → Option (Int × JM)) (k187 : Int → Int → Int → Int → Int → Int → Int → Int → Int → JM → Option (Int × JM)) (l1 : Int) (l2 : Int) (l3 : Int) (l4 : Int) (l5 : Int) (l7 : Int) (l8 : Int) (l10 : Int) (s0 : Int) (h : JM) : Option (Int × JM) :=
 k187 l1 l2 l3 l4 l5 l7 l8 s0 (w32 (l10 + 1)) h
def F12_plan_187b (k143 : Int → Int → Int → Int → Int → Int → JM → Option (Int × JM)) (k187 : Int → Int → Int → Int → Int → Int → Int → Int → Int → JM → Option (Int × JM)) (l1 : Int) (l2 : Int) (l3 : Int) (l4 : Int) (l5 : Int) (l7 : Int) (l8 : Int) (l9 : Int) (l10 : Int) (h : JM) : Option (Int × JM) :=
 if h.1 12 0 4 ≤ l10 then (
 F12_plan_237 k143 l1 l2 l3 l4 l5 l7 l9 h) else (
 if l9 = 0 then (
 F12_plan_237 k143 l1 l2 l3 l4 l5 l7 l9 h) else (
 g_ ((0 : Int) ≤ w32 ((w32 (12 * l8)) + l10) ∧ w32 ((w32 (12 * l8)) + l10) < (576 : Int)) (
 g_ ((0 : Int) ≤ l10 ∧ l10 < (12 : Int)) (
 if h.1 106 0 (w32 ((w32 (12 * l8)) + l10)) = h.1 103 0 l10 then (
 F12_plan_229 k143 k187 l1 l2 l3 l4 l5 l7 l8 l10 1 h) else (
 F12_plan_229 k143 k187 l1 l2 l3 l4 l5 l7 l8 l10 0 h)))))
def F12_plan_187 (k143 : Int → Int → Int → Int → Int → Int → JM → Option (Int × JM)) : Nat → Int → Int → Int → Int → Int → Int → Int → Int → Int → JM → Option (Int × JM)
  | 0, _, _, _, _, _, _, _, _, _, _ => none
  | n + 1, l1, l2, l3, l4, l5, l7, l8, l9, l10, h => F12_plan_187b k143 (F12_plan_187 k143 n) l1 l2 l3 l4 l5 l7 l8 l9 l10 h
def F12_plan_182 (k143 : Int → Int → Int → Int → Int → Int → JM → Option (Int × JM)) (l1 : Int) (l2 : Int) (l3 : Int) (l4 : Int) (l5 : Int) (l7 : Int) (l8 : Int) (s0 : Int) (h : JM) : Option (Int × JM) :=
 F12_plan_187 k143 j_fu l1 l2 l3 l4 l5 l7 l8 s0 0 h
def F12_plan_143b (k143 : Int → Int → Int → Int → Int → Int → JM → Option (Int × JM)) (l1 : Int) (l2 : Int) (l3 : Int) (l4 : Int) (l5 : Int) (l7 : Int) (h : JM) : Option (Int × JM) :=
 g_ ((0 : Int) ≤ l1 ∧ l1 < (2 : Int)) (
 if h.1 105 0 l1 ≤ l7 then (
 g_ ((0 : Int) ≤ l1 ∧ l1 < (2 : Int)) (
 if h.1 105 0 l1 = 24 then (
 some ((-3), h)) else (
 g_ ((0 : Int) ≤ l1 ∧ l1 < (2 : Int)) (
 lt_ (w32 ((w32 (24 * l1)) + (h.1 105 0 l1))) (fun x9 =>
 F12_plan_281 j_fu l1 l2 l3 l4 l5 x9 0 h))))) else (
 lt_ (w32 ((w32 (24 * l1)) + l7)) (fun x10 =>
 g_ ((0 : Int) ≤ x10 ∧ x10 < (48 : Int)) (
 if h.1 107 0 x10 = h.1 12 0 4 then (
 F12_plan_182 k143 l1 l2 l3 l4 l5 l7 x10 1 h) else (
 F12_plan_182 k143 l1 l2 l3 l4 l5 l7 x10 0 h)))))
def F12_plan_143 : Nat → Int → Int → Int → Int → Int → Int → JM → Option (Int × JM)
  | 0, _, _, _, _, _, _, _ => none
  | n + 1, l1, l2, l3, l4, l5, l7, h => F12_plan_143b (F12_plan_143 n) l1 l2 l3 l4 l5 l7 h
def F12_plan_130 (l1 : Int) (l2 : Int) (l3 : Int) (l4 : Int) (l5 : Int) (s0 : Int) (h : JM) : Option (Int × JM) :=
 if s0 = 0 then (
 some ((-2), h)) else (
 F12_plan_143 j_fu l1 l2 l3 l4 l5 0 h)
def F12_plan_58 (h : JM) : Option (Int × JM) :=
 some ((-2), h)
def F12_plan (l1 : Int) (l2 : Int) (l3 : Int) (l4 : Int) (l5 : Int) (h : JM) : Option (Int × JM) :=
 (F12_in l1 0 1 h).bind (fun q11 =>
 if q11.1 = 0 then (
 F12_plan_58 q11.2) else (
 if q11.2.1 12 0 4 = 0 then (
 F12_plan_58 q11.2) else (
 (F12_in l2 (q11.2.1 12 0 4) 12 q11.2).bind (fun q12 =>
 if q12.1 = 0 then (
 F12_plan_58 q12.2) else (
 (F12_in l3 0 4 q12.2).bind (fun q13 =>
 if q13.1 = 0 then (
 F12_plan_58 q13.2) else (
 (F12_in l5 0 3 q13.2).bind (fun q14 =>
 if q14.1 = 0 then (
 F12_plan_58 q14.2) else (
 if l3 = 0 then (
 (F12_in l4 (w32 (8 * l1)) (w32 ((w32 (8 * l1)) + 7)) q14.2).bind (fun q18 =>
 F12_plan_130 l1 l2 l3 l4 l5 q18.1 q18.2)) else (
 if 3 ≤ l3 then (
 if l3 = 3 then (
 (F12_in l4 0 2 q14.2).bind (fun q16 =>
 F12_plan_130 l1 l2 l3 l4 l5 q16.1 q16.2)) else (
 (F12_in l4 0 1 q14.2).bind (fun q15 =>
 F12_plan_130 l1 l2 l3 l4 l5 q15.1 q15.2))) else (
 (F12_in l4 0 l2 q14.2).bind (fun q17 =>
 F12_plan_130 l1 l2 l3 l4 l5 q17.1 q17.2))))))))))))
-- X12_record
def F12_record_40 (l1 : Int) (l2 : Int) (s0 : Int) (s1 : Int) (h : JM) : Option (Int × JM) :=
 (F12_in s0 s1 (w32 ((h.1 12 0 90) - 1)) h).bind (fun q1 =>
 if q1.1 = 0 then (
 some ((-1), q1.2)) else (
 g_ ((0 : Int) ≤ w32 ((w32 (5 * (j_rem l1 300))) + l2) ∧ w32 ((w32 (5 * (j_rem l1 300))) + l2) < (1500 : Int)) (
 some (q1.2.1 191 0 (w32 ((w32 (5 * (j_rem l1 300))) + l2)), q1.2))))
def F12_record (l1 : Int) (l2 : Int) (h : JM) : Option (Int × JM) :=
 (F12_in l2 0 4 h).bind (fun q2 =>
 if q2.1 = 0 then (
 some ((-2), q2.2)) else (
 if 300 ≤ q2.2.1 12 0 90 then (
 F12_record_40 l1 l2 l1 (w32 ((q2.2.1 12 0 90) - 300)) q2.2) else (
 F12_record_40 l1 l2 l1 0 q2.2)))
-- X12_ringsLong
def F12_ringsLong_221 (l1 : Int) (l2 : Int) (h : JM) : Option JM :=
 if l2 = 600 then (
 (F12_over l1 4 (-1) h).bind (fun h1 =>
 some h1)) else (
 some h)
def F12_ringsLong_208 (l1 : Int) (l3 : Int) (h : JM) : Option JM :=
 (F12_goesOn (F12_placesN 8) l1 (w32 ((w32 (3 * l3)) + 2)) h).bind (fun h2 =>
 some h2)
def F12_ringsLong_191 (l1 : Int) (l3 : Int) (h : JM) : Option JM :=
 g_ ((0 : Int) ≤ l3 ∧ l3 < (16 : Int)) (
 if h.1 120 0 l3 = l1 then (
 g_ ((0 : Int) ≤ l3 ∧ l3 < (16 : Int)) (
 lt_ (sI h 120 0 l3 (-1)) (fun h3 =>
 F12_ringsLong_208 l1 l3 h3))) else (
 F12_ringsLong_208 l1 l3 h))
def F12_ringsLong_63b (k63 : Int → Int → Int → JM → Option JM) (l1 : Int) (l4 : Int) (l5 : Int) (h : JM) : Option JM :=
 if l5 ≤ 0 then (
 g_ ((0 : Int) ≤ w32 (80 * l4) ∧ w32 (80 * l4) < (480 : Int)) (
 lt_ (sI h 152 0 (w32 (80 * l4)) l1) (fun h4 =>
 g_ ((0 : Int) ≤ l4 ∧ l4 < (6 : Int)) (
 g_ ((0 : Int) ≤ l4 ∧ l4 < (6 : Int)) (
 lt_ (sI h4 153 0 l4 (w32 ((h4.1 153 0 l4) + 1))) (fun h5 =>
 g_ ((0 : Int) ≤ l1 ∧ l1 < (80 : Int)) (
 g_ ((0 : Int) ≤ l1 ∧ l1 < (80 : Int)) (
 lt_ (sI h5 137 0 l1 (w32 (300 + (h5.1 138 0 l1)))) (fun h6 =>
 g_ ((0 : Int) ≤ l1 ∧ l1 < (80 : Int)) (
 lt_ (sI h6 138 0 l1 (-1)) (fun h7 =>
 (F12_becomes l1 4 h7).bind (fun h8 =>
 some h8)))))))))))) else (
 g_ ((0 : Int) ≤ w32 ((w32 ((w32 (80 * l4)) + l5)) - 1) ∧ w32 ((w32 ((w32 (80 * l4)) + l5)) - 1) < (480 : Int)) (
 g_ ((0 : Int) ≤ w32 ((w32 (80 * l4)) + l5) ∧ w32 ((w32 (80 * l4)) + l5) < (480 : Int)) (
 lt_ (sI h 152 0 (w32 ((w32 (80 * l4)) + l5)) (h.1 152 0 (w32 ((w32 ((w32 (80 * l4)) + l5)) - 1)))) (fun h9 =>
 k63 l1 l4 (w32 (l5 + (-1))) h9))))
def F12_ringsLong_63 : Nat → Int → Int → Int → JM → Option JM
  | 0, _, _, _, _ => none
  | n + 1, l1, l4, l5, h => F12_ringsLong_63b (F12_ringsLong_63 n) l1 l4 l5 h
def F12_ringsLong (l1 : Int) (l2 : Int) (h : JM) : Option JM :=
 g_ ((0 : Int) ≤ l1 ∧ l1 < (80 : Int)) (
 lt_ (h.1 137 0 l1) (fun x10 =>
 g_ ((0 : Int) ≤ l1 ∧ l1 < (80 : Int)) (
 if h.1 138 0 l1 = (-1) then (
 if l2 = 300 then (
 g_ ((0 : Int) ≤ w32 ((w32 (3 * x10)) + 2) ∧ w32 ((w32 (3 * x10)) + 2) < (48 : Int)) (
 if h.1 129 0 (w32 ((w32 (3 * x10)) + 2)) ≤ 0 then (
 F12_ringsLong_221 l1 l2 h) else (
 g_ ((0 : Int) ≤ x10 ∧ x10 < (16 : Int)) (
 if h.1 121 0 x10 = l1 then (
 (F12_unring x10 h).bind (fun h11 =>
 F12_ringsLong_191 l1 x10 h11)) else (
 F12_ringsLong_191 l1 x10 h))))) else (
 F12_ringsLong_221 l1 l2 h)) else (
 if l2 = 300 then (
 (F12_unring x10 h).bind (fun h12 =>
 g_ ((0 : Int) ≤ x10 ∧ x10 < (16 : Int)) (
 lt_ (sI h12 124 0 x10 1) (fun h13 =>
 g_ ((0 : Int) ≤ l1 ∧ l1 < (80 : Int)) (
 g_ ((0 : Int) ≤ l1 ∧ l1 < (80 : Int)) (
 lt_ (w32 ((w32 (3 * (h13.1 135 0 l1))) + (h13.1 138 0 l1))) (fun x14 =>
 g_ ((0 : Int) ≤ x14 ∧ x14 < (6 : Int)) (
 lt_ (h13.1 153 0 x14) (fun x15 =>
 F12_ringsLong_63 j_fu l1 x14 x15 h13))))))))) else (
 some h)))))
-- X12_room
def F12_room_29 (h : JM) : Option (Int × JM) :=
 some ((-2), h)
def F12_room (l1 : Int) (l2 : Int) (h : JM) : Option (Int × JM) :=
 (F12_in l1 0 1 h).bind (fun q1 =>
 if q1.1 = 0 then (
 F12_room_29 q1.2) else (
 (F12_in l2 0 1 q1.2).bind (fun q2 =>
 if q2.1 = 0 then (
 F12_room_29 q2.2) else (
 (F12_inRoom l1 l2 q2.2).bind (fun q3 =>
 some (q3.1, q3.2))))))
-- X12_say
def F12_say_21 (h : JM) : Option (Int × JM) :=
 some ((-2), h)
def F12_say (l1 : Int) (l2 : Int) (h : JM) : Option (Int × JM) :=
 (F12_isLine l1 h).bind (fun q1 =>
 if q1.1 = 0 then (
 F12_say_21 q1.2) else (
 (F12_in l2 (-8000) 8000 q1.2).bind (fun q2 =>
 if q2.1 = 0 then (
 F12_say_21 q2.2) else (
 g_ ((0 : Int) ≤ l1 ∧ l1 < (16 : Int)) (
 lt_ (q2.2.1 130 0 l1) (fun x3 =>
 g_ ((0 : Int) ≤ l1 ∧ l1 < (16 : Int)) (
 lt_ (sI q2.2 130 0 l1 l2) (fun h4 =>
 some (x3, h4)))))))))
-- X12_sends
def F12_sends_582 (k540 : Int → Int → Int → JM → Option JM) (l1 : Int) (l6 : Int) (l7 : Int) (h : JM) : Option JM :=
 k540 l1 l6 (w32 (l7 + 1)) h
def F12_sends_540b (k540 : Int → Int → Int → JM → Option JM) (l1 : Int) (l6 : Int) (l7 : Int) (h : JM) : Option JM :=
 if h.1 12 0 79 ≤ l7 then (
 some h) else (
 g_ ((0 : Int) ≤ l7 ∧ l7 < (300 : Int)) (
 if h.1 180 0 l7 = l1 then (
 g_ ((0 : Int) ≤ l7 ∧ l7 < (300 : Int)) (
 if h.1 181 0 l7 = h.1 12 0 2 then (
 g_ ((0 : Int) ≤ l6 ∧ l6 < (8 : Int)) (
 lt_ (sI h 174 0 l6 0) (fun h1 =>
 F12_sends_582 k540 l1 l6 l7 h1))) else (
 F12_sends_582 k540 l1 l6 l7 h))) else (
 F12_sends_582 k540 l1 l6 l7 h)))
def F12_sends_540 : Nat → Int → Int → Int → JM → Option JM
  | 0, _, _, _, _ => none
  | n + 1, l1, l6, l7, h => F12_sends_540b (F12_sends_540 n) l1 l6 l7 h
def F12_sends_531 (k460 : Int → Int → Int → JM → Option JM) (l1 : Int) (l6 : Int) (l7 : Int) (h : JM) : Option JM :=
 k460 l1 l6 (w32 (l7 + 1)) h
def F12_sends_460b (k460 : Int → Int → Int → JM → Option JM) (l1 : Int) (l6 : Int) (l7 : Int) (h : JM) : Option JM :=
 if h.1 12 0 75 ≤ l7 then (
 F12_sends_540 j_fu l1 l6 0 h) else (
 g_ ((0 : Int) ≤ l7 ∧ l7 < (300 : Int)) (
 if h.1 176 0 l7 = l1 then (
 g_ ((0 : Int) ≤ l7 ∧ l7 < (300 : Int)) (
 if h.1 177 0 l7 = h.1 12 0 2 then (
 g_ ((0 : Int) ≤ l7 ∧ l7 < (300 : Int)) (
 if h.1 12 0 70 ≤ h.1 178 0 l7 then (
 F12_sends_531 k460 l1 l6 l7 h) else (
 g_ ((0 : Int) ≤ l7 ∧ l7 < (300 : Int)) (
 g_ ((0 : Int) ≤ w32 ((w32 (320 * l6)) + (h.1 178 0 l7)) ∧ w32 ((w32 (320 * l6)) + (h.1 178 0 l7)) < (2560 : Int)) (
 g_ ((0 : Int) ≤ w32 ((w32 (320 * l6)) + (h.1 178 0 l7)) ∧ w32 ((w32 (320 * l6)) + (h.1 178 0 l7)) < (2560 : Int)) (
 lt_ (sI h 173 0 (w32 ((w32 (320 * l6)) + (h.1 178 0 l7))) (j_xor (h.1 173 0 (w32 ((w32 (320 * l6)) + (h.1 178 0 l7)))) 1)) (fun h2 =>
 F12_sends_531 k460 l1 l6 l7 h2))))))) else (
 F12_sends_531 k460 l1 l6 l7 h))) else (
 F12_sends_531 k460 l1 l6 l7 h)))
def F12_sends_460 : Nat → Int → Int → Int → JM → Option JM
  | 0, _, _, _, _ => none
  | n + 1, l1, l6, l7, h => F12_sends_460b (F12_sends_460 n) l1 l6 l7 h
def F12_sends_378b (k378 : Int → Int → Int → Int → JM → Option JM) (l1 : Int) (l5 : Int) (l6 : Int) (l7 : Int) (h : JM) : Option JM :=
 if h.1 12 0 70 ≤ l7 then (
 g_ ((0 : Int) ≤ l5 ∧ l5 < (128 : Int)) (
 lt_ (sI h 172 0 l5 (h.1 12 0 70)) (fun h3 =>
 g_ ((0 : Int) ≤ l6 ∧ l6 < (8 : Int)) (
 lt_ (sI h3 174 0 l6 (h3.1 12 0 70)) (fun h4 =>
 F12_sends_460 j_fu l1 l6 0 h4))))) else (
 g_ ((0 : Int) ≤ l7 ∧ l7 < (320 : Int)) (
 g_ ((0 : Int) ≤ w32 ((w32 (320 * l5)) + l7) ∧ w32 ((w32 (320 * l5)) + l7) < (40960 : Int)) (
 lt_ (sI h 171 0 (w32 ((w32 (320 * l5)) + l7)) (h.1 169 0 l7)) (fun h5 =>
 g_ ((0 : Int) ≤ l7 ∧ l7 < (320 : Int)) (
 g_ ((0 : Int) ≤ w32 ((w32 (320 * l6)) + l7) ∧ w32 ((w32 (320 * l6)) + l7) < (2560 : Int)) (
 lt_ (sI h5 173 0 (w32 ((w32 (320 * l6)) + l7)) (h5.1 169 0 l7)) (fun h6 =>
 k378 l1 l5 l6 (w32 (l7 + 1)) h6)))))))
def F12_sends_378 : Nat → Int → Int → Int → Int → JM → Option JM
  | 0, _, _, _, _, _ => none
  | n + 1, l1, l5, l6, l7, h => F12_sends_378b (F12_sends_378 n) l1 l5 l6 l7 h
def F12_sends_339 (k260 : Int → Int → Int → JM → Option JM) (l1 : Int) (l4 : Int) (l5 : Int) (h : JM) : Option JM :=
 k260 l1 l4 (w32 (l5 + 1)) h
def F12_sends_311 (k260 : Int → Int → Int → JM → Option JM) (l1 : Int) (l5 : Int) (s0 : Int) (h : JM) : Option JM :=
 if s0 = 5 then (
 lt_ (sI h 12 0 70 (w32 ((h.1 12 0 70) + 1))) (fun h7 =>
 g_ ((0 : Int) ≤ h.1 12 0 70 ∧ h.1 12 0 70 < (320 : Int)) (
 lt_ (sI h7 169 0 (h.1 12 0 70) 0) (fun h8 =>
 F12_sends_339 k260 l1 0 l5 h8)))) else (
 F12_sends_339 k260 l1 s0 l5 h)
def F12_sends_260b (k260 : Int → Int → Int → JM → Option JM) (l1 : Int) (l4 : Int) (l5 : Int) (h : JM) : Option JM :=
 if h.1 12 0 83 ≤ l5 then (
 (F12_flag h).bind (fun h9 =>
 lt_ (w32 ((w32 (64 * l1)) + (j_rem (h9.1 12 0 2) 64))) (fun x10 =>
 lt_ (w32 ((w32 (4 * l1)) + (j_rem (h9.1 12 0 2) 4))) (fun x11 =>
 F12_sends_378 j_fu l1 x10 x11 0 h9)))) else (
 lt_ (sI h 12 0 70 (w32 ((h.1 12 0 70) + 1))) (fun h12 =>
 g_ ((0 : Int) ≤ l5 ∧ l5 < (320 : Int)) (
 g_ ((0 : Int) ≤ h.1 12 0 70 ∧ h.1 12 0 70 < (320 : Int)) (
 lt_ (sI h12 169 0 (h.1 12 0 70) (h12.1 182 0 l5)) (fun h13 =>
 g_ ((0 : Int) ≤ l5 ∧ l5 < (320 : Int)) (
 if h13.1 182 0 l5 = 1 then (
 F12_sends_311 k260 l1 l5 (w32 (l4 + 1)) h13) else (
 F12_sends_311 k260 l1 l5 0 h13)))))))
def F12_sends_260 : Nat → Int → Int → Int → JM → Option JM
  | 0, _, _, _, _ => none
  | n + 1, l1, l4, l5, h => F12_sends_260b (F12_sends_260 n) l1 l4 l5 h
def F12_sends_227 (l1 : Int) (h : JM) : Option JM :=
 (F12_check (some 0) 0 (h.1 12 0 83) h).bind (fun q14 =>
 (F12_number q14.1 16 q14.2).bind (fun h15 =>
 lt_ (sI h15 12 0 70 0) (fun h16 =>
 (F12_flag h16).bind (fun h17 =>
 F12_sends_260 j_fu l1 0 0 h17))))
def F12_sends_188b (k188 : Int → Int → Int → Int → JM → Option JM) (l1 : Int) (l2 : Int) (l3 : Int) (l4 : Int) (h : JM) : Option JM :=
 if l2 = 0 then (
 F12_sends_227 l1 h) else (
 g_ ((0 : Int) ≤ l3 ∧ l3 < (512 : Int)) (
 if h.1 159 0 l3 ≤ l4 then (
 F12_sends_227 l1 h) else (
 g_ ((0 : Int) ≤ w32 ((w32 (16 * l3)) + l4) ∧ w32 ((w32 (16 * l3)) + l4) < (8192 : Int)) (
 (F12_number (h.1 158 0 (w32 ((w32 (16 * l3)) + l4))) 8 h).bind (fun h18 =>
 k188 l1 l2 l3 (w32 (l4 + 1)) h18)))))
def F12_sends_188 : Nat → Int → Int → Int → Int → JM → Option JM
  | 0, _, _, _, _, _ => none
  | n + 1, l1, l2, l3, l4, h => F12_sends_188b (F12_sends_188 n) l1 l2 l3 l4 h
def F12_sends_180 (l1 : Int) (l2 : Int) (l3 : Int) (s0 : Option Int) (s1 : Int) (h : JM) : Option JM :=
 (s0).bind (fun a19 => g_ (a19 = 0) (
 (F12_number s1 8 h).bind (fun h20 =>
 F12_sends_188 j_fu l1 l2 l3 0 h20)))
def F12_sends_106 (l1 : Int) (l2 : Int) (l3 : Int) (h : JM) : Option JM :=
 lt_ (sI h 12 0 83 0) (fun h21 =>
 g_ ((0 : Int) ≤ l1 ∧ l1 < (2 : Int)) (
 (F12_number (j_rem (h21.1 164 0 l1) 128) 7 h21).bind (fun h22 =>
 g_ ((0 : Int) ≤ l1 ∧ l1 < (2 : Int)) (
 (F12_number (h22.1 166 0 l1) 1 h22).bind (fun h23 =>
 g_ ((0 : Int) ≤ l1 ∧ l1 < (2 : Int)) (
 (F12_number (j_rem (h23.1 162 0 l1) 128) 7 h23).bind (fun h24 =>
 g_ ((0 : Int) ≤ l1 ∧ l1 < (2 : Int)) (
 (F12_number (h24.1 165 0 l1) 1 h24).bind (fun h25 =>
 if l2 = 0 then (
 F12_sends_180 l1 l2 l3 (some 0) 0 h25) else (
 g_ ((0 : Int) ≤ l3 ∧ l3 < (512 : Int)) (
 F12_sends_180 l1 l2 l3 (some 0) (h25.1 159 0 l3) h25)))))))))))
def F12_sends_105 (l1 : Int) (l2 : Int) (l3 : Int) (s0 : Option Int) (s1 : Int) (s2 : Int) (h : JM) : Option JM :=
 (s0).bind (fun a26 =>
 g_ ((0 : Int) ≤ s1 ∧ s1 < (2 : Int)) (
 lt_ (sI h 163 a26 s1 s2) (fun h27 =>
 F12_sends_106 l1 l2 l3 h27)))
def F12_sends_38 (l1 : Int) (s0 : Int) (h : JM) : Option JM :=
 g_ ((0 : Int) ≤ l1 ∧ l1 < (2 : Int)) (
 lt_ (w32 ((w32 (256 * l1)) + (j_rem (h.1 162 0 l1) 256))) (fun x28 =>
 if s0 = 0 then (
 F12_sends_106 l1 s0 x28 h) else (
 g_ ((0 : Int) ≤ l1 ∧ l1 < (2 : Int)) (
 g_ ((0 : Int) ≤ l1 ∧ l1 < (2 : Int)) (
 lt_ (sI h 162 0 l1 (w32 ((h.1 162 0 l1) + 1))) (fun h29 =>
 g_ ((0 : Int) ≤ l1 ∧ l1 < (2 : Int)) (
 g_ ((0 : Int) ≤ l1 ∧ l1 < (2 : Int)) (
 if h29.1 162 0 l1 ≤ h29.1 163 0 l1 then (
 g_ ((0 : Int) ≤ l1 ∧ l1 < (2 : Int)) (
 F12_sends_105 l1 s0 x28 (some 0) l1 (h29.1 163 0 l1) h29)) else (
 g_ ((0 : Int) ≤ l1 ∧ l1 < (2 : Int)) (
 F12_sends_105 l1 s0 x28 (some 0) l1 (h29.1 162 0 l1) h29))))))))))
def F12_sends_37 (l1 : Int) (h : JM) : Option JM :=
 F12_sends_38 l1 0 h
def F12_sends (l1 : Int) (h : JM) : Option JM :=
 g_ ((0 : Int) ≤ l1 ∧ l1 < (2 : Int)) (
 g_ ((0 : Int) ≤ l1 ∧ l1 < (2 : Int)) (
 if h.1 160 0 l1 ≤ h.1 162 0 l1 then (
 F12_sends_37 l1 h) else (
 g_ ((0 : Int) ≤ l1 ∧ l1 < (2 : Int)) (
 g_ ((0 : Int) ≤ l1 ∧ l1 < (2 : Int)) (
 if w32 ((h.1 161 0 l1) + 100) ≤ h.1 162 0 l1 then (
 F12_sends_37 l1 h) else (
 F12_sends_38 l1 1 h))))))
-- X12_serves
def F12_serves_6b (k6 : Int → Int → JM → Option JM) (l1 : Int) (l2 : Int) (h : JM) : Option JM :=
 g_ ((0 : Int) ≤ l1 ∧ l1 < (6 : Int)) (
 if h.1 153 0 l1 ≤ 0 then (
 some h) else (
 if l2 = (-1) then (
 some h) else (
 g_ ((0 : Int) ≤ w32 (80 * l1) ∧ w32 (80 * l1) < (480 : Int)) (
 lt_ (h.1 152 0 (w32 (80 * l1))) (fun x1 =>
 (F12_leaves x1 h).bind (fun h2 =>
 g_ ((0 : Int) ≤ l2 ∧ l2 < (16 : Int)) (
 lt_ (sI h2 121 0 l2 x1) (fun h3 =>
 (F12_rings x1 l2 (j_rem l1 3) h3).bind (fun h4 =>
 (F12_ready l1 h4).bind (fun q5 =>
 k6 l1 q5.1 q5.2))))))))))
def F12_serves_6 : Nat → Int → Int → JM → Option JM
  | 0, _, _, _ => none
  | n + 1, l1, l2, h => F12_serves_6b (F12_serves_6 n) l1 l2 h
def F12_serves (l1 : Int) (h : JM) : Option JM :=
 (F12_ready l1 h).bind (fun q6 =>
 F12_serves_6 j_fu l1 q6.1 q6.2)
-- X12_speaks
def F12_speaks_153b (k153 : Int → JM → Option JM) (l1 : Int) (h : JM) : Option JM :=
 if 32 ≤ l1 then (
 some h) else (
 g_ ((0 : Int) ≤ l1 ∧ l1 < (32 : Int)) (
 g_ ((0 : Int) ≤ l1 ∧ l1 < (32 : Int)) (
 lt_ (sI h 184 0 l1 (h.1 185 0 l1)) (fun h1 =>
 k153 (w32 (l1 + 1)) h1))))
def F12_speaks_153 : Nat → Int → JM → Option JM
  | 0, _, _ => none
  | n + 1, l1, h => F12_speaks_153b (F12_speaks_153 n) l1 h
def F12_speaks_145 (k48 : Int → JM → Option JM) (l1 : Int) (h : JM) : Option JM :=
 k48 (w32 (l1 + 1)) h
def F12_speaks_116 (k48 : Int → JM → Option JM) (l1 : Int) (l2 : Int) (s0 : Option Int) (s1 : Int) (s2 : Int) (s3 : Int) (h : JM) : Option JM :=
 (s0).bind (fun a2 => g_ (a2 = 0) (
 (F12_gets s1 s2 s3 h).bind (fun h3 =>
 if l2 = 0 then (
 g_ ((0 : Int) ≤ l1 ∧ l1 < (80 : Int)) (
 g_ ((0 : Int) ≤ l1 ∧ l1 < (80 : Int)) (
 (F12_given l1 (h3.1 136 0 l1) h3).bind (fun q4 =>
 (F12_gets l1 (h3.1 137 0 l1) q4.1 q4.2).bind (fun h5 =>
 F12_speaks_145 k48 l1 h5))))) else (
 F12_speaks_145 k48 l1 h3))))
def F12_speaks_84 (k48 : Int → JM → Option JM) (l1 : Int) (s0 : Int) (h : JM) : Option JM :=
 g_ ((0 : Int) ≤ l1 ∧ l1 < (80 : Int)) (
 if s0 = 0 then (
 g_ ((0 : Int) ≤ l1 ∧ l1 < (80 : Int)) (
 (F12_given l1 (h.1 137 0 l1) h).bind (fun q6 =>
 F12_speaks_116 k48 l1 s0 (some 0) l1 (h.1 136 0 l1) q6.1 q6.2))) else (
 (F12_inRoomOthers l1 h).bind (fun q7 =>
 F12_speaks_116 k48 l1 s0 (some 0) l1 (h.1 136 0 l1) q7.1 q7.2)))
def F12_speaks_48b (k48 : Int → JM → Option JM) (l1 : Int) (h : JM) : Option JM :=
 if 80 ≤ l1 then (
 F12_speaks_153 j_fu 0 h) else (
 g_ ((0 : Int) ≤ l1 ∧ l1 < (80 : Int)) (
 if h.1 133 0 l1 = 3 then (
 g_ ((0 : Int) ≤ l1 ∧ l1 < (80 : Int)) (
 if h.1 137 0 l1 < 200 then (
 F12_speaks_84 k48 l1 0 h) else (
 F12_speaks_84 k48 l1 1 h))) else (
 F12_speaks_145 k48 l1 h)))
def F12_speaks_48 : Nat → Int → JM → Option JM
  | 0, _, _ => none
  | n + 1, l1, h => F12_speaks_48b (F12_speaks_48 n) l1 h
def F12_speaks_23b (k23 : Int → JM → Option JM) (l1 : Int) (h : JM) : Option JM :=
 if 32 ≤ l1 then (
 F12_speaks_48 j_fu 0 h) else (
 (F12_codeOf 0 0 h).bind (fun q8 =>
 g_ ((0 : Int) ≤ l1 ∧ l1 < (32 : Int)) (
 lt_ (sI q8.2 185 0 l1 q8.1) (fun h9 =>
 k23 (w32 (l1 + 1)) h9))))
def F12_speaks_23 : Nat → Int → JM → Option JM
  | 0, _, _ => none
  | n + 1, l1, h => F12_speaks_23b (F12_speaks_23 n) l1 h
def F12_speaks_2b (k2 : Int → JM → Option JM) (l1 : Int) (h : JM) : Option JM :=
 if 16 ≤ l1 then (
 F12_speaks_23 j_fu 0 h) else (
 g_ ((0 : Int) ≤ l1 ∧ l1 < (16 : Int)) (
 lt_ (sI h 131 0 l1 0) (fun h10 =>
 k2 (w32 (l1 + 1)) h10)))
def F12_speaks_2 : Nat → Int → JM → Option JM
  | 0, _, _ => none
  | n + 1, l1, h => F12_speaks_2b (F12_speaks_2 n) l1 h
def F12_speaks (h : JM) : Option JM :=
 F12_speaks_2 j_fu 0 h
-- X12_speech
def F12_speech_40 (h : JM) : Option (Int × JM) :=
 some ((-2), h)
def F12_speech (l1 : Int) (l2 : Int) (h : JM) : Option (Int × JM) :=
 (F12_in l1 0 1 h).bind (fun q1 =>
 if q1.1 = 0 then (
 F12_speech_40 q1.2) else (
 (F12_in l2 0 (w32 ((q1.2.1 12 0 0) - 1)) q1.2).bind (fun q2 =>
 if q2.1 = 0 then (
 F12_speech_40 q2.2) else (
 g_ ((0 : Int) ≤ w32 ((w32 (16 * l1)) + l2) ∧ w32 ((w32 (16 * l1)) + l2) < (32 : Int)) (
 some (q2.2.1 184 0 (w32 ((w32 (16 * l1)) + l2)), q2.2))))))
-- X12_spoil
def F12_spoil_124 (k53 : Int → Int → Int → Int → Int → JM → Option (Int × JM)) (l1 : Int) (l2 : Int) (l3 : Int) (l4 : Int) (l5 : Int) (h : JM) : Option (Int × JM) :=
 k53 l1 l2 l3 l4 (w32 (l5 + 1)) h
def F12_spoil_53b (k53 : Int → Int → Int → Int → Int → JM → Option (Int × JM)) (l1 : Int) (l2 : Int) (l3 : Int) (l4 : Int) (l5 : Int) (h : JM) : Option (Int × JM) :=
 if h.1 12 0 75 ≤ l5 then (
 lt_ (sI h 12 0 75 l4) (fun h1 =>
 if h1.1 12 0 75 = 300 then (
 some ((-3), h1)) else (
 g_ ((0 : Int) ≤ h1.1 12 0 75 ∧ h1.1 12 0 75 < (300 : Int)) (
 lt_ (sI h1 176 0 (h1.1 12 0 75) l1) (fun h2 =>
 g_ ((0 : Int) ≤ h2.1 12 0 75 ∧ h2.1 12 0 75 < (300 : Int)) (
 lt_ (sI h2 177 0 (h2.1 12 0 75) l2) (fun h3 =>
 lt_ (sI h3 12 0 75 (w32 ((h3.1 12 0 75) + 1))) (fun h4 =>
 g_ ((0 : Int) ≤ h3.1 12 0 75 ∧ h3.1 12 0 75 < (300 : Int)) (
 lt_ (sI h4 178 0 (h3.1 12 0 75) l3) (fun h5 =>
 some (h5.1 12 0 75, h5))))))))))) else (
 g_ ((0 : Int) ≤ l5 ∧ l5 < (300 : Int)) (
 if h.1 12 0 2 ≤ h.1 177 0 l5 then (
 g_ ((0 : Int) ≤ l5 ∧ l5 < (300 : Int)) (
 g_ ((0 : Int) ≤ l4 ∧ l4 < (300 : Int)) (
 lt_ (sI h 176 0 l4 (h.1 176 0 l5)) (fun h6 =>
 g_ ((0 : Int) ≤ l5 ∧ l5 < (300 : Int)) (
 g_ ((0 : Int) ≤ l4 ∧ l4 < (300 : Int)) (
 lt_ (sI h6 177 0 l4 (h6.1 177 0 l5)) (fun h7 =>
 g_ ((0 : Int) ≤ l5 ∧ l5 < (300 : Int)) (
 g_ ((0 : Int) ≤ l4 ∧ l4 < (300 : Int)) (
 lt_ (sI h7 178 0 l4 (h7.1 178 0 l5)) (fun h8 =>
 F12_spoil_124 k53 l1 l2 l3 (w32 (l4 + 1)) l5 h8)))))))))) else (
 F12_spoil_124 k53 l1 l2 l3 l4 l5 h)))
def F12_spoil_53 : Nat → Int → Int → Int → Int → Int → JM → Option (Int × JM)
  | 0, _, _, _, _, _, _ => none
  | n + 1, l1, l2, l3, l4, l5, h => F12_spoil_53b (F12_spoil_53 n) l1 l2 l3 l4 l5 h
def F12_spoil_44 (h : JM) : Option (Int × JM) :=
 some ((-2), h)
def F12_spoil (l1 : Int) (l2 : Int) (l3 : Int) (h : JM) : Option (Int × JM) :=
 (F12_in l1 0 1 h).bind (fun q9 =>
 if q9.1 = 0 then (
 F12_spoil_44 q9.2) else (
 (F12_in l2 (q9.2.1 12 0 2) (w64 ((q9.2.1 12 0 2) + 100000)) q9.2).bind (fun q10 =>
 if q10.1 = 0 then (
 F12_spoil_44 q10.2) else (
 (F12_in l3 0 255 q10.2).bind (fun q11 =>
 if q11.1 = 0 then (
 F12_spoil_44 q11.2) else (
 F12_spoil_53 j_fu l1 l2 l3 0 0 q11.2))))))
-- X12_tariff
def F12_tariff_62 (h : JM) : Option (Int × JM) :=
 some ((-2), h)
def F12_tariff (l1 : Int) (l2 : Int) (l3 : Int) (l4 : Int) (l5 : Int) (h : JM) : Option (Int × JM) :=
 (F12_in l1 0 3 h).bind (fun q1 =>
 if q1.1 = 0 then (
 F12_tariff_62 q1.2) else (
 (F12_in l2 0 10000 q1.2).bind (fun q2 =>
 if q2.1 = 0 then (
 F12_tariff_62 q2.2) else (
 (F12_in l3 1 1000 q2.2).bind (fun q3 =>
 if q3.1 = 0 then (
 F12_tariff_62 q3.2) else (
 (F12_in l4 0 200 q3.2).bind (fun q4 =>
 if q4.1 = 0 then (
 F12_tariff_62 q4.2) else (
 (F12_in l5 0 200 q4.2).bind (fun q5 =>
 if q5.1 = 0 then (
 F12_tariff_62 q5.2) else (
 g_ ((0 : Int) ≤ l1 ∧ l1 < (4 : Int)) (
 lt_ (sI q5.2 186 0 l1 l2) (fun h6 =>
 g_ ((0 : Int) ≤ l1 ∧ l1 < (4 : Int)) (
 lt_ (sI h6 187 0 l1 l3) (fun h7 =>
 g_ ((0 : Int) ≤ l1 ∧ l1 < (4 : Int)) (
 lt_ (sI h7 188 0 l1 l4) (fun h8 =>
 g_ ((0 : Int) ≤ l1 ∧ l1 < (4 : Int)) (
 lt_ (sI h8 189 0 l1 l5) (fun h9 =>
 some (1, h9)))))))))))))))))))
-- X12_times
def F12_times (l1 : Int) (h : JM) : Option JM :=
 g_ ((0 : Int) ≤ l1 ∧ l1 < (80 : Int)) (
 lt_ (w32 ((h.1 12 0 2) - (h.1 145 0 l1))) (fun x1 =>
 g_ ((0 : Int) ≤ l1 ∧ l1 < (80 : Int)) (
 if h.1 133 0 l1 = 0 then (
 if x1 = 500 then (
 (F12_over l1 1 (-1) h).bind (fun h2 =>
 some h2)) else (
 some h)) else (
 if h.1 133 0 l1 = 1 then (
 if x1 = 500 then (
 (F12_over l1 6 (-1) h).bind (fun h3 =>
 some h3)) else (
 some h)) else (
 if h.1 133 0 l1 = 2 then (
 g_ ((0 : Int) ≤ l1 ∧ l1 < (80 : Int)) (
 (F12_isLineSide (h.1 137 0 l1) h).bind (fun q4 =>
 if q4.1 = 0 then (
 some q4.2) else (
 (F12_ringsLong l1 x1 q4.2).bind (fun h5 =>
 some h5))))) else (
 if h.1 133 0 l1 = 4 then (
 if x1 = 3000 then (
 (F12_over l1 4 (-1) h).bind (fun h6 =>
 some h6)) else (
 some h)) else (
 g_ ((0 : Int) ≤ l1 ∧ l1 < (80 : Int)) (
 (F12_isLineSide (h.1 136 0 l1) h).bind (fun q7 =>
 if q7.1 = 0 then (
 some q7.2) else (
 if x1 ≤ 0 then (
 some q7.2) else (
 g_ ((0 : Int) ≤ l1 ∧ l1 < (80 : Int)) (
 g_ ((0 : Int) ≤ q7.2.1 143 0 l1 ∧ q7.2.1 143 0 l1 < (4 : Int)) (
 g_ (¬ q7.2.1 187 0 (q7.2.1 143 0 l1) = 0) (
 if j_rem x1 (q7.2.1 187 0 (q7.2.1 143 0 l1)) = 0 then (
 g_ ((0 : Int) ≤ l1 ∧ l1 < (80 : Int)) (
 (F12_price (q7.2.1 143 0 l1) q7.2).bind (fun q8 =>
 (F12_charges l1 q8.1 q8.2).bind (fun h9 =>
 some h9)))) else (
 some q7.2)))))))))))))))
-- X12_timesOfAll
def F12_timesOfAll_82 (k4 : Int → Int → JM → Option JM) (l1 : Int) (l3 : Int) (s0 : Int) (h : JM) : Option JM :=
 if s0 = 0 then (
 k4 l1 s0 h) else (
 g_ ((0 : Int) ≤ l3 ∧ l3 < (80 : Int)) (
 lt_ (h.1 134 0 l3) (fun x1 =>
 (F12_times l3 h).bind (fun h2 =>
 k4 x1 s0 h2))))
def F12_timesOfAll_66 (k4 : Int → Int → JM → Option JM) (k13 : Int → Int → Int → JM → Option JM) (l1 : Int) (l3 : Int) (l4 : Int) (h : JM) : Option JM :=
 k13 l1 l3 (w32 (l4 + 1)) h
def F12_timesOfAll_63 (k4 : Int → Int → JM → Option JM) (k13 : Int → Int → Int → JM → Option JM) (l1 : Int) (l4 : Int) (h : JM) : Option JM :=
 F12_timesOfAll_66 k4 k13 l1 l4 l4 h
def F12_timesOfAll_13b (k4 : Int → Int → JM → Option JM) (k13 : Int → Int → Int → JM → Option JM) (l1 : Int) (l3 : Int) (l4 : Int) (h : JM) : Option JM :=
 if 80 ≤ l4 then (
 if l3 = (-1) then (
 F12_timesOfAll_82 k4 l1 l3 0 h) else (
 F12_timesOfAll_82 k4 l1 l3 1 h)) else (
 g_ ((0 : Int) ≤ l4 ∧ l4 < (80 : Int)) (
 if h.1 133 0 l4 = (-1) then (
 F12_timesOfAll_66 k4 k13 l1 l3 l4 h) else (
 g_ ((0 : Int) ≤ l4 ∧ l4 < (80 : Int)) (
 if h.1 134 0 l4 ≤ l1 then (
 F12_timesOfAll_66 k4 k13 l1 l3 l4 h) else (
 if l3 = (-1) then (
 F12_timesOfAll_63 k4 k13 l1 l4 h) else (
 g_ ((0 : Int) ≤ l4 ∧ l4 < (80 : Int)) (
 g_ ((0 : Int) ≤ l3 ∧ l3 < (80 : Int)) (
 if h.1 134 0 l3 ≤ h.1 134 0 l4 then (
 F12_timesOfAll_66 k4 k13 l1 l3 l4 h) else (
 F12_timesOfAll_63 k4 k13 l1 l4 h)))))))))
def F12_timesOfAll_13 (k4 : Int → Int → JM → Option JM) : Nat → Int → Int → Int → JM → Option JM
  | 0, _, _, _, _ => none
  | n + 1, l1, l3, l4, h => F12_timesOfAll_13b k4 (F12_timesOfAll_13 k4 n) l1 l3 l4 h
def F12_timesOfAll_4b (k4 : Int → Int → JM → Option JM) (l1 : Int) (l2 : Int) (h : JM) : Option JM :=
 if l2 = 0 then (
 some h) else (
 F12_timesOfAll_13 k4 j_fu l1 (-1) 0 h)
def F12_timesOfAll_4 : Nat → Int → Int → JM → Option JM
  | 0, _, _, _ => none
  | n + 1, l1, l2, h => F12_timesOfAll_4b (F12_timesOfAll_4 n) l1 l2 h
def F12_timesOfAll (h : JM) : Option JM :=
 F12_timesOfAll_4 j_fu (-1) 1 h
-- X12_unitComes
def F12_unitComes_290 (l1 : Int) (l4 : Int) (h : JM) : Option JM :=
 if l4 = 0 then (
 some h) else (
 g_ ((0 : Int) ≤ l1 ∧ l1 < (2 : Int)) (
 g_ ((0 : Int) ≤ l1 ∧ l1 < (2 : Int)) (
 lt_ (sI h 166 0 l1 (w32 (1 - (h.1 166 0 l1)))) (fun h1 =>
 some h1))))
def F12_unitComes_246b (k246 : Int → Int → Int → JM → Option JM) (l1 : Int) (l5 : Int) (l6 : Int) (h : JM) : Option JM :=
 if l5 ≤ l6 then (
 (F12_comes l1 l5 h).bind (fun h2 =>
 some h2)) else (
 (F12_read (w32 (24 + (w32 (8 * l6)))) 8 h).bind (fun q3 =>
 g_ ((0 : Int) ≤ l6 ∧ l6 < (64 : Int)) (
 lt_ (sI q3.2 168 0 l6 q3.1) (fun h4 =>
 k246 l1 l5 (w32 (l6 + 1)) h4))))
def F12_unitComes_246 : Nat → Int → Int → Int → JM → Option JM
  | 0, _, _, _, _ => none
  | n + 1, l1, l5, l6, h => F12_unitComes_246b (F12_unitComes_246 n) l1 l5 l6 h
def F12_unitComes_175 (l1 : Int) (h : JM) : Option JM :=
 (F12_read 15 1 h).bind (fun q5 =>
 g_ ((0 : Int) ≤ l1 ∧ l1 < (2 : Int)) (
 if q5.1 = q5.2.1 166 0 l1 then (
 (F12_read 8 7 q5.2).bind (fun q6 =>
 g_ ((0 : Int) ≤ l1 ∧ l1 < (2 : Int)) (
 (F12_modulo (w32 (q6.1 - (q6.2.1 164 0 l1))) q6.2).bind (fun q7 =>
 (F12_read 16 6 q7.2).bind (fun q8 =>
 if q7.1 = 1 then (
 if q8.1 ≤ 0 then (
 F12_unitComes_290 l1 q7.1 q8.2) else (
 g_ ((0 : Int) ≤ l1 ∧ l1 < (2 : Int)) (
 g_ ((0 : Int) ≤ l1 ∧ l1 < (2 : Int)) (
 lt_ (sI q8.2 164 0 l1 (w32 ((q8.2.1 164 0 l1) + 1))) (fun h9 =>
 F12_unitComes_246 j_fu l1 q8.1 0 h9))))) else (
 F12_unitComes_290 l1 q7.1 q8.2)))))) else (
 some q5.2)))
def F12_unitComes_133 (l1 : Int) (s0 : Option Int) (s1 : Int) (s2 : Int) (h : JM) : Option JM :=
 (s0).bind (fun a10 =>
 g_ ((0 : Int) ≤ s1 ∧ s1 < (2 : Int)) (
 lt_ (sI h 162 a10 s1 s2) (fun h11 =>
 (F12_read 7 1 h11).bind (fun q12 =>
 g_ ((0 : Int) ≤ l1 ∧ l1 < (2 : Int)) (
 if q12.1 = q12.2.1 165 0 l1 then (
 F12_unitComes_175 l1 q12.2) else (
 (F12_read 7 1 q12.2).bind (fun q13 =>
 g_ ((0 : Int) ≤ l1 ∧ l1 < (2 : Int)) (
 lt_ (sI q13.2 165 0 l1 q13.1) (fun h14 =>
 g_ ((0 : Int) ≤ l1 ∧ l1 < (2 : Int)) (
 g_ ((0 : Int) ≤ l1 ∧ l1 < (2 : Int)) (
 lt_ (sI h14 162 0 l1 (h14.1 161 0 l1)) (fun h15 =>
 F12_unitComes_175 l1 h15))))))))))))
def F12_unitComes (l1 : Int) (h : JM) : Option JM :=
 lt_ (w32 ((w32 (4 * (w32 (1 - l1)))) + (j_rem (w32 ((h.1 12 0 2) + 2)) 4))) (fun x16 =>
 if h.1 12 0 2 < 2 then (
 some h) else (
 g_ ((0 : Int) ≤ x16 ∧ x16 < (8 : Int)) (
 if h.1 174 0 x16 = 0 then (
 some h) else (
 (F12_isRight x16 h).bind (fun q17 =>
 if q17.1 = 0 then (
 g_ ((0 : Int) ≤ l1 ∧ l1 < (2 : Int)) (
 g_ ((0 : Int) ≤ l1 ∧ l1 < (2 : Int)) (
 lt_ (sI q17.2 167 0 l1 (w32 ((q17.2.1 167 0 l1) + 1))) (fun h21 =>
 some h21)))) else (
 (F12_read 0 7 q17.2).bind (fun q18 =>
 g_ ((0 : Int) ≤ l1 ∧ l1 < (2 : Int)) (
 (F12_modulo (w32 (q18.1 - (q18.2.1 161 0 l1))) q18.2).bind (fun q19 =>
 g_ ((0 : Int) ≤ l1 ∧ l1 < (2 : Int)) (
 g_ ((0 : Int) ≤ l1 ∧ l1 < (2 : Int)) (
 if q19.1 ≤ w32 ((q19.2.1 163 0 l1) - (q19.2.1 161 0 l1)) then (
 g_ ((0 : Int) ≤ l1 ∧ l1 < (2 : Int)) (
 g_ ((0 : Int) ≤ l1 ∧ l1 < (2 : Int)) (
 lt_ (sI q19.2 161 0 l1 (w32 ((q19.2.1 161 0 l1) + q19.1))) (fun h20 =>
 g_ ((0 : Int) ≤ l1 ∧ l1 < (2 : Int)) (
 g_ ((0 : Int) ≤ l1 ∧ l1 < (2 : Int)) (
 if h20.1 161 0 l1 ≤ h20.1 162 0 l1 then (
 g_ ((0 : Int) ≤ l1 ∧ l1 < (2 : Int)) (
 F12_unitComes_133 l1 (some 0) l1 (h20.1 162 0 l1) h20)) else (
 g_ ((0 : Int) ≤ l1 ∧ l1 < (2 : Int)) (
 F12_unitComes_133 l1 (some 0) l1 (h20.1 161 0 l1) h20)))))))) else (
 some q19.2))))))))))))
-- X12_tick
def F12_tick_72b (k32 : Int → Int → JM → Option (Int × JM)) (k72 : Int → Int → Int → JM → Option (Int × JM)) (l1 : Int) (l2 : Int) (l3 : Int) (h : JM) : Option (Int × JM) :=
 if 6 ≤ l3 then (
 (F12_speaks h).bind (fun h1 =>
 (F12_sends 0 h1).bind (fun h2 =>
 (F12_sends 1 h2).bind (fun h3 =>
 lt_ (sI h3 12 0 2 (w32 ((h3.1 12 0 2) + 1))) (fun h4 =>
 k32 l1 (w32 (l2 + 1)) h4))))) else (
 (F12_serves l3 h).bind (fun h5 =>
 k72 l1 l2 (w32 (l3 + 1)) h5))
def F12_tick_72 (k32 : Int → Int → JM → Option (Int × JM)) : Nat → Int → Int → Int → JM → Option (Int × JM)
  | 0, _, _, _, _ => none
  | n + 1, l1, l2, l3, h => F12_tick_72b k32 (F12_tick_72 k32 n) l1 l2 l3 h
def F12_tick_49b (k32 : Int → Int → JM → Option (Int × JM)) (k49 : Int → Int → Int → JM → Option (Int × JM)) (l1 : Int) (l2 : Int) (l3 : Int) (h : JM) : Option (Int × JM) :=
 if 16 ≤ l3 then (
 (F12_timesOfAll h).bind (fun h6 =>
 F12_tick_72 k32 j_fu l1 l2 0 h6)) else (
 (F12_looks l3 h).bind (fun h7 =>
 k49 l1 l2 (w32 (l3 + 1)) h7))
def F12_tick_49 (k32 : Int → Int → JM → Option (Int × JM)) : Nat → Int → Int → Int → JM → Option (Int × JM)
  | 0, _, _, _, _ => none
  | n + 1, l1, l2, l3, h => F12_tick_49b k32 (F12_tick_49 k32 n) l1 l2 l3 h
def F12_tick_32b (k32 : Int → Int → JM → Option (Int × JM)) (l1 : Int) (l2 : Int) (h : JM) : Option (Int × JM) :=
 if l1 ≤ l2 then (
 some (h.1 12 0 2, h)) else (
 (F12_unitComes 0 h).bind (fun h8 =>
 (F12_unitComes 1 h8).bind (fun h9 =>
 F12_tick_49 k32 j_fu l1 l2 0 h9)))
def F12_tick_32 : Nat → Int → Int → JM → Option (Int × JM)
  | 0, _, _, _ => none
  | n + 1, l1, l2, h => F12_tick_32b (F12_tick_32 n) l1 l2 h
def F12_tick (l1 : Int) (h : JM) : Option (Int × JM) :=
 (F12_in l1 1 1000 h).bind (fun q10 =>
 if q10.1 = 0 then (
 some ((-2), q10.2)) else (
 if w32 ((q10.2.1 12 0 2) + l1) ≤ 10000000 then (
 F12_tick_32 j_fu l1 0 q10.2) else (
 some ((-3), q10.2))))
-- X12_told
def F12_told_122 (k87 : Int → Int → JM → Option (Int × JM)) (l3 : Int) (s0 : Int) (s1 : Int) (h : JM) : Option (Int × JM) :=
 lt_ (w32 (s0 + s1)) (fun x1 =>
 k87 x1 (w32 (l3 + 1)) h)
def F12_told_121 (k87 : Int → Int → JM → Option (Int × JM)) (l3 : Int) (s0 : Int) (h : JM) : Option (Int × JM) :=
 F12_told_122 k87 l3 s0 0 h
def F12_told_87b (k87 : Int → Int → JM → Option (Int × JM)) (l2 : Int) (l3 : Int) (h : JM) : Option (Int × JM) :=
 if h.1 12 0 0 ≤ l3 then (
 some (l2, h)) else (
 g_ ((0 : Int) ≤ l3 ∧ l3 < (32 : Int)) (
 if h.1 154 0 l3 = 0 then (
 g_ ((0 : Int) ≤ w32 (16 + l3) ∧ w32 (16 + l3) < (32 : Int)) (
 if h.1 154 0 (w32 (16 + l3)) = 0 then (
 F12_told_122 k87 l3 l2 1 h) else (
 F12_told_121 k87 l3 l2 h))) else (
 F12_told_121 k87 l3 l2 h)))
def F12_told_87 : Nat → Int → Int → JM → Option (Int × JM)
  | 0, _, _, _ => none
  | n + 1, l2, l3, h => F12_told_87b (F12_told_87 n) l2 l3 h
def F12_told_70 (k48 : Int → Int → JM → Option (Int × JM)) (l3 : Int) (s0 : Int) (s1 : Int) (h : JM) : Option (Int × JM) :=
 lt_ (w32 (s0 + s1)) (fun x2 =>
 k48 x2 (w32 (l3 + 1)) h)
def F12_told_48b (k48 : Int → Int → JM → Option (Int × JM)) (l2 : Int) (l3 : Int) (h : JM) : Option (Int × JM) :=
 if 80 ≤ l3 then (
 some (l2, h)) else (
 g_ ((0 : Int) ≤ l3 ∧ l3 < (80 : Int)) (
 if h.1 133 0 l3 = (-1) then (
 F12_told_70 k48 l3 l2 0 h) else (
 F12_told_70 k48 l3 l2 1 h)))
def F12_told_48 : Nat → Int → Int → JM → Option (Int × JM)
  | 0, _, _, _ => none
  | n + 1, l2, l3, h => F12_told_48b (F12_told_48 n) l2 l3 h
def F12_told (l1 : Int) (h : JM) : Option (Int × JM) :=
 if l1 = 0 then (
 some (h.1 12 0 2, h)) else (
 if l1 = 1 then (
 some (h.1 12 0 32, h)) else (
 if l1 = 2 then (
 F12_told_48 j_fu 0 0 h) else (
 if l1 = 3 then (
 some (h.1 12 0 90, h)) else (
 if l1 = 4 then (
 F12_told_87 j_fu 0 0 h) else (
 some ((-2), h))))))
-- X12_waiting
def F12_waiting_34 (h : JM) : Option (Int × JM) :=
 some ((-2), h)
def F12_waiting (l1 : Int) (l2 : Int) (l3 : Int) (h : JM) : Option (Int × JM) :=
 (F12_in l1 0 1 h).bind (fun q1 =>
 if q1.1 = 0 then (
 F12_waiting_34 q1.2) else (
 (F12_in l2 0 2 q1.2).bind (fun q2 =>
 if q2.1 = 0 then (
 F12_waiting_34 q2.2) else (
 (F12_in l3 0 10 q2.2).bind (fun q3 =>
 if q3.1 = 0 then (
 F12_waiting_34 q3.2) else (
 lt_ (w32 ((w32 (3 * l1)) + l2)) (fun x4 =>
 g_ ((0 : Int) ≤ x4 ∧ x4 < (6 : Int)) (
 lt_ (q3.2.1 151 0 x4) (fun x5 =>
 g_ ((0 : Int) ≤ x4 ∧ x4 < (6 : Int)) (
 lt_ (sI q3.2 151 0 x4 l3) (fun h6 =>
 some (x5, h6))))))))))))
