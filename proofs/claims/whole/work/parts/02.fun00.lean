-- X0_begin
def F0_begin (l0 : Int) (l1 : Option Int) (l2 : Int) (h : JM) : Option JM :=
 lt_ (sR h 0 l0 0 l1) (fun h1 =>
 lt_ (sR h1 0 l0 1 none) (fun h2 =>
 lt_ (sR h2 0 l0 2 none) (fun h3 =>
 lt_ (sR h3 0 l0 3 none) (fun h4 =>
 lt_ (sR h4 0 l0 4 none) (fun h5 =>
 lt_ (sR h5 0 l0 5 none) (fun h6 =>
 lt_ (sI h6 0 l0 6 (-1)) (fun h7 =>
 lt_ (sR h7 0 l0 7 none) (fun h8 =>
 lt_ (sL h8 0 l0 8 0) (fun h9 =>
 lt_ (sI h9 0 l0 9 0) (fun h10 =>
 lt_ (sI h10 0 l0 10 l2) (fun h11 =>
 lt_ (sI h11 0 l0 11 0) (fun h12 =>
 lt_ (sI h12 0 l0 12 0) (fun h13 =>
 lt_ (sI h13 0 l0 13 0) (fun h14 =>
 lt_ (sI h14 0 l0 14 0) (fun h15 =>
 lt_ (sI h15 0 l0 15 0) (fun h16 =>
 some h16))))))))))))))))
-- X11_beginsWith
def F11_beginsWith_39 (h : JM) : Option (Int × JM) :=
 some (0, h)
def F11_beginsWith (l0 : Int) (l2 : Int) (h : JM) : Option (Int × JM) :=
 lt_ (w32 (j_lshr l2 48)) (fun x1 =>
 if j_lcmp (j_lshr l0 48) x1 < 0 then (
 F11_beginsWith_39 h) else (
 if j_lcmp (j_land (j_lxor l0 l2) (w64 ((j_lshl 1 (w32 (4 * x1))) - 1))) 0 = 0 then (
 some (1, h)) else (
 F11_beginsWith_39 h)))
-- X11_countOf
def F11_countOf (l0 : Int) (h : JM) : Option (Int × JM) :=
 some (w32 (j_lshr l0 48), h)
-- X1_analyse
def F1_analyse_110 (h : JM) : Option (Int × JM) :=
 some ((-2), h)
def F1_analyse_84 (k15 : Int → Int → Int → Int → Int → Int → JM → Option (Int × JM)) (l0 : Int) (l1 : Int) (l3 : Int) (l4 : Int) (l5 : Int) (l6 : Int) (h : JM) : Option (Int × JM) :=
 k15 l0 l1 l3 l4 l5 (w32 (l6 + 1)) h
def F1_analyse_61 (k15 : Int → Int → Int → Int → Int → Int → JM → Option (Int × JM)) (l0 : Int) (l1 : Int) (l3 : Int) (l4 : Int) (l5 : Int) (l6 : Int) (l7 : Int) (l9 : Int) (h : JM) : Option (Int × JM) :=
 if l9 ≤ l4 then (
 F1_analyse_84 k15 l0 l1 l3 l4 l5 l6 h) else (
 (F11_beginsWith l1 l7 h).bind (fun q1 =>
 if q1.1 = 0 then (
 F1_analyse_84 k15 l0 l1 l3 l4 l5 l6 q1.2) else (
 F1_analyse_84 k15 l0 l1 l6 l9 l5 l6 q1.2)))
def F1_analyse_15b (k15 : Int → Int → Int → Int → Int → Int → JM → Option (Int × JM)) (l0 : Int) (l1 : Int) (l3 : Int) (l4 : Int) (l5 : Int) (l6 : Int) (h : JM) : Option (Int × JM) :=
 if h.1 1 l0 4 ≤ l6 then (
 if l3 = (-2) then (
 F1_analyse_110 h) else (
 g_ ((0 : Int) ≤ l3 ∧ l3 < (24 : Int)) (
 (h.2.2 22 l0 l3).bind (fun a2 =>
 if l5 ≤ h.1 6 a2 1 then (
 g_ ((0 : Int) ≤ l3 ∧ l3 < (24 : Int)) (
 (h.2.2 22 l0 l3).bind (fun a3 =>
 if h.1 6 a3 1 ≤ l5 then (
 some (l3, h)) else (
 some ((-1), h))))) else (
 F1_analyse_110 h))))) else (
 g_ ((0 : Int) ≤ l6 ∧ l6 < (24 : Int)) (
 (h.2.2 22 l0 l6).bind (fun a4 =>
 lt_ (h.2.1 6 a4 0) (fun x5 =>
 (F11_countOf x5 h).bind (fun q6 =>
 if q6.1 ≤ l5 then (
 F1_analyse_61 k15 l0 l1 l3 l4 l5 l6 x5 q6.1 q6.2) else (
 (F11_beginsWith x5 l1 q6.2).bind (fun q7 =>
 if q7.1 = 0 then (
 F1_analyse_61 k15 l0 l1 l3 l4 l5 l6 x5 q6.1 q7.2) else (
 some ((-1), q7.2)))))))))
def F1_analyse_15 : Nat → Int → Int → Int → Int → Int → Int → JM → Option (Int × JM)
  | 0, _, _, _, _, _, _, _ => none
  | n + 1, l0, l1, l3, l4, l5, l6, h => F1_analyse_15b (F1_analyse_15 n) l0 l1 l3 l4 l5 l6 h
def F1_analyse (l0 : Int) (l1 : Int) (h : JM) : Option (Int × JM) :=
 (F11_countOf l1 h).bind (fun q8 =>
 F1_analyse_15 j_fu l0 l1 (-2) 0 q8.1 0 q8.2)
-- X1_findIdle
def F1_findIdle_53 (k7 : Int → Int → Int → Option Int → Int → JM → Option (Option Int × JM)) (l0 : Int) (l1 : Int) (l2 : Int) (l3 : Option Int) (l4 : Int) (h : JM) : Option (Option Int × JM) :=
 k7 l0 l1 l2 l3 (w32 (l4 + 1)) h
def F1_findIdle_45 (k7 : Int → Int → Int → Option Int → Int → JM → Option (Option Int × JM)) (l0 : Int) (l1 : Int) (l2 : Int) (l4 : Int) (h : JM) : Option (Option Int × JM) :=
 g_ ((0 : Int) ≤ l4 ∧ l4 < (h.1 1020 l0 1 : Int)) (
 F1_findIdle_53 k7 l0 l1 l2 (some (16 * l0 + l4)) l4 h)
def F1_findIdle_7b (k7 : Int → Int → Int → Option Int → Int → JM → Option (Option Int × JM)) (l0 : Int) (l1 : Int) (l2 : Int) (l3 : Option Int) (l4 : Int) (h : JM) : Option (Option Int × JM) :=
 g_ ((0 : Int) ≤ h.1 1020 l0 1 ∧ h.1 1020 l0 1 < (2147483648 : Int)) (
 if h.1 1020 l0 1 ≤ l4 then (
 if l2 ≤ l1 then (
 some (none, h)) else (
 some (l3, h))) else (
 g_ ((0 : Int) ≤ l4 ∧ l4 < (h.1 1020 l0 1 : Int)) (
 if h.1 8 (16 * l0 + l4) 2 = 0 then (
 if l3 = none then (
 F1_findIdle_45 k7 l0 l1 (w32 (l2 + 1)) l4 h) else (
 if h.1 1 l0 0 = 1 then (
 F1_findIdle_45 k7 l0 l1 (w32 (l2 + 1)) l4 h) else (
 F1_findIdle_53 k7 l0 l1 (w32 (l2 + 1)) l3 l4 h))) else (
 F1_findIdle_53 k7 l0 l1 l2 l3 l4 h))))
def F1_findIdle_7 : Nat → Int → Int → Int → Option Int → Int → JM → Option (Option Int × JM)
  | 0, _, _, _, _, _, _ => none
  | n + 1, l0, l1, l2, l3, l4, h => F1_findIdle_7b (F1_findIdle_7 n) l0 l1 l2 l3 l4 h
def F1_findIdle (l0 : Int) (l1 : Int) (h : JM) : Option (Option Int × JM) :=
 F1_findIdle_7 j_fu l0 l1 0 none 0 h
-- X1_hasPrefix
def F1_hasPrefix_2b (k2 : Int → Int → Int → JM → Option (Int × JM)) (l0 : Int) (l1 : Int) (l3 : Int) (h : JM) : Option (Int × JM) :=
 if h.1 1 l0 4 ≤ l3 then (
 some (0, h)) else (
 g_ ((0 : Int) ≤ l3 ∧ l3 < (24 : Int)) (
 (h.2.2 22 l0 l3).bind (fun a1 =>
 if j_lcmp (h.2.1 6 a1 0) l1 = 0 then (
 some (1, h)) else (
 k2 l0 l1 (w32 (l3 + 1)) h))))
def F1_hasPrefix_2 : Nat → Int → Int → Int → JM → Option (Int × JM)
  | 0, _, _, _, _ => none
  | n + 1, l0, l1, l3, h => F1_hasPrefix_2b (F1_hasPrefix_2 n) l0 l1 l3 h
def F1_hasPrefix (l0 : Int) (l1 : Int) (h : JM) : Option (Int × JM) :=
 F1_hasPrefix_2 j_fu l0 l1 0 h
-- X1_hush
def F1_hush_49b (k49 : Int → Int → JM → Option JM) (l0 : Int) (l1 : Int) (h : JM) : Option JM :=
 if 2 ≤ l1 then (
 some h) else (
 g_ ((0 : Int) ≤ l1 ∧ l1 < (2 : Int)) (
 lt_ (sI h 24 l0 l1 0) (fun h1 =>
 k49 l0 (w32 (l1 + 1)) h1)))
def F1_hush_49 : Nat → Int → Int → JM → Option JM
  | 0, _, _, _ => none
  | n + 1, l0, l1, h => F1_hush_49b (F1_hush_49 n) l0 l1 h
def F1_hush_2b (k2 : Int → Int → JM → Option JM) (l0 : Int) (l1 : Int) (h : JM) : Option JM :=
 g_ ((0 : Int) ≤ h.1 1020 l0 1 ∧ h.1 1020 l0 1 < (2147483648 : Int)) (
 if h.1 1020 l0 1 ≤ l1 then (
 F1_hush_49 j_fu l0 0 h) else (
 g_ ((0 : Int) ≤ l1 ∧ l1 < (h.1 1020 l0 1 : Int)) (
 g_ ((0 : Int) ≤ l1 ∧ l1 < (h.1 1020 l0 1 : Int)) (
 lt_ (sI h 8 (16 * l0 + l1) 5 (h.1 8 (16 * l0 + l1) 4)) (fun h2 =>
 g_ ((0 : Int) ≤ l1 ∧ l1 < (h2.1 1020 l0 1 : Int)) (
 lt_ (sI h2 8 (16 * l0 + l1) 4 213) (fun h3 =>
 k2 l0 (w32 (l1 + 1)) h3)))))))
def F1_hush_2 : Nat → Int → Int → JM → Option JM
  | 0, _, _, _ => none
  | n + 1, l0, l1, h => F1_hush_2b (F1_hush_2 n) l0 l1 h
def F1_hush (l0 : Int) (h : JM) : Option JM :=
 F1_hush_2 j_fu l0 0 h
-- X2_has
def F2_has_2b (k2 : Int → Option Int → Int → JM → Option (Int × JM)) (l0 : Int) (l1 : Option Int) (l2 : Int) (h : JM) : Option (Int × JM) :=
 if h.1 2 l0 1 ≤ l2 then (
 some (0, h)) else (
 g_ ((0 : Int) ≤ l2 ∧ l2 < (8 : Int)) (
 if h.2.2 25 l0 l2 = l1 then (
 some (1, h)) else (
 k2 l0 l1 (w32 (l2 + 1)) h)))
def F2_has_2 : Nat → Int → Option Int → Int → JM → Option (Int × JM)
  | 0, _, _, _, _ => none
  | n + 1, l0, l1, l2, h => F2_has_2b (F2_has_2 n) l0 l1 l2 h
def F2_has (l0 : Int) (l1 : Option Int) (h : JM) : Option (Int × JM) :=
 F2_has_2 j_fu l0 l1 0 h
-- X2_letWait
def F2_letWait_43 (l0 : Int) (h : JM) : Option JM :=
 lt_ (sI h 2 l0 3 (w32 ((h.1 2 l0 3) + 1))) (fun h1 =>
 some h1)
def F2_letWait (l0 : Int) (l1 : Option Int) (l2 : Int) (h : JM) : Option JM :=
 if l2 = 0 then (
 lt_ (sI h 2 l0 5 (w32 ((h.1 2 l0 5) + 1))) (fun h2 =>
 (l1).bind (fun a3 =>
 lt_ (sI h2 0 a3 14 (h2.1 2 l0 5)) (fun h4 =>
 F2_letWait_43 l0 h4)))) else (
 lt_ (sI h 2 l0 4 (w32 ((h.1 2 l0 4) - 1))) (fun h5 =>
 (l1).bind (fun a6 =>
 lt_ (sI h5 0 a6 14 (h5.1 2 l0 4)) (fun h7 =>
 F2_letWait_43 l0 h7))))
-- X4_isFree
def F4_isFree_18 (h : JM) : Option (Int × JM) :=
 some (0, h)
def F4_isFree (l0 : Int) (h : JM) : Option (Int × JM) :=
 if h.1 4 l0 6 = 0 then (
 if h.2.2 4 l0 13 = none then (
 some (1, h)) else (
 F4_isFree_18 h)) else (
 F4_isFree_18 h)
-- X2_nextMember
def F2_nextMember_50 (k4 : Int → Option Int → Int → JM → Option (Option Int × JM)) (l0 : Int) (l1 : Option Int) (l2 : Int) (h : JM) : Option (Option Int × JM) :=
 k4 l0 l1 (w32 (l2 + 1)) h
def F2_nextMember_48 (k4 : Int → Option Int → Int → JM → Option (Option Int × JM)) (l0 : Int) (l2 : Int) (l3 : Option Int) (h : JM) : Option (Option Int × JM) :=
 F2_nextMember_50 k4 l0 l3 l2 h
def F2_nextMember_4b (k4 : Int → Option Int → Int → JM → Option (Option Int × JM)) (l0 : Int) (l1 : Option Int) (l2 : Int) (h : JM) : Option (Option Int × JM) :=
 if h.1 2 l0 1 ≤ l2 then (
 some (l1, h)) else (
 g_ ((0 : Int) ≤ l2 ∧ l2 < (8 : Int)) (
 (h.2.2 25 l0 l2).bind (fun a1 =>
 (F4_isFree a1 h).bind (fun q2 =>
 if q2.1 = 0 then (
 F2_nextMember_50 k4 l0 l1 l2 q2.2) else (
 if q2.2.1 4 a1 7 = 0 then (
 if l1 = none then (
 F2_nextMember_48 k4 l0 l2 (some a1) q2.2) else (
 (l1).bind (fun a3 =>
 if q2.2.1 4 a3 16 ≤ q2.2.1 4 a1 16 then (
 F2_nextMember_50 k4 l0 (some a3) l2 q2.2) else (
 F2_nextMember_48 k4 l0 l2 (some a1) q2.2)))) else (
 F2_nextMember_50 k4 l0 l1 l2 q2.2))))))
def F2_nextMember_4 : Nat → Int → Option Int → Int → JM → Option (Option Int × JM)
  | 0, _, _, _, _ => none
  | n + 1, l0, l1, l2, h => F2_nextMember_4b (F2_nextMember_4 n) l0 l1 l2 h
def F2_nextMember (l0 : Int) (h : JM) : Option (Option Int × JM) :=
 F2_nextMember_4 j_fu l0 none 0 h
-- X3_charge
def F3_charge_104 (l1 : Option Int) (l6 : Int) (h : JM) : Option (Int × JM) :=
 (l1).bind (fun a1 =>
 lt_ (sI h 0 a1 13 (w32 ((h.1 0 a1 13) + l6))) (fun h2 =>
 some (1, h2)))
def F3_charge_71 (l1 : Option Int) (l4 : Option Int) (l6 : Int) (h : JM) : Option (Int × JM) :=
 (l4).bind (fun a3 =>
 if h.1 4 a3 17 = (-1) then (
 F3_charge_104 l1 l6 h) else (
 if l6 ≤ h.1 4 a3 17 then (
 lt_ (sI h 4 a3 17 (w32 ((h.1 4 a3 17) - l6))) (fun h4 =>
 F3_charge_104 l1 l6 h4)) else (
 some (0, h))))
def F3_charge_53 (l1 : Option Int) (l2 : Int) (l4 : Option Int) (l5 : Int) (s0 : Int) (h : JM) : Option (Int × JM) :=
 if l2 = 0 then (
 F3_charge_71 l1 l4 s0 h) else (
 g_ ((0 : Int) ≤ l5 ∧ l5 < (16 : Int)) (
 lt_ (w32 (s0 + (h.1 26 0 l5))) (fun x5 =>
 F3_charge_71 l1 l4 x5 h)))
def F3_charge (l1 : Option Int) (l2 : Int) (l3 : Int) (h : JM) : Option (Int × JM) :=
 (l1).bind (fun a6 =>
 if h.2.2 0 a6 1 = none then (
 some (1, h)) else (
 lt_ (w32 ((h.1 0 a6 11) * 4)) (fun x7 =>
 if 800 ≤ j_rem l3 2400 then (
 g_ ((0 : Int) ≤ w32 (x7 + 2) ∧ w32 (x7 + 2) < (16 : Int)) (
 F3_charge_53 (some a6) l2 (h.2.2 0 a6 1) x7 (h.1 26 0 (w32 (x7 + 2))) h)) else (
 g_ ((0 : Int) ≤ w32 (x7 + 3) ∧ w32 (x7 + 3) < (16 : Int)) (
 F3_charge_53 (some a6) l2 (h.2.2 0 a6 1) x7 (h.1 26 0 (w32 (x7 + 3))) h)))))
-- X3_isStep
def F3_isStep_39 (h : JM) : Option (Int × JM) :=
 some (0, h)
def F3_isStep (l1 : Option Int) (l2 : Int) (h : JM) : Option (Int × JM) :=
 (l1).bind (fun a1 =>
 g_ ((0 : Int) ≤ w32 ((w32 ((h.1 0 a1 11) * 4)) + 1) ∧ w32 ((w32 ((h.1 0 a1 11) * 4)) + 1) < (16 : Int)) (
 lt_ (h.1 26 0 (w32 ((w32 ((h.1 0 a1 11) * 4)) + 1))) (fun x2 =>
 if h.2.2 0 a1 1 = none then (
 F3_isStep_39 h) else (
 if l2 ≤ 0 then (
 F3_isStep_39 h) else (
 if x2 ≤ 0 then (
 F3_isStep_39 h) else (
 g_ (¬ x2 = 0) (
 if j_rem l2 x2 = 0 then (
 some (1, h)) else (
 F3_isStep_39 h))))))))
-- X3_read
def F3_read_24 (h : JM) : Option (Int × JM) :=
 some ((-1), h)
def F3_read (l1 : Int) (l2 : Int) (h : JM) : Option (Int × JM) :=
 if l1 < 0 then (
 F3_read_24 h) else (
 if h.1 3 0 2 ≤ l1 then (
 F3_read_24 h) else (
 if w32 ((h.1 3 0 2) - 300) ≤ l1 then (
 g_ ((0 : Int) ≤ w32 ((w32 ((j_rem l1 300) * 5)) + l2) ∧ w32 ((w32 ((j_rem l1 300) * 5)) + l2) < (1500 : Int)) (
 some (h.1 27 0 (w32 ((w32 ((j_rem l1 300) * 5)) + l2)), h))) else (
 F3_read_24 h)))
-- X3_setTariff
def F3_setTariff (l1 : Int) (l2 : Int) (l3 : Int) (l4 : Int) (l5 : Int) (h : JM) : Option JM :=
 lt_ (w32 (l1 * 4)) (fun x1 =>
 g_ ((0 : Int) ≤ x1 ∧ x1 < (16 : Int)) (
 lt_ (sI h 26 0 x1 l2) (fun h2 =>
 g_ ((0 : Int) ≤ w32 (x1 + 1) ∧ w32 (x1 + 1) < (16 : Int)) (
 lt_ (sI h2 26 0 (w32 (x1 + 1)) l3) (fun h3 =>
 g_ ((0 : Int) ≤ w32 (x1 + 2) ∧ w32 (x1 + 2) < (16 : Int)) (
 lt_ (sI h3 26 0 (w32 (x1 + 2)) l4) (fun h4 =>
 g_ ((0 : Int) ≤ w32 (x1 + 3) ∧ w32 (x1 + 3) < (16 : Int)) (
 lt_ (sI h4 26 0 (w32 (x1 + 3)) l5) (fun h5 =>
 some h5)))))))))
-- X3_write
def F3_write_34 (l1 : Option Int) (l2 : Int) (l3 : Int) (s0 : Option Int) (s1 : Int) (s2 : Int) (h : JM) : Option JM :=
 (s0).bind (fun a1 =>
 g_ ((0 : Int) ≤ s1 ∧ s1 < (1500 : Int)) (
 lt_ (sI h 27 a1 s1 s2) (fun h2 =>
 (l1).bind (fun a3 =>
 g_ ((0 : Int) ≤ w32 (l3 + 1) ∧ w32 (l3 + 1) < (1500 : Int)) (
 lt_ (sI h2 27 0 (w32 (l3 + 1)) (h2.1 0 a3 11)) (fun h4 =>
 g_ ((0 : Int) ≤ w32 (l3 + 2) ∧ w32 (l3 + 2) < (1500 : Int)) (
 lt_ (sI h4 27 0 (w32 (l3 + 2)) (h4.1 0 a3 10)) (fun h5 =>
 g_ ((0 : Int) ≤ w32 (l3 + 3) ∧ w32 (l3 + 3) < (1500 : Int)) (
 lt_ (sI h5 27 0 (w32 (l3 + 3)) l2) (fun h6 =>
 g_ ((0 : Int) ≤ w32 (l3 + 4) ∧ w32 (l3 + 4) < (1500 : Int)) (
 lt_ (sI h6 27 0 (w32 (l3 + 4)) (h6.1 0 a3 13)) (fun h7 =>
 lt_ (sI h7 3 0 2 (w32 ((h7.1 3 0 2) + 1))) (fun h8 =>
 some h8)))))))))))))
def F3_write (l1 : Option Int) (l2 : Int) (h : JM) : Option JM :=
 lt_ (w32 ((j_rem (h.1 3 0 2) 300) * 5)) (fun x9 =>
 (l1).bind (fun a10 =>
 if h.2.2 0 a10 1 = none then (
 F3_write_34 (some a10) l2 x9 (some 0) x9 (-1) h) else (
 (h.2.2 0 a10 1).bind (fun a11 =>
 F3_write_34 (some a10) l2 x9 (some 0) x9 (h.1 4 a11 0) h))))
-- X4_canTakeOther
def F4_canTakeOther_38 (h : JM) : Option (Int × JM) :=
 some (0, h)
def F4_canTakeOther (l0 : Int) (h : JM) : Option (Int × JM) :=
 g_ ((0 : Int) ≤ 2 ∧ 2 < (3 : Int)) (
 if h.1 28 l0 2 = 0 then (
 F4_canTakeOther_38 h) else (
 if h.2.2 4 l0 11 = none then (
 F4_canTakeOther_38 h) else (
 (h.2.2 4 l0 11).bind (fun a1 =>
 if h.1 0 a1 9 = 3 then (
 if h.2.2 4 l0 12 = none then (
 some (1, h)) else (
 F4_canTakeOther_38 h)) else (
 F4_canTakeOther_38 h)))))
-- X4_change
def F4_change (l0 : Int) (l1 : Int) (l2 : Int) (h : JM) : Option (Int × JM) :=
 g_ (l1 = 0 ∨ l1 = 1) (lt_ (sI h 4 l0 6 l1) (fun h1 =>
 lt_ (sI h1 4 l0 8 0) (fun h2 =>
 lt_ (sI h2 4 l0 9 0) (fun h3 =>
 lt_ (sI h3 4 l0 10 0) (fun h4 =>
 lt_ (sI h4 4 l0 4 0) (fun h5 =>
 some (l2, h5)))))))
-- X4_keyOfThisTick
def F4_keyOfThisTick_97b (k97 : Int → Int → Int → JM → Option (Int × JM)) (l0 : Int) (l1 : Int) (l2 : Int) (h : JM) : Option (Int × JM) :=
 if h.1 4 l0 4 ≤ l2 then (
 some (l1, h)) else (
 g_ ((0 : Int) ≤ w32 (l2 + 1) ∧ w32 (l2 + 1) < (20 : Int)) (
 g_ ((0 : Int) ≤ l2 ∧ l2 < (20 : Int)) (
 lt_ (sI h 30 l0 l2 (j_i2b (h.1 30 l0 (w32 (l2 + 1))))) (fun h1 =>
 k97 l0 l1 (w32 (l2 + 1)) h1))))
def F4_keyOfThisTick_97 : Nat → Int → Int → Int → JM → Option (Int × JM)
  | 0, _, _, _, _ => none
  | n + 1, l0, l1, l2, h => F4_keyOfThisTick_97b (F4_keyOfThisTick_97 n) l0 l1 l2 h
def F4_keyOfThisTick_14 (h : JM) : Option (Int × JM) :=
 some ((-1), h)
def F4_keyOfThisTick (l0 : Int) (h : JM) : Option (Int × JM) :=
 if h.1 4 l0 6 = 0 then (
 F4_keyOfThisTick_14 h) else (
 if h.1 4 l0 5 = 0 then (
 F4_keyOfThisTick_14 h) else (
 if h.1 4 l0 10 ≤ 0 then (
 if h.1 4 l0 4 = 0 then (
 some ((-1), h)) else (
 g_ ((0 : Int) ≤ 0 ∧ 0 < (20 : Int)) (
 lt_ (h.1 30 l0 0) (fun x2 =>
 lt_ (sI h 4 l0 4 (w32 ((h.1 4 l0 4) - 1))) (fun h3 =>
 F4_keyOfThisTick_97 j_fu l0 x2 0 h3))))) else (
 lt_ (sI h 4 l0 9 (w32 ((h.1 4 l0 9) + 1))) (fun h4 =>
 if 20 ≤ h4.1 4 l0 9 then (
 lt_ (h4.1 4 l0 10) (fun x5 =>
 lt_ (sI h4 4 l0 10 0) (fun h6 =>
 if 10 < x5 then (
 some ((-1), h6)) else (
 some (j_rem x5 10, h6))))) else (
 some ((-1), h4))))))
-- X4_lookAtLoop
def F4_lookAtLoop_104 (h : JM) : Option (Int × JM) :=
 some (0, h)
def F4_lookAtLoop (l0 : Int) (h : JM) : Option (Int × JM) :=
 if h.1 4 l0 6 = 0 then (
 if h.1 4 l0 5 = 0 then (
 some (0, h)) else (
 (F4_change l0 1 1 h).bind (fun q8 =>
 some (q8.1, q8.2)))) else (
 if h.1 4 l0 5 = 0 then (
 lt_ (sI h 4 l0 8 (w32 ((h.1 4 l0 8) + 1))) (fun h6 =>
 if h6.1 4 l0 8 < 40 then (
 some (0, h6)) else (
 (F4_change l0 0 2 h6).bind (fun q7 =>
 some (q7.1, q7.2))))) else (
 lt_ (h.1 4 l0 8) (fun x1 =>
 lt_ (sI h 4 l0 8 0) (fun h2 =>
 if x1 < 10 then (
 if x1 ≤ 0 then (
 F4_lookAtLoop_104 h2) else (
 lt_ (sI h2 4 l0 10 (w32 ((h2.1 4 l0 10) + 1))) (fun h3 =>
 lt_ (sI h3 4 l0 9 0) (fun h4 =>
 F4_lookAtLoop_104 h4)))) else (
 lt_ (sI h2 4 l0 10 0) (fun h5 =>
 some (3, h5)))))))
-- X4_sound
def F4_sound_118 (h : JM) : Option (Int × JM) :=
 some (7, h)
def F4_sound (l0 : Int) (h : JM) : Option (Int × JM) :=
 if h.1 4 l0 6 = 0 then (
 if h.2.2 4 l0 13 = none then (
 some (0, h)) else (
 some (5, h))) else (
 if h.2.2 4 l0 11 = none then (
 some (h.1 4 l0 15, h)) else (
 (h.2.2 4 l0 11).bind (fun a1 =>
 if h.1 0 a1 9 = 0 then (
 (h.2.2 4 l0 11).bind (fun a2 =>
 if j_lcmp (h.2.1 0 a2 8) 0 = 0 then (
 some (1, h)) else (
 some (0, h)))) else (
 if h.1 0 a1 9 = 2 then (
 some (2, h)) else (
 if h.1 0 a1 9 = 3 then (
 if h.2.2 4 l0 12 = none then (
 F4_sound_118 h) else (
 (h.2.2 4 l0 12).bind (fun a3 =>
 if h.1 0 a3 9 = 2 then (
 some (8, h)) else (
 F4_sound_118 h)))) else (
 if h.1 0 a1 9 = 4 then (
 some (6, h)) else (
 some (0, h))))))))
-- X5_fill
def F5_fill_78 (l0 : Int) (l1 : Option Int) (h : JM) : Option JM :=
 (l1).bind (fun a1 =>
 lt_ (sI h 9 a1 2 (j_and (h.1 5 l0 2) 127)) (fun h2 =>
 lt_ (sI h2 9 a1 0 (j_and (h2.1 5 l0 4) 127)) (fun h3 =>
 lt_ (sI h3 9 a1 3 (h3.1 5 l0 5)) (fun h4 =>
 lt_ (sI h4 9 a1 1 (h4.1 5 l0 6)) (fun h5 =>
 lt_ (sI h5 9 a1 5 0) (fun h6 =>
 some h6))))))
def F5_fill (l0 : Int) (l1 : Option Int) (h : JM) : Option JM :=
 (l1).bind (fun a7 =>
 lt_ (sL h 9 a7 4 (-1)) (fun h8 =>
 if h8.1 5 l0 0 ≤ h8.1 5 l0 2 then (
 F5_fill_78 l0 (some a7) h8) else (
 if w32 ((h8.1 5 l0 1) + 100) ≤ h8.1 5 l0 2 then (
 F5_fill_78 l0 (some a7) h8) else (
 g_ ((0 : Int) ≤ j_rem (h8.1 5 l0 2) 200 ∧ j_rem (h8.1 5 l0 2) 200 < (200 : Int)) (
 lt_ (sL h8 9 a7 4 (h8.2.1 31 l0 (j_rem (h8.1 5 l0 2) 200))) (fun h9 =>
 lt_ (sI h9 5 l0 2 (w32 ((h9.1 5 l0 2) + 1))) (fun h10 =>
 if h10.1 5 l0 2 ≤ h10.1 5 l0 3 then (
 F5_fill_78 l0 (some a7) h10) else (
 lt_ (sI h10 5 l0 3 (h10.1 5 l0 2)) (fun h11 =>
 F5_fill_78 l0 (some a7) h11)))))))))
-- X5_post
def F5_post (l0 : Int) (l1 : Int) (h : JM) : Option JM :=
 if 200 ≤ w32 ((h.1 5 l0 0) - (h.1 5 l0 1)) then (
 some h) else (
 g_ ((0 : Int) ≤ j_rem (h.1 5 l0 0) 200 ∧ j_rem (h.1 5 l0 0) 200 < (200 : Int)) (
 lt_ (sL h 31 l0 (j_rem (h.1 5 l0 0) 200) l1) (fun h1 =>
 lt_ (sI h1 5 l0 0 (w32 ((h1.1 5 l0 0) + 1))) (fun h2 =>
 some h2))))
-- X5_take
def F5_take_178 (l0 : Int) (h : JM) : Option (Int × JM) :=
 lt_ (sI h 5 l0 6 (w32 (1 - (h.1 5 l0 6)))) (fun h1 =>
 some ((-1), h1))
def F5_take_143 (h : JM) : Option (Int × JM) :=
 some ((-1), h)
def F5_take_115 (l0 : Int) (l1 : Option Int) (h : JM) : Option (Int × JM) :=
 (l1).bind (fun a2 =>
 lt_ (j_and (w32 ((h.1 9 a2 2) - (h.1 5 l0 4))) 127) (fun x3 =>
 if h.1 9 a2 3 = h.1 5 l0 6 then (
 if x3 = 0 then (
 F5_take_143 h) else (
 if x3 = 1 then (
 if j_lcmp (h.2.1 9 a2 4) (-1) = 0 then (
 F5_take_178 l0 h) else (
 lt_ (sI h 5 l0 4 (w32 ((h.1 5 l0 4) + 1))) (fun h4 =>
 some (h4.2.1 9 a2 4, h4)))) else (
 F5_take_178 l0 h))) else (
 F5_take_143 h)))
def F5_take_88 (l0 : Int) (l1 : Option Int) (h : JM) : Option (Int × JM) :=
 (l1).bind (fun a5 =>
 if h.1 9 a5 1 = h.1 5 l0 5 then (
 F5_take_115 l0 (some a5) h) else (
 lt_ (sI h 5 l0 5 (h.1 9 a5 1)) (fun h6 =>
 lt_ (sI h6 5 l0 2 (h6.1 5 l0 1)) (fun h7 =>
 F5_take_115 l0 (some a5) h7))))
def F5_take_18 (l0 : Int) (l1 : Option Int) (h : JM) : Option (Int × JM) :=
 (l1).bind (fun a8 =>
 if h.1 9 a8 5 = 0 then (
 lt_ (j_and (w32 ((h.1 9 a8 0) - (h.1 5 l0 1))) 127) (fun x9 =>
 if x9 ≤ w32 ((h.1 5 l0 3) - (h.1 5 l0 1)) then (
 lt_ (sI h 5 l0 1 (w32 ((h.1 5 l0 1) + x9))) (fun h10 =>
 if h10.1 5 l0 1 ≤ h10.1 5 l0 2 then (
 F5_take_88 l0 (some a8) h10) else (
 lt_ (sI h10 5 l0 2 (h10.1 5 l0 1)) (fun h11 =>
 F5_take_88 l0 (some a8) h11)))) else (
 some ((-1), h)))) else (
 some ((-1), h)))
def F5_take (l0 : Int) (l1 : Option Int) (h : JM) : Option (Int × JM) :=
 (l1).bind (fun a12 =>
 if h.1 9 a12 5 = 1 then (
 lt_ (sI h 5 l0 7 (w32 ((h.1 5 l0 7) + 1))) (fun h13 =>
 F5_take_18 l0 (some a12) h13)) else (
 F5_take_18 l0 (some a12) h))
-- X6_init
def F6_init (l0 : Int) (l1 : Int) (l3 : Int) (l4 : Int) (l5 : Int) (l6 : Int) (h : JM) : Option JM :=
 lt_ (sL h 6 l0 0 l1) (fun h1 =>
 lt_ (sI h1 6 l0 1 l3) (fun h2 =>
 lt_ (sI h2 6 l0 2 l4) (fun h3 =>
 lt_ (sI h3 6 l0 3 l5) (fun h4 =>
 lt_ (sI h4 6 l0 4 l6) (fun h5 =>
 some h5)))))
-- X7_add
def F7_add_42 (l0 : Int) (l3 : Int) (l4 : Int) (h : JM) : Option (Int × JM) :=
 g_ ((0 : Int) ≤ h.1 7 l0 2 ∧ h.1 7 l0 2 < (300 : Int)) (
 lt_ (sI h 34 l0 (h.1 7 l0 2) l4) (fun h1 =>
 g_ ((0 : Int) ≤ h1.1 7 l0 2 ∧ h1.1 7 l0 2 < (300 : Int)) (
 lt_ (sI h1 35 l0 (h1.1 7 l0 2) l3) (fun h2 =>
 lt_ (sI h2 7 l0 2 (w32 ((h2.1 7 l0 2) + 1))) (fun h3 =>
 some (h3.1 7 l0 2, h3))))))
def F7_add_36 (l0 : Int) (l3 : Int) (l4 : Int) (h : JM) : Option (Int × JM) :=
 lt_ (sI h 7 l0 3 l4) (fun h4 =>
 F7_add_42 l0 l3 l4 h4)
def F7_add (l0 : Int) (l1 : Int) (l2 : Int) (l3 : Int) (h : JM) : Option (Int × JM) :=
 if h.1 7 l0 2 < 300 then (
 lt_ (w32 ((w32 (2 * l2)) + l1)) (fun x5 =>
 if h.1 7 l0 2 = 0 then (
 F7_add_36 l0 l3 x5 h) else (
 if h.1 7 l0 3 ≤ x5 then (
 F7_add_42 l0 l3 x5 h) else (
 F7_add_36 l0 l3 x5 h)))) else (
 some ((-3), h))
-- X7_concern
def F7_concern_23 (h : JM) : Option (Int × JM) :=
 some (0, h)
def F7_concern (l0 : Int) (l1 : Int) (l2 : Int) (h : JM) : Option (Int × JM) :=
 if h.1 7 l0 2 ≤ 0 then (
 F7_concern_23 h) else (
 if h.1 7 l0 3 = w32 ((w32 (2 * l2)) + l1) then (
 some (1, h)) else (
 F7_concern_23 h))
-- X7_forget
def F7_forget_94 (k5 : Int → Int → Int → Int → Int → JM → Option JM) (l0 : Int) (l1 : Int) (l2 : Int) (l3 : Int) (l4 : Int) (h : JM) : Option JM :=
 k5 l0 l1 l2 l3 (w32 (l4 + 1)) h
def F7_forget_88 (k5 : Int → Int → Int → Int → Int → JM → Option JM) (l0 : Int) (l1 : Int) (l2 : Int) (l3 : Int) (l4 : Int) (s0 : Option Int) (s1 : Int) (h : JM) : Option JM :=
 (s0).bind (fun a1 =>
 lt_ (sI h 7 a1 3 s1) (fun h2 =>
 F7_forget_94 k5 l0 l1 l2 (w32 (l3 + 1)) l4 h2))
def F7_forget_74 (k5 : Int → Int → Int → Int → Int → JM → Option JM) (l0 : Int) (l1 : Int) (l2 : Int) (l3 : Int) (l4 : Int) (s0 : Option Int) (h : JM) : Option JM :=
 g_ ((0 : Int) ≤ l4 ∧ l4 < (300 : Int)) (
 F7_forget_88 k5 l0 l1 l2 l3 l4 s0 (h.1 34 l0 l4) h)
def F7_forget_5b (k5 : Int → Int → Int → Int → Int → JM → Option JM) (l0 : Int) (l1 : Int) (l2 : Int) (l3 : Int) (l4 : Int) (h : JM) : Option JM :=
 if h.1 7 l0 2 ≤ l4 then (
 lt_ (sI h 7 l0 2 l3) (fun h3 =>
 some h3)) else (
 g_ ((0 : Int) ≤ l4 ∧ l4 < (300 : Int)) (
 if h.1 34 l0 l4 = w32 ((w32 (2 * l2)) + l1) then (
 F7_forget_94 k5 l0 l1 l2 l3 l4 h) else (
 g_ ((0 : Int) ≤ l4 ∧ l4 < (300 : Int)) (
 g_ ((0 : Int) ≤ l3 ∧ l3 < (300 : Int)) (
 lt_ (sI h 34 l0 l3 (h.1 34 l0 l4)) (fun h4 =>
 g_ ((0 : Int) ≤ l4 ∧ l4 < (300 : Int)) (
 g_ ((0 : Int) ≤ l3 ∧ l3 < (300 : Int)) (
 lt_ (sI h4 35 l0 l3 (h4.1 35 l0 l4)) (fun h5 =>
 if l3 = 0 then (
 F7_forget_74 k5 l0 l1 l2 l3 l4 (some l0) h5) else (
 g_ ((0 : Int) ≤ l4 ∧ l4 < (300 : Int)) (
 if h5.1 7 l0 3 ≤ h5.1 34 l0 l4 then (
 F7_forget_88 k5 l0 l1 l2 l3 l4 (some l0) (h5.1 7 l0 3) h5) else (
 F7_forget_74 k5 l0 l1 l2 l3 l4 (some l0) h5))))))))))))
def F7_forget_5 : Nat → Int → Int → Int → Int → Int → JM → Option JM
  | 0, _, _, _, _, _, _ => none
  | n + 1, l0, l1, l2, l3, l4, h => F7_forget_5b (F7_forget_5 n) l0 l1 l2 l3 l4 h
def F7_forget (l0 : Int) (l1 : Int) (l2 : Int) (h : JM) : Option JM :=
 F7_forget_5 j_fu l0 l1 l2 0 0 h
-- X10_turn
def F10_turn (l1 : Int) (h : JM) : Option JM :=
 if l1 < 0 then (
 some h) else (
 if h.1 10 0 1 ≤ l1 then (
 some h) else (
 g_ ((0 : Int) ≤ l1 ∧ l1 < (256 : Int)) (
 g_ ((0 : Int) ≤ l1 ∧ l1 < (256 : Int)) (
 lt_ (sI h 36 0 l1 (j_i2b (j_i2b (w32 (1 - (h.1 36 0 l1)))))) (fun h1 =>
 some h1)))))
-- X7_turn
def F7_turn_38 (k3 : Int → Int → Int → Option Int → Int → JM → Option JM) (l0 : Int) (l1 : Int) (l2 : Int) (l3 : Option Int) (l4 : Int) (h : JM) : Option JM :=
 k3 l0 l1 l2 l3 (w32 (l4 + 1)) h
def F7_turn_3b (k3 : Int → Int → Int → Option Int → Int → JM → Option JM) (l0 : Int) (l1 : Int) (l2 : Int) (l3 : Option Int) (l4 : Int) (h : JM) : Option JM :=
 if h.1 7 l0 2 ≤ l4 then (
 some h) else (
 g_ ((0 : Int) ≤ l4 ∧ l4 < (300 : Int)) (
 if h.1 34 l0 l4 = w32 ((w32 (2 * l2)) + l1) then (
 g_ ((0 : Int) ≤ l4 ∧ l4 < (300 : Int)) (
 (l3).bind (fun a1 => g_ (a1 = 0) (
 (F10_turn (h.1 35 l0 l4) h).bind (fun h2 =>
 F7_turn_38 k3 l0 l1 l2 (some 0) l4 h2))))) else (
 F7_turn_38 k3 l0 l1 l2 l3 l4 h)))
def F7_turn_3 : Nat → Int → Int → Int → Option Int → Int → JM → Option JM
  | 0, _, _, _, _, _, _ => none
  | n + 1, l0, l1, l2, l3, l4, h => F7_turn_3b (F7_turn_3 n) l0 l1 l2 l3 l4 h
def F7_turn (l0 : Int) (l1 : Int) (l2 : Int) (l3 : Option Int) (h : JM) : Option JM :=
 F7_turn_3 j_fu l0 l1 l2 l3 0 h
-- X8_isSent
def F8_isSent_22 (h : JM) : Option (Int × JM) :=
 some (0, h)
def F8_isSent (l0 : Int) (h : JM) : Option (Int × JM) :=
 if h.2.2 8 l0 3 = none then (
 F8_isSent_22 h) else (
 (h.2.2 8 l0 3).bind (fun a1 =>
 if h.1 0 a1 9 = 1 then (
 some (1, h)) else (
 F8_isSent_22 h)))
-- X9_causeOf
def F9_causeOf (l0 : Int) (h : JM) : Option (Int × JM) :=
 some (j_and (w32 l0) 255, h)
-- X9_circuitOf
def F9_circuitOf (l0 : Int) (h : JM) : Option (Int × JM) :=
 some (j_and (w32 (j_lshr l0 55)) 15, h)
-- X9_forwardsOf
def F9_forwardsOf (l0 : Int) (h : JM) : Option (Int × JM) :=
 some (j_and (w32 (j_lshr l0 52)) 7, h)
-- X9_keysOf
def F9_keysOf (l0 : Int) (h : JM) : Option (Int × JM) :=
 some (j_land l0 4503599627370495, h)
-- X9_typeOf
def F9_typeOf (l0 : Int) (h : JM) : Option (Int × JM) :=
 some (j_and (w32 (j_lshr l0 59)) 7, h)
-- X9_byteOf
def F9_byteOf (l0 : Int) (l2 : Int) (h : JM) : Option (Int × JM) :=
 if l2 = 0 then (
 (F9_circuitOf l0 h).bind (fun q1 =>
 some (q1.1, q1.2))) else (
 if l2 = 1 then (
 (F9_typeOf l0 h).bind (fun q2 =>
 some (q2.1, q2.2))) else (
 if l2 = 2 then (
 (F9_typeOf l0 h).bind (fun q3 =>
 if q3.1 = 4 then (
 (F9_causeOf l0 q3.2).bind (fun q5 =>
 some (q5.1, q5.2))) else (
 (F9_forwardsOf l0 q3.2).bind (fun q4 =>
 some (q4.1, q4.2))))) else (
 if l2 = 3 then (
 (F9_keysOf l0 h).bind (fun q6 =>
 (F11_countOf q6.1 q6.2).bind (fun q7 =>
 some (q7.1, q7.2)))) else (
 some (j_and (w32 (j_lshr l0 (w32 (4 * (w32 (l2 - 4)))))) 15, h)))))
-- X9_copyOf
def F9_copyOf (l0 : Int) (l1 : Option Int) (h : JM) : Option JM :=
 (l1).bind (fun a1 =>
 lt_ (sI h 9 l0 0 (h.1 9 a1 0)) (fun h2 =>
 lt_ (sI h2 9 l0 1 (h2.1 9 a1 1)) (fun h3 =>
 lt_ (sI h3 9 l0 2 (h3.1 9 a1 2)) (fun h4 =>
 lt_ (sI h4 9 l0 3 (h4.1 9 a1 3)) (fun h5 =>
 lt_ (sL h5 9 l0 4 (h5.2.1 9 a1 4)) (fun h6 =>
 lt_ (sI h6 9 l0 5 (h6.1 9 a1 5)) (fun h7 =>
 some h7)))))))
-- X9_pack
def F9_pack (l0 : Int) (l1 : Int) (l2 : Int) (h : JM) : Option (Int × JM) :=
 some (j_lor (j_lor (j_lshl l0 59) (j_lshl l1 55)) l2, h)
-- X9_packIam
def F9_packIam (l0 : Int) (l1 : Int) (h : JM) : Option (Int × JM) :=
 some (j_lor (j_lshl l0 52) l1, h)
-- X9_sizeOf
def F9_sizeOf (l0 : Int) (h : JM) : Option (Int × JM) :=
 if j_lcmp l0 (-1) = 0 then (
 some (0, h)) else (
 (F9_typeOf l0 h).bind (fun q1 =>
 if q1.1 = 1 then (
 (F9_keysOf l0 q1.2).bind (fun q2 =>
 (F11_countOf q2.1 q2.2).bind (fun q3 =>
 some (w32 (4 + q3.1), q3.2)))) else (
 if q1.1 = 4 then (
 some (3, q1.2)) else (
 some (2, q1.2)))))
-- X10_isFlag
def F10_isFlag_48 (k19 : Int → Int → JM → Option (Int × JM)) (l1 : Int) (l2 : Int) (s0 : Int) (s1 : Int) (h : JM) : Option (Int × JM) :=
 if s0 = s1 then (
 k19 l1 (w32 (l2 + 1)) h) else (
 some (0, h))
def F10_isFlag_43 (k19 : Int → Int → JM → Option (Int × JM)) (l1 : Int) (l2 : Int) (s0 : Int) (h : JM) : Option (Int × JM) :=
 F10_isFlag_48 k19 l1 l2 s0 0 h
def F10_isFlag_19b (k19 : Int → Int → JM → Option (Int × JM)) (l1 : Int) (l2 : Int) (h : JM) : Option (Int × JM) :=
 if 8 ≤ l2 then (
 some (1, h)) else (
 g_ ((0 : Int) ≤ w32 (l1 + l2) ∧ w32 (l1 + l2) < (256 : Int)) (
 if l2 = 0 then (
 F10_isFlag_43 k19 l1 l2 (h.1 36 0 (w32 (l1 + l2))) h) else (
 if l2 = 7 then (
 F10_isFlag_43 k19 l1 l2 (h.1 36 0 (w32 (l1 + l2))) h) else (
 F10_isFlag_48 k19 l1 l2 (h.1 36 0 (w32 (l1 + l2))) 1 h))))
def F10_isFlag_19 : Nat → Int → Int → JM → Option (Int × JM)
  | 0, _, _, _ => none
  | n + 1, l1, l2, h => F10_isFlag_19b (F10_isFlag_19 n) l1 l2 h
def F10_isFlag_15 (h : JM) : Option (Int × JM) :=
 some (0, h)
def F10_isFlag (l1 : Int) (h : JM) : Option (Int × JM) :=
 if l1 < 0 then (
 F10_isFlag_15 h) else (
 if w32 (l1 + 8) ≤ h.1 10 0 1 then (
 F10_isFlag_19 j_fu l1 0 h) else (
 F10_isFlag_15 h))
-- X10_number
def F10_number_42 (k5 : Int → Int → Int → Int → JM → Option (Int × JM)) (l1 : Int) (l2 : Int) (l3 : Int) (l4 : Int) (h : JM) : Option (Int × JM) :=
 k5 l1 l2 l3 (w32 (l4 + 1)) h
def F10_number_5b (k5 : Int → Int → Int → Int → JM → Option (Int × JM)) (l1 : Int) (l2 : Int) (l3 : Int) (l4 : Int) (h : JM) : Option (Int × JM) :=
 if l2 ≤ l4 then (
 some (l3, h)) else (
 if h.1 10 0 5 ≤ w32 (l1 + l4) then (
 F10_number_42 k5 l1 l2 l3 l4 h) else (
 g_ ((0 : Int) ≤ w32 (l1 + l4) ∧ w32 (l1 + l4) < (256 : Int)) (
 if h.1 37 0 (w32 (l1 + l4)) = 1 then (
 lt_ (j_or l3 (j_shl 1 l4)) (fun x1 =>
 F10_number_42 k5 l1 l2 x1 l4 h)) else (
 F10_number_42 k5 l1 l2 l3 l4 h))))
def F10_number_5 : Nat → Int → Int → Int → Int → JM → Option (Int × JM)
  | 0, _, _, _, _, _ => none
  | n + 1, l1, l2, l3, l4, h => F10_number_5b (F10_number_5 n) l1 l2 l3 l4 h
def F10_number (l1 : Int) (l2 : Int) (h : JM) : Option (Int × JM) :=
 F10_number_5 j_fu l1 l2 0 0 h
-- X10_putBit
def F10_putBit (l1 : Int) (h : JM) : Option JM :=
 if 256 ≤ h.1 10 0 1 then (
 some h) else (
 g_ ((0 : Int) ≤ h.1 10 0 1 ∧ h.1 10 0 1 < (256 : Int)) (
 lt_ (sI h 36 0 (h.1 10 0 1) (j_i2b (j_i2b l1))) (fun h1 =>
 lt_ (sI h1 10 0 1 (w32 ((h1.1 10 0 1) + 1))) (fun h2 =>
 some h2))))
-- X10_stepCheck
def F10_stepCheck (l0 : Int) (l1 : Int) (h : JM) : Option (Int × JM) :=
 if j_and (j_xor l0 l1) 1 = 1 then (
 some (j_xor (j_shr l0 1) 33800, h)) else (
 some (j_shr l0 1, h))
-- X10_put
def F10_put_71 (k2 : Int → Int → Int → JM → Option JM) (l1 : Int) (l2 : Int) (l3 : Int) (h : JM) : Option JM :=
 k2 l1 l2 (w32 (l3 + 1)) h
def F10_put_50 (k2 : Int → Int → Int → JM → Option JM) (l1 : Int) (l2 : Int) (l3 : Int) (s0 : Option Int) (s1 : Int) (h : JM) : Option JM :=
 (s0).bind (fun a1 => g_ (a1 = 0) (
 lt_ (sI h 10 0 2 s1) (fun h2 =>
 if h2.1 10 0 2 = 5 then (
 (F10_putBit 0 h2).bind (fun h3 =>
 lt_ (sI h3 10 0 2 0) (fun h4 =>
 F10_put_71 k2 l1 l2 l3 h4))) else (
 F10_put_71 k2 l1 l2 l3 h2))))
def F10_put_2b (k2 : Int → Int → Int → JM → Option JM) (l1 : Int) (l2 : Int) (l3 : Int) (h : JM) : Option JM :=
 if l2 ≤ l3 then (
 some h) else (
 lt_ (j_and (j_shr l1 l3) 1) (fun x5 =>
 (F10_putBit x5 h).bind (fun h6 =>
 (F10_stepCheck (h6.1 10 0 3) x5 h6).bind (fun q7 =>
 lt_ (sI q7.2 10 0 3 q7.1) (fun h8 =>
 if x5 = 1 then (
 F10_put_50 k2 l1 l2 l3 (some 0) (w32 ((h8.1 10 0 2) + 1)) h8) else (
 F10_put_50 k2 l1 l2 l3 (some 0) 0 h8))))))
def F10_put_2 : Nat → Int → Int → Int → JM → Option JM
  | 0, _, _, _, _ => none
  | n + 1, l1, l2, l3, h => F10_put_2b (F10_put_2 n) l1 l2 l3 h
def F10_put (l1 : Int) (l2 : Int) (h : JM) : Option JM :=
 F10_put_2 j_fu l1 l2 0 h
-- X10_putFlag
def F10_putFlag_24 (k2 : Int → JM → Option JM) (l1 : Int) (s0 : Option Int) (s1 : Int) (h : JM) : Option JM :=
 (s0).bind (fun a1 => g_ (a1 = 0) (
 (F10_putBit s1 h).bind (fun h2 =>
 k2 (w32 (l1 + 1)) h2)))
def F10_putFlag_19 (k2 : Int → JM → Option JM) (l1 : Int) (s0 : Option Int) (h : JM) : Option JM :=
 F10_putFlag_24 k2 l1 s0 0 h
def F10_putFlag_2b (k2 : Int → JM → Option JM) (l1 : Int) (h : JM) : Option JM :=
 if 8 ≤ l1 then (
 some h) else (
 if l1 = 0 then (
 F10_putFlag_19 k2 l1 (some 0) h) else (
 if l1 = 7 then (
 F10_putFlag_19 k2 l1 (some 0) h) else (
 F10_putFlag_24 k2 l1 (some 0) 1 h)))
def F10_putFlag_2 : Nat → Int → JM → Option JM
  | 0, _, _ => none
  | n + 1, l1, h => F10_putFlag_2b (F10_putFlag_2 n) l1 h
def F10_putFlag (h : JM) : Option JM :=
 F10_putFlag_2 j_fu 0 h
-- X10_readBody
def F10_readBody_89 (k10 : Int → Int → JM → Option (Int × JM)) (l1 : Int) (l2 : Int) (h : JM) : Option (Int × JM) :=
 k10 l1 (w32 (l2 + 1)) h
def F10_readBody_88 (k10 : Int → Int → JM → Option (Int × JM)) (l2 : Int) (s0 : Int) (h : JM) : Option (Int × JM) :=
 F10_readBody_89 k10 s0 l2 h
def F10_readBody_10b (k10 : Int → Int → JM → Option (Int × JM)) (l1 : Int) (l2 : Int) (h : JM) : Option (Int × JM) :=
 if h.1 10 0 1 < w32 (l2 + 8) then (
 some (0, h)) else (
 (F10_isFlag l2 h).bind (fun q1 =>
 if q1.1 = 0 then (
 g_ ((0 : Int) ≤ l2 ∧ l2 < (256 : Int)) (
 lt_ (q1.2.1 36 0 l2) (fun x2 =>
 if l1 = 5 then (
 if x2 = 1 then (
 some (0, q1.2)) else (
 F10_readBody_89 k10 0 l2 q1.2)) else (
 g_ ((0 : Int) ≤ q1.2.1 10 0 5 ∧ q1.2.1 10 0 5 < (256 : Int)) (
 lt_ (sI q1.2 37 0 (q1.2.1 10 0 5) (j_i2b (j_i2b x2))) (fun h3 =>
 lt_ (sI h3 10 0 5 (w32 ((h3.1 10 0 5) + 1))) (fun h4 =>
 if x2 = 1 then (
 F10_readBody_88 k10 l2 (w32 (l1 + 1)) h4) else (
 F10_readBody_88 k10 l2 0 h4)))))))) else (
 some (1, q1.2))))
def F10_readBody_10 : Nat → Int → Int → JM → Option (Int × JM)
  | 0, _, _, _ => none
  | n + 1, l1, l2, h => F10_readBody_10b (F10_readBody_10 n) l1 l2 h
def F10_readBody (h : JM) : Option (Int × JM) :=
 lt_ (sI h 10 0 5 0) (fun h5 =>
 F10_readBody_10 j_fu 0 8 h5)
-- X10_readByte
def F10_readByte (l1 : Int) (h : JM) : Option (Int × JM) :=
 (F10_number (w32 (24 + (w32 (8 * l1)))) 8 h).bind (fun q1 =>
 some (q1.1, q1.2))
-- X11_withKey
def F11_withKey (l0 : Int) (l2 : Int) (h : JM) : Option (Int × JM) :=
 (F11_countOf l0 h).bind (fun q1 =>
 some (j_lor (j_lor (j_land l0 281474976710655) (j_lshl l2 (w32 (4 * q1.1)))) (j_lshl (w32 (q1.1 + 1)) 48), q1.2))
-- X10_readIam
def F10_readIam_46b (k46 : Int → Int → Int → Int → Int → JM → Option (Int × JM)) (l2 : Int) (l3 : Int) (l4 : Int) (l5 : Int) (l7 : Int) (h : JM) : Option (Int × JM) :=
 if l4 ≤ l7 then (
 (F9_packIam l3 l5 h).bind (fun q1 =>
 (F9_pack 1 l2 q1.1 q1.2).bind (fun q2 =>
 some (q2.1, q2.2)))) else (
 (F10_readByte (w32 (4 + l7)) h).bind (fun q3 =>
 if q3.1 < 12 then (
 (F11_withKey l5 q3.1 q3.2).bind (fun q4 =>
 k46 l2 l3 l4 q4.1 (w32 (l7 + 1)) q4.2)) else (
 some (0, q3.2))))
def F10_readIam_46 : Nat → Int → Int → Int → Int → Int → JM → Option (Int × JM)
  | 0, _, _, _, _, _, _ => none
  | n + 1, l2, l3, l4, l5, l7, h => F10_readIam_46b (F10_readIam_46 n) l2 l3 l4 l5 l7 h
def F10_readIam_38 (h : JM) : Option (Int × JM) :=
 some (0, h)
def F10_readIam (l1 : Int) (l2 : Int) (h : JM) : Option (Int × JM) :=
 (F10_readByte 2 h).bind (fun q5 =>
 (F10_readByte 3 q5.2).bind (fun q6 =>
 if l1 < 4 then (
 F10_readIam_38 q6.2) else (
 if 5 < q5.1 then (
 F10_readIam_38 q6.2) else (
 if 12 < q6.1 then (
 F10_readIam_38 q6.2) else (
 if l1 = w32 (4 + q6.1) then (
 F10_readIam_46 j_fu l2 q5.1 q6.1 0 0 q6.2) else (
 F10_readIam_38 q6.2))))))
-- X10_readMessage
def F10_readMessage_31 (h : JM) : Option (Int × JM) :=
 some (0, h)
def F10_readMessage (l1 : Int) (l2 : Int) (h : JM) : Option (Int × JM) :=
 if l1 = 0 then (
 some ((-1), h)) else (
 (F10_readByte 0 h).bind (fun q1 =>
 (F10_readByte 1 q1.2).bind (fun q2 =>
 if l1 < 2 then (
 F10_readMessage_31 q2.2) else (
 if q1.1 < l2 then (
 if q2.1 = 1 then (
 (F10_readIam l1 q1.1 q2.2).bind (fun q3 =>
 some (q3.1, q3.2))) else (
 if q2.1 = 2 then (
 if l1 = 2 then (
 (F9_pack q2.1 q1.1 0 q2.2).bind (fun q4 =>
 some (q4.1, q4.2))) else (
 some (0, q2.2))) else (
 if q2.1 = 3 then (
 if l1 = 2 then (
 (F9_pack q2.1 q1.1 0 q2.2).bind (fun q5 =>
 some (q5.1, q5.2))) else (
 some (0, q2.2))) else (
 if q2.1 = 4 then (
 if l1 = 3 then (
 (F10_readByte 2 q2.2).bind (fun q6 =>
 (F9_pack q2.1 q1.1 q6.1 q6.2).bind (fun q7 =>
 some (q7.1, q7.2)))) else (
 some (0, q2.2))) else (
 if q2.1 = 5 then (
 if l1 = 2 then (
 (F9_pack q2.1 q1.1 0 q2.2).bind (fun q8 =>
 some (q8.1, q8.2))) else (
 some (0, q2.2))) else (
 some (0, q2.2))))))) else (
 F10_readMessage_31 q2.2)))))
-- X10_read
def F10_read_58b (k58 : Option Int → Int → Int → Int → Int → JM → Option (Int × JM)) (l1 : Option Int) (l2 : Int) (l3 : Int) (l4 : Int) (l5 : Int) (h : JM) : Option (Int × JM) :=
 if w32 ((h.1 10 0 5) - 16) ≤ l5 then (
 (F10_number (w32 ((h.1 10 0 5) - 16)) 16 h).bind (fun q1 =>
 if q1.1 = w32 (65535 - l4) then (
 (F10_number 0 7 q1.2).bind (fun q2 =>
 (l1).bind (fun a3 =>
 lt_ (sI q2.2 9 a3 0 q2.1) (fun h4 =>
 (F10_number 7 1 h4).bind (fun q5 =>
 lt_ (sI q5.2 9 a3 1 q5.1) (fun h6 =>
 (F10_number 8 7 h6).bind (fun q7 =>
 lt_ (sI q7.2 9 a3 2 q7.1) (fun h8 =>
 (F10_number 15 1 h8).bind (fun q9 =>
 lt_ (sI q9.2 9 a3 3 q9.1) (fun h10 =>
 (F10_readMessage l3 l2 h10).bind (fun q11 =>
 lt_ (sL q11.2 9 a3 4 q11.1) (fun h12 =>
 some (1, h12))))))))))))) else (
 some (0, q1.2)))) else (
 g_ ((0 : Int) ≤ l5 ∧ l5 < (256 : Int)) (
 (F10_stepCheck l4 (h.1 37 0 l5) h).bind (fun q13 =>
 k58 l1 l2 l3 q13.1 (w32 (l5 + 1)) q13.2)))
def F10_read_58 : Nat → Option Int → Int → Int → Int → Int → JM → Option (Int × JM)
  | 0, _, _, _, _, _, _ => none
  | n + 1, l1, l2, l3, l4, l5, h => F10_read_58b (F10_read_58 n) l1 l2 l3 l4 l5 h
def F10_read_24 (h : JM) : Option (Int × JM) :=
 some (0, h)
def F10_read (l1 : Option Int) (l2 : Int) (h : JM) : Option (Int × JM) :=
 (F10_isFlag 0 h).bind (fun q14 =>
 if q14.1 = 0 then (
 F10_read_24 q14.2) else (
 (F10_readBody q14.2).bind (fun q15 =>
 if q15.1 = 0 then (
 F10_read_24 q15.2) else (
 if 40 ≤ q15.2.1 10 0 5 then (
 (F10_number 16 6 q15.2).bind (fun q16 =>
 if q16.2.1 10 0 5 = w32 (40 + (w32 (8 * q16.1))) then (
 F10_read_58 j_fu l1 l2 q16.1 65535 0 q16.2) else (
 some (0, q16.2)))) else (
 F10_read_24 q15.2)))))
-- X10_write
def F10_write_81b (k81 : Option Int → Int → Int → JM → Option JM) (l1 : Option Int) (l2 : Int) (l3 : Int) (h : JM) : Option JM :=
 if l2 ≤ l3 then (
 (F10_put (w32 (65535 - (h.1 10 0 3))) 16 h).bind (fun h1 =>
 (F10_putFlag h1).bind (fun h2 =>
 some h2))) else (
 (l1).bind (fun a3 =>
 (F9_byteOf (h.2.1 9 a3 4) l3 h).bind (fun q4 =>
 (F10_put q4.1 8 q4.2).bind (fun h5 =>
 k81 (some a3) l2 (w32 (l3 + 1)) h5))))
def F10_write_81 : Nat → Option Int → Int → Int → JM → Option JM
  | 0, _, _, _, _ => none
  | n + 1, l1, l2, l3, h => F10_write_81b (F10_write_81 n) l1 l2 l3 h
def F10_write (l1 : Option Int) (h : JM) : Option JM :=
 lt_ (sI h 10 0 1 0) (fun h6 =>
 (F10_putFlag h6).bind (fun h7 =>
 lt_ (sI h7 10 0 2 0) (fun h8 =>
 lt_ (sI h8 10 0 3 65535) (fun h9 =>
 (l1).bind (fun a10 =>
 (F10_put (h9.1 9 a10 0) 7 h9).bind (fun h11 =>
 (F10_put (h11.1 9 a10 1) 1 h11).bind (fun h12 =>
 (F10_put (h12.1 9 a10 2) 7 h12).bind (fun h13 =>
 (F10_put (h13.1 9 a10 3) 1 h13).bind (fun h14 =>
 (F9_sizeOf (h14.2.1 9 a10 4) h14).bind (fun q15 =>
 (F10_put q15.1 6 q15.2).bind (fun h16 =>
 (F10_put 0 2 h16).bind (fun h17 =>
 F10_write_81 j_fu (some a10) q15.1 0 h17))))))))))))
-- X11_announce
def F11_announce (l1 : Option Int) (h : JM) : Option JM :=
 (l1).bind (fun a1 =>
 if h.2.2 0 a1 2 = none then (
 some h) else (
 if h.1 0 a1 15 = 0 then (
 lt_ (sI h 0 a1 15 1) (fun h2 =>
 (h2.2.2 0 a1 0).bind (fun a3 =>
 (h2.2.2 0 a1 2).bind (fun a4 =>
 (F9_pack 2 (h2.1 8 a4 0) 0 h2).bind (fun q5 =>
 (F5_post a3 q5.1 q5.2).bind (fun h6 =>
 some h6)))))) else (
 some h)))
-- X11_enter
def F11_enter (l1 : Option Int) (l2 : Int) (h : JM) : Option JM :=
 (l1).bind (fun a1 =>
 lt_ (sI h 0 a1 9 l2) (fun h2 =>
 lt_ (sI h2 0 a1 10 (h2.1 11 0 10)) (fun h3 =>
 some h3)))
-- X11_answer
def F11_answer (l1 : Option Int) (h : JM) : Option (Int × JM) :=
 (F11_enter l1 3 h).bind (fun h1 =>
 (F11_announce l1 h1).bind (fun h2 =>
 (l1).bind (fun a3 =>
 if h2.2.2 0 a3 2 = none then (
 (F3_charge (some a3) 1 (h2.1 11 0 10) h2).bind (fun q4 =>
 if q4.1 = 0 then (
 some (5, q4.2)) else (
 some (0, q4.2)))) else (
 (h2.2.2 0 a3 0).bind (fun a5 =>
 (h2.2.2 0 a3 2).bind (fun a6 =>
 (F9_pack 3 (h2.1 8 a6 0) 0 h2).bind (fun q7 =>
 (F5_post a5 q7.1 q7.2).bind (fun h8 =>
 some (0, h8)))))))))
-- X11_byLaw0
def F11_byLaw0_63 (l2 : Int) (l3 : Int) (s0 : Int) (h : JM) : Option (Int × JM) :=
 some (j_xor (w32 ((w32 (s0 + (w32 (16 * l2)))) + l3)) 85, h)
def F11_byLaw0_51 (l0 : Int) (l2 : Int) (s0 : Int) (h : JM) : Option (Int × JM) :=
 if 0 ≤ l0 then (
 F11_byLaw0_63 l2 s0 128 h) else (
 F11_byLaw0_63 l2 s0 0 h)
def F11_byLaw0_35 (l0 : Int) (l1 : Int) (l2 : Int) (h : JM) : Option (Int × JM) :=
 if l2 = 0 then (
 F11_byLaw0_51 l0 l2 (j_div l1 2) h) else (
 F11_byLaw0_51 l0 l2 (j_and (j_shr l1 l2) 15) h)
def F11_byLaw0_15b (k15 : Int → Int → Int → JM → Option (Int × JM)) (l0 : Int) (l1 : Int) (l2 : Int) (h : JM) : Option (Int × JM) :=
 if 7 ≤ l2 then (
 F11_byLaw0_35 l0 l1 l2 h) else (
 if j_shr l1 (w32 (l2 + 5)) = 0 then (
 F11_byLaw0_35 l0 l1 l2 h) else (
 k15 l0 l1 (w32 (l2 + 1)) h))
def F11_byLaw0_15 : Nat → Int → Int → Int → JM → Option (Int × JM)
  | 0, _, _, _, _ => none
  | n + 1, l0, l1, l2, h => F11_byLaw0_15b (F11_byLaw0_15 n) l0 l1 l2 h
def F11_byLaw0_10 (l0 : Int) (s0 : Int) (h : JM) : Option (Int × JM) :=
 lt_ (j_div s0 2) (fun x1 =>
 F11_byLaw0_15 j_fu l0 x1 0 h)
def F11_byLaw0 (l0 : Int) (h : JM) : Option (Int × JM) :=
 if 0 ≤ l0 then (
 F11_byLaw0_10 l0 l0 h) else (
 F11_byLaw0_10 l0 (w32 (-l0)) h)
-- X11_byLaw1
def F11_byLaw1_66 (l2 : Int) (l3 : Int) (s0 : Int) (s1 : Int) (h : JM) : Option (Int × JM) :=
 some (w32 ((w32 ((w32 (s0 - s1)) - (w32 (16 * l3)))) - (j_and (j_shr l2 (w32 (l3 + 1))) 15)), h)
def F11_byLaw1_52 (l0 : Int) (l2 : Int) (l3 : Int) (h : JM) : Option (Int × JM) :=
 if 0 ≤ l0 then (
 F11_byLaw1_66 l2 l3 255 0 h) else (
 F11_byLaw1_66 l2 l3 255 128 h)
def F11_byLaw1_31b (k31 : Int → Int → Int → JM → Option (Int × JM)) (l0 : Int) (l2 : Int) (l3 : Int) (h : JM) : Option (Int × JM) :=
 if 7 ≤ l3 then (
 F11_byLaw1_52 l0 l2 l3 h) else (
 if j_shr l2 (w32 (l3 + 6)) = 0 then (
 F11_byLaw1_52 l0 l2 l3 h) else (
 k31 l0 l2 (w32 (l3 + 1)) h))
def F11_byLaw1_31 : Nat → Int → Int → Int → JM → Option (Int × JM)
  | 0, _, _, _, _ => none
  | n + 1, l0, l2, l3, h => F11_byLaw1_31b (F11_byLaw1_31 n) l0 l2 l3 h
def F11_byLaw1_25 (l0 : Int) (s0 : Int) (h : JM) : Option (Int × JM) :=
 lt_ (w32 (s0 + 33)) (fun x1 =>
 F11_byLaw1_31 j_fu l0 x1 0 h)
def F11_byLaw1_10 (l0 : Int) (s0 : Int) (h : JM) : Option (Int × JM) :=
 if 8158 ≤ s0 then (
 F11_byLaw1_25 l0 8158 h) else (
 F11_byLaw1_25 l0 s0 h)
def F11_byLaw1 (l0 : Int) (h : JM) : Option (Int × JM) :=
 if 0 ≤ l0 then (
 F11_byLaw1_10 l0 l0 h) else (
 F11_byLaw1_10 l0 (w32 (-l0)) h)
-- X11_fromLaw0
def F11_fromLaw0_44 (l1 : Int) (s0 : Int) (h : JM) : Option (Int × JM) :=
 if 128 ≤ l1 then (
 some (s0, h)) else (
 some (w32 (-s0), h))
def F11_fromLaw0 (l0 : Int) (h : JM) : Option (Int × JM) :=
 lt_ (j_xor l0 85) (fun x1 =>
 lt_ (j_and (j_div x1 16) 7) (fun x2 =>
 lt_ (j_and x1 15) (fun x3 =>
 if x2 = 0 then (
 F11_fromLaw0_44 x1 (w32 (2 * (w32 ((w32 (2 * x3)) + 1)))) h) else (
 F11_fromLaw0_44 x1 (w32 (2 * (j_shl (w32 ((w32 (2 * x3)) + 33)) (w32 (x2 - 1))))) h))))
-- X11_fromLaw1
def F11_fromLaw1 (l0 : Int) (h : JM) : Option (Int × JM) :=
 lt_ (w32 (255 - l0)) (fun x1 =>
 lt_ (j_and (j_div x1 16) 7) (fun x2 =>
 lt_ (w32 ((j_shl (w32 ((w32 (2 * (j_and x1 15))) + 33)) x2) - 33)) (fun x3 =>
 if x1 ≤ 127 then (
 some (x3, h)) else (
 some (w32 (-x3), h)))))
-- X11_asHeard
def F11_asHeard (l0 : Int) (l1 : Int) (h : JM) : Option (Int × JM) :=
 if l0 = 0 then (
 (F11_byLaw0 l1 h).bind (fun q3 =>
 (F11_fromLaw0 q3.1 q3.2).bind (fun q4 =>
 some (q4.1, q4.2)))) else (
 (F11_byLaw1 l1 h).bind (fun q1 =>
 (F11_fromLaw1 q1.1 q1.2).bind (fun q2 =>
 some (q2.1, q2.2))))
-- X11_isExchange
def F11_isExchange_13 (h : JM) : Option (Int × JM) :=
 some (0, h)
def F11_isExchange (l0 : Int) (h : JM) : Option (Int × JM) :=
 if l0 < 0 then (
 F11_isExchange_13 h) else (
 if 2 ≤ l0 then (
 F11_isExchange_13 h) else (
 some (1, h)))
-- X11_bit
def F11_bit_37 (h : JM) : Option (Int × JM) :=
 some ((-1), h)
def F11_bit (l1 : Int) (l2 : Int) (l3 : Int) (h : JM) : Option (Int × JM) :=
 (F11_isExchange l1 h).bind (fun q1 =>
 if q1.1 = 0 then (
 some ((-2), q1.2)) else (
 if l2 < 0 then (
 F11_bit_37 q1.2) else (
 if q1.2.1 11 0 10 ≤ l2 then (
 F11_bit_37 q1.2) else (
 if l2 < w32 ((q1.2.1 11 0 10) - 64) then (
 F11_bit_37 q1.2) else (
 if 0 ≤ l3 then (
 g_ ((0 : Int) ≤ l1 ∧ l1 < (2 : Int)) (
 g_ ((0 : Int) ≤ j_rem l2 64 ∧ j_rem l2 64 < (64 : Int)) (
 (F10_write (some (64 * l1 + (j_rem l2 64))) q1.2).bind (fun h2 =>
 if h2.1 10 0 1 ≤ l3 then (
 some ((-1), h2)) else (
 g_ ((0 : Int) ≤ l3 ∧ l3 < (256 : Int)) (
 some (h2.1 36 0 l3, h2))))))) else (
 F11_bit_37 q1.2))))))
-- X11_given
def F11_given_55 (h : JM) : Option (Int × JM) :=
 some (0, h)
def F11_given (l0 : Option Int) (l1 : Option Int) (l2 : Option Int) (h : JM) : Option (Int × JM) :=
 if l1 = none then (
 if l2 = none then (
 F11_given_55 h) else (
 (l2).bind (fun a1 =>
 if (some (if a1 < 16 then a1 + 16 else a1 - 16)) = none then (
 F11_given_55 h) else (
 (F11_fromLaw0 (h.1 8 (if a1 < 16 then a1 + 16 else a1 - 16) 5) h).bind (fun q2 =>
 some (q2.1, q2.2)))))) else (
 (l1).bind (fun a3 =>
 if h.2.2 4 a3 11 = l0 then (
 (F11_asHeard (j_div (h.1 4 a3 0) 8) (h.1 4 a3 18) h).bind (fun q4 =>
 some (q4.1, q4.2))) else (
 some (0, h))))
-- X11_hand
def F11_hand_27 (l2 : Option Int) (l3 : Int) (h : JM) : Option JM :=
 if l2 = none then (
 some h) else (
 (F11_byLaw0 l3 h).bind (fun q1 =>
 (l2).bind (fun a2 =>
 lt_ (sI q1.2 8 a2 4 q1.1) (fun h3 =>
 some h3))))
def F11_hand (l0 : Option Int) (l1 : Option Int) (l2 : Option Int) (l3 : Int) (h : JM) : Option JM :=
 if l1 = none then (
 F11_hand_27 l2 l3 h) else (
 (l1).bind (fun a4 =>
 if h.2.2 4 a4 11 = l0 then (
 (F11_asHeard (j_div (h.1 4 a4 0) 8) l3 h).bind (fun q5 =>
 lt_ (sI q5.2 4 a4 19 q5.1) (fun h6 =>
 F11_hand_27 l2 l3 h6))) else (
 F11_hand_27 l2 l3 h)))
-- X11_carryBetweenSides
def F11_carryBetweenSides_63 (l0 : Option Int) (s0 : Int) (h : JM) : Option JM :=
 (l0).bind (fun a1 =>
 (F11_hand (some a1) (h.2.2 0 a1 1) (h.2.2 0 a1 2) s0 h).bind (fun h2 =>
 some h2))
def F11_carryBetweenSides (l0 : Option Int) (h : JM) : Option JM :=
 (l0).bind (fun a3 =>
 (F11_given (some a3) (h.2.2 0 a3 1) (h.2.2 0 a3 2) h).bind (fun q4 =>
 if q4.2.1 0 a3 6 = (-1) then (
 (F11_given (some a3) (q4.2.2.2 0 a3 3) (q4.2.2.2 0 a3 4) q4.2).bind (fun q5 =>
 (F11_hand (some a3) (q4.2.2.2 0 a3 1) (q4.2.2.2 0 a3 2) q5.1 q5.2).bind (fun h6 =>
 (F11_hand (some a3) (h6.2.2 0 a3 3) (h6.2.2 0 a3 4) q4.1 h6).bind (fun h7 =>
 some h7)))) else (
 (q4.2.2.2 0 a3 0).bind (fun a8 =>
 g_ ((0 : Int) ≤ q4.2.1 0 a3 6 ∧ q4.2.1 0 a3 6 < (2 : Int)) (
 lt_ (w32 ((q4.2.1 24 a8 (q4.2.1 0 a3 6)) - q4.1)) (fun x9 =>
 if x9 ≤ 8000 then (
 if (-8000) ≤ x9 then (
 F11_carryBetweenSides_63 (some a3) x9 q4.2) else (
 F11_carryBetweenSides_63 (some a3) (-8000) q4.2)) else (
 F11_carryBetweenSides_63 (some a3) 8000 q4.2)))))))
-- X11_carrySpeech
def F11_carrySpeech_144 (k114 : Int → JM → Option JM) (l1 : Int) (h : JM) : Option JM :=
 k114 (w32 (l1 + 1)) h
def F11_carrySpeech_114b (k114 : Int → JM → Option JM) (l1 : Int) (h : JM) : Option JM :=
 if h.1 11 0 11 ≤ l1 then (
 some h) else (
 g_ ((0 : Int) ≤ l1 ∧ l1 < (72 : Int)) (
 (h.2.2 40 0 l1).bind (fun a1 =>
 if h.1 0 a1 9 = 3 then (
 g_ ((0 : Int) ≤ l1 ∧ l1 < (72 : Int)) (
 (F11_carryBetweenSides (h.2.2 40 0 l1) h).bind (fun h2 =>
 F11_carrySpeech_144 k114 l1 h2))) else (
 F11_carrySpeech_144 k114 l1 h))))
def F11_carrySpeech_114 : Nat → Int → JM → Option JM
  | 0, _, _ => none
  | n + 1, l1, h => F11_carrySpeech_114b (F11_carrySpeech_114 n) l1 h
def F11_carrySpeech_106 (k48 : Int → JM → Option JM) (l1 : Int) (h : JM) : Option JM :=
 k48 (w32 (l1 + 1)) h
def F11_carrySpeech_48b (k48 : Int → JM → Option JM) (l1 : Int) (h : JM) : Option JM :=
 if h.1 11 0 11 ≤ l1 then (
 F11_carrySpeech_114 j_fu 0 h) else (
 g_ ((0 : Int) ≤ l1 ∧ l1 < (72 : Int)) (
 (h.2.2 40 0 l1).bind (fun a3 =>
 if h.1 0 a3 9 = 3 then (
 if h.1 0 a3 6 = (-1) then (
 F11_carrySpeech_106 k48 l1 h) else (
 (h.2.2 0 a3 0).bind (fun a4 =>
 g_ ((0 : Int) ≤ h.1 0 a3 6 ∧ h.1 0 a3 6 < (2 : Int)) (
 (F11_given (some a3) (h.2.2 0 a3 1) (h.2.2 0 a3 2) h).bind (fun q5 =>
 g_ ((0 : Int) ≤ h.1 0 a3 6 ∧ h.1 0 a3 6 < (2 : Int)) (
 lt_ (sI q5.2 24 a4 (h.1 0 a3 6) (w32 ((h.1 24 a4 (h.1 0 a3 6)) + q5.1))) (fun h6 =>
 F11_carrySpeech_106 k48 l1 h6))))))) else (
 F11_carrySpeech_106 k48 l1 h))))
def F11_carrySpeech_48 : Nat → Int → JM → Option JM
  | 0, _, _ => none
  | n + 1, l1, h => F11_carrySpeech_48b (F11_carrySpeech_48 n) l1 h
def F11_carrySpeech_26b (k26 : Int → JM → Option JM) (l1 : Int) (h : JM) : Option JM :=
 if 2 ≤ l1 then (
 F11_carrySpeech_48 j_fu 0 h) else (
 g_ ((0 : Int) ≤ l1 ∧ l1 < (2 : Int)) (
 (F1_hush l1 h).bind (fun h7 =>
 k26 (w32 (l1 + 1)) h7)))
def F11_carrySpeech_26 : Nat → Int → JM → Option JM
  | 0, _, _ => none
  | n + 1, l1, h => F11_carrySpeech_26b (F11_carrySpeech_26 n) l1 h
def F11_carrySpeech_2b (k2 : Int → JM → Option JM) (l1 : Int) (h : JM) : Option JM :=
 if 16 ≤ l1 then (
 F11_carrySpeech_26 j_fu 0 h) else (
 g_ ((0 : Int) ≤ l1 ∧ l1 < (16 : Int)) (
 lt_ (sI h 4 l1 19 0) (fun h8 =>
 k2 (w32 (l1 + 1)) h8)))
def F11_carrySpeech_2 : Nat → Int → JM → Option JM
  | 0, _, _ => none
  | n + 1, l1, h => F11_carrySpeech_2b (F11_carrySpeech_2 n) l1 h
def F11_carrySpeech (h : JM) : Option JM :=
 F11_carrySpeech_2 j_fu 0 h
-- X11_causeByTime
def F11_causeByTime_108 (h : JM) : Option (Int × JM) :=
 some (0, h)
def F11_causeByTime (l1 : Option Int) (l2 : Int) (h : JM) : Option (Int × JM) :=
 (l1).bind (fun a1 =>
 if h.1 0 a1 9 = 0 then (
 if l2 = 500 then (
 some (1, h)) else (
 some (0, h))) else (
 if h.1 0 a1 9 = 1 then (
 if l2 = 500 then (
 some (6, h)) else (
 some (0, h))) else (
 if h.1 0 a1 9 = 3 then (
 (F3_isStep (some a1) l2 h).bind (fun q2 =>
 if q2.1 = 0 then (
 F11_causeByTime_108 q2.2) else (
 (F3_charge (some a1) 0 (q2.2.1 11 0 10) q2.2).bind (fun q3 =>
 if q3.1 = 0 then (
 some (5, q3.2)) else (
 F11_causeByTime_108 q3.2))))) else (
 if h.1 0 a1 9 = 4 then (
 if l2 = 3000 then (
 some (4, h)) else (
 some (0, h))) else (
 some (0, h))))))
-- X11_ringNoMore
def F11_ringNoMore_21 (l1 : Option Int) (l2 : Option Int) (h : JM) : Option JM :=
 (l2).bind (fun a1 =>
 if h.2.2 4 a1 12 = l1 then (
 lt_ (sR h 4 a1 12 none) (fun h2 =>
 some h2)) else (
 some h))
def F11_ringNoMore (l1 : Option Int) (l2 : Option Int) (h : JM) : Option JM :=
 (l2).bind (fun a3 =>
 if h.2.2 4 a3 13 = l1 then (
 lt_ (sR h 4 a3 13 none) (fun h4 =>
 lt_ (sI h4 4 a3 16 (h4.1 11 0 10)) (fun h5 =>
 F11_ringNoMore_21 l1 (some a3) h5))) else (
 F11_ringNoMore_21 l1 (some a3) h))
-- X11_tellEnd
def F11_tellEnd_44 (l1 : Option Int) (l3 : Option Int) (l4 : Int) (h : JM) : Option JM :=
 if l3 = none then (
 some h) else (
 (l3).bind (fun a1 =>
 lt_ (sI h 8 a1 2 3) (fun h2 =>
 lt_ (sR h2 8 a1 3 none) (fun h3 =>
 (l1).bind (fun a4 =>
 (h3.2.2 0 a4 0).bind (fun a5 =>
 (F9_pack 4 (h3.1 8 a1 0) l4 h3).bind (fun q6 =>
 (F5_post a5 q6.1 q6.2).bind (fun h7 =>
 some h7))))))))
def F11_tellEnd_41 (l1 : Option Int) (l3 : Option Int) (l4 : Int) (s0 : Option Int) (s1 : Int) (h : JM) : Option JM :=
 (s0).bind (fun a8 =>
 lt_ (sI h 4 a8 15 s1) (fun h9 =>
 F11_tellEnd_44 l1 l3 l4 h9))
def F11_tellEnd (l1 : Option Int) (l2 : Option Int) (l3 : Option Int) (l4 : Int) (h : JM) : Option JM :=
 if l2 = none then (
 F11_tellEnd_44 l1 l3 l4 h) else (
 (F11_ringNoMore l1 l2 h).bind (fun h10 =>
 (l2).bind (fun a11 =>
 if h10.2.2 4 a11 11 = l1 then (
 lt_ (sR h10 4 a11 11 none) (fun h12 =>
 lt_ (sI h12 4 a11 14 l4) (fun h13 =>
 if l4 = 1 then (
 F11_tellEnd_41 l1 l3 l4 (some a11) 4 h13) else (
 F11_tellEnd_41 l1 l3 l4 (some a11) 3 h13)))) else (
 F11_tellEnd_44 l1 l3 l4 h10))))
-- X11_end
def F11_end_117 (l1 : Option Int) (h : JM) : Option JM :=
 (l1).bind (fun a1 =>
 lt_ (sI h 0 a1 9 (-1)) (fun h2 =>
 lt_ (sI h2 11 0 13 (w32 ((h2.1 11 0 13) - 1))) (fun h3 =>
 some h3)))
def F11_end_90 (l1 : Option Int) (h : JM) : Option JM :=
 (l1).bind (fun a4 =>
 if h.1 0 a4 9 = 3 then (
 if h.2.2 0 a4 1 = none then (
 F11_end_117 (some a4) h) else (
 (F3_write (some a4) (h.1 11 0 10) h).bind (fun h5 =>
 F11_end_117 (some a4) h5))) else (
 F11_end_117 (some a4) h))
def F11_end_66 (l1 : Option Int) (h : JM) : Option JM :=
 (l1).bind (fun a6 =>
 if h.1 0 a6 6 = (-1) then (
 F11_end_90 (some a6) h) else (
 (h.2.2 0 a6 0).bind (fun a7 =>
 g_ ((0 : Int) ≤ h.1 0 a6 6 ∧ h.1 0 a6 6 < (2 : Int)) (
 g_ ((0 : Int) ≤ h.1 0 a6 6 ∧ h.1 0 a6 6 < (2 : Int)) (
 lt_ (sI h 23 a7 (h.1 0 a6 6) (w32 ((h.1 23 a7 (h.1 0 a6 6)) - 1))) (fun h8 =>
 F11_end_90 (some a6) h8))))))
def F11_end_38 (l1 : Option Int) (h : JM) : Option JM :=
 (l1).bind (fun a9 =>
 if h.1 0 a9 9 = 4 then (
 if h.2.2 0 a9 5 = none then (
 F11_end_66 (some a9) h) else (
 (h.2.2 0 a9 5).bind (fun a10 =>
 lt_ (sI h 2 a10 3 (w32 ((h.1 2 a10 3) - 1))) (fun h11 =>
 F11_end_66 (some a9) h11)))) else (
 F11_end_66 (some a9) h))
def F11_end_19 (l1 : Option Int) (l2 : Int) (l3 : Int) (h : JM) : Option JM :=
 if l3 = 2 then (
 F11_end_38 l1 h) else (
 (l1).bind (fun a12 =>
 (F11_tellEnd (some a12) (h.2.2 0 a12 3) (h.2.2 0 a12 4) l2 h).bind (fun h13 =>
 F11_end_38 (some a12) h13)))
def F11_end (l1 : Option Int) (l2 : Int) (l3 : Int) (h : JM) : Option JM :=
 if l3 = 1 then (
 F11_end_19 l1 l2 l3 h) else (
 (l1).bind (fun a14 =>
 (F11_tellEnd (some a14) (h.2.2 0 a14 1) (h.2.2 0 a14 2) l2 h).bind (fun h15 =>
 F11_end_19 (some a14) l2 l3 h15)))
-- X11_findRowAnew
def F11_findRowAnew (l1 : Option Int) (h : JM) : Option (Int × JM) :=
 (l1).bind (fun a1 =>
 lt_ (sI h 0 a1 12 (w32 ((h.1 0 a1 12) + 1))) (fun h2 =>
 if h2.1 0 a1 12 ≤ 5 then (
 (h2.2.2 0 a1 0).bind (fun a3 =>
 (F1_analyse a3 (h2.2.1 0 a1 8) h2).bind (fun q4 =>
 if 0 ≤ q4.1 then (
 (q4.2.2.2 0 a1 0).bind (fun a5 =>
 g_ ((0 : Int) ≤ q4.1 ∧ q4.1 < (24 : Int)) (
 lt_ (sR q4.2 0 a1 7 (q4.2.2.2 22 a5 q4.1)) (fun h6 =>
 some ((-1), h6))))) else (
 some (1, q4.2))))) else (
 some (2, h2))))
-- X11_withoutFirst
def F11_withoutFirst (l0 : Int) (l2 : Int) (h : JM) : Option (Int × JM) :=
 (F11_countOf l0 h).bind (fun q1 =>
 if l2 < q1.1 then (
 some (j_lor (j_lshr (j_land l0 281474976710655) (w32 (4 * l2))) (j_lshl (w32 (q1.1 - l2)) 48), q1.2)) else (
 some (0, q1.2)))
-- X11_placeFar
def F11_placeFar_56 (l1 : Option Int) (l2 : Option Int) (s0 : Option Int) (s1 : Int) (h : JM) : Option (Int × JM) :=
 (s0).bind (fun a1 =>
 (F1_findIdle a1 s1 h).bind (fun q2 =>
 if q2.1 = none then (
 some (3, q2.2)) else (
 (q2.1).bind (fun a3 =>
 lt_ (sI q2.2 8 a3 2 1) (fun h4 =>
 lt_ (sR h4 8 a3 3 l1) (fun h5 =>
 (l1).bind (fun a6 =>
 lt_ (sR h5 0 a6 4 (some a3)) (fun h7 =>
 (F11_enter (some a6) 1 h7).bind (fun h8 =>
 (l2).bind (fun a9 =>
 (F11_withoutFirst (h8.2.1 0 a6 8) (h8.1 6 a9 3) h8).bind (fun q10 =>
 (F9_packIam (h8.1 0 a6 12) q10.1 q10.2).bind (fun q11 =>
 (q11.2.2.2 0 a6 0).bind (fun a12 =>
 (F9_pack 1 (q11.2.1 8 a3 0) q11.1 q11.2).bind (fun q13 =>
 (F5_post a12 q13.1 q13.2).bind (fun h14 =>
 some (0, h14))))))))))))))))
def F11_placeFar_40 (l1 : Option Int) (l2 : Option Int) (l3 : Int) (h : JM) : Option (Int × JM) :=
 (l1).bind (fun a15 =>
 if l3 = 0 then (
 F11_placeFar_56 (some a15) l2 (h.2.2 0 a15 0) (h.1 11 0 1) h) else (
 F11_placeFar_56 (some a15) l2 (h.2.2 0 a15 0) 0 h))
def F11_placeFar_13 (l1 : Option Int) (l2 : Option Int) (s0 : Int) (h : JM) : Option (Int × JM) :=
 if s0 = 0 then (
 (l1).bind (fun a16 =>
 if h.2.2 0 a16 1 = none then (
 F11_placeFar_40 (some a16) l2 s0 h) else (
 (h.2.2 0 a16 1).bind (fun a17 =>
 g_ ((0 : Int) ≤ 1 ∧ 1 < (3 : Int)) (
 if h.1 28 a17 1 = 0 then (
 F11_placeFar_40 (some a16) l2 s0 h) else (
 some (8, h))))))) else (
 F11_placeFar_40 l1 l2 s0 h)
def F11_placeFar (l1 : Option Int) (l2 : Option Int) (h : JM) : Option (Int × JM) :=
 (l2).bind (fun a18 =>
 if h.1 6 a18 2 = 2 then (
 F11_placeFar_13 l1 (some a18) 1 h) else (
 F11_placeFar_13 l1 (some a18) 0 h))
-- X11_ring
def F11_ring (l1 : Option Int) (l2 : Option Int) (h : JM) : Option JM :=
 (l2).bind (fun a1 =>
 lt_ (sR h 4 a1 13 l1) (fun h2 =>
 (l1).bind (fun a3 =>
 lt_ (sR h2 0 a3 3 (some a1)) (fun h4 =>
 (F11_enter (some a3) 2 h4).bind (fun h5 =>
 some h5)))))
-- X11_placeToGroup
def F11_placeToGroup_20 (l1 : Option Int) (l2 : Option Int) (s0 : Option Int) (h : JM) : Option (Int × JM) :=
 if s0 = none then (
 (l2).bind (fun a1 =>
 if h.1 2 a1 3 < h.1 2 a1 2 then (
 (F11_enter l1 4 h).bind (fun h2 =>
 (F2_letWait a1 l1 0 h2).bind (fun h3 =>
 some (0, h3)))) else (
 some (2, h)))) else (
 (F11_ring l1 s0 h).bind (fun h4 =>
 some (0, h4)))
def F11_placeToGroup (l1 : Option Int) (l2 : Option Int) (h : JM) : Option (Int × JM) :=
 (l1).bind (fun a5 =>
 lt_ (sR h 0 a5 5 l2) (fun h6 =>
 (l2).bind (fun a7 =>
 if h6.1 2 a7 3 = 0 then (
 (F2_nextMember a7 h6).bind (fun q8 =>
 F11_placeToGroup_20 (some a5) (some a7) q8.1 q8.2)) else (
 F11_placeToGroup_20 (some a5) (some a7) none h6))))
-- X11_placeToLine
def F11_placeToLine (l1 : Option Int) (l2 : Option Int) (h : JM) : Option (Int × JM) :=
 (l2).bind (fun a1 =>
 g_ ((0 : Int) ≤ 0 ∧ 0 < (3 : Int)) (
 if h.1 28 a1 0 = 0 then (
 g_ ((0 : Int) ≤ 0 ∧ 0 < (3 : Int)) (
 if j_lcmp (h.2.1 29 a1 0) 0 = 0 then (
 (l1).bind (fun a2 =>
 lt_ (sR h 0 a2 5 none) (fun h3 =>
 (F4_isFree a1 h3).bind (fun q4 =>
 if q4.1 = 0 then (
 (F4_canTakeOther a1 q4.2).bind (fun q5 =>
 if q5.1 = 0 then (
 g_ ((0 : Int) ≤ 1 ∧ 1 < (3 : Int)) (
 if j_lcmp (q5.2.2.1 29 a1 1) 0 = 0 then (
 some (2, q5.2)) else (
 g_ ((0 : Int) ≤ 1 ∧ 1 < (3 : Int)) (
 lt_ (sL q5.2 0 a2 8 (q5.2.2.1 29 a1 1)) (fun h6 =>
 some ((-2), h6)))))) else (
 lt_ (sR q5.2 4 a1 12 (some a2)) (fun h7 =>
 lt_ (sR h7 0 a2 3 (some a1)) (fun h8 =>
 (F11_enter (some a2) 2 h8).bind (fun h9 =>
 some (0, h9))))))) else (
 (F11_ring (some a2) (some a1) q4.2).bind (fun h10 =>
 some (0, h10))))))) else (
 g_ ((0 : Int) ≤ 0 ∧ 0 < (3 : Int)) (
 (l1).bind (fun a11 =>
 lt_ (sL h 0 a11 8 (h.2.1 29 a1 0)) (fun h12 =>
 some ((-2), h12))))))) else (
 some (8, h))))
-- X11_placeToRoom
def F11_placeToRoom (l1 : Option Int) (l2 : Int) (h : JM) : Option (Int × JM) :=
 (l1).bind (fun a1 =>
 (h.2.2 0 a1 0).bind (fun a2 =>
 g_ ((0 : Int) ≤ l2 ∧ l2 < (2 : Int)) (
 if h.1 23 a2 l2 < 8 then (
 lt_ (sI h 0 a1 6 l2) (fun h3 =>
 (h3.2.2 0 a1 0).bind (fun a4 =>
 g_ ((0 : Int) ≤ l2 ∧ l2 < (2 : Int)) (
 g_ ((0 : Int) ≤ l2 ∧ l2 < (2 : Int)) (
 lt_ (sI h3 23 a4 l2 (w32 ((h3.1 23 a4 l2) + 1))) (fun h5 =>
 some ((-3), h5))))))) else (
 some (2, h)))))
-- X11_place
def F11_place_173 (l1 : Option Int) (l3 : Int) (h : JM) : Option JM :=
 if l3 ≤ 0 then (
 some h) else (
 (F11_end l1 l3 0 h).bind (fun h1 =>
 some h1))
def F11_place_141 (l1 : Option Int) (l3 : Int) (h : JM) : Option JM :=
 if l3 = (-3) then (
 (F11_answer l1 h).bind (fun q4 =>
 F11_place_173 l1 q4.1 q4.2)) else (
 if l3 = 0 then (
 (l1).bind (fun a2 =>
 if h.1 0 a2 9 = 1 then (
 F11_place_173 (some a2) l3 h) else (
 (F11_announce (some a2) h).bind (fun h3 =>
 F11_place_173 (some a2) l3 h3)))) else (
 F11_place_173 l1 l3 h))
def F11_place_135 (k5 : Option Int → Int → Int → JM → Option JM) (l1 : Option Int) (l3 : Int) (l4 : Int) (h : JM) : Option JM :=
 k5 l1 l3 (w32 (l4 + 1)) h
def F11_place_5b (k5 : Option Int → Int → Int → JM → Option JM) (l1 : Option Int) (l3 : Int) (l4 : Int) (h : JM) : Option JM :=
 if 14 ≤ l4 then (
 F11_place_141 l1 l3 h) else (
 (l1).bind (fun a5 =>
 if l3 = (-2) then (
 (F11_findRowAnew (some a5) h).bind (fun q12 =>
 F11_place_135 k5 (some a5) q12.1 l4 q12.2)) else (
 if l3 = (-1) then (
 if h.2.2 0 a5 7 = none then (
 F11_place_141 (some a5) l3 h) else (
 (h.2.2 0 a5 7).bind (fun a6 =>
 if h.1 6 a6 2 = 0 then (
 g_ ((0 : Int) ≤ h.1 6 a6 3 ∧ h.1 6 a6 3 < (16 : Int)) (
 (F11_placeToLine (some a5) (some (h.1 6 a6 3)) h).bind (fun q11 =>
 F11_place_135 k5 (some a5) q11.1 l4 q11.2))) else (
 if h.1 6 a6 2 = 3 then (
 (h.2.2 0 a5 0).bind (fun a9 =>
 g_ ((0 : Int) ≤ h.1 6 a6 3 ∧ h.1 6 a6 3 < (3 : Int)) (
 (F11_placeToGroup (some a5) (some (3 * a9 + (h.1 6 a6 3))) h).bind (fun q10 =>
 F11_place_135 k5 (some a5) q10.1 l4 q10.2)))) else (
 if h.1 6 a6 2 = 4 then (
 (F11_placeToRoom (some a5) (h.1 6 a6 3) h).bind (fun q8 =>
 F11_place_135 k5 (some a5) q8.1 l4 q8.2)) else (
 (F11_placeFar (some a5) (some a6) h).bind (fun q7 =>
 F11_place_135 k5 (some a5) q7.1 l4 q7.2))))))) else (
 F11_place_141 (some a5) l3 h))))
def F11_place_5 : Nat → Option Int → Int → Int → JM → Option JM
  | 0, _, _, _, _ => none
  | n + 1, l1, l3, l4, h => F11_place_5b (F11_place_5 n) l1 l3 l4 h
def F11_place (l1 : Option Int) (l2 : Int) (h : JM) : Option JM :=
 F11_place_5 j_fu l1 l2 0 h
-- X11_checkRinging
def F11_checkRinging (l1 : Option Int) (l2 : Option Int) (l3 : Int) (h : JM) : Option JM :=
 (l1).bind (fun a1 =>
 if h.2.2 0 a1 5 = none then (
 if l3 = 600 then (
 (F11_end (some a1) 4 0 h).bind (fun h7 =>
 some h7)) else (
 if l3 = 300 then (
 (l2).bind (fun a2 =>
 g_ ((0 : Int) ≤ 2 ∧ 2 < (3 : Int)) (
 if j_lcmp (h.2.1 29 a2 2) 0 = 0 then (
 some h) else (
 (F11_ringNoMore (some a1) (some a2) h).bind (fun h3 =>
 lt_ (sR h3 0 a1 3 none) (fun h4 =>
 g_ ((0 : Int) ≤ 2 ∧ 2 < (3 : Int)) (
 lt_ (sL h4 0 a1 8 (h4.2.1 29 a2 2)) (fun h5 =>
 (F11_place (some a1) (-2) h5).bind (fun h6 =>
 some h6))))))))) else (
 some h))) else (
 if l3 = 300 then (
 (F11_ringNoMore (some a1) l2 h).bind (fun h8 =>
 (l2).bind (fun a9 =>
 lt_ (sI h8 4 a9 7 1) (fun h10 =>
 lt_ (sR h10 0 a1 3 none) (fun h11 =>
 (F11_enter (some a1) 4 h11).bind (fun h12 =>
 (h12.2.2 0 a1 5).bind (fun a13 =>
 (F2_letWait a13 (some a1) 1 h12).bind (fun h14 =>
 some h14)))))))) else (
 some h)))
-- X11_endIf
def F11_endIf (l1 : Option Int) (l2 : Int) (h : JM) : Option JM :=
 if l2 ≤ 0 then (
 some h) else (
 (F11_end l1 l2 0 h).bind (fun h1 =>
 some h1))
-- X11_checkTimes
def F11_checkTimes_72 (k2 : Int → JM → Option JM) (l1 : Int) (h : JM) : Option JM :=
 k2 (w32 (l1 + 1)) h
def F11_checkTimes_53 (k2 : Int → JM → Option JM) (l1 : Int) (l2 : Option Int) (h : JM) : Option JM :=
 (l2).bind (fun a1 =>
 (F11_causeByTime (some a1) (w32 ((h.1 11 0 10) - (h.1 0 a1 10))) h).bind (fun q2 =>
 (F11_endIf (some a1) q2.1 q2.2).bind (fun h3 =>
 F11_checkTimes_72 k2 l1 h3)))
def F11_checkTimes_2b (k2 : Int → JM → Option JM) (l1 : Int) (h : JM) : Option JM :=
 if h.1 11 0 11 ≤ l1 then (
 some h) else (
 g_ ((0 : Int) ≤ l1 ∧ l1 < (72 : Int)) (
 (h.2.2 40 0 l1).bind (fun a4 =>
 if h.1 0 a4 9 = 2 then (
 if h.2.2 0 a4 3 = none then (
 F11_checkTimes_53 k2 l1 (some a4) h) else (
 (F11_checkRinging (some a4) (h.2.2 0 a4 3) (w32 ((h.1 11 0 10) - (h.1 0 a4 10))) h).bind (fun h5 =>
 F11_checkTimes_72 k2 l1 h5))) else (
 F11_checkTimes_53 k2 l1 (some a4) h))))
def F11_checkTimes_2 : Nat → Int → JM → Option JM
  | 0, _, _ => none
  | n + 1, l1, h => F11_checkTimes_2b (F11_checkTimes_2 n) l1 h
def F11_checkTimes (h : JM) : Option JM :=
 F11_checkTimes_2 j_fu 0 h
-- X11_isTrunk
def F11_isTrunk_23 (h : JM) : Option (Int × JM) :=
 some (0, h)
def F11_isTrunk (l1 : Int) (l2 : Int) (h : JM) : Option (Int × JM) :=
 (F11_isExchange l1 h).bind (fun q1 =>
 if q1.1 = 0 then (
 F11_isTrunk_23 q1.2) else (
 if l2 < 0 then (
 F11_isTrunk_23 q1.2) else (
 if q1.2.1 11 0 0 ≤ l2 then (
 F11_isTrunk_23 q1.2) else (
 some (1, q1.2)))))
-- X11_circuit
def F11_circuit (l1 : Int) (l2 : Int) (h : JM) : Option (Int × JM) :=
 (F11_isTrunk l1 l2 h).bind (fun q1 =>
 if q1.1 = 0 then (
 some ((-2), q1.2)) else (
 g_ ((0 : Int) ≤ l1 ∧ l1 < (2 : Int)) (
 g_ ((0 : Int) ≤ l2 ∧ l2 < (q1.2.1 1020 l1 1 : Int)) (
 some (q1.2.1 8 (16 * l1 + l2) 2, q1.2)))))
-- X11_isLine
def F11_isLine_14 (h : JM) : Option (Int × JM) :=
 some (0, h)
def F11_isLine (l0 : Int) (h : JM) : Option (Int × JM) :=
 if l0 < 0 then (
 F11_isLine_14 h) else (
 if 16 ≤ l0 then (
 F11_isLine_14 h) else (
 some (1, h)))
-- X11_isWithin
def F11_isWithin_14 (h : JM) : Option (Int × JM) :=
 some (0, h)
def F11_isWithin (l0 : Int) (l1 : Int) (l2 : Int) (h : JM) : Option (Int × JM) :=
 if l0 < l1 then (
 F11_isWithin_14 h) else (
 if l2 < l0 then (
 F11_isWithin_14 h) else (
 some (1, h)))
-- X11_credit
def F11_credit_17 (h : JM) : Option (Int × JM) :=
 some ((-2), h)
def F11_credit (l1 : Int) (l2 : Int) (h : JM) : Option (Int × JM) :=
 (F11_isLine l1 h).bind (fun q1 =>
 if q1.1 = 0 then (
 F11_credit_17 q1.2) else (
 (F11_isWithin l2 (-1) 1000000 q1.2).bind (fun q2 =>
 if q2.1 = 0 then (
 F11_credit_17 q2.2) else (
 g_ ((0 : Int) ≤ l1 ∧ l1 < (16 : Int)) (
 lt_ (q2.2.1 4 l1 17) (fun x3 =>
 g_ ((0 : Int) ≤ l1 ∧ l1 < (16 : Int)) (
 lt_ (sI q2.2 4 l1 17 l2) (fun h4 =>
 some (x3, h4)))))))))
-- X11_dial
def F11_dial_29 (h : JM) : Option (Int × JM) :=
 some ((-2), h)
def F11_dial (l1 : Int) (l2 : Int) (h : JM) : Option (Int × JM) :=
 (F11_isLine l1 h).bind (fun q1 =>
 if q1.1 = 0 then (
 F11_dial_29 q1.2) else (
 (F11_isWithin l2 0 11 q1.2).bind (fun q2 =>
 if q2.1 = 0 then (
 F11_dial_29 q2.2) else (
 g_ ((0 : Int) ≤ l1 ∧ l1 < (16 : Int)) (
 if q2.2.1 4 l1 6 = 0 then (
 F11_dial_29 q2.2) else (
 g_ ((0 : Int) ≤ l1 ∧ l1 < (16 : Int)) (
 if q2.2.1 4 l1 4 < 20 then (
 g_ ((0 : Int) ≤ q2.2.1 4 l1 4 ∧ q2.2.1 4 l1 4 < (20 : Int)) (
 lt_ (sI q2.2 30 l1 (q2.2.1 4 l1 4) (j_i2b (j_i2b l2))) (fun h3 =>
 lt_ (sI h3 4 l1 4 (w32 ((h3.1 4 l1 4) + 1))) (fun h4 =>
 some (h4.1 4 l1 4, h4))))) else (
 some ((-3), q2.2)))))))))
-- X11_feature
def F11_feature_16 (h : JM) : Option (Int × JM) :=
 some ((-2), h)
def F11_feature (l1 : Int) (l2 : Int) (l3 : Int) (h : JM) : Option (Int × JM) :=
 (F11_isLine l1 h).bind (fun q1 =>
 if q1.1 = 0 then (
 F11_feature_16 q1.2) else (
 (F11_isWithin l2 0 2 q1.2).bind (fun q2 =>
 if q2.1 = 0 then (
 F11_feature_16 q2.2) else (
 g_ ((0 : Int) ≤ l1 ∧ l1 < (16 : Int)) (
 g_ ((0 : Int) ≤ l2 ∧ l2 < (3 : Int)) (
 lt_ (q2.2.1 28 l1 l2) (fun x3 =>
 g_ ((0 : Int) ≤ l1 ∧ l1 < (16 : Int)) (
 g_ ((0 : Int) ≤ l2 ∧ l2 < (3 : Int)) (
 g_ (l3 = 0 ∨ l3 = 1) (lt_ (sI q2.2 28 l1 l2 l3) (fun h4 =>
 if x3 = 0 then (
 some (0, h4)) else (
 some (1, h4)))))))))))))
-- X11_firstWaiting
def F11_firstWaiting_57 (k4 : Option Int → Option Int → Int → JM → Option (Option Int × JM)) (l1 : Option Int) (l2 : Option Int) (l3 : Int) (h : JM) : Option (Option Int × JM) :=
 k4 l1 l2 (w32 (l3 + 1)) h
def F11_firstWaiting_54 (k4 : Option Int → Option Int → Int → JM → Option (Option Int × JM)) (l1 : Option Int) (l3 : Int) (l4 : Option Int) (h : JM) : Option (Option Int × JM) :=
 F11_firstWaiting_57 k4 l1 l4 l3 h
def F11_firstWaiting_4b (k4 : Option Int → Option Int → Int → JM → Option (Option Int × JM)) (l1 : Option Int) (l2 : Option Int) (l3 : Int) (h : JM) : Option (Option Int × JM) :=
 if h.1 11 0 11 ≤ l3 then (
 some (l2, h)) else (
 g_ ((0 : Int) ≤ l3 ∧ l3 < (72 : Int)) (
 (h.2.2 40 0 l3).bind (fun a1 =>
 if h.1 0 a1 9 = 4 then (
 if h.2.2 0 a1 5 = l1 then (
 if l2 = none then (
 F11_firstWaiting_54 k4 l1 l3 (some a1) h) else (
 (l2).bind (fun a2 =>
 if h.1 0 a2 14 ≤ h.1 0 a1 14 then (
 F11_firstWaiting_57 k4 l1 (some a2) l3 h) else (
 F11_firstWaiting_54 k4 l1 l3 (some a1) h)))) else (
 F11_firstWaiting_57 k4 l1 l2 l3 h)) else (
 F11_firstWaiting_57 k4 l1 l2 l3 h))))
def F11_firstWaiting_4 : Nat → Option Int → Option Int → Int → JM → Option (Option Int × JM)
  | 0, _, _, _, _ => none
  | n + 1, l1, l2, l3, h => F11_firstWaiting_4b (F11_firstWaiting_4 n) l1 l2 l3 h
def F11_firstWaiting (l1 : Option Int) (h : JM) : Option (Option Int × JM) :=
 F11_firstWaiting_4 j_fu l1 none 0 h
-- X11_flash
def F11_flash (l1 : Option Int) (h : JM) : Option JM :=
 (l1).bind (fun a1 =>
 if h.2.2 4 a1 12 = none then (
 some h) else (
 lt_ (sR h 4 a1 12 (h.2.2 4 a1 11)) (fun h2 =>
 lt_ (sR h2 4 a1 11 (h.2.2 4 a1 12)) (fun h3 =>
 (h.2.2 4 a1 12).bind (fun a4 =>
 if h3.1 0 a4 9 = 2 then (
 (F11_answer (some a4) h3).bind (fun q5 =>
 (F11_endIf (some a4) q5.1 q5.2).bind (fun h6 =>
 some h6))) else (
 some h3))))))
-- X11_forward
def F11_forward_16 (h : JM) : Option (Int × JM) :=
 some ((-2), h)
def F11_forward (l1 : Int) (l2 : Int) (h : JM) : Option (Int × JM) :=
 (F11_isLine l1 h).bind (fun q1 =>
 if q1.1 = 0 then (
 F11_forward_16 q1.2) else (
 (F11_isWithin l2 0 2 q1.2).bind (fun q2 =>
 if q2.1 = 0 then (
 F11_forward_16 q2.2) else (
 g_ ((0 : Int) ≤ l1 ∧ l1 < (16 : Int)) (
 g_ ((0 : Int) ≤ l2 ∧ l2 < (3 : Int)) (
 lt_ (sL q2.2 29 l1 l2 (q2.2.2.1 11 0 9)) (fun h3 =>
 lt_ (sL h3 11 0 9 0) (fun h4 =>
 some (1, h4)))))))))
