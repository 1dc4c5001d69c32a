-- X11_group
def F11_group_25 (h : JM) : Option (Int × JM) :=
 some ((-2), h)
def F11_group (l1 : Int) (l2 : Int) (l3 : Int) (h : JM) : Option (Int × JM) :=
 (F11_isExchange l1 h).bind (fun q1 =>
 if q1.1 = 0 then (
 F11_group_25 q1.2) else (
 (F11_isWithin l2 0 2 q1.2).bind (fun q2 =>
 if q2.1 = 0 then (
 F11_group_25 q2.2) else (
 (F11_isWithin l3 0 1 q2.2).bind (fun q3 =>
 if q3.1 = 0 then (
 F11_group_25 q3.2) else (
 g_ ((0 : Int) ≤ l1 ∧ l1 < (2 : Int)) (
 g_ ((0 : Int) ≤ l2 ∧ l2 < (3 : Int)) (
 if l3 = 0 then (
 some (q3.2.1 2 (3 * l1 + l2) 3, q3.2)) else (
 some (q3.2.1 2 (3 * l1 + l2) 1, q3.2))))))))))
-- X11_hang
def F11_hang_68 (l1 : Option Int) (h : JM) : Option JM :=
 (l1).bind (fun a1 =>
 lt_ (sI h 4 a1 15 0) (fun h2 =>
 lt_ (sI h2 4 a1 16 (h2.1 11 0 10)) (fun h3 =>
 some h3)))
def F11_hang_65 (l1 : Option Int) (s0 : Option Int) (s1 : Option Int) (s2 : Int) (s3 : Int) (h : JM) : Option JM :=
 (s0).bind (fun a4 => g_ (a4 = 0) (
 (F11_end s1 s2 s3 h).bind (fun h5 =>
 F11_hang_68 l1 h5)))
def F11_hang_44 (l1 : Option Int) (l3 : Option Int) (h : JM) : Option JM :=
 if l3 = none then (
 F11_hang_68 l1 h) else (
 (l3).bind (fun a6 =>
 if h.2.2 0 a6 1 = l1 then (
 F11_hang_65 l1 (some 0) (some a6) 7 1 h) else (
 F11_hang_65 l1 (some 0) (some a6) 7 2 h)))
def F11_hang_41 (l1 : Option Int) (l3 : Option Int) (s0 : Option Int) (s1 : Option Int) (s2 : Int) (s3 : Int) (h : JM) : Option JM :=
 (s0).bind (fun a7 => g_ (a7 = 0) (
 (F11_end s1 s2 s3 h).bind (fun h8 =>
 F11_hang_44 l1 l3 h8)))
def F11_hang (l1 : Option Int) (h : JM) : Option JM :=
 (l1).bind (fun a9 =>
 lt_ (sR h 4 a9 11 none) (fun h10 =>
 lt_ (sR h10 4 a9 12 none) (fun h11 =>
 if h.2.2 4 a9 11 = none then (
 F11_hang_44 (some a9) (h.2.2 4 a9 12) h11) else (
 (h.2.2 4 a9 11).bind (fun a12 =>
 if h11.2.2 0 a12 1 = (some a9) then (
 F11_hang_41 (some a9) (h.2.2 4 a9 12) (some 0) (some a12) 7 1 h11) else (
 F11_hang_41 (some a9) (h.2.2 4 a9 12) (some 0) (some a12) 7 2 h11))))))
-- X11_heard
def F11_heard (l1 : Int) (h : JM) : Option (Int × JM) :=
 (F11_isLine l1 h).bind (fun q1 =>
 if q1.1 = 0 then (
 some ((-2), q1.2)) else (
 g_ ((0 : Int) ≤ l1 ∧ l1 < (16 : Int)) (
 some (q1.2.1 4 l1 19, q1.2))))
-- X11_hook
def F11_hook (l1 : Int) (l2 : Int) (h : JM) : Option (Int × JM) :=
 (F11_isLine l1 h).bind (fun q1 =>
 if q1.1 = 0 then (
 some ((-2), q1.2)) else (
 g_ ((0 : Int) ≤ l1 ∧ l1 < (16 : Int)) (
 lt_ (q1.2.1 4 l1 5) (fun x2 =>
 g_ ((0 : Int) ≤ l1 ∧ l1 < (16 : Int)) (
 g_ (l2 = 0 ∨ l2 = 1) (lt_ (sI q1.2 4 l1 5 l2) (fun h3 =>
 if x2 = 0 then (
 some (0, h3)) else (
 some (1, h3)))))))))
-- X11_idleAtBothEnds
def F11_idleAtBothEnds_49 (k4 : Int → Int → JM → Option (Int × JM)) (l1 : Int) (l2 : Int) (h : JM) : Option (Int × JM) :=
 k4 l1 (w32 (l2 + 1)) h
def F11_idleAtBothEnds_4b (k4 : Int → Int → JM → Option (Int × JM)) (l1 : Int) (l2 : Int) (h : JM) : Option (Int × JM) :=
 if h.1 11 0 0 ≤ l2 then (
 some (l1, h)) else (
 g_ ((0 : Int) ≤ 0 ∧ 0 < (2 : Int)) (
 g_ ((0 : Int) ≤ l2 ∧ l2 < (h.1 1020 0 1 : Int)) (
 if h.1 8 (16 * 0 + l2) 2 = 0 then (
 g_ ((0 : Int) ≤ 1 ∧ 1 < (2 : Int)) (
 g_ ((0 : Int) ≤ l2 ∧ l2 < (h.1 1020 1 1 : Int)) (
 if h.1 8 (16 * 1 + l2) 2 = 0 then (
 F11_idleAtBothEnds_49 k4 (w32 (l1 + 1)) l2 h) else (
 F11_idleAtBothEnds_49 k4 l1 l2 h)))) else (
 F11_idleAtBothEnds_49 k4 l1 l2 h))))
def F11_idleAtBothEnds_4 : Nat → Int → Int → JM → Option (Int × JM)
  | 0, _, _, _ => none
  | n + 1, l1, l2, h => F11_idleAtBothEnds_4b (F11_idleAtBothEnds_4 n) l1 l2 h
def F11_idleAtBothEnds (h : JM) : Option (Int × JM) :=
 F11_idleAtBothEnds_4 j_fu 0 0 h
-- X11_isArg
def F11_isArg_55 (h : JM) : Option (Int × JM) :=
 some (0, h)
def F11_isArg (l0 : Int) (l1 : Int) (l2 : Int) (l3 : Int) (h : JM) : Option (Int × JM) :=
 if l2 = 0 then (
 (F11_isLine l3 h).bind (fun q1 =>
 if q1.1 = 0 then (
 F11_isArg_55 q1.2) else (
 if j_div l3 8 = l0 then (
 some (1, q1.2)) else (
 F11_isArg_55 q1.2)))) else (
 if l2 = 1 then (
 (F11_isWithin l3 0 l1 h).bind (fun q2 =>
 g_ (q2.1 = 0 ∨ q2.1 = 1) (some (q2.1, q2.2)))) else (
 if l2 = 2 then (
 (F11_isWithin l3 0 l1 h).bind (fun q3 =>
 g_ (q3.1 = 0 ∨ q3.1 = 1) (some (q3.1, q3.2)))) else (
 if l2 = 3 then (
 (F11_isWithin l3 0 2 h).bind (fun q4 =>
 g_ (q4.1 = 0 ∨ q4.1 = 1) (some (q4.1, q4.2)))) else (
 if l2 = 4 then (
 (F11_isWithin l3 0 1 h).bind (fun q5 =>
 g_ (q5.1 = 0 ∨ q5.1 = 1) (some (q5.1, q5.2)))) else (
 some (0, h))))))
-- X11_isUnitToCome
def F11_isUnitToCome_24 (h : JM) : Option (Int × JM) :=
 some (0, h)
def F11_isUnitToCome (l1 : Int) (h : JM) : Option (Int × JM) :=
 if l1 < h.1 11 0 10 then (
 F11_isUnitToCome_24 h) else (
 if w32 ((h.1 11 0 10) + 100000) < l1 then (
 F11_isUnitToCome_24 h) else (
 some (1, h)))
-- X11_key
def F11_key (l1 : Int) (h : JM) : Option (Int × JM) :=
 (F11_isWithin l1 0 11 h).bind (fun q1 =>
 if q1.1 = 0 then (
 some ((-2), q1.2)) else (
 (F11_countOf (q1.2.2.1 11 0 9) q1.2).bind (fun q2 =>
 if q2.1 < 12 then (
 (F11_withKey (q2.2.2.1 11 0 9) l1 q2.2).bind (fun q3 =>
 lt_ (sL q3.2 11 0 9 q3.1) (fun h4 =>
 (F11_countOf (h4.2.1 11 0 9) h4).bind (fun q5 =>
 some (q5.1, q5.2))))) else (
 some ((-3), q2.2)))))
-- X11_keyless
def F11_keyless (h : JM) : Option (Int × JM) :=
 (F11_countOf (h.2.1 11 0 9) h).bind (fun q1 =>
 lt_ (sL q1.2 11 0 9 0) (fun h2 =>
 some (q1.1, h2)))
-- X11_makeCall
def F11_makeCall (l1 : Option Int) (h : JM) : Option (Option Int × JM) :=
 if h.1 11 0 11 < 72 then (
 g_ ((0 : Int) ≤ h.1 11 0 11 ∧ h.1 11 0 11 < (72 : Int)) (
 lt_ (sI h 11 0 11 (w32 ((h.1 11 0 11) + 1))) (fun h1 =>
 lt_ (sI h1 11 0 12 (w32 ((h1.1 11 0 12) + 1))) (fun h2 =>
 lt_ (sI h2 11 0 13 (w32 ((h2.1 11 0 13) + 1))) (fun h3 =>
 (h.2.2 40 0 (h.1 11 0 11)).bind (fun a4 =>
 (F0_begin a4 l1 (h3.1 11 0 10) h3).bind (fun h5 =>
 some ((some a4), h5)))))))) else (
 some (none, h))
-- X11_lift
def F11_lift (l1 : Option Int) (h : JM) : Option JM :=
 (l1).bind (fun a1 =>
 lt_ (sI h 4 a1 7 0) (fun h2 =>
 if h2.2.2 4 a1 13 = none then (
 g_ ((0 : Int) ≤ j_div (h2.1 4 a1 0) 8 ∧ j_div (h2.1 4 a1 0) 8 < (2 : Int)) (
 (F11_makeCall (some (j_div (h2.1 4 a1 0) 8)) h2).bind (fun q3 =>
 if q3.1 = none then (
 some q3.2) else (
 (q3.1).bind (fun a4 =>
 lt_ (sR q3.2 0 a4 1 (some a1)) (fun h5 =>
 lt_ (sR h5 4 a1 11 (some a4)) (fun h6 =>
 some h6))))))) else (
 lt_ (sR h2 4 a1 13 none) (fun h7 =>
 lt_ (sR h7 4 a1 11 (h2.2.2 4 a1 13)) (fun h8 =>
 (F11_answer (h2.2.2 4 a1 13) h8).bind (fun q9 =>
 (F11_endIf (h2.2.2 4 a1 13) q9.1 q9.2).bind (fun h10 =>
 some h10)))))))
-- X11_line
def F11_line (l1 : Int) (l2 : Int) (h : JM) : Option (Int × JM) :=
 (F11_isLine l1 h).bind (fun q1 =>
 if q1.1 = 0 then (
 some ((-2), q1.2)) else (
 g_ ((0 : Int) ≤ l1 ∧ l1 < (16 : Int)) (
 if l2 = 0 then (
 if q1.2.1 4 l1 6 = 0 then (
 some (0, q1.2)) else (
 some (1, q1.2))) else (
 if l2 = 1 then (
 (F4_sound l1 q1.2).bind (fun q2 =>
 some (q2.1, q2.2))) else (
 if l2 = 2 then (
 if q1.2.2.2 4 l1 11 = none then (
 some ((-1), q1.2)) else (
 (q1.2.2.2 4 l1 11).bind (fun a3 =>
 some (q1.2.1 0 a3 9, q1.2)))) else (
 if l2 = 3 then (
 if q1.2.2.2 4 l1 12 = none then (
 some (0, q1.2)) else (
 (q1.2.2.2 4 l1 12).bind (fun a4 =>
 if q1.2.1 0 a4 9 = 2 then (
 some (1, q1.2)) else (
 some (2, q1.2))))) else (
 if l2 = 4 then (
 some (q1.2.1 4 l1 14, q1.2)) else (
 if l2 = 5 then (
 if q1.2.1 4 l1 7 = 0 then (
 some (0, q1.2)) else (
 some (1, q1.2))) else (
 if l2 = 6 then (
 some (q1.2.1 4 l1 17, q1.2)) else (
 if l2 = 7 then (
 if q1.2.2.2 4 l1 11 = none then (
 some (0, q1.2)) else (
 (q1.2.2.2 4 l1 11).bind (fun a5 =>
 (F11_countOf (q1.2.2.1 0 a5 8) q1.2).bind (fun q6 =>
 some (q6.1, q6.2))))) else (
 if l2 = 8 then (
 some (q1.2.1 4 l1 4, q1.2)) else (
 some ((-2), q1.2)))))))))))))
-- X11_link
def F11_link (l1 : Int) (l2 : Int) (h : JM) : Option (Int × JM) :=
 (F11_isExchange l1 h).bind (fun q1 =>
 if q1.1 = 0 then (
 some ((-2), q1.2)) else (
 g_ ((0 : Int) ≤ l1 ∧ l1 < (2 : Int)) (
 if l2 = 0 then (
 some (q1.2.1 5 l1 0, q1.2)) else (
 if l2 = 1 then (
 some (q1.2.1 5 l1 1, q1.2)) else (
 if l2 = 2 then (
 some (q1.2.1 5 l1 2, q1.2)) else (
 if l2 = 3 then (
 some (q1.2.1 5 l1 4, q1.2)) else (
 if l2 = 4 then (
 some (q1.2.1 5 l1 5, q1.2)) else (
 if l2 = 5 then (
 some (q1.2.1 5 l1 6, q1.2)) else (
 if l2 = 6 then (
 some (q1.2.1 5 l1 7, q1.2)) else (
 some ((-2), q1.2)))))))))))
-- X11_lose
def F11_lose_15 (h : JM) : Option (Int × JM) :=
 some ((-2), h)
def F11_lose (l1 : Int) (l2 : Int) (h : JM) : Option (Int × JM) :=
 (F11_isExchange l1 h).bind (fun q1 =>
 if q1.1 = 0 then (
 F11_lose_15 q1.2) else (
 (F11_isUnitToCome l2 q1.2).bind (fun q2 =>
 if q2.1 = 0 then (
 F11_lose_15 q2.2) else (
 (F7_add 1 l1 l2 0 q2.2).bind (fun q3 =>
 some (q3.1, q3.2))))))
-- X11_member
def F11_member_56 (h : JM) : Option (Int × JM) :=
 some ((-2), h)
def F11_member_16 (h : JM) : Option (Int × JM) :=
 some ((-2), h)
def F11_member (l1 : Int) (l2 : Int) (h : JM) : Option (Int × JM) :=
 (F11_isWithin l1 0 2 h).bind (fun q1 =>
 if q1.1 = 0 then (
 F11_member_16 q1.2) else (
 (F11_isLine l2 q1.2).bind (fun q2 =>
 if q2.1 = 0 then (
 F11_member_16 q2.2) else (
 g_ ((0 : Int) ≤ j_div l2 8 ∧ j_div l2 8 < (2 : Int)) (
 g_ ((0 : Int) ≤ l1 ∧ l1 < (3 : Int)) (
 if 8 ≤ q2.2.1 2 (3 * (j_div l2 8) + l1) 1 then (
 F11_member_56 q2.2) else (
 g_ ((0 : Int) ≤ l2 ∧ l2 < (16 : Int)) (
 (F2_has (3 * (j_div l2 8) + l1) (some l2) q2.2).bind (fun q3 =>
 if q3.1 = 0 then (
 g_ ((0 : Int) ≤ l2 ∧ l2 < (16 : Int)) (
 g_ ((0 : Int) ≤ q3.2.1 2 (3 * (j_div l2 8) + l1) 1 ∧ q3.2.1 2 (3 * (j_div l2 8) + l1) 1 < (8 : Int)) (
 lt_ (sR q3.2 25 (3 * (j_div l2 8) + l1) (q3.2.1 2 (3 * (j_div l2 8) + l1) 1) (some l2)) (fun h4 =>
 lt_ (sI h4 2 (3 * (j_div l2 8) + l1) 1 (w32 ((h4.1 2 (3 * (j_div l2 8) + l1) 1) + 1))) (fun h5 =>
 some (h5.1 2 (3 * (j_div l2 8) + l1) 1, h5)))))) else (
 F11_member_56 q3.2))))))))))
-- X11_sideNumber
def F11_sideNumber (l0 : Option Int) (l1 : Option Int) (h : JM) : Option (Int × JM) :=
 if l0 = none then (
 if l1 = none then (
 some ((-1), h)) else (
 (l1).bind (fun a1 =>
 some (w32 (100 + (h.1 8 a1 0)), h)))) else (
 (l0).bind (fun a2 =>
 some (h.1 4 a2 0, h)))
-- X11_partner
def F11_partner_32 (h : JM) : Option (Int × JM) :=
 some ((-1), h)
def F11_partner (l1 : Int) (h : JM) : Option (Int × JM) :=
 (F11_isLine l1 h).bind (fun q1 =>
 if q1.1 = 0 then (
 some ((-2), q1.2)) else (
 g_ ((0 : Int) ≤ l1 ∧ l1 < (16 : Int)) (
 if q1.2.2.2 4 l1 11 = none then (
 F11_partner_32 q1.2) else (
 (q1.2.2.2 4 l1 11).bind (fun a2 =>
 if q1.2.1 0 a2 9 = 3 then (
 g_ ((0 : Int) ≤ l1 ∧ l1 < (16 : Int)) (
 if q1.2.2.2 0 a2 1 = (some l1) then (
 if q1.2.1 0 a2 6 = (-1) then (
 (F11_sideNumber (q1.2.2.2 0 a2 3) (q1.2.2.2 0 a2 4) q1.2).bind (fun q3 =>
 some (q3.1, q3.2))) else (
 some (w32 (200 + (q1.2.1 0 a2 6)), q1.2))) else (
 (F11_sideNumber (q1.2.2.2 0 a2 1) (q1.2.2.2 0 a2 2) q1.2).bind (fun q4 =>
 some (q4.1, q4.2))))) else (
 F11_partner_32 q1.2))))))
-- X11_plan
def F11_plan_53 (h : JM) : Option (Int × JM) :=
 some ((-2), h)
def F11_plan (l1 : Int) (l2 : Int) (l3 : Int) (l4 : Int) (l5 : Int) (h : JM) : Option (Int × JM) :=
 (F11_countOf (h.2.1 11 0 9) h).bind (fun q1 =>
 (F11_isExchange l1 q1.2).bind (fun q2 =>
 if q2.1 = 0 then (
 F11_plan_53 q2.2) else (
 if q1.1 = 0 then (
 F11_plan_53 q2.2) else (
 (F11_isWithin l2 q1.1 12 q2.2).bind (fun q3 =>
 if q3.1 = 0 then (
 F11_plan_53 q3.2) else (
 (F11_isWithin l5 0 3 q3.2).bind (fun q4 =>
 if q4.1 = 0 then (
 F11_plan_53 q4.2) else (
 (F11_isArg l1 l2 l3 l4 q4.2).bind (fun q5 =>
 if q5.1 = 0 then (
 F11_plan_53 q5.2) else (
 g_ ((0 : Int) ≤ l1 ∧ l1 < (2 : Int)) (
 (F1_hasPrefix l1 (q5.2.2.1 11 0 9) q5.2).bind (fun q6 =>
 if q6.1 = 0 then (
 if q6.2.1 1 l1 4 < 24 then (
 g_ (¬ q6.2.1 1006 (24 * l1 + (q6.2.1 1 l1 4)) 0 = 1) (lt_ (j_nw q6.2 6 (24 * l1 + (q6.2.1 1 l1 4)) 0) (fun h7 =>
 (F6_init (24 * l1 + (q6.2.1 1 l1 4)) (h7.2.1 11 0 9) l2 l3 l4 l5 h7).bind (fun h8 =>
 g_ ((0 : Int) ≤ q6.2.1 1 l1 4 ∧ q6.2.1 1 l1 4 < (24 : Int)) (
 lt_ (sR h8 22 l1 (q6.2.1 1 l1 4) (some (24 * l1 + (q6.2.1 1 l1 4)))) (fun h9 =>
 lt_ (sI h9 1 l1 4 (w32 ((h9.1 1 l1 4) + 1))) (fun h10 =>
 lt_ (sL h10 11 0 9 0) (fun h11 =>
 some (w32 ((h11.1 1 l1 4) - 1), h11))))))))) else (
 some ((-3), q6.2))) else (
 some ((-2), q6.2))))))))))))))
-- X11_record
def F11_record (l1 : Int) (l2 : Int) (h : JM) : Option (Int × JM) :=
 (F11_isWithin l2 0 4 h).bind (fun q1 =>
 if q1.1 = 0 then (
 some ((-2), q1.2)) else (
 (F3_read l1 l2 q1.2).bind (fun q2 =>
 some (q2.1, q2.2))))
-- X11_room
def F11_room_16 (h : JM) : Option (Int × JM) :=
 some ((-2), h)
def F11_room (l1 : Int) (l2 : Int) (h : JM) : Option (Int × JM) :=
 (F11_isExchange l1 h).bind (fun q1 =>
 if q1.1 = 0 then (
 F11_room_16 q1.2) else (
 (F11_isWithin l2 0 1 q1.2).bind (fun q2 =>
 if q2.1 = 0 then (
 F11_room_16 q2.2) else (
 g_ ((0 : Int) ≤ l1 ∧ l1 < (2 : Int)) (
 g_ ((0 : Int) ≤ l2 ∧ l2 < (2 : Int)) (
 some (q2.2.1 23 l1 l2, q2.2)))))))
-- X11_say
def F11_say_20 (h : JM) : Option (Int × JM) :=
 some ((-2), h)
def F11_say (l1 : Int) (l2 : Int) (h : JM) : Option (Int × JM) :=
 (F11_isLine l1 h).bind (fun q1 =>
 if q1.1 = 0 then (
 F11_say_20 q1.2) else (
 (F11_isWithin l2 (-8000) 8000 q1.2).bind (fun q2 =>
 if q2.1 = 0 then (
 F11_say_20 q2.2) else (
 g_ ((0 : Int) ≤ l1 ∧ l1 < (16 : Int)) (
 lt_ (q2.2.1 4 l1 18) (fun x3 =>
 g_ ((0 : Int) ≤ l1 ∧ l1 < (16 : Int)) (
 lt_ (sI q2.2 4 l1 18 l2) (fun h4 =>
 some (x3, h4)))))))))
-- X11_sendUnits
def F11_sendUnits_164 (k2 : Int → JM → Option JM) (l1 : Int) (h : JM) : Option JM :=
 k2 (w32 (l1 + 1)) h
def F11_sendUnits_131 (k2 : Int → JM → Option JM) (l1 : Int) (l4 : Option Int) (h : JM) : Option JM :=
 (F7_concern 1 l1 (h.1 11 0 10) h).bind (fun q1 =>
 if q1.1 = 0 then (
 F11_sendUnits_164 k2 l1 q1.2) else (
 (F7_forget 1 l1 (q1.2.1 11 0 10) q1.2).bind (fun h2 =>
 (l4).bind (fun a3 =>
 lt_ (sI h2 9 a3 5 2) (fun h4 =>
 F11_sendUnits_164 k2 l1 h4)))))
def F11_sendUnits_128 (k2 : Int → JM → Option JM) (l1 : Int) (l4 : Option Int) (s0 : Option Int) (s1 : Int) (h : JM) : Option JM :=
 (s0).bind (fun a5 =>
 lt_ (sI h 9 a5 5 s1) (fun h6 =>
 F11_sendUnits_131 k2 l1 l4 h6))
def F11_sendUnits_2b (k2 : Int → JM → Option JM) (l1 : Int) (h : JM) : Option JM :=
 if 2 ≤ l1 then (
 some h) else (
 g_ ((0 : Int) ≤ l1 ∧ l1 < (2 : Int)) (
 g_ ((0 : Int) ≤ j_rem (h.1 11 0 10) 64 ∧ j_rem (h.1 11 0 10) 64 < (64 : Int)) (
 (F5_fill l1 (some (64 * l1 + (j_rem (h.1 11 0 10) 64))) h).bind (fun h7 =>
 g_ ((0 : Int) ≤ j_and (h7.1 11 0 10) 1 ∧ j_and (h7.1 11 0 10) 1 < (2 : Int)) (
 (F9_copyOf (128 + 2 * l1 + (j_and (h7.1 11 0 10) 1)) (some (64 * l1 + (j_rem (h.1 11 0 10) 64))) h7).bind (fun h8 =>
 (F7_concern 0 l1 (h8.1 11 0 10) h8).bind (fun q9 =>
 if q9.1 = 0 then (
 F11_sendUnits_131 k2 l1 (some (128 + 2 * l1 + (j_and (h7.1 11 0 10) 1))) q9.2) else (
 (F10_write (some (64 * l1 + (j_rem (h.1 11 0 10) 64))) q9.2).bind (fun h10 =>
 (F7_turn 0 l1 (h10.1 11 0 10) (some 0) h10).bind (fun h11 =>
 (F7_forget 0 l1 (h11.1 11 0 10) h11).bind (fun h12 =>
 (F10_read (some (128 + 2 * l1 + (j_and (h7.1 11 0 10) 1))) (h12.1 11 0 0) h12).bind (fun q13 =>
 if q13.1 = 0 then (
 F11_sendUnits_128 k2 l1 (some (128 + 2 * l1 + (j_and (h7.1 11 0 10) 1))) (some (128 + 2 * l1 + (j_and (h7.1 11 0 10) 1))) 1 q13.2) else (
 F11_sendUnits_128 k2 l1 (some (128 + 2 * l1 + (j_and (h7.1 11 0 10) 1))) (some (128 + 2 * l1 + (j_and (h7.1 11 0 10) 1))) 0 q13.2)))))))))))))
def F11_sendUnits_2 : Nat → Int → JM → Option JM
  | 0, _, _ => none
  | n + 1, l1, h => F11_sendUnits_2b (F11_sendUnits_2 n) l1 h
def F11_sendUnits (h : JM) : Option JM :=
 F11_sendUnits_2 j_fu 0 h
-- X11_serveGroups
def F11_serveGroups_89 (k2 : Int → JM → Option JM) (l1 : Int) (h : JM) : Option JM :=
 k2 (w32 (l1 + 1)) h
def F11_serveGroups_26b (k2 : Int → JM → Option JM) (k26 : Int → Option Int → Int → JM → Option JM) (l1 : Int) (l2 : Option Int) (l3 : Int) (h : JM) : Option JM :=
 if 8 ≤ l3 then (
 F11_serveGroups_89 k2 l1 h) else (
 (l2).bind (fun a1 =>
 if h.1 2 a1 3 ≤ 0 then (
 F11_serveGroups_89 k2 l1 h) else (
 (F2_nextMember a1 h).bind (fun q2 =>
 (F11_firstWaiting (some a1) q2.2).bind (fun q3 =>
 if q2.1 = none then (
 F11_serveGroups_89 k2 l1 q3.2) else (
 if q3.1 = none then (
 F11_serveGroups_89 k2 l1 q3.2) else (
 lt_ (sI q3.2 2 a1 3 (w32 ((q3.2.1 2 a1 3) - 1))) (fun h4 =>
 (F11_ring q3.1 q2.1 h4).bind (fun h5 =>
 k26 l1 (some a1) (w32 (l3 + 1)) h5)))))))))
def F11_serveGroups_26 (k2 : Int → JM → Option JM) : Nat → Int → Option Int → Int → JM → Option JM
  | 0, _, _, _, _ => none
  | n + 1, l1, l2, l3, h => F11_serveGroups_26b k2 (F11_serveGroups_26 k2 n) l1 l2 l3 h
def F11_serveGroups_2b (k2 : Int → JM → Option JM) (l1 : Int) (h : JM) : Option JM :=
 if 6 ≤ l1 then (
 some h) else (
 g_ ((0 : Int) ≤ j_div l1 3 ∧ j_div l1 3 < (2 : Int)) (
 g_ ((0 : Int) ≤ j_rem l1 3 ∧ j_rem l1 3 < (3 : Int)) (
 F11_serveGroups_26 k2 j_fu l1 (some (3 * (j_div l1 3) + (j_rem l1 3))) 0 h)))
def F11_serveGroups_2 : Nat → Int → JM → Option JM
  | 0, _, _ => none
  | n + 1, l1, h => F11_serveGroups_2b (F11_serveGroups_2 n) l1 h
def F11_serveGroups (h : JM) : Option JM :=
 F11_serveGroups_2 j_fu 0 h
-- X11_speech
def F11_speech (l1 : Int) (l2 : Int) (h : JM) : Option (Int × JM) :=
 (F11_isTrunk l1 l2 h).bind (fun q1 =>
 if q1.1 = 0 then (
 some ((-2), q1.2)) else (
 g_ ((0 : Int) ≤ l1 ∧ l1 < (2 : Int)) (
 g_ ((0 : Int) ≤ l2 ∧ l2 < (q1.2.1 1020 l1 1 : Int)) (
 some (q1.2.1 8 (16 * l1 + l2) 4, q1.2)))))
-- X11_spoil
def F11_spoil_26 (h : JM) : Option (Int × JM) :=
 some ((-2), h)
def F11_spoil (l1 : Int) (l2 : Int) (l3 : Int) (h : JM) : Option (Int × JM) :=
 (F11_isExchange l1 h).bind (fun q1 =>
 if q1.1 = 0 then (
 F11_spoil_26 q1.2) else (
 (F11_isUnitToCome l2 q1.2).bind (fun q2 =>
 if q2.1 = 0 then (
 F11_spoil_26 q2.2) else (
 (F11_isWithin l3 0 255 q2.2).bind (fun q3 =>
 if q3.1 = 0 then (
 F11_spoil_26 q3.2) else (
 (F7_add 0 l1 l2 l3 q3.2).bind (fun q4 =>
 some (q4.1, q4.2))))))))
-- X11_sweepCalls
def F11_sweepCalls_61 (k16 : Int → Int → JM → Option JM) (l1 : Int) (l2 : Int) (h : JM) : Option JM :=
 k16 l1 (w32 (l2 + 1)) h
def F11_sweepCalls_16b (k16 : Int → Int → JM → Option JM) (l1 : Int) (l2 : Int) (h : JM) : Option JM :=
 if h.1 11 0 11 ≤ l2 then (
 lt_ (sI h 11 0 11 l1) (fun h1 =>
 some h1)) else (
 g_ ((0 : Int) ≤ l2 ∧ l2 < (72 : Int)) (
 (h.2.2 40 0 l2).bind (fun a2 =>
 if h.1 0 a2 9 = (-1) then (
 F11_sweepCalls_61 k16 l1 l2 h) else (
 g_ ((0 : Int) ≤ l1 ∧ l1 < (72 : Int)) (
 g_ ((0 : Int) ≤ l2 ∧ l2 < (72 : Int)) (
 lt_ (sR h 40 0 l2 (h.2.2 40 0 l1)) (fun h3 =>
 g_ ((0 : Int) ≤ l1 ∧ l1 < (72 : Int)) (
 lt_ (sR h3 40 0 l1 (some a2)) (fun h4 =>
 F11_sweepCalls_61 k16 (w32 (l1 + 1)) l2 h4)))))))))
def F11_sweepCalls_16 : Nat → Int → Int → JM → Option JM
  | 0, _, _, _ => none
  | n + 1, l1, l2, h => F11_sweepCalls_16b (F11_sweepCalls_16 n) l1 l2 h
def F11_sweepCalls (h : JM) : Option JM :=
 if h.1 11 0 11 = h.1 11 0 13 then (
 some h) else (
 F11_sweepCalls_16 j_fu 0 0 h)
-- X11_takeIam
def F11_takeIam_63 (l1 : Option Int) (l2 : Option Int) (l3 : Int) (h : JM) : Option JM :=
 (l2).bind (fun a1 =>
 lt_ (sI h 8 a1 2 2) (fun h2 =>
 (F11_makeCall l1 h2).bind (fun q3 =>
 if q3.1 = none then (
 some q3.2) else (
 lt_ (sR q3.2 8 a1 3 q3.1) (fun h4 =>
 (q3.1).bind (fun a5 =>
 lt_ (sR h4 0 a5 2 (some a1)) (fun h6 =>
 (F9_forwardsOf l3 h6).bind (fun q7 =>
 lt_ (sI q7.2 0 a5 12 q7.1) (fun h8 =>
 (F9_keysOf l3 h8).bind (fun q9 =>
 lt_ (sL q9.2 0 a5 8 q9.1) (fun h10 =>
 (l1).bind (fun a11 =>
 (F1_analyse a11 (h10.2.1 0 a5 8) h10).bind (fun q12 =>
 if 0 ≤ q12.1 then (
 g_ ((0 : Int) ≤ q12.1 ∧ q12.1 < (24 : Int)) (
 lt_ (sR q12.2 0 a5 7 (q12.2.2.2 22 a11 q12.1)) (fun h13 =>
 (F11_place (some a5) (-1) h13).bind (fun h14 =>
 some h14)))) else (
 (F11_end (some a5) 1 0 q12.2).bind (fun h15 =>
 some h15)))))))))))))))
def F11_takeIam_55 (l1 : Option Int) (l2 : Option Int) (l3 : Int) (h : JM) : Option JM :=
 (l2).bind (fun a16 =>
 if h.1 8 a16 2 = 0 then (
 F11_takeIam_63 l1 (some a16) l3 h) else (
 some h))
def F11_takeIam (l1 : Option Int) (l2 : Option Int) (l3 : Int) (h : JM) : Option JM :=
 (l2).bind (fun a17 =>
 if h.1 8 a17 2 = 1 then (
 (F8_isSent a17 h).bind (fun q18 =>
 if q18.1 = 0 then (
 F11_takeIam_55 l1 (some a17) l3 q18.2) else (
 (l1).bind (fun a19 =>
 if j_rem (q18.2.1 8 a17 0) 2 = q18.2.1 1 a19 0 then (
 F11_takeIam_55 (some a19) (some a17) l3 q18.2) else (
 lt_ (sR q18.2 8 a17 3 none) (fun h20 =>
 (q18.2.2.2 8 a17 3).bind (fun a21 =>
 lt_ (sR h20 0 a21 4 none) (fun h22 =>
 (F11_place (some a21) (-1) h22).bind (fun h23 =>
 F11_takeIam_63 (some a19) (some a17) l3 h23))))))))) else (
 F11_takeIam_55 l1 (some a17) l3 h))
-- X11_takeKey
def F11_takeKey (l1 : Option Int) (l2 : Int) (h : JM) : Option JM :=
 (l1).bind (fun a1 =>
 if h.2.2 4 a1 11 = none then (
 some h) else (
 (h.2.2 4 a1 11).bind (fun a2 =>
 if h.1 0 a2 9 = 0 then (
 (F11_countOf (h.2.1 0 a2 8) h).bind (fun q3 =>
 if q3.1 < 12 then (
 (F11_withKey (q3.2.2.1 0 a2 8) l2 q3.2).bind (fun q4 =>
 lt_ (sL q4.2 0 a2 8 q4.1) (fun h5 =>
 lt_ (sI h5 0 a2 10 (h5.1 11 0 10)) (fun h6 =>
 (h6.2.2 0 a2 0).bind (fun a7 =>
 (F1_analyse a7 (h6.2.1 0 a2 8) h6).bind (fun q8 =>
 if q8.1 = (-2) then (
 (F11_end (some a2) 1 0 q8.2).bind (fun h14 =>
 some h14)) else (
 if q8.1 = (-1) then (
 some q8.2) else (
 (q8.2.2.2 0 a2 0).bind (fun a9 =>
 g_ ((0 : Int) ≤ q8.1 ∧ q8.1 < (24 : Int)) (
 lt_ (sR q8.2 0 a2 7 (q8.2.2.2 22 a9 q8.1)) (fun h10 =>
 (h10.2.2 0 a2 7).bind (fun a11 =>
 lt_ (sI h10 0 a2 11 (h10.1 6 a11 4)) (fun h12 =>
 (F11_place (some a2) (-1) h12).bind (fun h13 =>
 some h13)))))))))))))) else (
 some q3.2))) else (
 some h))))
-- X11_takeRelease
def F11_takeRelease_72 (s0 : Option Int) (s1 : Option Int) (s2 : Int) (s3 : Int) (h : JM) : Option JM :=
 (s0).bind (fun a1 => g_ (a1 = 0) (
 (F11_end s1 s2 s3 h).bind (fun h2 =>
 some h2)))
def F11_takeRelease (l1 : Option Int) (l2 : Option Int) (l3 : Int) (h : JM) : Option JM :=
 (l2).bind (fun a3 =>
 if h.1 8 a3 2 = 0 then (
 some h) else (
 (l1).bind (fun a4 =>
 (F9_pack 5 (h.1 8 a3 0) 0 h).bind (fun q5 =>
 (F5_post a4 q5.1 q5.2).bind (fun h6 =>
 if h6.1 8 a3 2 = 3 then (
 some h6) else (
 lt_ (sI h6 8 a3 2 0) (fun h7 =>
 lt_ (sR h7 8 a3 3 none) (fun h8 =>
 if h6.2.2 8 a3 3 = none then (
 some h8) else (
 (h6.2.2 8 a3 3).bind (fun a9 =>
 if h8.2.2 0 a9 2 = (some a3) then (
 F11_takeRelease_72 (some 0) (some a9) l3 1 h8) else (
 F11_takeRelease_72 (some 0) (some a9) l3 2 h8)))))))))))
-- X11_takeSignal
def F11_takeSignal_102 (l5 : Option Int) (h : JM) : Option JM :=
 (F11_answer l5 h).bind (fun q1 =>
 (F11_endIf l5 q1.1 q1.2).bind (fun h2 =>
 some h2))
def F11_takeSignal (l1 : Option Int) (l2 : Option Int) (l3 : Int) (h : JM) : Option JM :=
 (l2).bind (fun a3 =>
 (F9_typeOf l3 h).bind (fun q4 =>
 if q4.1 = 2 then (
 if q4.2.1 8 a3 2 = 1 then (
 (F8_isSent a3 q4.2).bind (fun q5 =>
 if q5.1 = 0 then (
 some q5.2) else (
 (F11_enter (h.2.2 8 a3 3) 2 q5.2).bind (fun h6 =>
 (F11_announce (h.2.2 8 a3 3) h6).bind (fun h7 =>
 some h7))))) else (
 some q4.2)) else (
 if q4.1 = 3 then (
 if q4.2.1 8 a3 2 = 1 then (
 if h.2.2 8 a3 3 = none then (
 some q4.2) else (
 (h.2.2 8 a3 3).bind (fun a8 =>
 if q4.2.1 0 a8 9 = 1 then (
 F11_takeSignal_102 (some a8) q4.2) else (
 if q4.2.1 0 a8 9 = 2 then (
 F11_takeSignal_102 (some a8) q4.2) else (
 some q4.2))))) else (
 some q4.2)) else (
 if q4.1 = 4 then (
 (F9_causeOf l3 q4.2).bind (fun q9 =>
 (F11_takeRelease l1 (some a3) q9.1 q9.2).bind (fun h10 =>
 some h10))) else (
 if q4.1 = 5 then (
 if q4.2.1 8 a3 2 = 3 then (
 lt_ (sI q4.2 8 a3 2 0) (fun h11 =>
 some h11)) else (
 some q4.2)) else (
 some q4.2))))))
-- X11_takeUnits
def F11_takeUnits_129 (k2 : Int → JM → Option JM) (l1 : Int) (h : JM) : Option JM :=
 k2 (w32 (l1 + 1)) h
def F11_takeUnits_2b (k2 : Int → JM → Option JM) (l1 : Int) (h : JM) : Option JM :=
 if 2 ≤ l1 then (
 some h) else (
 g_ ((0 : Int) ≤ w32 (1 - l1) ∧ w32 (1 - l1) < (2 : Int)) (
 g_ ((0 : Int) ≤ j_and (h.1 11 0 10) 1 ∧ j_and (h.1 11 0 10) 1 < (2 : Int)) (
 g_ ((0 : Int) ≤ l1 ∧ l1 < (2 : Int)) (
 (F5_take l1 (some (128 + 2 * (w32 (1 - l1)) + (j_and (h.1 11 0 10) 1))) h).bind (fun q1 =>
 if j_lcmp q1.1 (-1) = 0 then (
 F11_takeUnits_129 k2 l1 q1.2) else (
 if j_lcmp q1.1 0 = 0 then (
 F11_takeUnits_129 k2 l1 q1.2) else (
 (F9_circuitOf q1.1 q1.2).bind (fun q2 =>
 if q2.1 < q2.2.1 11 0 0 then (
 g_ ((0 : Int) ≤ l1 ∧ l1 < (2 : Int)) (
 g_ ((0 : Int) ≤ q2.1 ∧ q2.1 < (q2.2.1 1020 l1 1 : Int)) (
 (F9_typeOf q1.1 q2.2).bind (fun q3 =>
 if q3.1 = 1 then (
 g_ ((0 : Int) ≤ l1 ∧ l1 < (2 : Int)) (
 (F11_takeIam (some l1) (some (16 * l1 + q2.1)) q1.1 q3.2).bind (fun h5 =>
 F11_takeUnits_129 k2 l1 h5))) else (
 g_ ((0 : Int) ≤ l1 ∧ l1 < (2 : Int)) (
 (F11_takeSignal (some l1) (some (16 * l1 + q2.1)) q1.1 q3.2).bind (fun h4 =>
 F11_takeUnits_129 k2 l1 h4))))))) else (
 F11_takeUnits_129 k2 l1 q2.2)))))))))
def F11_takeUnits_2 : Nat → Int → JM → Option JM
  | 0, _, _ => none
  | n + 1, l1, h => F11_takeUnits_2b (F11_takeUnits_2 n) l1 h
def F11_takeUnits (h : JM) : Option JM :=
 F11_takeUnits_2 j_fu 0 h
-- X11_tariff
def F11_tariff_55 (h : JM) : Option (Int × JM) :=
 some ((-2), h)
def F11_tariff (l1 : Int) (l2 : Int) (l3 : Int) (l4 : Int) (l5 : Int) (h : JM) : Option (Int × JM) :=
 (F11_isWithin l1 0 3 h).bind (fun q1 =>
 if q1.1 = 0 then (
 F11_tariff_55 q1.2) else (
 (F11_isWithin l2 0 10000 q1.2).bind (fun q2 =>
 if q2.1 = 0 then (
 F11_tariff_55 q2.2) else (
 (F11_isWithin l3 1 1000 q2.2).bind (fun q3 =>
 if q3.1 = 0 then (
 F11_tariff_55 q3.2) else (
 (F11_isWithin l4 0 200 q3.2).bind (fun q4 =>
 if q4.1 = 0 then (
 F11_tariff_55 q4.2) else (
 (F11_isWithin l5 0 200 q4.2).bind (fun q5 =>
 if q5.1 = 0 then (
 F11_tariff_55 q5.2) else (
 (F3_setTariff l1 l2 l3 l4 l5 q5.2).bind (fun h6 =>
 some (1, h6))))))))))))
-- X11_watchLines
def F11_watchLines_75 (k2 : Int → JM → Option JM) (l1 : Int) (h : JM) : Option JM :=
 k2 (w32 (l1 + 1)) h
def F11_watchLines_56 (k2 : Int → JM → Option JM) (l1 : Int) (l2 : Option Int) (h : JM) : Option JM :=
 (l2).bind (fun a1 =>
 (F4_keyOfThisTick a1 h).bind (fun q2 =>
 if q2.1 = (-1) then (
 F11_watchLines_75 k2 l1 q2.2) else (
 (F11_takeKey (some a1) q2.1 q2.2).bind (fun h3 =>
 F11_watchLines_75 k2 l1 h3))))
def F11_watchLines_2b (k2 : Int → JM → Option JM) (l1 : Int) (h : JM) : Option JM :=
 if 16 ≤ l1 then (
 some h) else (
 g_ ((0 : Int) ≤ l1 ∧ l1 < (16 : Int)) (
 (F4_lookAtLoop l1 h).bind (fun q4 =>
 if q4.1 = 1 then (
 (F11_lift (some l1) q4.2).bind (fun h7 =>
 F11_watchLines_75 k2 l1 h7)) else (
 if q4.1 = 2 then (
 (F11_hang (some l1) q4.2).bind (fun h6 =>
 F11_watchLines_75 k2 l1 h6)) else (
 if q4.1 = 3 then (
 (F11_flash (some l1) q4.2).bind (fun h5 =>
 F11_watchLines_56 k2 l1 (some l1) h5)) else (
 F11_watchLines_56 k2 l1 (some l1) q4.2))))))
def F11_watchLines_2 : Nat → Int → JM → Option JM
  | 0, _, _ => none
  | n + 1, l1, h => F11_watchLines_2b (F11_watchLines_2 n) l1 h
def F11_watchLines (h : JM) : Option JM :=
 F11_watchLines_2 j_fu 0 h
-- X11_tick
def F11_tick_30b (k30 : Int → Int → JM → Option (Int × JM)) (l1 : Int) (l2 : Int) (h : JM) : Option (Int × JM) :=
 if l1 ≤ l2 then (
 some (h.1 11 0 10, h)) else (
 (F11_takeUnits h).bind (fun h1 =>
 (F11_watchLines h1).bind (fun h2 =>
 (F11_checkTimes h2).bind (fun h3 =>
 (F11_serveGroups h3).bind (fun h4 =>
 (F11_carrySpeech h4).bind (fun h5 =>
 (F11_sendUnits h5).bind (fun h6 =>
 (F11_sweepCalls h6).bind (fun h7 =>
 lt_ (sI h7 11 0 10 (w32 ((h7.1 11 0 10) + 1))) (fun h8 =>
 k30 l1 (w32 (l2 + 1)) h8)))))))))
def F11_tick_30 : Nat → Int → Int → JM → Option (Int × JM)
  | 0, _, _, _ => none
  | n + 1, l1, l2, h => F11_tick_30b (F11_tick_30 n) l1 l2 h
def F11_tick (l1 : Int) (h : JM) : Option (Int × JM) :=
 (F11_isWithin l1 1 1000 h).bind (fun q9 =>
 if q9.1 = 0 then (
 some ((-2), q9.2)) else (
 if q9.2.1 11 0 10 ≤ w32 (10000000 - l1) then (
 F11_tick_30 j_fu l1 0 q9.2) else (
 some ((-3), q9.2))))
-- X11_told
def F11_told (l1 : Int) (h : JM) : Option (Int × JM) :=
 if l1 = 0 then (
 some (h.1 11 0 10, h)) else (
 if l1 = 1 then (
 some (h.1 11 0 12, h)) else (
 if l1 = 2 then (
 some (h.1 11 0 13, h)) else (
 if l1 = 3 then (
 some (h.1 3 0 2, h)) else (
 if l1 = 4 then (
 (F11_idleAtBothEnds h).bind (fun q1 =>
 some (q1.1, q1.2))) else (
 some ((-2), h))))))
-- X11_waiting
def F11_waiting_26 (h : JM) : Option (Int × JM) :=
 some ((-2), h)
def F11_waiting (l1 : Int) (l2 : Int) (l3 : Int) (h : JM) : Option (Int × JM) :=
 (F11_isExchange l1 h).bind (fun q1 =>
 if q1.1 = 0 then (
 F11_waiting_26 q1.2) else (
 (F11_isWithin l2 0 2 q1.2).bind (fun q2 =>
 if q2.1 = 0 then (
 F11_waiting_26 q2.2) else (
 (F11_isWithin l3 0 10 q2.2).bind (fun q3 =>
 if q3.1 = 0 then (
 F11_waiting_26 q3.2) else (
 g_ ((0 : Int) ≤ l1 ∧ l1 < (2 : Int)) (
 g_ ((0 : Int) ≤ l2 ∧ l2 < (3 : Int)) (
 lt_ (q3.2.1 2 (3 * l1 + l2) 2) (fun x4 =>
 lt_ (sI q3.2 2 (3 * l1 + l2) 2 l3) (fun h5 =>
 some (x4, h5)))))))))))
-- X12_begins
def F12_begins (l1 : Int) (l2 : Int) (h : JM) : Option JM :=
 g_ ((0 : Int) ≤ 0 ∧ 0 < (20 : Int)) (
 lt_ (sI h 156 0 0 l1) (fun h1 =>
 g_ ((0 : Int) ≤ 1 ∧ 1 < (20 : Int)) (
 lt_ (sI h1 156 0 1 l2) (fun h2 =>
 lt_ (sI h2 12 0 57 2) (fun h3 =>
 some h3)))))
-- X12_goes
def F12_goes_39b (k39 : Int → Int → Int → JM → Option JM) (l1 : Int) (l2 : Int) (l3 : Int) (h : JM) : Option JM :=
 if h.1 12 0 57 ≤ l3 then (
 g_ ((0 : Int) ≤ l2 ∧ l2 < (512 : Int)) (
 lt_ (sI h 159 0 l2 (h.1 12 0 57)) (fun h1 =>
 g_ ((0 : Int) ≤ l1 ∧ l1 < (2 : Int)) (
 g_ ((0 : Int) ≤ l1 ∧ l1 < (2 : Int)) (
 lt_ (sI h1 160 0 l1 (w32 ((h1.1 160 0 l1) + 1))) (fun h2 =>
 some h2)))))) else (
 g_ ((0 : Int) ≤ l3 ∧ l3 < (20 : Int)) (
 g_ ((0 : Int) ≤ w32 ((w32 (16 * l2)) + l3) ∧ w32 ((w32 (16 * l2)) + l3) < (8192 : Int)) (
 lt_ (sI h 158 0 (w32 ((w32 (16 * l2)) + l3)) (h.1 156 0 l3)) (fun h3 =>
 k39 l1 l2 (w32 (l3 + 1)) h3))))
def F12_goes_39 : Nat → Int → Int → Int → JM → Option JM
  | 0, _, _, _, _ => none
  | n + 1, l1, l2, l3, h => F12_goes_39b (F12_goes_39 n) l1 l2 l3 h
def F12_goes (l1 : Int) (h : JM) : Option JM :=
 g_ ((0 : Int) ≤ l1 ∧ l1 < (2 : Int)) (
 g_ ((0 : Int) ≤ l1 ∧ l1 < (2 : Int)) (
 if w32 ((h.1 160 0 l1) - (h.1 161 0 l1)) < 200 then (
 g_ ((0 : Int) ≤ l1 ∧ l1 < (2 : Int)) (
 lt_ (w32 ((w32 (256 * l1)) + (j_rem (h.1 160 0 l1) 256))) (fun x4 =>
 F12_goes_39 j_fu l1 x4 0 h))) else (
 some h)))
-- X12_isCircuit
def F12_isCircuit_17 (h : JM) : Option (Int × JM) :=
 some (0, h)
def F12_isCircuit (l0 : Int) (h : JM) : Option (Int × JM) :=
 if l0 < 100 then (
 F12_isCircuit_17 h) else (
 if 200 ≤ l0 then (
 F12_isCircuit_17 h) else (
 some (1, h)))
-- X12_acm
def F12_acm (l1 : Int) (h : JM) : Option JM :=
 g_ ((0 : Int) ≤ l1 ∧ l1 < (80 : Int)) (
 (F12_isCircuit (h.1 136 0 l1) h).bind (fun q1 =>
 if q1.1 = 0 then (
 some q1.2) else (
 g_ ((0 : Int) ≤ l1 ∧ l1 < (80 : Int)) (
 if q1.2.1 148 0 l1 = 0 then (
 g_ ((0 : Int) ≤ l1 ∧ l1 < (80 : Int)) (
 lt_ (sI q1.2 148 0 l1 1) (fun h2 =>
 g_ ((0 : Int) ≤ l1 ∧ l1 < (80 : Int)) (
 (F12_begins (w32 ((h2.1 136 0 l1) - 100)) 2 h2).bind (fun h3 =>
 g_ ((0 : Int) ≤ l1 ∧ l1 < (80 : Int)) (
 (F12_goes (h3.1 135 0 l1) h3).bind (fun h4 =>
 some h4))))))) else (
 some q1.2)))))
-- X12_analysis
def F12_analysis_158 (k21 : Int → Int → Int → Int → Int → JM → Option (Int × JM)) (l1 : Int) (l2 : Int) (l3 : Int) (l4 : Int) (l5 : Int) (h : JM) : Option (Int × JM) :=
 k21 l1 l2 l3 l4 (w32 (l5 + 1)) h
def F12_analysis_154 (k21 : Int → Int → Int → Int → Int → JM → Option (Int × JM)) (l1 : Int) (l2 : Int) (l3 : Int) (l5 : Int) (l6 : Int) (h : JM) : Option (Int × JM) :=
 F12_analysis_158 k21 l1 l2 l3 l6 l5 h
def F12_analysis_109 (k21 : Int → Int → Int → Int → Int → JM → Option (Int × JM)) (l1 : Int) (l2 : Int) (l3 : Int) (l4 : Int) (l5 : Int) (l6 : Int) (l7 : Int) (h : JM) : Option (Int × JM) :=
 if l7 = 0 then (
 F12_analysis_158 k21 l1 l2 l3 l4 l5 h) else (
 g_ ((0 : Int) ≤ l6 ∧ l6 < (48 : Int)) (
 if h.1 107 0 l6 ≤ l3 then (
 if l4 = (-2) then (
 F12_analysis_154 k21 l1 l2 l3 l5 l6 h) else (
 g_ ((0 : Int) ≤ l6 ∧ l6 < (48 : Int)) (
 g_ ((0 : Int) ≤ l4 ∧ l4 < (48 : Int)) (
 if h.1 107 0 l6 ≤ h.1 107 0 l4 then (
 F12_analysis_158 k21 l1 l2 l3 l4 l5 h) else (
 F12_analysis_154 k21 l1 l2 l3 l5 l6 h))))) else (
 some ((-1), h))))
def F12_analysis_100 (k21 : Int → Int → Int → Int → Int → JM → Option (Int × JM)) (k47 : Int → Int → Int → Int → Int → Int → Int → Int → JM → Option (Int × JM)) (l1 : Int) (l2 : Int) (l3 : Int) (l4 : Int) (l5 : Int) (l6 : Int) (l8 : Int) (s0 : Int) (s1 : Int) (h : JM) : Option (Int × JM) :=
 lt_ (j_and s0 s1) (fun x1 =>
 k47 l1 l2 l3 l4 l5 l6 x1 (w32 (l8 + 1)) h)
def F12_analysis_47b (k21 : Int → Int → Int → Int → Int → JM → Option (Int × JM)) (k47 : Int → Int → Int → Int → Int → Int → Int → Int → JM → Option (Int × JM)) (l1 : Int) (l2 : Int) (l3 : Int) (l4 : Int) (l5 : Int) (l6 : Int) (l7 : Int) (l8 : Int) (h : JM) : Option (Int × JM) :=
 if l3 ≤ l8 then (
 F12_analysis_109 k21 l1 l2 l3 l4 l5 l6 l7 h) else (
 g_ ((0 : Int) ≤ l6 ∧ l6 < (48 : Int)) (
 if h.1 107 0 l6 ≤ l8 then (
 F12_analysis_109 k21 l1 l2 l3 l4 l5 l6 l7 h) else (
 g_ ((0 : Int) ≤ w32 ((w32 (12 * l6)) + l8) ∧ w32 ((w32 (12 * l6)) + l8) < (576 : Int)) (
 g_ ((0 : Int) ≤ w32 ((w32 (12 * l1)) + l8) ∧ w32 ((w32 (12 * l1)) + l8) < (960 : Int)) (
 if h.1 106 0 (w32 ((w32 (12 * l6)) + l8)) = h.1 139 0 (w32 ((w32 (12 * l1)) + l8)) then (
 F12_analysis_100 k21 k47 l1 l2 l3 l4 l5 l6 l8 l7 1 h) else (
 F12_analysis_100 k21 k47 l1 l2 l3 l4 l5 l6 l8 l7 0 h))))))
def F12_analysis_47 (k21 : Int → Int → Int → Int → Int → JM → Option (Int × JM)) : Nat → Int → Int → Int → Int → Int → Int → Int → Int → JM → Option (Int × JM)
  | 0, _, _, _, _, _, _, _, _, _ => none
  | n + 1, l1, l2, l3, l4, l5, l6, l7, l8, h => F12_analysis_47b k21 (F12_analysis_47 k21 n) l1 l2 l3 l4 l5 l6 l7 l8 h
def F12_analysis_21b (k21 : Int → Int → Int → Int → Int → JM → Option (Int × JM)) (l1 : Int) (l2 : Int) (l3 : Int) (l4 : Int) (l5 : Int) (h : JM) : Option (Int × JM) :=
 g_ ((0 : Int) ≤ l2 ∧ l2 < (2 : Int)) (
 if h.1 105 0 l2 ≤ l5 then (
 if l4 = (-2) then (
 some ((-2), h)) else (
 g_ ((0 : Int) ≤ l4 ∧ l4 < (48 : Int)) (
 if h.1 108 0 l4 ≤ l3 then (
 g_ ((0 : Int) ≤ l4 ∧ l4 < (48 : Int)) (
 if l3 ≤ h.1 108 0 l4 then (
 some (l4, h)) else (
 some ((-2), h)))) else (
 some ((-1), h))))) else (
 lt_ (w32 ((w32 (24 * l2)) + l5)) (fun x2 =>
 F12_analysis_47 k21 j_fu l1 l2 l3 l4 l5 x2 1 0 h)))
def F12_analysis_21 : Nat → Int → Int → Int → Int → Int → JM → Option (Int × JM)
  | 0, _, _, _, _, _, _ => none
  | n + 1, l1, l2, l3, l4, l5, h => F12_analysis_21b (F12_analysis_21 n) l1 l2 l3 l4 l5 h
def F12_analysis (l1 : Int) (h : JM) : Option (Int × JM) :=
 g_ ((0 : Int) ≤ l1 ∧ l1 < (80 : Int)) (
 lt_ (h.1 135 0 l1) (fun x3 =>
 g_ ((0 : Int) ≤ l1 ∧ l1 < (80 : Int)) (
 lt_ (h.1 140 0 l1) (fun x4 =>
 F12_analysis_21 j_fu l1 x3 x4 (-2) 0 h))))
-- X12_becomes
def F12_becomes (l1 : Int) (l2 : Int) (h : JM) : Option JM :=
 g_ ((0 : Int) ≤ l1 ∧ l1 < (80 : Int)) (
 lt_ (sI h 133 0 l1 l2) (fun h1 =>
 g_ ((0 : Int) ≤ l1 ∧ l1 < (80 : Int)) (
 lt_ (sI h1 145 0 l1 (h1.1 12 0 2)) (fun h2 =>
 some h2))))
-- X12_isLineSide
def F12_isLineSide_14 (h : JM) : Option (Int × JM) :=
 some (0, h)
def F12_isLineSide (l0 : Int) (h : JM) : Option (Int × JM) :=
 if l0 < 0 then (
 F12_isLineSide_14 h) else (
 if 16 ≤ l0 then (
 F12_isLineSide_14 h) else (
 some (1, h)))
-- X12_leaves
def F12_leaves_78 (k25 : Int → Int → Int → Int → JM → Option JM) (l1 : Int) (l2 : Int) (l3 : Int) (l4 : Int) (h : JM) : Option JM :=
 k25 l1 l2 l3 (w32 (l4 + 1)) h
def F12_leaves_25b (k25 : Int → Int → Int → Int → JM → Option JM) (l1 : Int) (l2 : Int) (l3 : Int) (l4 : Int) (h : JM) : Option JM :=
 g_ ((0 : Int) ≤ l2 ∧ l2 < (6 : Int)) (
 if h.1 153 0 l2 ≤ l4 then (
 g_ ((0 : Int) ≤ l2 ∧ l2 < (6 : Int)) (
 lt_ (sI h 153 0 l2 l3) (fun h1 =>
 some h1))) else (
 g_ ((0 : Int) ≤ w32 ((w32 (80 * l2)) + l4) ∧ w32 ((w32 (80 * l2)) + l4) < (480 : Int)) (
 if h.1 152 0 (w32 ((w32 (80 * l2)) + l4)) = l1 then (
 F12_leaves_78 k25 l1 l2 l3 l4 h) else (
 g_ ((0 : Int) ≤ w32 ((w32 (80 * l2)) + l4) ∧ w32 ((w32 (80 * l2)) + l4) < (480 : Int)) (
 g_ ((0 : Int) ≤ w32 ((w32 (80 * l2)) + l3) ∧ w32 ((w32 (80 * l2)) + l3) < (480 : Int)) (
 lt_ (sI h 152 0 (w32 ((w32 (80 * l2)) + l3)) (h.1 152 0 (w32 ((w32 (80 * l2)) + l4)))) (fun h2 =>
 F12_leaves_78 k25 l1 l2 (w32 (l3 + 1)) l4 h2)))))))
def F12_leaves_25 : Nat → Int → Int → Int → Int → JM → Option JM
  | 0, _, _, _, _, _ => none
  | n + 1, l1, l2, l3, l4, h => F12_leaves_25b (F12_leaves_25 n) l1 l2 l3 l4 h
def F12_leaves (l1 : Int) (h : JM) : Option JM :=
 g_ ((0 : Int) ≤ l1 ∧ l1 < (80 : Int)) (
 g_ ((0 : Int) ≤ l1 ∧ l1 < (80 : Int)) (
 lt_ (w32 ((w32 ((w32 (3 * (h.1 135 0 l1))) + (h.1 137 0 l1))) - 300)) (fun x3 =>
 F12_leaves_25 j_fu l1 x3 0 0 h)))
-- X12_records
def F12_records (l1 : Int) (h : JM) : Option JM :=
 lt_ (w32 (5 * (j_rem (h.1 12 0 90) 300))) (fun x1 =>
 g_ ((0 : Int) ≤ l1 ∧ l1 < (80 : Int)) (
 g_ ((0 : Int) ≤ x1 ∧ x1 < (1500 : Int)) (
 lt_ (sI h 191 0 x1 (h.1 136 0 l1)) (fun h2 =>
 g_ ((0 : Int) ≤ l1 ∧ l1 < (80 : Int)) (
 g_ ((0 : Int) ≤ w32 (x1 + 1) ∧ w32 (x1 + 1) < (1500 : Int)) (
 lt_ (sI h2 191 0 (w32 (x1 + 1)) (h2.1 143 0 l1)) (fun h3 =>
 g_ ((0 : Int) ≤ l1 ∧ l1 < (80 : Int)) (
 g_ ((0 : Int) ≤ w32 (x1 + 2) ∧ w32 (x1 + 2) < (1500 : Int)) (
 lt_ (sI h3 191 0 (w32 (x1 + 2)) (h3.1 146 0 l1)) (fun h4 =>
 g_ ((0 : Int) ≤ w32 (x1 + 3) ∧ w32 (x1 + 3) < (1500 : Int)) (
 lt_ (sI h4 191 0 (w32 (x1 + 3)) (h4.1 12 0 2)) (fun h5 =>
 g_ ((0 : Int) ≤ l1 ∧ l1 < (80 : Int)) (
 g_ ((0 : Int) ≤ w32 (x1 + 4) ∧ w32 (x1 + 4) < (1500 : Int)) (
 lt_ (sI h5 191 0 (w32 (x1 + 4)) (h5.1 147 0 l1)) (fun h6 =>
 lt_ (sI h6 12 0 90 (w32 ((h6.1 12 0 90) + 1))) (fun h7 =>
 some h7))))))))))))))))
-- X12_unring
def F12_unring (l1 : Int) (h : JM) : Option JM :=
 g_ ((0 : Int) ≤ l1 ∧ l1 < (16 : Int)) (
 lt_ (sI h 121 0 l1 (-1)) (fun h1 =>
 g_ ((0 : Int) ≤ l1 ∧ l1 < (16 : Int)) (
 if h1.1 112 0 l1 = 0 then (
 g_ ((0 : Int) ≤ l1 ∧ l1 < (16 : Int)) (
 lt_ (sI h1 125 0 l1 (h1.1 12 0 2)) (fun h2 =>
 some h2))) else (
 some h1))))
-- X12_tells
def F12_tells_140 (l1 : Int) (l2 : Int) (h : JM) : Option JM :=
 g_ ((0 : Int) ≤ l2 ∧ l2 < (16 : Int)) (
 if h.1 120 0 l2 = l1 then (
 g_ ((0 : Int) ≤ l2 ∧ l2 < (16 : Int)) (
 lt_ (sI h 120 0 l2 (-1)) (fun h1 =>
 some h1))) else (
 some h))
def F12_tells_139 (l1 : Int) (l2 : Int) (s0 : Option Int) (s1 : Int) (s2 : Int) (h : JM) : Option JM :=
 (s0).bind (fun a2 =>
 g_ ((0 : Int) ≤ s1 ∧ s1 < (16 : Int)) (
 lt_ (sI h 123 a2 s1 s2) (fun h3 =>
 F12_tells_140 l1 l2 h3)))
def F12_tells_100 (l1 : Int) (l2 : Int) (l3 : Int) (h : JM) : Option JM :=
 g_ ((0 : Int) ≤ l2 ∧ l2 < (16 : Int)) (
 if h.1 119 0 l2 = l1 then (
 g_ ((0 : Int) ≤ l2 ∧ l2 < (16 : Int)) (
 lt_ (sI h 119 0 l2 (-1)) (fun h4 =>
 g_ ((0 : Int) ≤ l2 ∧ l2 < (16 : Int)) (
 lt_ (sI h4 122 0 l2 l3) (fun h5 =>
 if l3 = 1 then (
 F12_tells_139 l1 l2 (some 0) l2 4 h5) else (
 F12_tells_139 l1 l2 (some 0) l2 3 h5)))))) else (
 F12_tells_140 l1 l2 h))
def F12_tells (l1 : Int) (l2 : Int) (l3 : Int) (h : JM) : Option JM :=
 (F12_isCircuit l2 h).bind (fun q6 =>
 if q6.1 = 0 then (
 (F12_isLineSide l2 q6.2).bind (fun q7 =>
 if q7.1 = 0 then (
 some q7.2) else (
 g_ ((0 : Int) ≤ l2 ∧ l2 < (16 : Int)) (
 if q7.2.1 121 0 l2 = l1 then (
 (F12_unring l2 q7.2).bind (fun h8 =>
 F12_tells_100 l1 l2 l3 h8)) else (
 F12_tells_100 l1 l2 l3 q7.2))))) else (
 g_ ((0 : Int) ≤ l1 ∧ l1 < (80 : Int)) (
 lt_ (w32 ((w32 ((w32 (16 * (q6.2.1 135 0 l1))) + l2)) - 100)) (fun x9 =>
 (F12_begins (w32 (l2 - 100)) 4 q6.2).bind (fun h10 =>
 lt_ (sI h10 12 0 57 (w32 ((h10.1 12 0 57) + 1))) (fun h11 =>
 g_ ((0 : Int) ≤ h10.1 12 0 57 ∧ h10.1 12 0 57 < (20 : Int)) (
 lt_ (sI h11 156 0 (h10.1 12 0 57) l3) (fun h12 =>
 g_ ((0 : Int) ≤ l1 ∧ l1 < (80 : Int)) (
 (F12_goes (h12.1 135 0 l1) h12).bind (fun h13 =>
 g_ ((0 : Int) ≤ x9 ∧ x9 < (32 : Int)) (
 lt_ (sI h13 154 0 x9 3) (fun h14 =>
 g_ ((0 : Int) ≤ x9 ∧ x9 < (32 : Int)) (
 lt_ (sI h14 155 0 x9 (-1)) (fun h15 =>
 some h15))))))))))))))
-- X12_over
def F12_over_92 (l1 : Int) (h : JM) : Option JM :=
 g_ ((0 : Int) ≤ l1 ∧ l1 < (80 : Int)) (
 lt_ (sI h 133 0 l1 (-1)) (fun h1 =>
 some h1))
def F12_over_72 (l1 : Int) (l2 : Int) (l3 : Int) (l5 : Int) (h : JM) : Option JM :=
 if l5 = (-1) then (
 F12_over_92 l1 h) else (
 if l5 = l3 then (
 F12_over_92 l1 h) else (
 (F12_tells l1 l5 l2 h).bind (fun h2 =>
 F12_over_92 l1 h2)))
def F12_over_42 (l1 : Int) (l2 : Int) (l3 : Int) (h : JM) : Option JM :=
 g_ ((0 : Int) ≤ l1 ∧ l1 < (80 : Int)) (
 lt_ (h.1 136 0 l1) (fun x3 =>
 g_ ((0 : Int) ≤ l1 ∧ l1 < (80 : Int)) (
 lt_ (h.1 137 0 l1) (fun x4 =>
 if x3 = l3 then (
 F12_over_72 l1 l2 l3 x4 h) else (
 (F12_tells l1 x3 l2 h).bind (fun h5 =>
 F12_over_72 l1 l2 l3 x4 h5))))))
def F12_over_27 (l1 : Int) (l2 : Int) (l3 : Int) (h : JM) : Option JM :=
 g_ ((0 : Int) ≤ l1 ∧ l1 < (80 : Int)) (
 if h.1 133 0 l1 = 4 then (
 (F12_leaves l1 h).bind (fun h6 =>
 F12_over_42 l1 l2 l3 h6)) else (
 F12_over_42 l1 l2 l3 h))
def F12_over (l1 : Int) (l2 : Int) (l3 : Int) (h : JM) : Option JM :=
 g_ ((0 : Int) ≤ l1 ∧ l1 < (80 : Int)) (
 if h.1 133 0 l1 = 3 then (
 g_ ((0 : Int) ≤ l1 ∧ l1 < (80 : Int)) (
 (F12_isLineSide (h.1 136 0 l1) h).bind (fun q7 =>
 if q7.1 = 0 then (
 F12_over_27 l1 l2 l3 q7.2) else (
 (F12_records l1 q7.2).bind (fun h8 =>
 F12_over_27 l1 l2 l3 h8))))) else (
 F12_over_27 l1 l2 l3 h))
-- X12_charges
def F12_charges_55 (l1 : Int) (l2 : Int) (h : JM) : Option JM :=
 g_ ((0 : Int) ≤ l1 ∧ l1 < (80 : Int)) (
 g_ ((0 : Int) ≤ l1 ∧ l1 < (80 : Int)) (
 lt_ (sI h 147 0 l1 (w32 ((h.1 147 0 l1) + l2))) (fun h1 =>
 some h1)))
def F12_charges_35 (l1 : Int) (l2 : Int) (l3 : Int) (h : JM) : Option JM :=
 g_ ((0 : Int) ≤ l3 ∧ l3 < (16 : Int)) (
 if h.1 126 0 l3 = (-1) then (
 F12_charges_55 l1 l2 h) else (
 g_ ((0 : Int) ≤ l3 ∧ l3 < (16 : Int)) (
 g_ ((0 : Int) ≤ l3 ∧ l3 < (16 : Int)) (
 lt_ (sI h 126 0 l3 (w32 ((h.1 126 0 l3) - l2))) (fun h2 =>
 F12_charges_55 l1 l2 h2)))))
def F12_charges (l1 : Int) (l2 : Int) (h : JM) : Option JM :=
 g_ ((0 : Int) ≤ l1 ∧ l1 < (80 : Int)) (
 lt_ (h.1 136 0 l1) (fun x3 =>
 g_ ((0 : Int) ≤ x3 ∧ x3 < (16 : Int)) (
 if h.1 126 0 x3 = (-1) then (
 F12_charges_35 l1 l2 x3 h) else (
 g_ ((0 : Int) ≤ x3 ∧ x3 < (16 : Int)) (
 if l2 ≤ h.1 126 0 x3 then (
 F12_charges_35 l1 l2 x3 h) else (
 (F12_over l1 5 (-1) h).bind (fun h4 =>
 some h4)))))))
-- X12_price
def F12_price (l1 : Int) (h : JM) : Option (Int × JM) :=
 if 800 ≤ j_rem (h.1 12 0 2) 2400 then (
 g_ ((0 : Int) ≤ l1 ∧ l1 < (4 : Int)) (
 some (h.1 188 0 l1, h))) else (
 g_ ((0 : Int) ≤ l1 ∧ l1 < (4 : Int)) (
 some (h.1 189 0 l1, h)))
-- X12_answered
def F12_answered (l1 : Int) (h : JM) : Option JM :=
 (F12_acm l1 h).bind (fun h1 =>
 (F12_becomes l1 3 h1).bind (fun h2 =>
 g_ ((0 : Int) ≤ l1 ∧ l1 < (80 : Int)) (
 lt_ (sI h2 138 0 l1 (-1)) (fun h3 =>
 g_ ((0 : Int) ≤ l1 ∧ l1 < (80 : Int)) (
 lt_ (sI h3 146 0 l1 (h3.1 12 0 2)) (fun h4 =>
 g_ ((0 : Int) ≤ l1 ∧ l1 < (80 : Int)) (
 (F12_isCircuit (h4.1 136 0 l1) h4).bind (fun q5 =>
 if q5.1 = 0 then (
 g_ ((0 : Int) ≤ l1 ∧ l1 < (80 : Int)) (
 g_ ((0 : Int) ≤ q5.2.1 143 0 l1 ∧ q5.2.1 143 0 l1 < (4 : Int)) (
 g_ ((0 : Int) ≤ l1 ∧ l1 < (80 : Int)) (
 (F12_price (q5.2.1 143 0 l1) q5.2).bind (fun q6 =>
 (F12_charges l1 (w32 ((q5.2.1 186 0 (q5.2.1 143 0 l1)) + q6.1)) q6.2).bind (fun h7 =>
 some h7)))))) else (
 g_ ((0 : Int) ≤ l1 ∧ l1 < (80 : Int)) (
 (F12_begins (w32 ((q5.2.1 136 0 l1) - 100)) 3 q5.2).bind (fun h8 =>
 g_ ((0 : Int) ≤ l1 ∧ l1 < (80 : Int)) (
 (F12_goes (h8.1 135 0 l1) h8).bind (fun h9 =>
 some h9)))))))))))))
-- X12_back
def F12_back_94 (l2 : Int) (s0 : Int) (h : JM) : Option (Int × JM) :=
 if 128 ≤ l2 then (
 some (s0, h)) else (
 some (w32 (-s0), h))
def F12_back_17 (l0 : Int) (s0 : Int) (h : JM) : Option (Int × JM) :=
 lt_ (j_rem (j_div s0 16) 8) (fun x1 =>
 lt_ (j_rem s0 16) (fun x2 =>
 if l0 = 1 then (
 lt_ (w32 ((j_shl (w32 ((w32 (2 * x2)) + 33)) x1) - 33)) (fun x3 =>
 if s0 ≤ 127 then (
 some (x3, h)) else (
 some (w32 (-x3), h)))) else (
 if x1 = 0 then (
 F12_back_94 s0 (w32 (2 * (w32 ((w32 (2 * x2)) + 1)))) h) else (
 F12_back_94 s0 (w32 (2 * (j_shl (w32 ((w32 (2 * x2)) + 33)) (w32 (x1 - 1))))) h))))
def F12_back (l0 : Int) (l1 : Int) (h : JM) : Option (Int × JM) :=
 if l0 = 1 then (
 F12_back_17 l0 (w32 (255 - l1)) h) else (
 F12_back_17 l0 (j_xor l1 85) h)
-- X12_in
def F12_in_17 (h : JM) : Option (Int × JM) :=
 some (0, h)
def F12_in (l0 : Int) (l2 : Int) (l4 : Int) (h : JM) : Option (Int × JM) :=
 if j_lcmp l0 l2 < 0 then (
 F12_in_17 h) else (
 if 0 < j_lcmp l0 l4 then (
 F12_in_17 h) else (
 some (1, h)))
-- X12_bit
def F12_bit_36 (l1 : Int) (l2 : Int) (l3 : Int) (s0 : Int) (s1 : Int) (h : JM) : Option (Int × JM) :=
 (F12_in s0 s1 (w32 ((h.1 12 0 2) - 1)) h).bind (fun q1 =>
 if q1.1 = 0 then (
 some ((-1), q1.2)) else (
 lt_ (w32 ((w32 (64 * l1)) + (j_rem l2 64))) (fun x2 =>
 g_ ((0 : Int) ≤ x2 ∧ x2 < (128 : Int)) (
 (F12_in l3 0 (w32 ((q1.2.1 172 0 x2) - 1)) q1.2).bind (fun q3 =>
 if q3.1 = 0 then (
 some ((-1), q3.2)) else (
 g_ ((0 : Int) ≤ w32 ((w32 (320 * x2)) + l3) ∧ w32 ((w32 (320 * x2)) + l3) < (40960 : Int)) (
 some (q3.2.1 171 0 (w32 ((w32 (320 * x2)) + l3)), q3.2))))))))
def F12_bit (l1 : Int) (l2 : Int) (l3 : Int) (h : JM) : Option (Int × JM) :=
 (F12_in l1 0 1 h).bind (fun q4 =>
 if q4.1 = 0 then (
 some ((-2), q4.2)) else (
 if 64 ≤ q4.2.1 12 0 2 then (
 F12_bit_36 l1 l2 l3 l2 (w32 ((q4.2.1 12 0 2) - 64)) q4.2) else (
 F12_bit_36 l1 l2 l3 l2 0 q4.2)))
-- X12_check
def F12_check_39 (k7 : Option Int → Int → Int → Int → JM → Option (Int × JM)) (l0 : Option Int) (l2 : Int) (l4 : Int) (s0 : Int) (s1 : Int) (h : JM) : Option (Int × JM) :=
 lt_ (j_xor s0 s1) (fun x1 =>
 k7 l0 l2 x1 (w32 (l4 + 1)) h)
def F12_check_7b (k7 : Option Int → Int → Int → Int → JM → Option (Int × JM)) (l0 : Option Int) (l2 : Int) (l3 : Int) (l4 : Int) (h : JM) : Option (Int × JM) :=
 if l2 ≤ l4 then (
 some (w32 (65535 - l3), h)) else (
 (l0).bind (fun a2 =>
 g_ ((0 : Int) ≤ l4 ∧ l4 < (320 : Int)) (
 lt_ (j_xor l3 (h.1 182 a2 l4)) (fun x3 =>
 if j_rem x3 2 = 1 then (
 F12_check_39 k7 (some a2) l2 l4 (j_shr l3 1) 33800 h) else (
 F12_check_39 k7 (some a2) l2 l4 (j_shr l3 1) 0 h)))))
def F12_check_7 : Nat → Option Int → Int → Int → Int → JM → Option (Int × JM)
  | 0, _, _, _, _, _ => none
  | n + 1, l0, l2, l3, l4, h => F12_check_7b (F12_check_7 n) l0 l2 l3 l4 h
def F12_check (l0 : Option Int) (l1 : Int) (l2 : Int) (h : JM) : Option (Int × JM) :=
 F12_check_7 j_fu l0 l2 65535 l1 h
-- X12_circuit
def F12_circuit_40 (h : JM) : Option (Int × JM) :=
 some ((-2), h)
def F12_circuit (l1 : Int) (l2 : Int) (h : JM) : Option (Int × JM) :=
 (F12_in l1 0 1 h).bind (fun q1 =>
 if q1.1 = 0 then (
 F12_circuit_40 q1.2) else (
 (F12_in l2 0 (w32 ((q1.2.1 12 0 0) - 1)) q1.2).bind (fun q2 =>
 if q2.1 = 0 then (
 F12_circuit_40 q2.2) else (
 g_ ((0 : Int) ≤ w32 ((w32 (16 * l1)) + l2) ∧ w32 ((w32 (16 * l1)) + l2) < (32 : Int)) (
 some (q2.2.1 154 0 (w32 ((w32 (16 * l1)) + l2)), q2.2))))))
-- X12_clears
def F12_clears (l1 : Int) (h : JM) : Option JM :=
 g_ ((0 : Int) ≤ l1 ∧ l1 < (16 : Int)) (
 lt_ (sI h 114 0 l1 0) (fun h1 =>
 g_ ((0 : Int) ≤ l1 ∧ l1 < (16 : Int)) (
 lt_ (sI h1 116 0 l1 0) (fun h2 =>
 g_ ((0 : Int) ≤ l1 ∧ l1 < (16 : Int)) (
 lt_ (sI h2 115 0 l1 0) (fun h3 =>
 g_ ((0 : Int) ≤ l1 ∧ l1 < (16 : Int)) (
 lt_ (sI h3 118 0 l1 0) (fun h4 =>
 some h4))))))))
-- X12_highest
def F12_highest_2b (k2 : Int → Int → JM → Option (Int × JM)) (l0 : Int) (l1 : Int) (h : JM) : Option (Int × JM) :=
 if j_shr l0 (w32 (l1 + 1)) = 0 then (
 some (l1, h)) else (
 k2 l0 (w32 (l1 + 1)) h)
def F12_highest_2 : Nat → Int → Int → JM → Option (Int × JM)
  | 0, _, _, _ => none
  | n + 1, l0, l1, h => F12_highest_2b (F12_highest_2 n) l0 l1 h
def F12_highest (l0 : Int) (h : JM) : Option (Int × JM) :=
 F12_highest_2 j_fu l0 0 h
-- X12_codeOf
def F12_codeOf_128 (l4 : Int) (l5 : Int) (s0 : Int) (h : JM) : Option (Int × JM) :=
 some (j_xor (w32 ((w32 (s0 + (w32 (16 * l4)))) + l5)) 85, h)
def F12_codeOf_115 (l1 : Int) (l4 : Int) (s0 : Int) (h : JM) : Option (Int × JM) :=
 if 0 ≤ l1 then (
 F12_codeOf_128 l4 s0 128 h) else (
 F12_codeOf_128 l4 s0 0 h)
def F12_codeOf_94 (l1 : Int) (l3 : Int) (s0 : Int) (h : JM) : Option (Int × JM) :=
 if 32 ≤ l3 then (
 F12_codeOf_115 l1 s0 (j_rem (j_shr l3 s0) 16) h) else (
 F12_codeOf_115 l1 s0 (j_div l3 2) h)
def F12_codeOf_56 (l3 : Int) (l4 : Int) (s0 : Int) (s1 : Int) (h : JM) : Option (Int × JM) :=
 some (w32 ((w32 ((w32 (s0 - s1)) - (w32 (16 * l4)))) - (j_rem (j_shr l3 (w32 (l4 + 1))) 16)), h)
def F12_codeOf_30 (l1 : Int) (s0 : Int) (h : JM) : Option (Int × JM) :=
 lt_ (w32 (s0 + 33)) (fun x1 =>
 (F12_highest x1 h).bind (fun q2 =>
 lt_ (w32 (q2.1 - 5)) (fun x3 =>
 if 0 ≤ l1 then (
 F12_codeOf_56 x1 x3 255 0 q2.2) else (
 F12_codeOf_56 x1 x3 255 128 q2.2))))
def F12_codeOf_10 (l0 : Int) (l1 : Int) (s0 : Int) (h : JM) : Option (Int × JM) :=
 if l0 = 1 then (
 if 8158 ≤ s0 then (
 F12_codeOf_30 l1 8158 h) else (
 F12_codeOf_30 l1 s0 h)) else (
 lt_ (j_div s0 2) (fun x4 =>
 if 32 ≤ x4 then (
 (F12_highest x4 h).bind (fun q5 =>
 F12_codeOf_94 l1 x4 (w32 (q5.1 - 4)) q5.2)) else (
 F12_codeOf_94 l1 x4 0 h)))
def F12_codeOf (l0 : Int) (l1 : Int) (h : JM) : Option (Int × JM) :=
 if 0 ≤ l1 then (
 F12_codeOf_10 l0 l1 l1 h) else (
 F12_codeOf_10 l0 l1 (w32 (-l1)) h)
-- X12_makes
def F12_makes_2b (k2 : Int → Int → Int → JM → Option (Int × JM)) (l1 : Int) (l2 : Int) (l3 : Int) (h : JM) : Option (Int × JM) :=
 g_ ((0 : Int) ≤ l3 ∧ l3 < (80 : Int)) (
 if h.1 133 0 l3 = (-1) then (
 g_ ((0 : Int) ≤ l3 ∧ l3 < (80 : Int)) (
 lt_ (sI h 133 0 l3 0) (fun h1 =>
 lt_ (sI h1 12 0 32 (w32 ((h1.1 12 0 32) + 1))) (fun h2 =>
 g_ ((0 : Int) ≤ l3 ∧ l3 < (80 : Int)) (
 lt_ (sI h2 134 0 l3 (h1.1 12 0 32)) (fun h3 =>
 g_ ((0 : Int) ≤ l3 ∧ l3 < (80 : Int)) (
 lt_ (sI h3 135 0 l3 l1) (fun h4 =>
 g_ ((0 : Int) ≤ l3 ∧ l3 < (80 : Int)) (
 lt_ (sI h4 136 0 l3 l2) (fun h5 =>
 g_ ((0 : Int) ≤ l3 ∧ l3 < (80 : Int)) (
 lt_ (sI h5 137 0 l3 (-1)) (fun h6 =>
 g_ ((0 : Int) ≤ l3 ∧ l3 < (80 : Int)) (
 lt_ (sI h6 138 0 l3 (-1)) (fun h7 =>
 g_ ((0 : Int) ≤ l3 ∧ l3 < (80 : Int)) (
 lt_ (sI h7 140 0 l3 0) (fun h8 =>
 g_ ((0 : Int) ≤ l3 ∧ l3 < (80 : Int)) (
 lt_ (sI h8 143 0 l3 (-1)) (fun h9 =>
 g_ ((0 : Int) ≤ l3 ∧ l3 < (80 : Int)) (
 lt_ (sI h9 144 0 l3 0) (fun h10 =>
 g_ ((0 : Int) ≤ l3 ∧ l3 < (80 : Int)) (
 lt_ (sI h10 145 0 l3 (h10.1 12 0 2)) (fun h11 =>
 g_ ((0 : Int) ≤ l3 ∧ l3 < (80 : Int)) (
 lt_ (sI h11 147 0 l3 0) (fun h12 =>
 g_ ((0 : Int) ≤ l3 ∧ l3 < (80 : Int)) (
 lt_ (sI h12 148 0 l3 0) (fun h13 =>
 some (l3, h13))))))))))))))))))))))))))) else (
 k2 l1 l2 (w32 (l3 + 1)) h))
def F12_makes_2 : Nat → Int → Int → Int → JM → Option (Int × JM)
  | 0, _, _, _, _ => none
  | n + 1, l1, l2, l3, h => F12_makes_2b (F12_makes_2 n) l1 l2 l3 h
def F12_makes (l1 : Int) (l2 : Int) (h : JM) : Option (Int × JM) :=
 F12_makes_2 j_fu l1 l2 0 h
-- X12_toFar
def F12_toFar_258b (k258 : Int → Int → Int → Int → JM → Option JM) (l1 : Int) (l2 : Int) (l5 : Int) (l6 : Int) (h : JM) : Option JM :=
 if l5 ≤ l6 then (
 (F12_goes l2 h).bind (fun h1 =>
 (F12_becomes l1 1 h1).bind (fun h2 =>
 some h2))) else (
 lt_ (sI h 12 0 57 (w32 ((h.1 12 0 57) + 1))) (fun h3 =>
 g_ ((0 : Int) ≤ l1 ∧ l1 < (80 : Int)) (
 g_ ((0 : Int) ≤ w32 ((w32 ((w32 (12 * l1)) + (h3.1 141 0 l1))) + l6) ∧ w32 ((w32 ((w32 (12 * l1)) + (h3.1 141 0 l1))) + l6) < (960 : Int)) (
 g_ ((0 : Int) ≤ h.1 12 0 57 ∧ h.1 12 0 57 < (20 : Int)) (
 lt_ (sI h3 156 0 (h.1 12 0 57) (h3.1 139 0 (w32 ((w32 ((w32 (12 * l1)) + (h3.1 141 0 l1))) + l6)))) (fun h4 =>
 k258 l1 l2 l5 (w32 (l6 + 1)) h4))))))
def F12_toFar_258 : Nat → Int → Int → Int → Int → JM → Option JM
  | 0, _, _, _, _, _ => none
  | n + 1, l1, l2, l5, l6, h => F12_toFar_258b (F12_toFar_258 n) l1 l2 l5 l6 h
def F12_toFar_156 (l1 : Int) (l2 : Int) (l4 : Int) (h : JM) : Option JM :=
 g_ ((0 : Int) ≤ l1 ∧ l1 < (80 : Int)) (
 lt_ (sI h 137 0 l1 (w32 (100 + l4))) (fun h5 =>
 g_ ((0 : Int) ≤ w32 ((w32 (16 * l2)) + l4) ∧ w32 ((w32 (16 * l2)) + l4) < (32 : Int)) (
 lt_ (sI h5 154 0 (w32 ((w32 (16 * l2)) + l4)) 1) (fun h6 =>
 g_ ((0 : Int) ≤ w32 ((w32 (16 * l2)) + l4) ∧ w32 ((w32 (16 * l2)) + l4) < (32 : Int)) (
 lt_ (sI h6 155 0 (w32 ((w32 (16 * l2)) + l4)) l1) (fun h7 =>
 g_ ((0 : Int) ≤ l1 ∧ l1 < (80 : Int)) (
 g_ ((0 : Int) ≤ l1 ∧ l1 < (80 : Int)) (
 lt_ (w32 ((h7.1 140 0 l1) - (h7.1 141 0 l1))) (fun x8 =>
 (F12_begins l4 1 h7).bind (fun h9 =>
 lt_ (sI h9 12 0 57 (w32 ((h9.1 12 0 57) + 1))) (fun h10 =>
 g_ ((0 : Int) ≤ l1 ∧ l1 < (80 : Int)) (
 g_ ((0 : Int) ≤ h9.1 12 0 57 ∧ h9.1 12 0 57 < (20 : Int)) (
 lt_ (sI h10 156 0 (h9.1 12 0 57) (h10.1 144 0 l1)) (fun h11 =>
 lt_ (sI h11 12 0 57 (w32 ((h11.1 12 0 57) + 1))) (fun h12 =>
 g_ ((0 : Int) ≤ h11.1 12 0 57 ∧ h11.1 12 0 57 < (20 : Int)) (
 lt_ (sI h12 156 0 (h11.1 12 0 57) x8) (fun h13 =>
 F12_toFar_258 j_fu l1 l2 x8 0 h13)))))))))))))))))
def F12_toFar_146 (l1 : Int) (h : JM) : Option JM :=
 (F12_over l1 3 (-1) h).bind (fun h14 =>
 some h14)
def F12_toFar_121 (l1 : Int) (l2 : Int) (l3 : Int) (l4 : Int) (h : JM) : Option JM :=
 g_ ((0 : Int) ≤ l1 ∧ l1 < (80 : Int)) (
 if h.1 142 0 l1 = 1 then (
 if h.1 12 0 1 < l3 then (
 F12_toFar_156 l1 l2 l4 h) else (
 F12_toFar_146 l1 h)) else (
 if l3 = 0 then (
 F12_toFar_146 l1 h) else (
 F12_toFar_156 l1 l2 l4 h)))
def F12_toFar_64 (k15 : Int → Int → Int → Int → Int → JM → Option JM) (l1 : Int) (l2 : Int) (l3 : Int) (l4 : Int) (l5 : Int) (h : JM) : Option JM :=
 k15 l1 l2 l3 l4 (w32 (l5 + 1)) h
def F12_toFar_62 (k15 : Int → Int → Int → Int → Int → JM → Option JM) (l1 : Int) (l2 : Int) (l3 : Int) (l5 : Int) (s0 : Int) (h : JM) : Option JM :=
 F12_toFar_64 k15 l1 l2 l3 s0 l5 h
def F12_toFar_60 (k15 : Int → Int → Int → Int → Int → JM → Option JM) (l1 : Int) (l2 : Int) (l3 : Int) (l5 : Int) (h : JM) : Option JM :=
 F12_toFar_62 k15 l1 l2 l3 l5 l5 h
def F12_toFar_15b (k15 : Int → Int → Int → Int → Int → JM → Option JM) (l1 : Int) (l2 : Int) (l3 : Int) (l4 : Int) (l5 : Int) (h : JM) : Option JM :=
 if h.1 12 0 0 ≤ l5 then (
 g_ ((0 : Int) ≤ l1 ∧ l1 < (80 : Int)) (
 if h.1 142 0 l1 = 1 then (
 g_ ((0 : Int) ≤ l1 ∧ l1 < (80 : Int)) (
 (F12_isLineSide (h.1 136 0 l1) h).bind (fun q15 =>
 if q15.1 = 0 then (
 F12_toFar_121 l1 l2 l3 l4 q15.2) else (
 g_ ((0 : Int) ≤ l1 ∧ l1 < (80 : Int)) (
 g_ ((0 : Int) ≤ w32 ((w32 (3 * (q15.2.1 136 0 l1))) + 1) ∧ w32 ((w32 (3 * (q15.2.1 136 0 l1))) + 1) < (48 : Int)) (
 if q15.2.1 127 0 (w32 ((w32 (3 * (q15.2.1 136 0 l1))) + 1)) = 0 then (
 F12_toFar_121 l1 l2 l3 l4 q15.2) else (
 (F12_over l1 8 (-1) q15.2).bind (fun h16 =>
 some h16)))))))) else (
 F12_toFar_121 l1 l2 l3 l4 h))) else (
 g_ ((0 : Int) ≤ w32 ((w32 (16 * l2)) + l5) ∧ w32 ((w32 (16 * l2)) + l5) < (32 : Int)) (
 if h.1 154 0 (w32 ((w32 (16 * l2)) + l5)) = 0 then (
 if l2 = 0 then (
 if l4 = (-1) then (
 F12_toFar_60 k15 l1 l2 (w32 (l3 + 1)) l5 h) else (
 F12_toFar_62 k15 l1 l2 (w32 (l3 + 1)) l5 l4 h)) else (
 F12_toFar_60 k15 l1 l2 (w32 (l3 + 1)) l5 h)) else (
 F12_toFar_64 k15 l1 l2 l3 l4 l5 h)))
def F12_toFar_15 : Nat → Int → Int → Int → Int → Int → JM → Option JM
  | 0, _, _, _, _, _, _ => none
  | n + 1, l1, l2, l3, l4, l5, h => F12_toFar_15b (F12_toFar_15 n) l1 l2 l3 l4 l5 h
def F12_toFar (l1 : Int) (h : JM) : Option JM :=
 g_ ((0 : Int) ≤ l1 ∧ l1 < (80 : Int)) (
 lt_ (h.1 135 0 l1) (fun x17 =>
 F12_toFar_15 j_fu l1 x17 0 (-1) 0 h))
-- X12_isFree
def F12_isFree_23 (h : JM) : Option (Int × JM) :=
 some (0, h)
def F12_isFree (l1 : Int) (h : JM) : Option (Int × JM) :=
 g_ ((0 : Int) ≤ l1 ∧ l1 < (16 : Int)) (
 if h.1 112 0 l1 = 0 then (
 g_ ((0 : Int) ≤ l1 ∧ l1 < (16 : Int)) (
 if h.1 121 0 l1 = (-1) then (
 some (1, h)) else (
 F12_isFree_23 h))) else (
 F12_isFree_23 h))
-- X12_ready
def F12_ready_70 (k4 : Int → Int → Int → JM → Option (Int × JM)) (l1 : Int) (l2 : Int) (l3 : Int) (h : JM) : Option (Int × JM) :=
 k4 l1 l2 (w32 (l3 + 1)) h
def F12_ready_67 (k4 : Int → Int → Int → JM → Option (Int × JM)) (l1 : Int) (l3 : Int) (l4 : Int) (h : JM) : Option (Int × JM) :=
 F12_ready_70 k4 l1 l4 l3 h
def F12_ready_4b (k4 : Int → Int → Int → JM → Option (Int × JM)) (l1 : Int) (l2 : Int) (l3 : Int) (h : JM) : Option (Int × JM) :=
 g_ ((0 : Int) ≤ l1 ∧ l1 < (6 : Int)) (
 if h.1 150 0 l1 ≤ l3 then (
 some (l2, h)) else (
 g_ ((0 : Int) ≤ w32 ((w32 (8 * l1)) + l3) ∧ w32 ((w32 (8 * l1)) + l3) < (48 : Int)) (
 lt_ (h.1 149 0 (w32 ((w32 (8 * l1)) + l3))) (fun x1 =>
 (F12_isFree x1 h).bind (fun q2 =>
 if q2.1 = 0 then (
 F12_ready_70 k4 l1 l2 l3 q2.2) else (
 g_ ((0 : Int) ≤ x1 ∧ x1 < (16 : Int)) (
 if q2.2.1 124 0 x1 = 0 then (
 if l2 = (-1) then (
 F12_ready_67 k4 l1 l3 x1 q2.2) else (
 g_ ((0 : Int) ≤ x1 ∧ x1 < (16 : Int)) (
 g_ ((0 : Int) ≤ l2 ∧ l2 < (16 : Int)) (
 if q2.2.1 125 0 l2 ≤ q2.2.1 125 0 x1 then (
 F12_ready_70 k4 l1 l2 l3 q2.2) else (
 F12_ready_67 k4 l1 l3 x1 q2.2))))) else (
 F12_ready_70 k4 l1 l2 l3 q2.2))))))))
def F12_ready_4 : Nat → Int → Int → Int → JM → Option (Int × JM)
  | 0, _, _, _, _ => none
  | n + 1, l1, l2, l3, h => F12_ready_4b (F12_ready_4 n) l1 l2 l3 h
def F12_ready (l1 : Int) (h : JM) : Option (Int × JM) :=
 F12_ready_4 j_fu l1 (-1) 0 h
-- X12_rings
def F12_rings (l1 : Int) (l2 : Int) (l3 : Int) (h : JM) : Option JM :=
 g_ ((0 : Int) ≤ l1 ∧ l1 < (80 : Int)) (
 lt_ (sI h 137 0 l1 l2) (fun h1 =>
 g_ ((0 : Int) ≤ l1 ∧ l1 < (80 : Int)) (
 lt_ (sI h1 138 0 l1 l3) (fun h2 =>
 (F12_becomes l1 2 h2).bind (fun h3 =>
 (F12_acm l1 h3).bind (fun h4 =>
 some h4))))))
-- X12_toGroup
def F12_toGroup_29 (l1 : Int) (l2 : Int) (l3 : Int) (s0 : Int) (h : JM) : Option JM :=
 if s0 = (-1) then (
 g_ ((0 : Int) ≤ l3 ∧ l3 < (6 : Int)) (
 g_ ((0 : Int) ≤ l3 ∧ l3 < (6 : Int)) (
 if h.1 151 0 l3 ≤ h.1 153 0 l3 then (
 (F12_over l1 2 (-1) h).bind (fun h1 =>
 some h1)) else (
 g_ ((0 : Int) ≤ l3 ∧ l3 < (6 : Int)) (
 g_ ((0 : Int) ≤ l3 ∧ l3 < (6 : Int)) (
 lt_ (sI h 153 0 l3 (w32 ((h.1 153 0 l3) + 1))) (fun h2 =>
 g_ ((0 : Int) ≤ w32 ((w32 (80 * l3)) + (h.1 153 0 l3)) ∧ w32 ((w32 (80 * l3)) + (h.1 153 0 l3)) < (480 : Int)) (
 lt_ (sI h2 152 0 (w32 ((w32 (80 * l3)) + (h.1 153 0 l3))) l1) (fun h3 =>
 g_ ((0 : Int) ≤ l1 ∧ l1 < (80 : Int)) (
 lt_ (sI h3 137 0 l1 (w32 (300 + l2))) (fun h4 =>
 (F12_becomes l1 4 h4).bind (fun h5 =>
 (F12_acm l1 h5).bind (fun h6 =>
 some h6))))))))))))) else (
 g_ ((0 : Int) ≤ s0 ∧ s0 < (16 : Int)) (
 lt_ (sI h 121 0 s0 l1) (fun h7 =>
 (F12_rings l1 s0 l2 h7).bind (fun h8 =>
 some h8))))
def F12_toGroup (l1 : Int) (l2 : Int) (h : JM) : Option JM :=
 g_ ((0 : Int) ≤ l1 ∧ l1 < (80 : Int)) (
 lt_ (w32 ((w32 (3 * (h.1 135 0 l1))) + l2)) (fun x9 =>
 g_ ((0 : Int) ≤ x9 ∧ x9 < (6 : Int)) (
 if h.1 153 0 x9 = 0 then (
 (F12_ready x9 h).bind (fun q10 =>
 F12_toGroup_29 l1 l2 x9 q10.1 q10.2)) else (
 F12_toGroup_29 l1 l2 x9 (-1) h))))
-- X12_goesOn
def F12_goesOn_49b (kp : Int → Int → JM → Option JM) (k49 : Int → Int → Int → JM → Option JM) (l1 : Int) (l2 : Int) (l3 : Int) (h : JM) : Option JM :=
 g_ ((0 : Int) ≤ l2 ∧ l2 < (48 : Int)) (
 if h.1 129 0 l2 ≤ l3 then (
 (F12_analysis l1 h).bind (fun q1 =>
 if 0 ≤ q1.1 then (
 (kp l1 q1.1 q1.2).bind (fun h2 =>
 some h2)) else (
 (F12_over l1 1 (-1) q1.2).bind (fun h3 =>
 some h3)))) else (
 g_ ((0 : Int) ≤ w32 ((w32 (12 * l2)) + l3) ∧ w32 ((w32 (12 * l2)) + l3) < (576 : Int)) (
 g_ ((0 : Int) ≤ w32 ((w32 (12 * l1)) + l3) ∧ w32 ((w32 (12 * l1)) + l3) < (960 : Int)) (
 lt_ (sI h 139 0 (w32 ((w32 (12 * l1)) + l3)) (h.1 128 0 (w32 ((w32 (12 * l2)) + l3)))) (fun h4 =>
 k49 l1 l2 (w32 (l3 + 1)) h4)))))
def F12_goesOn_49 (kp : Int → Int → JM → Option JM) : Nat → Int → Int → Int → JM → Option JM
  | 0, _, _, _, _ => none
  | n + 1, l1, l2, l3, h => F12_goesOn_49b kp (F12_goesOn_49 kp n) l1 l2 l3 h
def F12_goesOn (kp : Int → Int → JM → Option JM) (l1 : Int) (l2 : Int) (h : JM) : Option JM :=
 g_ ((0 : Int) ≤ l1 ∧ l1 < (80 : Int)) (
 lt_ (sI h 137 0 l1 (-1)) (fun h5 =>
 g_ ((0 : Int) ≤ l1 ∧ l1 < (80 : Int)) (
 g_ ((0 : Int) ≤ l1 ∧ l1 < (80 : Int)) (
 lt_ (sI h5 144 0 l1 (w32 ((h5.1 144 0 l1) + 1))) (fun h6 =>
 g_ ((0 : Int) ≤ l1 ∧ l1 < (80 : Int)) (
 if h6.1 144 0 l1 ≤ 5 then (
 g_ ((0 : Int) ≤ l2 ∧ l2 < (48 : Int)) (
 g_ ((0 : Int) ≤ l1 ∧ l1 < (80 : Int)) (
 lt_ (sI h6 140 0 l1 (h6.1 129 0 l2)) (fun h7 =>
 F12_goesOn_49 kp j_fu l1 l2 0 h7)))) else (
 (F12_over l1 2 (-1) h6).bind (fun h8 =>
 some h8))))))))
-- X12_toLine
def F12_toLine_53 (kp : Int → Int → JM → Option JM) (l1 : Int) (l2 : Int) (s0 : Int) (h : JM) : Option JM :=
 g_ ((0 : Int) ≤ w32 (3 * l2) ∧ w32 (3 * l2) < (48 : Int)) (
 if h.1 127 0 (w32 (3 * l2)) = 0 then (
 g_ ((0 : Int) ≤ w32 (3 * l2) ∧ w32 (3 * l2) < (48 : Int)) (
 if h.1 129 0 (w32 (3 * l2)) ≤ 0 then (
 (F12_isFree l2 h).bind (fun q1 =>
 if q1.1 = 0 then (
 if s0 = 0 then (
 g_ ((0 : Int) ≤ w32 ((w32 (3 * l2)) + 1) ∧ w32 ((w32 (3 * l2)) + 1) < (48 : Int)) (
 if q1.2.1 129 0 (w32 ((w32 (3 * l2)) + 1)) ≤ 0 then (
 (F12_over l1 2 (-1) q1.2).bind (fun h2 =>
 some h2)) else (
 (F12_goesOn kp l1 (w32 ((w32 (3 * l2)) + 1)) q1.2).bind (fun h3 =>
 some h3)))) else (
 g_ ((0 : Int) ≤ l2 ∧ l2 < (16 : Int)) (
 lt_ (sI q1.2 120 0 l2 l1) (fun h4 =>
 (F12_rings l1 l2 (-1) h4).bind (fun h5 =>
 some h5))))) else (
 g_ ((0 : Int) ≤ l2 ∧ l2 < (16 : Int)) (
 lt_ (sI q1.2 121 0 l2 l1) (fun h6 =>
 (F12_rings l1 l2 (-1) h6).bind (fun h7 =>
 some h7)))))) else (
 (F12_goesOn kp l1 (w32 (3 * l2)) h).bind (fun h8 =>
 some h8)))) else (
 (F12_over l1 8 (-1) h).bind (fun h9 =>
 some h9)))
def F12_toLine_52 (kp : Int → Int → JM → Option JM) (l1 : Int) (l2 : Int) (h : JM) : Option JM :=
 F12_toLine_53 kp l1 l2 0 h
def F12_toLine (kp : Int → Int → JM → Option JM) (l1 : Int) (l2 : Int) (h : JM) : Option JM :=
 g_ ((0 : Int) ≤ w32 ((w32 (3 * l2)) + 2) ∧ w32 ((w32 (3 * l2)) + 2) < (48 : Int)) (
 if h.1 127 0 (w32 ((w32 (3 * l2)) + 2)) = 0 then (
 F12_toLine_52 kp l1 l2 h) else (
 g_ ((0 : Int) ≤ l2 ∧ l2 < (16 : Int)) (
 if h.1 119 0 l2 = (-1) then (
 F12_toLine_52 kp l1 l2 h) else (
 g_ ((0 : Int) ≤ l2 ∧ l2 < (16 : Int)) (
 g_ ((0 : Int) ≤ h.1 119 0 l2 ∧ h.1 119 0 l2 < (80 : Int)) (
 if h.1 133 0 (h.1 119 0 l2) = 3 then (
 g_ ((0 : Int) ≤ l2 ∧ l2 < (16 : Int)) (
 if h.1 120 0 l2 = (-1) then (
 F12_toLine_53 kp l1 l2 1 h) else (
 F12_toLine_52 kp l1 l2 h))) else (
 F12_toLine_52 kp l1 l2 h)))))))
-- X12_inRoom
def F12_inRoom_55 (k5 : Int → Int → Int → Int → JM → Option (Int × JM)) (l1 : Int) (l2 : Int) (l4 : Int) (s0 : Int) (s1 : Int) (h : JM) : Option (Int × JM) :=
 lt_ (w32 (s0 + s1)) (fun x1 =>
 k5 l1 l2 x1 (w32 (l4 + 1)) h)
def F12_inRoom_54 (k5 : Int → Int → Int → Int → JM → Option (Int × JM)) (l1 : Int) (l2 : Int) (l4 : Int) (s0 : Int) (h : JM) : Option (Int × JM) :=
 F12_inRoom_55 k5 l1 l2 l4 s0 0 h
def F12_inRoom_5b (k5 : Int → Int → Int → Int → JM → Option (Int × JM)) (l1 : Int) (l2 : Int) (l3 : Int) (l4 : Int) (h : JM) : Option (Int × JM) :=
 if 80 ≤ l4 then (
 some (l3, h)) else (
 g_ ((0 : Int) ≤ l4 ∧ l4 < (80 : Int)) (
 if h.1 133 0 l4 = 3 then (
 g_ ((0 : Int) ≤ l4 ∧ l4 < (80 : Int)) (
 if h.1 135 0 l4 = l1 then (
 g_ ((0 : Int) ≤ l4 ∧ l4 < (80 : Int)) (
 if h.1 137 0 l4 = w32 (200 + l2) then (
 F12_inRoom_55 k5 l1 l2 l4 l3 1 h) else (
 F12_inRoom_54 k5 l1 l2 l4 l3 h))) else (
 F12_inRoom_54 k5 l1 l2 l4 l3 h))) else (
 F12_inRoom_54 k5 l1 l2 l4 l3 h)))
def F12_inRoom_5 : Nat → Int → Int → Int → Int → JM → Option (Int × JM)
  | 0, _, _, _, _, _ => none
  | n + 1, l1, l2, l3, l4, h => F12_inRoom_5b (F12_inRoom_5 n) l1 l2 l3 l4 h
def F12_inRoom (l1 : Int) (l2 : Int) (h : JM) : Option (Int × JM) :=
 F12_inRoom_5 j_fu l1 l2 0 0 h
-- X12_toRoom
def F12_toRoom (l1 : Int) (l2 : Int) (h : JM) : Option JM :=
 g_ ((0 : Int) ≤ l1 ∧ l1 < (80 : Int)) (
 (F12_inRoom (h.1 135 0 l1) l2 h).bind (fun q1 =>
 if q1.1 = 8 then (
 (F12_over l1 2 (-1) q1.2).bind (fun h4 =>
 some h4)) else (
 g_ ((0 : Int) ≤ l1 ∧ l1 < (80 : Int)) (
 lt_ (sI q1.2 137 0 l1 (w32 (200 + l2))) (fun h2 =>
 (F12_answered l1 h2).bind (fun h3 =>
 some h3))))))
-- X12_places
def F12_places_30 (kp : Int → Int → JM → Option JM) (l1 : Int) (l2 : Int) (s0 : Option Int) (s1 : Int) (s2 : Int) (h : JM) : Option JM :=
 (s0).bind (fun a1 =>
 g_ ((0 : Int) ≤ s1 ∧ s1 < (80 : Int)) (
 lt_ (sI h 143 a1 s1 s2) (fun h2 =>
 g_ ((0 : Int) ≤ l2 ∧ l2 < (48 : Int)) (
 lt_ (h2.1 110 0 l2) (fun x3 =>
 g_ ((0 : Int) ≤ l2 ∧ l2 < (48 : Int)) (
 if h2.1 109 0 l2 = 0 then (
 (F12_toLine kp l1 x3 h2).bind (fun h4 =>
 some h4)) else (
 if h2.1 109 0 l2 = 1 then (
 g_ ((0 : Int) ≤ l1 ∧ l1 < (80 : Int)) (
 lt_ (sI h2 141 0 l1 x3) (fun h5 =>
 g_ ((0 : Int) ≤ l2 ∧ l2 < (48 : Int)) (
 g_ ((0 : Int) ≤ l1 ∧ l1 < (80 : Int)) (
 lt_ (sI h5 142 0 l1 (h5.1 109 0 l2)) (fun h6 =>
 (F12_toFar l1 h6).bind (fun h7 =>
 some h7))))))) else (
 if h2.1 109 0 l2 = 2 then (
 g_ ((0 : Int) ≤ l1 ∧ l1 < (80 : Int)) (
 lt_ (sI h2 141 0 l1 x3) (fun h8 =>
 g_ ((0 : Int) ≤ l2 ∧ l2 < (48 : Int)) (
 g_ ((0 : Int) ≤ l1 ∧ l1 < (80 : Int)) (
 lt_ (sI h8 142 0 l1 (h8.1 109 0 l2)) (fun h9 =>
 (F12_toFar l1 h9).bind (fun h10 =>
 some h10))))))) else (
 if h2.1 109 0 l2 = 3 then (
 (F12_toGroup l1 x3 h2).bind (fun h11 =>
 some h11)) else (
 (F12_toRoom l1 x3 h2).bind (fun h12 =>
 some h12)))))))))))
def F12_places (kp : Int → Int → JM → Option JM) (l1 : Int) (l2 : Int) (h : JM) : Option JM :=
 g_ ((0 : Int) ≤ l1 ∧ l1 < (80 : Int)) (
 if h.1 143 0 l1 = (-1) then (
 g_ ((0 : Int) ≤ l2 ∧ l2 < (48 : Int)) (
 F12_places_30 kp l1 l2 (some 0) l1 (h.1 111 0 l2) h)) else (
 g_ ((0 : Int) ≤ l1 ∧ l1 < (80 : Int)) (
 F12_places_30 kp l1 l2 (some 0) l1 (h.1 143 0 l1) h)))
-- PN
def F12_placesN : Nat → Int → Int → JM → Option JM
  | 0, _, _, _ => none
  | n + 1, c, r, h => F12_places (F12_placesN n) c r h
-- X12_incoming
def F12_incoming_68b (k68 : Int → Int → JM → Option JM) (l3 : Int) (l4 : Int) (h : JM) : Option JM :=
 g_ ((0 : Int) ≤ 3 ∧ 3 < (64 : Int)) (
 if h.1 168 0 3 ≤ l4 then (
 (F12_analysis l3 h).bind (fun q1 =>
 if 0 ≤ q1.1 then (
 (F12_placesN 8 l3 q1.1 q1.2).bind (fun h2 =>
 some h2)) else (
 (F12_over l3 1 (-1) q1.2).bind (fun h3 =>
 some h3)))) else (
 g_ ((0 : Int) ≤ w32 (4 + l4) ∧ w32 (4 + l4) < (64 : Int)) (
 g_ ((0 : Int) ≤ w32 ((w32 (12 * l3)) + l4) ∧ w32 ((w32 (12 * l3)) + l4) < (960 : Int)) (
 lt_ (sI h 139 0 (w32 ((w32 (12 * l3)) + l4)) (h.1 168 0 (w32 (4 + l4)))) (fun h4 =>
 k68 l3 (w32 (l4 + 1)) h4)))))
def F12_incoming_68 : Nat → Int → Int → JM → Option JM
  | 0, _, _, _ => none
  | n + 1, l3, l4, h => F12_incoming_68b (F12_incoming_68 n) l3 l4 h
def F12_incoming (l1 : Int) (h : JM) : Option JM :=
 g_ ((0 : Int) ≤ 0 ∧ 0 < (64 : Int)) (
 lt_ (w32 ((w32 (16 * l1)) + (h.1 168 0 0))) (fun x5 =>
 g_ ((0 : Int) ≤ x5 ∧ x5 < (32 : Int)) (
 lt_ (sI h 154 0 x5 2) (fun h6 =>
 g_ ((0 : Int) ≤ 0 ∧ 0 < (64 : Int)) (
 (F12_makes l1 (w32 (100 + (h6.1 168 0 0))) h6).bind (fun q7 =>
 g_ ((0 : Int) ≤ x5 ∧ x5 < (32 : Int)) (
 lt_ (sI q7.2 155 0 x5 q7.1) (fun h8 =>
 g_ ((0 : Int) ≤ 2 ∧ 2 < (64 : Int)) (
 g_ ((0 : Int) ≤ q7.1 ∧ q7.1 < (80 : Int)) (
 lt_ (sI h8 144 0 q7.1 (h8.1 168 0 2)) (fun h9 =>
 g_ ((0 : Int) ≤ 3 ∧ 3 < (64 : Int)) (
 g_ ((0 : Int) ≤ q7.1 ∧ q7.1 < (80 : Int)) (
 lt_ (sI h9 140 0 q7.1 (h9.1 168 0 3)) (fun h10 =>
 F12_incoming_68 j_fu q7.1 0 h10))))))))))))))
-- X12_isSo
def F12_isSo_121b (k121 : Int → Int → JM → Option (Int × JM)) (l1 : Int) (l2 : Int) (h : JM) : Option (Int × JM) :=
 if l1 ≤ l2 then (
 some (1, h)) else (
 g_ ((0 : Int) ≤ l2 ∧ l2 < (64 : Int)) (
 if h.1 168 0 l2 ≤ 11 then (
 k121 l1 (w32 (l2 + 1)) h) else (
 some (0, h))))
def F12_isSo_121 : Nat → Int → Int → JM → Option (Int × JM)
  | 0, _, _, _ => none
  | n + 1, l1, l2, h => F12_isSo_121b (F12_isSo_121 n) l1 l2 h
def F12_isSo_117 (h : JM) : Option (Int × JM) :=
 some (0, h)
def F12_isSo_35 (h : JM) : Option (Int × JM) :=
 some (0, h)
def F12_isSo (l1 : Int) (h : JM) : Option (Int × JM) :=
 if l1 < 2 then (
 F12_isSo_35 h) else (
 g_ ((0 : Int) ≤ 0 ∧ 0 < (64 : Int)) (
 if h.1 12 0 0 ≤ h.1 168 0 0 then (
 F12_isSo_35 h) else (
 g_ ((0 : Int) ≤ 1 ∧ 1 < (64 : Int)) (
 (F12_in (h.1 168 0 1) 1 5 h).bind (fun q1 =>
 if q1.1 = 0 then (
 F12_isSo_35 q1.2) else (
 g_ ((0 : Int) ≤ 1 ∧ 1 < (64 : Int)) (
 if q1.2.1 168 0 1 = 4 then (
 if l1 = 3 then (
 some (1, q1.2)) else (
 some (0, q1.2))) else (
 g_ ((0 : Int) ≤ 1 ∧ 1 < (64 : Int)) (
 if q1.2.1 168 0 1 = 1 then (
 if l1 < 4 then (
 F12_isSo_117 q1.2) else (
 g_ ((0 : Int) ≤ 2 ∧ 2 < (64 : Int)) (
 if 5 < q1.2.1 168 0 2 then (
 F12_isSo_117 q1.2) else (
 g_ ((0 : Int) ≤ 3 ∧ 3 < (64 : Int)) (
 if 12 < q1.2.1 168 0 3 then (
 F12_isSo_117 q1.2) else (
 g_ ((0 : Int) ≤ 3 ∧ 3 < (64 : Int)) (
 if l1 = w32 (4 + (q1.2.1 168 0 3)) then (
 F12_isSo_121 j_fu l1 4 q1.2) else (
 F12_isSo_117 q1.2)))))))) else (
 if l1 = 2 then (
 some (1, q1.2)) else (
 some (0, q1.2))))))))))))
