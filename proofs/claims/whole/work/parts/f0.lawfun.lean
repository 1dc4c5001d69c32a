set_option maxRecDepth 100000 in
def FL_cell (l0 : Option Int) (l1 : Int) (h : JM) : Option (Int × JM) :=
 (l0).bind (fun a1 =>
 g_ ((0 : Int) ≤ h.1 1099 a1 1 ∧ h.1 1099 a1 1 < (2147483648 : Int)) (
 if h.1 1099 a1 1 ≤ l1 then (
 some (0, h)) else (
 g_ ((0 : Int) ≤ l1 ∧ l1 < (h.1 1099 a1 1 : Int)) (
 some (h.1 99 a1 l1, h)))))
set_option maxRecDepth 100000 in
def FL_law_1102 (k38 : Option Int → Option Int → Option Int → Int → JM → Option (Int × JM)) (l0 : Option Int) (l1 : Option Int) (l2 : Option Int) (l3 : Int) (h : JM) : Option (Int × JM) :=
 k38 l0 l1 l2 (w32 (l3 + 6)) h
set_option maxRecDepth 100000 in
def FL_law_576 (k38 : Option Int → Option Int → Option Int → Int → JM → Option (Int × JM)) (l0 : Option Int) (l1 : Option Int) (l2 : Option Int) (l3 : Int) (s0 : Int) (s1 : Option Int) (s2 : Int) (s3 : Int) (h : JM) : Option (Int × JM) :=
 (s1).bind (fun a1 => g_ (a1 = 0) (
 (F12_hook s2 s3 h).bind (fun q2 =>
 if s0 = q2.1 then (
 FL_law_1102 k38 l0 l1 l2 l3 q2.2) else (
 some (0, q2.2)))))
set_option maxRecDepth 100000 in
def FL_law_554 (k38 : Option Int → Option Int → Option Int → Int → JM → Option (Int × JM)) (l0 : Option Int) (l1 : Option Int) (l2 : Option Int) (l3 : Int) (s0 : Option Int) (s1 : Int) (s2 : Int) (h : JM) : Option (Int × JM) :=
 (s0).bind (fun a3 => g_ (a3 = 0) (
 (F11_hook s1 s2 h).bind (fun q4 =>
 (l0).bind (fun a5 =>
 g_ ((0 : Int) ≤ w32 (l3 + 1) ∧ w32 (l3 + 1) < (q4.2.1 1099 a5 1 : Int)) (
 g_ ((0 : Int) ≤ w32 (l3 + 2) ∧ w32 (l3 + 2) < (q4.2.1 1099 a5 1 : Int)) (
 if q4.2.1 99 a5 (w32 (l3 + 2)) = 0 then (
 FL_law_576 k38 (some a5) l1 l2 l3 q4.1 l2 (q4.2.1 99 a5 (w32 (l3 + 1))) 0 q4.2) else (
 FL_law_576 k38 (some a5) l1 l2 l3 q4.1 l2 (q4.2.1 99 a5 (w32 (l3 + 1))) 1 q4.2)))))))
set_option maxRecDepth 100000 in
def FL_law_398 (k38 : Option Int → Option Int → Option Int → Int → JM → Option (Int × JM)) (l0 : Option Int) (l1 : Option Int) (l2 : Option Int) (l3 : Int) (s0 : Int) (s1 : Option Int) (s2 : Int) (s3 : Int) (s4 : Int) (h : JM) : Option (Int × JM) :=
 (s1).bind (fun a6 => g_ (a6 = 0) (
 (F12_feature s2 s3 s4 h).bind (fun q7 =>
 if s0 = q7.1 then (
 FL_law_1102 k38 l0 l1 l2 l3 q7.2) else (
 some (0, q7.2)))))
set_option maxRecDepth 100000 in
def FL_law_371 (k38 : Option Int → Option Int → Option Int → Int → JM → Option (Int × JM)) (l0 : Option Int) (l1 : Option Int) (l2 : Option Int) (l3 : Int) (s0 : Option Int) (s1 : Int) (s2 : Int) (s3 : Int) (h : JM) : Option (Int × JM) :=
 (s0).bind (fun a8 => g_ (a8 = 0) (
 (F11_feature s1 s2 s3 h).bind (fun q9 =>
 (l0).bind (fun a10 =>
 g_ ((0 : Int) ≤ w32 (l3 + 1) ∧ w32 (l3 + 1) < (q9.2.1 1099 a10 1 : Int)) (
 g_ ((0 : Int) ≤ w32 (l3 + 2) ∧ w32 (l3 + 2) < (q9.2.1 1099 a10 1 : Int)) (
 g_ ((0 : Int) ≤ w32 (l3 + 3) ∧ w32 (l3 + 3) < (q9.2.1 1099 a10 1 : Int)) (
 if q9.2.1 99 a10 (w32 (l3 + 3)) = 0 then (
 FL_law_398 k38 (some a10) l1 l2 l3 q9.1 l2 (q9.2.1 99 a10 (w32 (l3 + 1))) (q9.2.1 99 a10 (w32 (l3 + 2))) 0 q9.2) else (
 FL_law_398 k38 (some a10) l1 l2 l3 q9.1 l2 (q9.2.1 99 a10 (w32 (l3 + 1))) (q9.2.1 99 a10 (w32 (l3 + 2))) 1 q9.2))))))))
set_option maxRecDepth 100000 in
def FL_law_38b (k38 : Option Int → Option Int → Option Int → Int → JM → Option (Int × JM)) (l0 : Option Int) (l1 : Option Int) (l2 : Option Int) (l3 : Int) (h : JM) : Option (Int × JM) :=
 (l0).bind (fun a11 =>
 g_ ((0 : Int) ≤ h.1 1099 a11 1 ∧ h.1 1099 a11 1 < (2147483648 : Int)) (
 if w32 ((h.1 1099 a11 1) - 6) < l3 then (
 some (1, h)) else (
 g_ ((0 : Int) ≤ l3 ∧ l3 < (h.1 1099 a11 1 : Int)) (
 if j_and (h.1 99 a11 l3) 31 = 0 then (
 g_ ((0 : Int) ≤ w32 (l3 + 1) ∧ w32 (l3 + 1) < (h.1 1099 a11 1 : Int)) (
 (l1).bind (fun a12 => g_ (a12 = 0) (
 (F11_key (h.1 99 a11 (w32 (l3 + 1))) h).bind (fun q13 =>
 g_ ((0 : Int) ≤ w32 (l3 + 1) ∧ w32 (l3 + 1) < (q13.2.1 1099 a11 1 : Int)) (
 (l2).bind (fun a14 => g_ (a14 = 0) (
 (F12_key (q13.2.1 99 a11 (w32 (l3 + 1))) q13.2).bind (fun q15 =>
 if q13.1 = q15.1 then (
 FL_law_1102 k38 (some a11) (some 0) (some 0) l3 q15.2) else (
 some (0, q15.2))))))))))) else (
 if j_and (h.1 99 a11 l3) 31 = 1 then (
 (l1).bind (fun a16 => g_ (a16 = 0) (
 (F11_keyless h).bind (fun q17 =>
 (l2).bind (fun a18 => g_ (a18 = 0) (
 (F12_keyless q17.2).bind (fun q19 =>
 if q17.1 = q19.1 then (
 FL_law_1102 k38 (some a11) (some 0) (some 0) l3 q19.2) else (
 some (0, q19.2))))))))) else (
 if j_and (h.1 99 a11 l3) 31 = 2 then (
 g_ ((0 : Int) ≤ w32 (l3 + 1) ∧ w32 (l3 + 1) < (h.1 1099 a11 1 : Int)) (
 g_ ((0 : Int) ≤ w32 (l3 + 2) ∧ w32 (l3 + 2) < (h.1 1099 a11 1 : Int)) (
 g_ ((0 : Int) ≤ w32 (l3 + 3) ∧ w32 (l3 + 3) < (h.1 1099 a11 1 : Int)) (
 g_ ((0 : Int) ≤ w32 (l3 + 4) ∧ w32 (l3 + 4) < (h.1 1099 a11 1 : Int)) (
 g_ ((0 : Int) ≤ w32 (l3 + 5) ∧ w32 (l3 + 5) < (h.1 1099 a11 1 : Int)) (
 (l1).bind (fun a20 => g_ (a20 = 0) (
 (F11_plan (h.1 99 a11 (w32 (l3 + 1))) (h.1 99 a11 (w32 (l3 + 2))) (h.1 99 a11 (w32 (l3 + 3))) (h.1 99 a11 (w32 (l3 + 4))) (h.1 99 a11 (w32 (l3 + 5))) h).bind (fun q21 =>
 g_ ((0 : Int) ≤ w32 (l3 + 1) ∧ w32 (l3 + 1) < (q21.2.1 1099 a11 1 : Int)) (
 g_ ((0 : Int) ≤ w32 (l3 + 2) ∧ w32 (l3 + 2) < (q21.2.1 1099 a11 1 : Int)) (
 g_ ((0 : Int) ≤ w32 (l3 + 3) ∧ w32 (l3 + 3) < (q21.2.1 1099 a11 1 : Int)) (
 g_ ((0 : Int) ≤ w32 (l3 + 4) ∧ w32 (l3 + 4) < (q21.2.1 1099 a11 1 : Int)) (
 g_ ((0 : Int) ≤ w32 (l3 + 5) ∧ w32 (l3 + 5) < (q21.2.1 1099 a11 1 : Int)) (
 (l2).bind (fun a22 => g_ (a22 = 0) (
 (F12_plan (q21.2.1 99 a11 (w32 (l3 + 1))) (q21.2.1 99 a11 (w32 (l3 + 2))) (q21.2.1 99 a11 (w32 (l3 + 3))) (q21.2.1 99 a11 (w32 (l3 + 4))) (q21.2.1 99 a11 (w32 (l3 + 5))) q21.2).bind (fun q23 =>
 if q21.1 = q23.1 then (
 FL_law_1102 k38 (some a11) (some 0) (some 0) l3 q23.2) else (
 some (0, q23.2))))))))))))))))))) else (
 if j_and (h.1 99 a11 l3) 31 = 3 then (
 g_ ((0 : Int) ≤ w32 (l3 + 1) ∧ w32 (l3 + 1) < (h.1 1099 a11 1 : Int)) (
 g_ ((0 : Int) ≤ w32 (l3 + 2) ∧ w32 (l3 + 2) < (h.1 1099 a11 1 : Int)) (
 (l1).bind (fun a24 => g_ (a24 = 0) (
 (F11_member (h.1 99 a11 (w32 (l3 + 1))) (h.1 99 a11 (w32 (l3 + 2))) h).bind (fun q25 =>
 g_ ((0 : Int) ≤ w32 (l3 + 1) ∧ w32 (l3 + 1) < (q25.2.1 1099 a11 1 : Int)) (
 g_ ((0 : Int) ≤ w32 (l3 + 2) ∧ w32 (l3 + 2) < (q25.2.1 1099 a11 1 : Int)) (
 (l2).bind (fun a26 => g_ (a26 = 0) (
 (F12_member (q25.2.1 99 a11 (w32 (l3 + 1))) (q25.2.1 99 a11 (w32 (l3 + 2))) q25.2).bind (fun q27 =>
 if q25.1 = q27.1 then (
 FL_law_1102 k38 (some a11) (some 0) (some 0) l3 q27.2) else (
 some (0, q27.2))))))))))))) else (
 if j_and (h.1 99 a11 l3) 31 = 4 then (
 g_ ((0 : Int) ≤ w32 (l3 + 1) ∧ w32 (l3 + 1) < (h.1 1099 a11 1 : Int)) (
 g_ ((0 : Int) ≤ w32 (l3 + 2) ∧ w32 (l3 + 2) < (h.1 1099 a11 1 : Int)) (
 g_ ((0 : Int) ≤ w32 (l3 + 3) ∧ w32 (l3 + 3) < (h.1 1099 a11 1 : Int)) (
 (l1).bind (fun a28 => g_ (a28 = 0) (
 (F11_waiting (h.1 99 a11 (w32 (l3 + 1))) (h.1 99 a11 (w32 (l3 + 2))) (h.1 99 a11 (w32 (l3 + 3))) h).bind (fun q29 =>
 g_ ((0 : Int) ≤ w32 (l3 + 1) ∧ w32 (l3 + 1) < (q29.2.1 1099 a11 1 : Int)) (
 g_ ((0 : Int) ≤ w32 (l3 + 2) ∧ w32 (l3 + 2) < (q29.2.1 1099 a11 1 : Int)) (
 g_ ((0 : Int) ≤ w32 (l3 + 3) ∧ w32 (l3 + 3) < (q29.2.1 1099 a11 1 : Int)) (
 (l2).bind (fun a30 => g_ (a30 = 0) (
 (F12_waiting (q29.2.1 99 a11 (w32 (l3 + 1))) (q29.2.1 99 a11 (w32 (l3 + 2))) (q29.2.1 99 a11 (w32 (l3 + 3))) q29.2).bind (fun q31 =>
 if q29.1 = q31.1 then (
 FL_law_1102 k38 (some a11) (some 0) (some 0) l3 q31.2) else (
 some (0, q31.2))))))))))))))) else (
 if j_and (h.1 99 a11 l3) 31 = 5 then (
 g_ ((0 : Int) ≤ w32 (l3 + 1) ∧ w32 (l3 + 1) < (h.1 1099 a11 1 : Int)) (
 g_ ((0 : Int) ≤ w32 (l3 + 2) ∧ w32 (l3 + 2) < (h.1 1099 a11 1 : Int)) (
 g_ ((0 : Int) ≤ w32 (l3 + 3) ∧ w32 (l3 + 3) < (h.1 1099 a11 1 : Int)) (
 if h.1 99 a11 (w32 (l3 + 3)) = 0 then (
 FL_law_371 k38 (some a11) l1 l2 l3 l1 (h.1 99 a11 (w32 (l3 + 1))) (h.1 99 a11 (w32 (l3 + 2))) 0 h) else (
 FL_law_371 k38 (some a11) l1 l2 l3 l1 (h.1 99 a11 (w32 (l3 + 1))) (h.1 99 a11 (w32 (l3 + 2))) 1 h))))) else (
 if j_and (h.1 99 a11 l3) 31 = 6 then (
 g_ ((0 : Int) ≤ w32 (l3 + 1) ∧ w32 (l3 + 1) < (h.1 1099 a11 1 : Int)) (
 g_ ((0 : Int) ≤ w32 (l3 + 2) ∧ w32 (l3 + 2) < (h.1 1099 a11 1 : Int)) (
 (l1).bind (fun a32 => g_ (a32 = 0) (
 (F11_forward (h.1 99 a11 (w32 (l3 + 1))) (h.1 99 a11 (w32 (l3 + 2))) h).bind (fun q33 =>
 g_ ((0 : Int) ≤ w32 (l3 + 1) ∧ w32 (l3 + 1) < (q33.2.1 1099 a11 1 : Int)) (
 g_ ((0 : Int) ≤ w32 (l3 + 2) ∧ w32 (l3 + 2) < (q33.2.1 1099 a11 1 : Int)) (
 (l2).bind (fun a34 => g_ (a34 = 0) (
 (F12_forward (q33.2.1 99 a11 (w32 (l3 + 1))) (q33.2.1 99 a11 (w32 (l3 + 2))) q33.2).bind (fun q35 =>
 if q33.1 = q35.1 then (
 FL_law_1102 k38 (some a11) (some 0) (some 0) l3 q35.2) else (
 some (0, q35.2))))))))))))) else (
 if j_and (h.1 99 a11 l3) 31 = 7 then (
 g_ ((0 : Int) ≤ w32 (l3 + 1) ∧ w32 (l3 + 1) < (h.1 1099 a11 1 : Int)) (
 g_ ((0 : Int) ≤ w32 (l3 + 2) ∧ w32 (l3 + 2) < (h.1 1099 a11 1 : Int)) (
 g_ ((0 : Int) ≤ w32 (l3 + 3) ∧ w32 (l3 + 3) < (h.1 1099 a11 1 : Int)) (
 g_ ((0 : Int) ≤ w32 (l3 + 4) ∧ w32 (l3 + 4) < (h.1 1099 a11 1 : Int)) (
 g_ ((0 : Int) ≤ w32 (l3 + 5) ∧ w32 (l3 + 5) < (h.1 1099 a11 1 : Int)) (
 (l1).bind (fun a36 => g_ (a36 = 0) (
 (F11_tariff (h.1 99 a11 (w32 (l3 + 1))) (h.1 99 a11 (w32 (l3 + 2))) (h.1 99 a11 (w32 (l3 + 3))) (h.1 99 a11 (w32 (l3 + 4))) (h.1 99 a11 (w32 (l3 + 5))) h).bind (fun q37 =>
 g_ ((0 : Int) ≤ w32 (l3 + 1) ∧ w32 (l3 + 1) < (q37.2.1 1099 a11 1 : Int)) (
 g_ ((0 : Int) ≤ w32 (l3 + 2) ∧ w32 (l3 + 2) < (q37.2.1 1099 a11 1 : Int)) (
 g_ ((0 : Int) ≤ w32 (l3 + 3) ∧ w32 (l3 + 3) < (q37.2.1 1099 a11 1 : Int)) (
 g_ ((0 : Int) ≤ w32 (l3 + 4) ∧ w32 (l3 + 4) < (q37.2.1 1099 a11 1 : Int)) (
 g_ ((0 : Int) ≤ w32 (l3 + 5) ∧ w32 (l3 + 5) < (q37.2.1 1099 a11 1 : Int)) (
 (l2).bind (fun a38 => g_ (a38 = 0) (
 (F12_tariff (q37.2.1 99 a11 (w32 (l3 + 1))) (q37.2.1 99 a11 (w32 (l3 + 2))) (q37.2.1 99 a11 (w32 (l3 + 3))) (q37.2.1 99 a11 (w32 (l3 + 4))) (q37.2.1 99 a11 (w32 (l3 + 5))) q37.2).bind (fun q39 =>
 if q37.1 = q39.1 then (
 FL_law_1102 k38 (some a11) (some 0) (some 0) l3 q39.2) else (
 some (0, q39.2))))))))))))))))))) else (
 if j_and (h.1 99 a11 l3) 31 = 8 then (
 g_ ((0 : Int) ≤ w32 (l3 + 1) ∧ w32 (l3 + 1) < (h.1 1099 a11 1 : Int)) (
 g_ ((0 : Int) ≤ w32 (l3 + 2) ∧ w32 (l3 + 2) < (h.1 1099 a11 1 : Int)) (
 (l1).bind (fun a40 => g_ (a40 = 0) (
 (F11_credit (h.1 99 a11 (w32 (l3 + 1))) (h.1 99 a11 (w32 (l3 + 2))) h).bind (fun q41 =>
 g_ ((0 : Int) ≤ w32 (l3 + 1) ∧ w32 (l3 + 1) < (q41.2.1 1099 a11 1 : Int)) (
 g_ ((0 : Int) ≤ w32 (l3 + 2) ∧ w32 (l3 + 2) < (q41.2.1 1099 a11 1 : Int)) (
 (l2).bind (fun a42 => g_ (a42 = 0) (
 (F12_credit (q41.2.1 99 a11 (w32 (l3 + 1))) (q41.2.1 99 a11 (w32 (l3 + 2))) q41.2).bind (fun q43 =>
 if q41.1 = q43.1 then (
 FL_law_1102 k38 (some a11) (some 0) (some 0) l3 q43.2) else (
 some (0, q43.2))))))))))))) else (
 if j_and (h.1 99 a11 l3) 31 = 9 then (
 g_ ((0 : Int) ≤ w32 (l3 + 1) ∧ w32 (l3 + 1) < (h.1 1099 a11 1 : Int)) (
 g_ ((0 : Int) ≤ w32 (l3 + 2) ∧ w32 (l3 + 2) < (h.1 1099 a11 1 : Int)) (
 if h.1 99 a11 (w32 (l3 + 2)) = 0 then (
 FL_law_554 k38 (some a11) l1 l2 l3 l1 (h.1 99 a11 (w32 (l3 + 1))) 0 h) else (
 FL_law_554 k38 (some a11) l1 l2 l3 l1 (h.1 99 a11 (w32 (l3 + 1))) 1 h)))) else (
 if j_and (h.1 99 a11 l3) 31 = 10 then (
 g_ ((0 : Int) ≤ w32 (l3 + 1) ∧ w32 (l3 + 1) < (h.1 1099 a11 1 : Int)) (
 g_ ((0 : Int) ≤ w32 (l3 + 2) ∧ w32 (l3 + 2) < (h.1 1099 a11 1 : Int)) (
 (l1).bind (fun a44 => g_ (a44 = 0) (
 (F11_dial (h.1 99 a11 (w32 (l3 + 1))) (h.1 99 a11 (w32 (l3 + 2))) h).bind (fun q45 =>
 g_ ((0 : Int) ≤ w32 (l3 + 1) ∧ w32 (l3 + 1) < (q45.2.1 1099 a11 1 : Int)) (
 g_ ((0 : Int) ≤ w32 (l3 + 2) ∧ w32 (l3 + 2) < (q45.2.1 1099 a11 1 : Int)) (
 (l2).bind (fun a46 => g_ (a46 = 0) (
 (F12_dial (q45.2.1 99 a11 (w32 (l3 + 1))) (q45.2.1 99 a11 (w32 (l3 + 2))) q45.2).bind (fun q47 =>
 if q45.1 = q47.1 then (
 FL_law_1102 k38 (some a11) (some 0) (some 0) l3 q47.2) else (
 some (0, q47.2))))))))))))) else (
 if j_and (h.1 99 a11 l3) 31 = 11 then (
 g_ ((0 : Int) ≤ w32 (l3 + 1) ∧ w32 (l3 + 1) < (h.1 1099 a11 1 : Int)) (
 g_ ((0 : Int) ≤ w32 (l3 + 2) ∧ w32 (l3 + 2) < (h.1 1099 a11 1 : Int)) (
 (l1).bind (fun a48 => g_ (a48 = 0) (
 (F11_say (h.1 99 a11 (w32 (l3 + 1))) (h.1 99 a11 (w32 (l3 + 2))) h).bind (fun q49 =>
 g_ ((0 : Int) ≤ w32 (l3 + 1) ∧ w32 (l3 + 1) < (q49.2.1 1099 a11 1 : Int)) (
 g_ ((0 : Int) ≤ w32 (l3 + 2) ∧ w32 (l3 + 2) < (q49.2.1 1099 a11 1 : Int)) (
 (l2).bind (fun a50 => g_ (a50 = 0) (
 (F12_say (q49.2.1 99 a11 (w32 (l3 + 1))) (q49.2.1 99 a11 (w32 (l3 + 2))) q49.2).bind (fun q51 =>
 if q49.1 = q51.1 then (
 FL_law_1102 k38 (some a11) (some 0) (some 0) l3 q51.2) else (
 some (0, q51.2))))))))))))) else (
 if j_and (h.1 99 a11 l3) 31 = 12 then (
 g_ ((0 : Int) ≤ w32 (l3 + 1) ∧ w32 (l3 + 1) < (h.1 1099 a11 1 : Int)) (
 g_ ((0 : Int) ≤ w32 (l3 + 2) ∧ w32 (l3 + 2) < (h.1 1099 a11 1 : Int)) (
 g_ ((0 : Int) ≤ w32 (l3 + 3) ∧ w32 (l3 + 3) < (h.1 1099 a11 1 : Int)) (
 (l1).bind (fun a52 => g_ (a52 = 0) (
 (F11_spoil (h.1 99 a11 (w32 (l3 + 1))) (h.1 99 a11 (w32 (l3 + 2))) (h.1 99 a11 (w32 (l3 + 3))) h).bind (fun q53 =>
 g_ ((0 : Int) ≤ w32 (l3 + 1) ∧ w32 (l3 + 1) < (q53.2.1 1099 a11 1 : Int)) (
 g_ ((0 : Int) ≤ w32 (l3 + 2) ∧ w32 (l3 + 2) < (q53.2.1 1099 a11 1 : Int)) (
 g_ ((0 : Int) ≤ w32 (l3 + 3) ∧ w32 (l3 + 3) < (q53.2.1 1099 a11 1 : Int)) (
 (l2).bind (fun a54 => g_ (a54 = 0) (
 (F12_spoil (q53.2.1 99 a11 (w32 (l3 + 1))) (q53.2.1 99 a11 (w32 (l3 + 2))) (q53.2.1 99 a11 (w32 (l3 + 3))) q53.2).bind (fun q55 =>
 if q53.1 = q55.1 then (
 FL_law_1102 k38 (some a11) (some 0) (some 0) l3 q55.2) else (
 some (0, q55.2))))))))))))))) else (
 if j_and (h.1 99 a11 l3) 31 = 13 then (
 g_ ((0 : Int) ≤ w32 (l3 + 1) ∧ w32 (l3 + 1) < (h.1 1099 a11 1 : Int)) (
 g_ ((0 : Int) ≤ w32 (l3 + 2) ∧ w32 (l3 + 2) < (h.1 1099 a11 1 : Int)) (
 (l1).bind (fun a56 => g_ (a56 = 0) (
 (F11_lose (h.1 99 a11 (w32 (l3 + 1))) (h.1 99 a11 (w32 (l3 + 2))) h).bind (fun q57 =>
 g_ ((0 : Int) ≤ w32 (l3 + 1) ∧ w32 (l3 + 1) < (q57.2.1 1099 a11 1 : Int)) (
 g_ ((0 : Int) ≤ w32 (l3 + 2) ∧ w32 (l3 + 2) < (q57.2.1 1099 a11 1 : Int)) (
 (l2).bind (fun a58 => g_ (a58 = 0) (
 (F12_lose (q57.2.1 99 a11 (w32 (l3 + 1))) (q57.2.1 99 a11 (w32 (l3 + 2))) q57.2).bind (fun q59 =>
 if q57.1 = q59.1 then (
 FL_law_1102 k38 (some a11) (some 0) (some 0) l3 q59.2) else (
 some (0, q59.2))))))))))))) else (
 if j_and (h.1 99 a11 l3) 31 = 14 then (
 g_ ((0 : Int) ≤ w32 (l3 + 1) ∧ w32 (l3 + 1) < (h.1 1099 a11 1 : Int)) (
 (l1).bind (fun a60 => g_ (a60 = 0) (
 (F11_tick (h.1 99 a11 (w32 (l3 + 1))) h).bind (fun q61 =>
 g_ ((0 : Int) ≤ w32 (l3 + 1) ∧ w32 (l3 + 1) < (q61.2.1 1099 a11 1 : Int)) (
 (l2).bind (fun a62 => g_ (a62 = 0) (
 (F12_tick (q61.2.1 99 a11 (w32 (l3 + 1))) q61.2).bind (fun q63 =>
 if q61.1 = q63.1 then (
 FL_law_1102 k38 (some a11) (some 0) (some 0) l3 q63.2) else (
 some (0, q63.2))))))))))) else (
 if j_and (h.1 99 a11 l3) 31 = 15 then (
 g_ ((0 : Int) ≤ w32 (l3 + 1) ∧ w32 (l3 + 1) < (h.1 1099 a11 1 : Int)) (
 g_ ((0 : Int) ≤ w32 (l3 + 2) ∧ w32 (l3 + 2) < (h.1 1099 a11 1 : Int)) (
 (l1).bind (fun a64 => g_ (a64 = 0) (
 (F11_line (h.1 99 a11 (w32 (l3 + 1))) (h.1 99 a11 (w32 (l3 + 2))) h).bind (fun q65 =>
 g_ ((0 : Int) ≤ w32 (l3 + 1) ∧ w32 (l3 + 1) < (q65.2.1 1099 a11 1 : Int)) (
 g_ ((0 : Int) ≤ w32 (l3 + 2) ∧ w32 (l3 + 2) < (q65.2.1 1099 a11 1 : Int)) (
 (l2).bind (fun a66 => g_ (a66 = 0) (
 (F12_line (q65.2.1 99 a11 (w32 (l3 + 1))) (q65.2.1 99 a11 (w32 (l3 + 2))) q65.2).bind (fun q67 =>
 if q65.1 = q67.1 then (
 FL_law_1102 k38 (some a11) (some 0) (some 0) l3 q67.2) else (
 some (0, q67.2))))))))))))) else (
 if j_and (h.1 99 a11 l3) 31 = 16 then (
 g_ ((0 : Int) ≤ w32 (l3 + 1) ∧ w32 (l3 + 1) < (h.1 1099 a11 1 : Int)) (
 (l1).bind (fun a68 => g_ (a68 = 0) (
 (F11_partner (h.1 99 a11 (w32 (l3 + 1))) h).bind (fun q69 =>
 g_ ((0 : Int) ≤ w32 (l3 + 1) ∧ w32 (l3 + 1) < (q69.2.1 1099 a11 1 : Int)) (
 (l2).bind (fun a70 => g_ (a70 = 0) (
 (F12_partner (q69.2.1 99 a11 (w32 (l3 + 1))) q69.2).bind (fun q71 =>
 if q69.1 = q71.1 then (
 FL_law_1102 k38 (some a11) (some 0) (some 0) l3 q71.2) else (
 some (0, q71.2))))))))))) else (
 if j_and (h.1 99 a11 l3) 31 = 17 then (
 g_ ((0 : Int) ≤ w32 (l3 + 1) ∧ w32 (l3 + 1) < (h.1 1099 a11 1 : Int)) (
 (l1).bind (fun a72 => g_ (a72 = 0) (
 (F11_heard (h.1 99 a11 (w32 (l3 + 1))) h).bind (fun q73 =>
 g_ ((0 : Int) ≤ w32 (l3 + 1) ∧ w32 (l3 + 1) < (q73.2.1 1099 a11 1 : Int)) (
 (l2).bind (fun a74 => g_ (a74 = 0) (
 (F12_heard (q73.2.1 99 a11 (w32 (l3 + 1))) q73.2).bind (fun q75 =>
 if q73.1 = q75.1 then (
 FL_law_1102 k38 (some a11) (some 0) (some 0) l3 q75.2) else (
 some (0, q75.2))))))))))) else (
 if j_and (h.1 99 a11 l3) 31 = 18 then (
 g_ ((0 : Int) ≤ w32 (l3 + 1) ∧ w32 (l3 + 1) < (h.1 1099 a11 1 : Int)) (
 g_ ((0 : Int) ≤ w32 (l3 + 2) ∧ w32 (l3 + 2) < (h.1 1099 a11 1 : Int)) (
 (l1).bind (fun a76 => g_ (a76 = 0) (
 (F11_circuit (h.1 99 a11 (w32 (l3 + 1))) (h.1 99 a11 (w32 (l3 + 2))) h).bind (fun q77 =>
 g_ ((0 : Int) ≤ w32 (l3 + 1) ∧ w32 (l3 + 1) < (q77.2.1 1099 a11 1 : Int)) (
 g_ ((0 : Int) ≤ w32 (l3 + 2) ∧ w32 (l3 + 2) < (q77.2.1 1099 a11 1 : Int)) (
 (l2).bind (fun a78 => g_ (a78 = 0) (
 (F12_circuit (q77.2.1 99 a11 (w32 (l3 + 1))) (q77.2.1 99 a11 (w32 (l3 + 2))) q77.2).bind (fun q79 =>
 if q77.1 = q79.1 then (
 FL_law_1102 k38 (some a11) (some 0) (some 0) l3 q79.2) else (
 some (0, q79.2))))))))))))) else (
 if j_and (h.1 99 a11 l3) 31 = 19 then (
 g_ ((0 : Int) ≤ w32 (l3 + 1) ∧ w32 (l3 + 1) < (h.1 1099 a11 1 : Int)) (
 g_ ((0 : Int) ≤ w32 (l3 + 2) ∧ w32 (l3 + 2) < (h.1 1099 a11 1 : Int)) (
 (l1).bind (fun a80 => g_ (a80 = 0) (
 (F11_speech (h.1 99 a11 (w32 (l3 + 1))) (h.1 99 a11 (w32 (l3 + 2))) h).bind (fun q81 =>
 g_ ((0 : Int) ≤ w32 (l3 + 1) ∧ w32 (l3 + 1) < (q81.2.1 1099 a11 1 : Int)) (
 g_ ((0 : Int) ≤ w32 (l3 + 2) ∧ w32 (l3 + 2) < (q81.2.1 1099 a11 1 : Int)) (
 (l2).bind (fun a82 => g_ (a82 = 0) (
 (F12_speech (q81.2.1 99 a11 (w32 (l3 + 1))) (q81.2.1 99 a11 (w32 (l3 + 2))) q81.2).bind (fun q83 =>
 if q81.1 = q83.1 then (
 FL_law_1102 k38 (some a11) (some 0) (some 0) l3 q83.2) else (
 some (0, q83.2))))))))))))) else (
 if j_and (h.1 99 a11 l3) 31 = 20 then (
 g_ ((0 : Int) ≤ w32 (l3 + 1) ∧ w32 (l3 + 1) < (h.1 1099 a11 1 : Int)) (
 g_ ((0 : Int) ≤ w32 (l3 + 2) ∧ w32 (l3 + 2) < (h.1 1099 a11 1 : Int)) (
 g_ ((0 : Int) ≤ w32 (l3 + 3) ∧ w32 (l3 + 3) < (h.1 1099 a11 1 : Int)) (
 (l1).bind (fun a84 => g_ (a84 = 0) (
 (F11_group (h.1 99 a11 (w32 (l3 + 1))) (h.1 99 a11 (w32 (l3 + 2))) (h.1 99 a11 (w32 (l3 + 3))) h).bind (fun q85 =>
 g_ ((0 : Int) ≤ w32 (l3 + 1) ∧ w32 (l3 + 1) < (q85.2.1 1099 a11 1 : Int)) (
 g_ ((0 : Int) ≤ w32 (l3 + 2) ∧ w32 (l3 + 2) < (q85.2.1 1099 a11 1 : Int)) (
 g_ ((0 : Int) ≤ w32 (l3 + 3) ∧ w32 (l3 + 3) < (q85.2.1 1099 a11 1 : Int)) (
 (l2).bind (fun a86 => g_ (a86 = 0) (
 (F12_group (q85.2.1 99 a11 (w32 (l3 + 1))) (q85.2.1 99 a11 (w32 (l3 + 2))) (q85.2.1 99 a11 (w32 (l3 + 3))) q85.2).bind (fun q87 =>
 if q85.1 = q87.1 then (
 FL_law_1102 k38 (some a11) (some 0) (some 0) l3 q87.2) else (
 some (0, q87.2))))))))))))))) else (
 if j_and (h.1 99 a11 l3) 31 = 21 then (
 g_ ((0 : Int) ≤ w32 (l3 + 1) ∧ w32 (l3 + 1) < (h.1 1099 a11 1 : Int)) (
 g_ ((0 : Int) ≤ w32 (l3 + 2) ∧ w32 (l3 + 2) < (h.1 1099 a11 1 : Int)) (
 (l1).bind (fun a88 => g_ (a88 = 0) (
 (F11_room (h.1 99 a11 (w32 (l3 + 1))) (h.1 99 a11 (w32 (l3 + 2))) h).bind (fun q89 =>
 g_ ((0 : Int) ≤ w32 (l3 + 1) ∧ w32 (l3 + 1) < (q89.2.1 1099 a11 1 : Int)) (
 g_ ((0 : Int) ≤ w32 (l3 + 2) ∧ w32 (l3 + 2) < (q89.2.1 1099 a11 1 : Int)) (
 (l2).bind (fun a90 => g_ (a90 = 0) (
 (F12_room (q89.2.1 99 a11 (w32 (l3 + 1))) (q89.2.1 99 a11 (w32 (l3 + 2))) q89.2).bind (fun q91 =>
 if q89.1 = q91.1 then (
 FL_law_1102 k38 (some a11) (some 0) (some 0) l3 q91.2) else (
 some (0, q91.2))))))))))))) else (
 if j_and (h.1 99 a11 l3) 31 = 22 then (
 g_ ((0 : Int) ≤ w32 (l3 + 1) ∧ w32 (l3 + 1) < (h.1 1099 a11 1 : Int)) (
 g_ ((0 : Int) ≤ w32 (l3 + 2) ∧ w32 (l3 + 2) < (h.1 1099 a11 1 : Int)) (
 (l1).bind (fun a92 => g_ (a92 = 0) (
 (F11_link (h.1 99 a11 (w32 (l3 + 1))) (h.1 99 a11 (w32 (l3 + 2))) h).bind (fun q93 =>
 g_ ((0 : Int) ≤ w32 (l3 + 1) ∧ w32 (l3 + 1) < (q93.2.1 1099 a11 1 : Int)) (
 g_ ((0 : Int) ≤ w32 (l3 + 2) ∧ w32 (l3 + 2) < (q93.2.1 1099 a11 1 : Int)) (
 (l2).bind (fun a94 => g_ (a94 = 0) (
 (F12_link (q93.2.1 99 a11 (w32 (l3 + 1))) (q93.2.1 99 a11 (w32 (l3 + 2))) q93.2).bind (fun q95 =>
 if q93.1 = q95.1 then (
 FL_law_1102 k38 (some a11) (some 0) (some 0) l3 q95.2) else (
 some (0, q95.2))))))))))))) else (
 if j_and (h.1 99 a11 l3) 31 = 23 then (
 g_ ((0 : Int) ≤ w32 (l3 + 1) ∧ w32 (l3 + 1) < (h.1 1099 a11 1 : Int)) (
 g_ ((0 : Int) ≤ w32 (l3 + 2) ∧ w32 (l3 + 2) < (h.1 1099 a11 1 : Int)) (
 g_ ((0 : Int) ≤ w32 (l3 + 3) ∧ w32 (l3 + 3) < (h.1 1099 a11 1 : Int)) (
 (l1).bind (fun a96 => g_ (a96 = 0) (
 (F11_bit (h.1 99 a11 (w32 (l3 + 1))) (h.1 99 a11 (w32 (l3 + 2))) (h.1 99 a11 (w32 (l3 + 3))) h).bind (fun q97 =>
 g_ ((0 : Int) ≤ w32 (l3 + 1) ∧ w32 (l3 + 1) < (q97.2.1 1099 a11 1 : Int)) (
 g_ ((0 : Int) ≤ w32 (l3 + 2) ∧ w32 (l3 + 2) < (q97.2.1 1099 a11 1 : Int)) (
 g_ ((0 : Int) ≤ w32 (l3 + 3) ∧ w32 (l3 + 3) < (q97.2.1 1099 a11 1 : Int)) (
 (l2).bind (fun a98 => g_ (a98 = 0) (
 (F12_bit (q97.2.1 99 a11 (w32 (l3 + 1))) (q97.2.1 99 a11 (w32 (l3 + 2))) (q97.2.1 99 a11 (w32 (l3 + 3))) q97.2).bind (fun q99 =>
 if q97.1 = q99.1 then (
 FL_law_1102 k38 (some a11) (some 0) (some 0) l3 q99.2) else (
 some (0, q99.2))))))))))))))) else (
 if j_and (h.1 99 a11 l3) 31 = 24 then (
 g_ ((0 : Int) ≤ w32 (l3 + 1) ∧ w32 (l3 + 1) < (h.1 1099 a11 1 : Int)) (
 g_ ((0 : Int) ≤ w32 (l3 + 2) ∧ w32 (l3 + 2) < (h.1 1099 a11 1 : Int)) (
 (l1).bind (fun a100 => g_ (a100 = 0) (
 (F11_record (h.1 99 a11 (w32 (l3 + 1))) (h.1 99 a11 (w32 (l3 + 2))) h).bind (fun q101 =>
 g_ ((0 : Int) ≤ w32 (l3 + 1) ∧ w32 (l3 + 1) < (q101.2.1 1099 a11 1 : Int)) (
 g_ ((0 : Int) ≤ w32 (l3 + 2) ∧ w32 (l3 + 2) < (q101.2.1 1099 a11 1 : Int)) (
 (l2).bind (fun a102 => g_ (a102 = 0) (
 (F12_record (q101.2.1 99 a11 (w32 (l3 + 1))) (q101.2.1 99 a11 (w32 (l3 + 2))) q101.2).bind (fun q103 =>
 if q101.1 = q103.1 then (
 FL_law_1102 k38 (some a11) (some 0) (some 0) l3 q103.2) else (
 some (0, q103.2))))))))))))) else (
 if j_and (h.1 99 a11 l3) 31 = 25 then (
 g_ ((0 : Int) ≤ w32 (l3 + 1) ∧ w32 (l3 + 1) < (h.1 1099 a11 1 : Int)) (
 (l1).bind (fun a104 => g_ (a104 = 0) (
 (F11_told (h.1 99 a11 (w32 (l3 + 1))) h).bind (fun q105 =>
 g_ ((0 : Int) ≤ w32 (l3 + 1) ∧ w32 (l3 + 1) < (q105.2.1 1099 a11 1 : Int)) (
 (l2).bind (fun a106 => g_ (a106 = 0) (
 (F12_told (q105.2.1 99 a11 (w32 (l3 + 1))) q105.2).bind (fun q107 =>
 if q105.1 = q107.1 then (
 FL_law_1102 k38 (some a11) (some 0) (some 0) l3 q107.2) else (
 some (0, q107.2))))))))))) else (
 FL_law_1102 k38 (some a11) l1 l2 l3 h))))))))))))))))))))))))))))))
def FL_law_38 : Nat → Option Int → Option Int → Option Int → Int → JM → Option (Int × JM)
  | 0, _, _, _, _, _ => none
  | n + 1, l0, l1, l2, l3, h => FL_law_38b (FL_law_38 n) l0 l1 l2 l3 h
