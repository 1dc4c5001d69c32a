/-! ===== what the law finds at its entry ===== -/
theorem tw_a0 : Cond.arrayClass .int ∈ lw_tbl := List.mem_append_right _ (List.mem_of_getElem? (l := tables_1) (i := 45) (by decide +kernel))
theorem tw_a1 : Cond.arrayClass .boolean ∈ lw_tbl := List.mem_append_right _ (List.mem_of_getElem? (l := tables_1) (i := 368) (by decide +kernel))
theorem tw_a2 : Cond.arrayClass .byte ∈ lw_tbl := List.mem_append_right _ (List.mem_of_getElem? (l := tables_1) (i := 92) (by decide +kernel))
theorem tw_a3 : Cond.arrayClass .long ∈ lw_tbl := List.mem_append_right _ (List.mem_of_getElem? (l := tables_1) (i := 147) (by decide +kernel))
theorem tw_o0 : Cond.arrayOver (.object RX0) ∈ lw_tbl := List.mem_append_right _ (List.mem_of_getElem? (l := tables_1) (i := 27) (by decide +kernel))
theorem tw_o1 : Cond.arrayOver (.object RX1) ∈ lw_tbl := List.mem_append_right _ (List.mem_of_getElem? (l := tables_1) (i := 23) (by decide +kernel))
theorem tw_o2 : Cond.arrayOver (.object RX2) ∈ lw_tbl := List.mem_append_right _ (List.mem_of_getElem? (l := tables_1) (i := 99) (by decide +kernel))
theorem tw_o4 : Cond.arrayOver (.object RX4) ∈ lw_tbl := List.mem_append_right _ (List.mem_of_getElem? (l := tables_1) (i := 25) (by decide +kernel))
theorem tw_o6 : Cond.arrayOver (.object RX6) ∈ lw_tbl := List.mem_append_right _ (List.mem_of_getElem? (l := tables_1) (i := 101) (by decide +kernel))
theorem tw_o8 : Cond.arrayOver (.object RX8) ∈ lw_tbl := List.mem_append_right _ (List.mem_of_getElem? (l := tables_1) (i := 192) (by decide +kernel))
theorem tw_o9 : Cond.arrayOver (.object RX9) ∈ lw_tbl := List.mem_append_right _ (List.mem_of_getElem? (l := tables_1) (i := 109) (by decide +kernel))
theorem tw_n0 : Cond.methodLinkNest RX11 36 yX7_init "TelephoneTown" ∈ lw_tbl := List.mem_append_right _ (List.mem_of_getElem? (l := tables_1) (i := 48) (by decide +kernel))
theorem tw_n1 : Cond.methodLinkNest RX11 46 yX10_init "TelephoneTown" ∈ lw_tbl := List.mem_append_right _ (List.mem_of_getElem? (l := tables_1) (i := 67) (by decide +kernel))
theorem tw_n2 : Cond.methodLinkNest RX5 31 yX9_init "TelephoneTown" ∈ lw_tbl := List.mem_append_right _ (List.mem_of_getElem? (l := tables_1) (i := 111) (by decide +kernel))
theorem tw_n3 : Cond.methodLinkNest RX1 50 yX2_init "TelephoneTown" ∈ lw_tbl := List.mem_append_right _ (List.mem_of_getElem? (l := tables_1) (i := 226) (by decide +kernel))
theorem tw_n4 : Cond.methodLinkNest RX11 78 yX0_init "TelephoneTown" ∈ lw_tbl := List.mem_append_right _ (List.mem_of_getElem? (l := tables_1) (i := 370) (by decide +kernel))
theorem tw_n5 : Cond.methodLinkNest RX1 58 yX11_countOf "TelephoneTown" ∈ lw_tbl := List.mem_append_right _ (List.mem_of_getElem? (l := tables_1) (i := 654) (by decide +kernel))
theorem tw_n6 : Cond.methodLinkNest RX1 62 yX11_beginsWith "TelephoneTown" ∈ lw_tbl := List.mem_append_right _ (List.mem_of_getElem? (l := tables_1) (i := 655) (by decide +kernel))
theorem tw_n7 : Cond.methodLinkNest RX9 43 yX11_countOf "TelephoneTown" ∈ lw_tbl := List.mem_append_right _ (List.mem_of_getElem? (l := tables_1) (i := 904) (by decide +kernel))
theorem tw_n8 : Cond.methodLinkNest RX10 102 yX11_withKey "TelephoneTown" ∈ lw_tbl := List.mem_append_right _ (List.mem_of_getElem? (l := tables_1) (i := 952) (by decide +kernel))
section IN
variable {s : State} {args : Array Value}
theorem arP {ty : FieldType} (h : (Cond.arrayClass ty).before args s = true) (hty : ∀ C, ty ≠ .object C) : ∃ cA, ArrOfT s cA ty ∧ va_RA s cA ty := by
  obtain ⟨cA, kA, comp, h1, h2, h3⟩ := Cond.arrayClass_spec h
  refine ⟨cA, fun n z => ⟨fun k h => (by cases h), kA, h2, comp, h3⟩, ?_⟩
  cases ty with
  | object C => exact absurd rfl (hty C)
  | _ => exact h1
theorem arO {C : String} (h : (Cond.arrayOver (.object C)).before args s = true) : ∃ cA, ArrOfT s cA (.object C) ∧ va_RA s cA (.object C) := by
  obtain ⟨comp, cA, kA, hcomp, hidx, hkA, hkindA, hnameA⟩ := Cond.arrayOver_spec h
  exact ⟨cA, fun n z => ⟨fun k h => (by cases h), kA, hkA, comp, hkindA⟩, kA, comp, hkA, hkindA, hcomp, hnameA⟩
theorem set_K (hts : ∀ w ∈ lw_tbl, w.before args s = true) : ∃ (D : va_G) (aC : Nat → ClassId), va_K D vwCl (j_tys aC) s := by
  have htg : ∀ w ∈ lwg, w.before args s = true := fun w hw => hts w (lwg_in w hw)
  have it : ∀ k, k < 13 → Cond.instantiable (j_cl k).1 (j_N k) ∈ lwg := fun k hk => by
    have : k = 0 ∨ k = 1 ∨ k = 2 ∨ k = 3 ∨ k = 4 ∨ k = 5 ∨ k = 6 ∨ k = 7 ∨ k = 8 ∨ k = 9 ∨ k = 10 ∨ k = 11 ∨ k = 12 := by omega
    rcases this with rfl | rfl | rfl | rfl | rfl | rfl | rfl | rfl | rfl | rfl | rfl | rfl | rfl
    · exact it_0
    · exact it_1
    · exact it_2
    · exact it_3
    · exact it_4
    · exact it_5
    · exact it_6
    · exact it_7
    · exact it_8
    · exact it_9
    · exact it_10
    · exact it_11
    · exact it_12
  have hKn : ∀ k, ∃ (cC : ClassId) (iS : Nat → Nat), k < 13 → u_Kn s (j_cl k).1 (j_cl k).2.1 (j_cl k).2.2 cC iS := fun k => by
    by_cases z : k < 13
    · obtain ⟨cC, iS, q⟩ := u_known (C := (j_cl k).1) (T := (j_cl k).2.1) (N := (j_cl k).2.2) (n := j_N k) htg (j_cd k z).2.1 (htg _ (it k z))
      exact ⟨cC, iS, fun _ => q⟩
    · exact ⟨0, fun _ => 0, fun q => absurd q z⟩
  obtain ⟨q0, p0⟩ := arP (hts _ tw_a0) (fun C z => by cases z)
  obtain ⟨q1, p1⟩ := arP (hts _ tw_a1) (fun C z => by cases z)
  obtain ⟨q2, p2⟩ := arP (hts _ tw_a2) (fun C z => by cases z)
  obtain ⟨q3, p3⟩ := arP (hts _ tw_a3) (fun C z => by cases z)
  obtain ⟨q10, p10⟩ := arO (hts _ tw_o0)
  obtain ⟨q11, p11⟩ := arO (hts _ tw_o1)
  obtain ⟨q12, p12⟩ := arO (hts _ tw_o2)
  obtain ⟨q14, p14⟩ := arO (hts _ tw_o4)
  obtain ⟨q16, p16⟩ := arO (hts _ tw_o6)
  obtain ⟨q18, p18⟩ := arO (hts _ tw_o8)
  obtain ⟨q19, p19⟩ := arO (hts _ tw_o9)
  refine ⟨(fun k => Classical.choose (hKn k), fun k => Classical.choose (Classical.choose_spec (hKn k))), fun c => if c = 0 then q0 else if c = 1 then q1 else if c = 2 then q2 else if c = 3 then q3 else if c = 10 then q10 else if c = 11 then q11 else if c = 12 then q12 else if c = 14 then q14 else if c = 16 then q16 else if c = 18 then q18 else if c = 19 then q19 else 0, fun c q hq => ?_, fun k q hq => ?_⟩
  · have hc : c < 13 := (List.getElem?_eq_some_iff.1 hq).1
    have e := (j_cd c hc).1
    rw [hq] at e
    have e2 := Option.some.inj e
    rw [e2]
    exact Classical.choose_spec (Classical.choose_spec (hKn c)) hc
  · have hm : q ∈ j_tys (fun c => if c = 0 then q0 else if c = 1 then q1 else if c = 2 then q2 else if c = 3 then q3 else if c = 10 then q10 else if c = 11 then q11 else if c = 12 then q12 else if c = 14 then q14 else if c = 16 then q16 else if c = 18 then q18 else if c = 19 then q19 else 0) := List.mem_of_getElem? hq
    have al : ∀ q ∈ j_tys (fun c => if c = 0 then q0 else if c = 1 then q1 else if c = 2 then q2 else if c = 3 then q3 else if c = 10 then q10 else if c = 11 then q11 else if c = 12 then q12 else if c = 14 then q14 else if c = 16 then q16 else if c = 18 then q18 else if c = 19 then q19 else 0), ArrOfT s q.1 q.2 ∧ va_RA s q.1 q.2 := by
      unfold j_tys
      exact List.forall_mem_cons.mpr ⟨p0, List.forall_mem_cons.mpr ⟨p1, List.forall_mem_cons.mpr ⟨p2, List.forall_mem_cons.mpr ⟨p3, List.forall_mem_cons.mpr ⟨p10, List.forall_mem_cons.mpr ⟨p11, List.forall_mem_cons.mpr ⟨p12, List.forall_mem_cons.mpr ⟨p14, List.forall_mem_cons.mpr ⟨p16, List.forall_mem_cons.mpr ⟨p18, List.forall_mem_cons.mpr ⟨p19, (fun _ h => absurd h List.not_mem_nil)⟩⟩⟩⟩⟩⟩⟩⟩⟩⟩⟩
    exact al q hm
theorem set_N {scr : Cell} {D : va_G} {aC : Nat → ClassId} {z : Nat} (hts : ∀ w ∈ lw_tbl, w.before args s = true) (hof : s.isArrayOf scr .int) : j_NW (D, (aC, scr), z) s := by
  refine ⟨?_, ?_, hof⟩
  · unfold j_nests
    exact List.forall_mem_cons.mpr ⟨va_Nw.of rfl (hts _ tw_n0), List.forall_mem_cons.mpr ⟨va_Nw.of rfl (hts _ tw_n1), List.forall_mem_cons.mpr ⟨va_Nw.of rfl (hts _ tw_n2), List.forall_mem_cons.mpr ⟨va_Nw.of rfl (hts _ tw_n3), List.forall_mem_cons.mpr ⟨va_Nw.of rfl (hts _ tw_n4), List.forall_mem_cons.mpr ⟨va_Nw.of rfl (hts _ tw_n5), List.forall_mem_cons.mpr ⟨va_Nw.of rfl (hts _ tw_n6), List.forall_mem_cons.mpr ⟨va_Nw.of rfl (hts _ tw_n7), List.forall_mem_cons.mpr ⟨va_Nw.of rfl (hts _ tw_n8), (fun _ h => absurd h List.not_mem_nil)⟩⟩⟩⟩⟩⟩⟩⟩⟩
  · unfold j_overs
    exact List.forall_mem_cons.mpr ⟨va_AO.of (hts _ tw_o1), List.forall_mem_cons.mpr ⟨va_AO.of (hts _ tw_o4), List.forall_mem_cons.mpr ⟨va_AO.of (hts _ tw_o0), List.forall_mem_cons.mpr ⟨va_AO.of (hts _ tw_o2), List.forall_mem_cons.mpr ⟨va_AO.of (hts _ tw_o6), List.forall_mem_cons.mpr ⟨va_AO.of (hts _ tw_o9), List.forall_mem_cons.mpr ⟨va_AO.of (hts _ tw_o8), (fun _ h => absurd h List.not_mem_nil)⟩⟩⟩⟩⟩⟩⟩
end IN
