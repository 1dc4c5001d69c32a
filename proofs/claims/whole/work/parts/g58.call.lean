/-! ===== calls ===== -/
def j_MD (y : MethodName) (cc : ByteArray) (maxL : Nat) (ret : Option FieldType) (n : Nat) : Prop := Cond.code y cc maxL ret ∈ lwg ∧ Cond.initialized y.cls ∈ lwg ∧ (y.cls ≠ "java/lang/invoke/MethodHandle" ∧ y.cls ≠ "java/lang/invoke/VarHandle" ∧ (parseMethodDescriptor y.desc).map (fun d => d.parameters.length) = some n)
section EVC
variable {w : JW} {d d1 mc ms mc1 ms1 : Nat} {M : JT} {pc index : Nat} {lv : List (Nat × JV)} {st as : List JV} {h h1 h' : JM} {r r1 : Option JV} {y : MethodName} {cc1 : ByteArray} {maxL1 : Nat} {ret1 : Option FieldType}
theorem lwg_G {y : MethodName} {cc : ByteArray} {maxL : Nat} {ret : Option FieldType} (hc : Cond.code y cc maxL ret ∈ lwg) : GoodIn lwg (Cond.code y cc maxL ret :: lwg) := by
  intro q hq
  rcases List.mem_cons.mp hq with rfl | hq
  · exact ⟨hc, good_of_word (lwg_good _ hc)⟩
  · exact ⟨hq, good_of_word (lwg_good _ hq)⟩
theorem j_vv {al al' : JA} (ha : ∀ k n, w.1 h k n → al' k n = al k n) {v : JV} (hv : j_ok w h v) : j_v al' v = j_v al v := by
  rcases v with i | i | x
  · rfl
  · rfl
  · cases x with
    | none => rfl
    | some q => show Value.ref (al' q.1 q.2) = Value.ref (al q.1 q.2); rw [ha _ _ hv]
theorem j_vs {al al' : JA} (ha : ∀ k n, w.1 h k n → al' k n = al k n) (hv : ∀ v ∈ st, j_ok w h v) : st.map (j_v al') = st.map (j_v al) := List.map_congr_left fun v hq => j_vv ha (hv v hq)
theorem j_ls {al al' : JA} (ha : ∀ k n, w.1 h k n → al' k n = al k n) (hv : ∀ q ∈ lv, j_ok w h q.2) : j_l al' lv = j_l al lv := List.map_congr_left fun q hq => by rw [j_vv ha (hv q hq)]
theorem j_okm (hm : ∀ k n, w.1 h k n → w.1 h1 k n) {v : JV} (hv : j_ok w h v) : j_ok w h1 v := by
  rcases v with i | i | x
  · exact hv
  · exact hv
  · cases x with
    | none => trivial
    | some q => exact hm _ _ hv
def j_Pc (w : JW) (G : JG) (al : JA) (h : JM) (as : List JV) : Array Value → State → Prop := va_Pc (as.map (j_v al)) (fun U => (G.2.2 ≤ U.heap.size ∧ j_NW G U) ∧ j_Rep w G al h U.heap ∧ va_K G.1 vwCl (j_tys G.2.1.1) U)
theorem j_blind {G : JG} {al : JA} : FrameBlind (j_Pc w G al h as) := by
  intro a U g mk q
  obtain ⟨q0, q1, q2, q3⟩ := q
  exact ⟨q0, ⟨q1.1, j_NW.same (U := U.calling g mk a) rfl q1.2⟩, q2, va_K.moved (u := U) (U := U.calling g mk a) (Vm.Alike.refl U.vm) q3⟩
theorem ev_callG (hC : Cn w d1 mc1 ms1 y cc1 maxL1 ret1 as h r1 h1) (stk : List JV) (hstk : (∀ v ∈ stk, j_ok w h v) → (∀ v ∈ as, j_ok w h v) ∧ ∀ v ∈ st, j_ok w h v)
    (run : ∀ (p : Program) (l : Launch) (e : Env) (R : Room) (s : State) (m : MethodId) (args : Array Value) (below : List Frame) (meth : Method) (c : Code) (H : Heap) (locs : List Loc) (cells slots : Nat) (ls : Array Slot) (G : JG) (al : JA), j_F d (mc1 + mc) (ms1 + ms) M p R s m args meth c cells slots G → j_Rep w G al h H → G.2.2 ≤ H.size → lv_has ls M.2.2.1 (j_l al lv) → (∀ v ∈ stk, j_ok w h v) → Met l y (.code y cc1 maxL1 ret1 :: lwg) { frames := d1, cells := mc1, slots := ms1, locals := 64 * d1 } (j_Pc w G al h as) (j_Q w G al h r1 h1) mc1 ms1 (fun q => G.2.2 ≤ q) →
      va_Run p l e R s m args below meth c H locs cells slots mc1 ms1 (F0 m pc ls (stk.map (j_v al))) (st.map (j_v al)) (j_Q w G al h r1 h1 (as.map (j_v al)).toArray) (fun q => G.2.2 ≤ q))
    (K : Ev w d mc ms M (pc + 3) lv (r1.toList ++ st) h1 r h') : Ev w d (mc1 + mc) (ms1 + ms) M pc lv stk h r h' := by
  intro hlv hst p l e R s m args below meth c H locs cells slots ls G al al0 h0 F S hl T hT X
  obtain ⟨has, hst'⟩ := hstk hst
  have hM := hC has l G al
  have hsz : G.2.2 ≤ H.size := Nat.le_trans F.2.2.2.2.2.2.2.2.2.2.2.2.1.1 S.2.1.1
  obtain ⟨v, st₀, t, T', L, e0, X', hL, e1, e2, ⟨⟨al', q1, q2, q3, q4, q5⟩, hz, hk⟩, st3⟩ := run p l e R s m args below meth c H locs cells slots ls G al F S.1 hsz hl hst hM T hT X
  cases q1
  rw [e0] at hz hk
  have ha : ∀ k n, w.1 h k n → al' k n = al k n := fun k n q => (q4 k n q).2
  have hm : ∀ k n, w.1 h k n → w.1 h1 k n := fun k n q => (q4 k n q).1
  have hS : va_S (fun q => G.2.2 ≤ q) s.heap T'.heap (locs ++ L) := ⟨Nat.le_trans S.2.1.1 (by rw [e1]; exact hz), fun q a1 a2 => by rw [e1, hk q (Nat.lt_of_lt_of_le a1 S.2.1.1) a2]; exact S.2.1.2.1 q a1 a2, fun q hq => by
    rcases List.mem_append.mp hq with z | z
    · exact S.2.1.2.2 q z
    · exact hL q z⟩
  have F' : j_F d mc ms M p R s m args meth c (cells + mc1) (slots + ms1) G := by
    obtain ⟨f1, f2, f3, f4, f5, f6, f7, f8, f9, f10, f11, f12, f13, f14⟩ := F
    exact ⟨f1, f2, f3, f4, f5, f6, f7, f8, f9, f10, by omega, by omega, f13, f14⟩
  have hok1 : ∀ u ∈ r1.toList ++ st, j_ok w h1 u := by
    intro u hu
    rcases List.mem_append.mp hu with z | z
    · exact q5 u (by simpa using z)
    · exact j_okm hm (hst' u z)
  have hKW := K (fun q hq => j_okm hm (hlv q hq)) hok1 p l e R s m args below meth c T'.heap (locs ++ L) (cells + mc1) (slots + ms1) ls G al' al0 h0 F' ⟨by rw [e1]; exact q2, hS, fun k n q => ⟨hm k n (S.2.2 k n q).1, (ha k n (S.2.2 k n q).1).trans (S.2.2 k n q).2⟩⟩ (by rw [j_ls ha hlv]; exact hl)
  obtain ⟨t2, a1, b1⟩ := hKW T' rfl X'
  refine ⟨t2, st3 t2 ?_, ?_⟩
  · have : (r1.toList ++ st).map (j_v al') = (r1.map (j_v al')).toList ++ st.map (j_v al) := by
      rw [List.map_append, j_vs ha hst']
      cases r1 <;> rfl
    rw [this] at a1
    exact a1
  · rw [Nat.add_assoc, Nat.add_assoc] at b1
    exact b1
theorem j_cat2 (al : JA) (v : JV) : (j_v al v).category ≤ 2 := by rcases lv_cat (j_v al v) with q | q <;> omega
theorem j_sum (al : JA) : ∀ (st : List JV), ((st.map (j_v al)).map fun v => v.category).sum ≤ 2 * st.length
  | [] => by simp
  | v :: st => by
    have := j_sum al st
    have := j_cat2 al v
    simp only [List.map_cons, List.sum_cons, List.length_cons]
    omega
theorem j_okapp (q : ∀ v ∈ as.reverse ++ st, j_ok w h v) : (∀ v ∈ as, j_ok w h v) ∧ ∀ v ∈ st, j_ok w h v :=
  ⟨fun v hv => q v (List.mem_append.mpr (Or.inl (List.mem_reverse.mpr hv))), fun v hv => q v (List.mem_append.mpr (Or.inr hv))⟩
/-- the room of a callee -/
theorem j_rm {p : Program} {R : Room} {s : State} {m : MethodId} {args : Array Value} {meth : Method} {c : Code} {cells slots : Nat} {G : JG} (F : j_F d mc ms M p R s m args meth c cells slots G) (hd : d1 + 1 ≤ d) (hL : maxL1 ≤ 45) : d1 + 1 ≤ R.frames ∧ 8 + (maxL1 + 11) + 64 * d1 ≤ R.locals := by
  obtain ⟨f1, f2, f3, f4, f5, f6, f7, f8, f9, f10, f11, f12, f13, f14⟩ := F
  omega
theorem j_CB {p : Program} {R : Room} {s : State} {m : MethodId} {args : Array Value} {meth : Method} {c : Code} {cells slots : Nat} {G : JG} (F : j_F d mc ms M p R s m args meth c cells slots G) (hd : d1 + 1 ≤ d) (hL : maxL1 ≤ 45) {n : Nat} (hMD : j_MD y cc1 maxL1 ret1 n) (hlink : Cond.methodLink M.1 index y ∈ lwg) : CallB R s args M.1 index y cc1 maxL1 ret1 (.code y cc1 maxL1 ret1 :: lwg) { frames := d1, cells := mc1, slots := ms1, locals := 64 * d1 } mc1 ms1 n :=
  callB_of n F.2.2.2.2.1 (lwg_G hMD.1) rfl rfl rfl (F.2.2.2.2.1 _ hMD.2.1) (F.2.2.2.2.1 _ hlink) hMD.2.2 (j_rm F hd hL)
theorem j_CN {host : String} {p : Program} {R : Room} {s : State} {m : MethodId} {args : Array Value} {meth : Method} {c : Code} {cells slots : Nat} {G : JG} (F : j_F d mc ms M p R s m args meth c cells slots G) (hd : d1 + 1 ≤ d) (hL : maxL1 ≤ 45) {n : Nat} (hMD : j_MD y cc1 maxL1 ret1 n) (hlink : (M.1, index, y, host) ∈ j_nests) : va_CN R s args M.1 index y host cc1 maxL1 ret1 (.code y cc1 maxL1 ret1 :: lwg) { frames := d1, cells := mc1, slots := ms1, locals := 64 * d1 } mc1 ms1 n := by
  have hr := j_rm F hd hL
  refine ⟨⟨rfl, rfl, hr.1, hr.2, pay_in F.2.2.2.2.1 (lwg_G hMD.1), List.mem_cons_self⟩, F.2.2.2.2.1 _ hMD.1, F.2.2.2.2.1 _ hMD.2.1, ⟨hMD.2.2.1, hMD.2.2.2.1⟩, fun sig q => ?_, va_Nw.use rfl (F.2.2.2.2.2.2.2.2.2.2.2.2.1.2.1 _ hlink)⟩
  have h2 := hMD.2.2.2.2
  rw [q] at h2
  exact (Option.some.inj h2).symm
theorem j_PreS {G : JG} {al : JA} {s : State} {H : Heap} (hR : j_Rep w G al h H) (hsz : G.2.2 ≤ H.size) (hnw : j_NW G s) (hK : va_K G.1 vwCl (j_tys G.2.1.1) s) : PreS s H (j_Pc w G al h as) (as.map (j_v al)) :=
  ⟨j_blind, fun U hU hW => ⟨rfl, ⟨by rw [hU]; exact hsz, j_NW.warm hW hnw⟩, by rw [hU]; exact hR, va_K.moved hW.alike hK⟩⟩
theorem ev_callS (hC : Cn w d1 mc1 ms1 y cc1 maxL1 ret1 as h r1 h1) {n : Nat} (hMD : j_MD y cc1 maxL1 ret1 n) (hS : Cond.static y ∈ lwg) (hlink : Cond.methodLink M.1 index y ∈ lwg) (hdg : decode M.2.1 pc = .ok (.invokestatic index, 3)) (stk : List JV) (hd : d1 + 1 ≤ d) (hL : decide (maxL1 ≤ 45) = true := by rfl) (hn : as.length = n := by rfl) (hstk : stk = as.reverse ++ st := by rfl) (hst : decide (st.length ≤ 4) = true := by rfl)
    (K : Ev w d mc ms M (pc + 3) lv (r1.toList ++ st) h1 r h') : Ev w d (mc1 + mc) (ms1 + ms) M pc lv stk h r h' := by
  refine ev_callG hC stk (fun q => by rw [hstk] at q; exact j_okapp q) ?_ K
  intro p l e R s m args below meth c H locs cells slots ls G al F hR hsz hl hok hM
  have hst := of_decide_eq_true hst
  refine va_runS (As := as.map (j_v al)) (n := n) (nL := M.2.2.1) (Ts := lwg) ⟨F.1, F.2.1, F.2.2.1, F.2.2.2.1, F.2.2.2.2.1⟩ hM ⟨j_CB F hd (of_decide_eq_true hL) hMD hlink, F.2.2.2.2.1 _ hS⟩ (j_PreS hR hsz F.2.2.2.2.2.2.2.2.2.2.2.2.1.2 F.2.2.2.2.2.2.2.2.2.2.2.2.2) rfl (by rw [List.length_map]; exact hn) hl.1 (by rw [hstk, List.map_append, List.map_reverse]) (lv_room (by have := j_sum al st; omega)) hdg ?_
  obtain ⟨f1, f2, f3, f4, f5, f6, f7, f8, f9, f10, f11, f12, f13, f14⟩ := F
  exact ⟨by omega, by omega⟩
theorem ev_callSN {host : String} (hC : Cn w d1 mc1 ms1 y cc1 maxL1 ret1 as h r1 h1) {n : Nat} (hMD : j_MD y cc1 maxL1 ret1 n) (hS : Cond.static y ∈ lwg) (hlink : (M.1, index, y, host) ∈ j_nests) (hdg : decode M.2.1 pc = .ok (.invokestatic index, 3)) (stk : List JV) (hd : d1 + 1 ≤ d) (hL : decide (maxL1 ≤ 45) = true := by rfl) (hn : as.length = n := by rfl) (hstk : stk = as.reverse ++ st := by rfl) (hst : decide (st.length ≤ 4) = true := by rfl)
    (K : Ev w d mc ms M (pc + 3) lv (r1.toList ++ st) h1 r h') : Ev w d (mc1 + mc) (ms1 + ms) M pc lv stk h r h' := by
  refine ev_callG hC stk (fun q => by rw [hstk] at q; exact j_okapp q) ?_ K
  intro p l e R s m args below meth c H locs cells slots ls G al F hR hsz hl hok hM
  have hst := of_decide_eq_true hst
  refine va_runSN (As := as.map (j_v al)) (n := n) (nL := M.2.2.1) (Ts := lwg) ⟨F.1, F.2.1, F.2.2.1, F.2.2.2.1, F.2.2.2.2.1⟩ hM ⟨j_CN F hd (of_decide_eq_true hL) hMD hlink, F.2.2.2.2.1 _ hS, trivial⟩ (j_PreS hR hsz F.2.2.2.2.2.2.2.2.2.2.2.2.1.2 F.2.2.2.2.2.2.2.2.2.2.2.2.2) rfl (by rw [List.length_map]; exact hn) hl.1 (by rw [hstk, List.map_append, List.map_reverse]) (lv_room (by have := j_sum al st; omega)) hdg ?_
  obtain ⟨f1, f2, f3, f4, f5, f6, f7, f8, f9, f10, f11, f12, f13, f14⟩ := F
  exact ⟨by omega, by omega⟩
theorem j_stk2 {k : Nat} {n : Int} {As : List JV} {al : JA} : ((As.reverse ++ .inr (.inr (some (k, n))) :: st).map (j_v al)) = (As.map (j_v al)).reverse ++ .ref (al k n) :: st.map (j_v al) := by
  rw [List.map_append, List.map_reverse]; rfl
theorem ev_callV {k : Nat} {n0 : Int} {As : List JV} (hC : Cn w d1 mc1 ms1 y cc1 maxL1 ret1 (.inr (.inr (some (k, n0))) :: As) h r1 h1) {n : Nat} (hMD : j_MD y cc1 maxL1 ret1 n) (hI : Cond.instanceMethod y ∈ lwg) (hsel : Cond.selects y.cls y y ∈ lwg) (hlink : Cond.methodLink M.1 index y ∈ lwg) (hdg : decode M.2.1 pc = .ok (.invokevirtual index, 3)) (stk : List JV) (hd : d1 + 1 ≤ d) (hk : decide (k < 13) = true := by rfl) (hcl : y.cls = (j_cl k).1 := by rfl) (hL : decide (maxL1 ≤ 45) = true := by rfl) (hn : As.length = n := by rfl) (hstk : stk = As.reverse ++ .inr (.inr (some (k, n0))) :: st := by rfl) (hst : decide (st.length ≤ 4) = true := by rfl)
    (K : Ev w d mc ms M (pc + 3) lv (r1.toList ++ st) h1 r h') : Ev w d (mc1 + mc) (ms1 + ms) M pc lv stk h r h' := by
  refine ev_callG hC stk (fun q => ?_) ?_ K
  · rw [hstk] at q
    exact ⟨fun v hv => by
      rcases List.mem_cons.mp hv with rfl | hv
      · exact q _ (List.mem_append.mpr (Or.inr List.mem_cons_self))
      · exact q v (List.mem_append.mpr (Or.inl (List.mem_reverse.mpr hv))), fun v hv => q v (List.mem_append.mpr (Or.inr (List.mem_cons_of_mem _ hv)))⟩
  intro p l e R s m args below meth c H locs cells slots ls G al F hR hsz hl hok hM
  have hst := of_decide_eq_true hst
  have hk := of_decide_eq_true hk
  have hdm : w.1 h k n0 := by
    rw [hstk] at hok
    exact hok (.inr (.inr (some (k, n0)))) (List.mem_append.mpr (Or.inr List.mem_cons_self))
  have hK := F.2.2.2.2.2.2.2.2.2.2.2.2.2
  refine va_runV (C := y.cls) (b := al k n0) (As := As.map (j_v al)) (n := n) (nL := M.2.2.1) (Ts := lwg) ⟨F.1, F.2.1, F.2.2.1, F.2.2.2.1, F.2.2.2.2.1⟩ hM ⟨j_CB F hd (of_decide_eq_true hL) hMD hlink, F.2.2.2.2.1 _ hI, F.2.2.2.2.1 _ hsel⟩ ⟨j_blind, ?_, fun U hU hW => (j_PreS hR hsz F.2.2.2.2.2.2.2.2.2.2.2.2.1.2 hK).2 U hU hW⟩ rfl (by rw [List.length_map]; exact hn) hl.1 (by rw [hstk]; exact j_stk2) (lv_room (by have := j_sum al st; omega)) hdg ?_
  · have hat := hR.1 k n0 hdm (by omega)
    rw [j_cellO hk] at hat
    obtain ⟨r', hr', cell, g1, g2, g3, -⟩ := hat
    refine ⟨cell, g1, by rw [g3]; rfl, ?_⟩
    rw [g2, hcl]
    exact (hK.1 k _ (j_cd k hk).1).2.1
  · obtain ⟨f1, f2, f3, f4, f5, f6, f7, f8, f9, f10, f11, f12, f13, f14⟩ := F
    exact ⟨by omega, by omega⟩
theorem ev_callI {k : Nat} {n0 : Int} {As : List JV} (hC : Cn w d1 mc1 ms1 y cc1 maxL1 none (.inr (.inr (some (k, n0))) :: As) h r1 h1) {n : Nat} (hMD : j_MD y cc1 maxL1 none n) (hI : Cond.instanceMethod y ∈ lwg) (hnm : y.name = "<init>") (hlink : Cond.methodLink M.1 index y ∈ lwg) (hdg : decode M.2.1 pc = .ok (.invokespecial index, 3)) (stk : List JV) (hd : d1 + 1 ≤ d) (hL : decide (maxL1 ≤ 45) = true := by rfl) (hn : As.length = n := by rfl) (hstk : stk = As.reverse ++ .inr (.inr (some (k, n0))) :: st := by rfl) (hst : decide (st.length ≤ 4) = true := by rfl)
    (K : Ev w d mc ms M (pc + 3) lv (r1.toList ++ st) h1 r h') : Ev w d (mc1 + mc) (ms1 + ms) M pc lv stk h r h' := by
  refine ev_callG hC stk (fun q => ?_) ?_ K
  · rw [hstk] at q
    exact ⟨fun v hv => by
      rcases List.mem_cons.mp hv with rfl | hv
      · exact q _ (List.mem_append.mpr (Or.inr List.mem_cons_self))
      · exact q v (List.mem_append.mpr (Or.inl (List.mem_reverse.mpr hv))), fun v hv => q v (List.mem_append.mpr (Or.inr (List.mem_cons_of_mem _ hv)))⟩
  intro p l e R s m args below meth c H locs cells slots ls G al F hR hsz hl hok hM
  have hst := of_decide_eq_true hst
  refine va_runI (b := al k n0) (As := As.map (j_v al)) (n := n) (nL := M.2.2.1) (Ts := lwg) ⟨F.1, F.2.1, F.2.2.1, F.2.2.2.1, F.2.2.2.2.1⟩ hM ⟨j_CB F hd (of_decide_eq_true hL) hMD hlink, hnm, F.2.2.2.2.1 _ hI⟩ (j_PreS hR hsz F.2.2.2.2.2.2.2.2.2.2.2.2.1.2 F.2.2.2.2.2.2.2.2.2.2.2.2.2) rfl (by rw [List.length_map]; exact hn) hl.1 (by rw [hstk]; exact j_stk2) (lv_room (by have := j_sum al st; omega)) hdg ?_
  obtain ⟨f1, f2, f3, f4, f5, f6, f7, f8, f9, f10, f11, f12, f13, f14⟩ := F
  exact ⟨by omega, by omega⟩
theorem ev_callIN {host : String} {k : Nat} {n0 : Int} {As : List JV} (hC : Cn w d1 mc1 ms1 y cc1 maxL1 none (.inr (.inr (some (k, n0))) :: As) h r1 h1) {n : Nat} (hMD : j_MD y cc1 maxL1 none n) (hI : Cond.instanceMethod y ∈ lwg) (hnm : y.name = "<init>") (hlink : (M.1, index, y, host) ∈ j_nests) (hdg : decode M.2.1 pc = .ok (.invokespecial index, 3)) (stk : List JV) (hd : d1 + 1 ≤ d) (hL : decide (maxL1 ≤ 45) = true := by rfl) (hn : As.length = n := by rfl) (hstk : stk = As.reverse ++ .inr (.inr (some (k, n0))) :: st := by rfl) (hst : decide (st.length ≤ 4) = true := by rfl)
    (K : Ev w d mc ms M (pc + 3) lv (r1.toList ++ st) h1 r h') : Ev w d (mc1 + mc) (ms1 + ms) M pc lv stk h r h' := by
  refine ev_callG hC stk (fun q => ?_) ?_ K
  · rw [hstk] at q
    exact ⟨fun v hv => by
      rcases List.mem_cons.mp hv with rfl | hv
      · exact q _ (List.mem_append.mpr (Or.inr List.mem_cons_self))
      · exact q v (List.mem_append.mpr (Or.inl (List.mem_reverse.mpr hv))), fun v hv => q v (List.mem_append.mpr (Or.inr (List.mem_cons_of_mem _ hv)))⟩
  intro p l e R s m args below meth c H locs cells slots ls G al F hR hsz hl hok hM
  have hst := of_decide_eq_true hst
  refine va_runIN (b := al k n0) (As := As.map (j_v al)) (n := n) (nL := M.2.2.1) (Ts := lwg) ⟨F.1, F.2.1, F.2.2.1, F.2.2.2.1, F.2.2.2.2.1⟩ hM ⟨j_CN F hd (of_decide_eq_true hL) hMD hlink, hnm, F.2.2.2.2.1 _ hI⟩ (j_PreS hR hsz F.2.2.2.2.2.2.2.2.2.2.2.2.1.2 F.2.2.2.2.2.2.2.2.2.2.2.2.2) rfl (by rw [List.length_map]; exact hn) hl.1 (by rw [hstk]; exact j_stk2) (lv_room (by have := j_sum al st; omega)) hdg ?_
  obtain ⟨f1, f2, f3, f4, f5, f6, f7, f8, f9, f10, f11, f12, f13, f14⟩ := F
  exact ⟨by omega, by omega⟩
/-- Object's constructor -/
theorem ev_objInit {k : Nat} {n0 : Int} (hl : Cond.methodLink M.1 index objectInit ∈ lwg) (hI : Cond.instanceMethod objectInit ∈ lwg) (hc : Cond.code objectInit ⟨#[0xb1]⟩ 1 none ∈ lwg) (hdg : decode M.2.1 pc = .ok (.invokespecial index, 3)) (hd : 1 ≤ d) (hst : decide (st.length ≤ 4) = true := by rfl) (K : Ev w d mc ms M (pc + 3) lv st h r h') : Ev w d mc ms M pc lv (.inr (.inr (some (k, n0))) :: st) h r h' := by
  intro hlv hok p l e R s m args below meth c H locs cells slots ls G al al0 h0 F S hlh
  have hst := of_decide_eq_true hst
  have hsum := j_sum al st
  obtain ⟨f1, f2, f3, f4, f5, f6, f7, f8, f9, f10, f11, f12, f13, f14⟩ := id F
  refine W.objInit F.1 F.2.1 F.2.2.2.1 (F.2.2.2.2.1 _ hl) (F.2.2.2.2.1 _ hI) (F.2.2.2.2.1 _ hc) rfl (hlh.1.trans F.2.2.1.symm) rfl hdg (by omega) ?_ (K hlv (j_tl hok) p l e R s m args below meth c H locs cells slots ls G al al0 h0 F S hlh)
  show 2 * 0 + _ + 12 ≤ R.locals
  omega
/-- a method's contract out of its body -/
theorem Cn.of {cc : ByteArray} {maxL : Nat} {ret : Option FieldType} {own : String} {b : Bool} {lv0 : List (Nat × JV)} (hown : y.cls = own) (hb : b = true → y.name = "<init>") (hy : plainName y.cls = true) (hlv : ∀ al : JA, lv_args 0 (as.map (j_v al)) = j_l al lv0) (hmem : ∀ q ∈ lv0, q.2 ∈ as) (hlen : ∀ al : JA, (lg_sl (as.map (j_v al))).length ≤ maxL)
    (K : Ev w d mc ms (own, cc, maxL, ret, b) 0 lv0 [] h r h') : Cn w d mc ms y cc maxL ret as h r h' := by
  intro hok l G al
  refine Met.ofW (cc := cc) (maxL := maxL) (ret := ret) hy rfl ?_
  intro p e s m args below meth c s₁ B hml hv
  obtain ⟨hargs, hsz, hR, hK⟩ := hv
  have hts := atoms_spec (ws := Cond.code y cc maxL ret :: lwg) B.pre
  have hown' : s.vm.findClass own = some m.cls := by rw [← hown]; exact findClass_of_methodNamed B.named
  rw [hargs, lg_entry_eq]
  have hl := lv_entry (as.map (j_v al)) (hlen al)
  rw [hlv al] at hl
  have hW := K (fun q hq => hok q.2 (hmem q hq)) (fun v hv => by cases hv) p l e (headSpec (Cond.code y cc maxL ret :: lwg) { frames := d, cells := mc, slots := ms, locals := 64 * d }).room s m args below meth c s.heap [] 0 0 _ G al al h ⟨B.exec, B.bytes, hml, hown', fun q hq => hts q (List.mem_cons_of_mem _ hq), B.returns, B.notSynchronized, fun z => by rw [(name_of_methodNamed B.named B.method).1]; exact hb z, Nat.le_refl _, Nat.le_refl _, by show 0 + mc ≤ mc; omega, by show 0 + ms ≤ ms; omega, hsz, hK⟩ ⟨hR, va_S.rf, fun k n q => ⟨q, rfl⟩⟩ hl
  rw [Nat.zero_add, Nat.zero_add] at hW
  rw [hargs] at hW
  exact hW
end EVC
