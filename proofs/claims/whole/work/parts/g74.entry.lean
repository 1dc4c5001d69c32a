/-! ===== calls and new cells under any end ===== -/
section WC
variable {p : Program} {l : Launch} {e : Env} {R : Room} {s : State} {m : MethodId} {args : Array Value} {below : List Frame} {meth : Method} {c : Code} {H : Heap} {locs : List Loc} {cells slots : Nat} {Q : State → Prop} {ls : Array Slot} {rest : List Value} {G : JG} {al : JA}
variable {w : JW} {d d1 mc ms mc1 ms1 : Nat} {M : JT} {pc index : Nat} {as : List JV} {h h1 : JM} {r1 : Option JV} {y : MethodName} {cc1 : ByteArray} {maxL1 : Nat} {ret1 : Option FieldType}
theorem W.imp {Q' : State → Prop} {g : JFrame} (hq : ∀ t, Q t → Q' t) (k : W p l e R s m args below meth c H locs cells slots Q g) : W p l e R s m args below meth c H locs cells slots Q' g := fun T hT X => by
  obtain ⟨t, a, b⟩ := k T hT X
  exact ⟨t, a, hq t b⟩
theorem wc_call (hC : Cn w d1 mc1 ms1 y cc1 maxL1 ret1 as h r1 h1) (has : ∀ v ∈ as, j_ok w h v) (F : j_F d (mc1 + mc) (ms1 + ms) M p R s m args meth c cells slots G) (hS : va_S (fun q => G.2.2 ≤ q) s.heap H locs) {stv : List Value}
    (run : Met l y (.code y cc1 maxL1 ret1 :: lwg) { frames := d1, cells := mc1, slots := ms1, locals := 64 * d1 } (j_Pc w G al h as) (j_Q w G al h r1 h1) mc1 ms1 (fun q => G.2.2 ≤ q) → va_Run p l e R s m args below meth c H locs cells slots mc1 ms1 (F0 m pc ls stv) rest (j_Q w G al h r1 h1 (as.map (j_v al)).toArray) (fun q => G.2.2 ≤ q))
    (kk : ∀ (al' : JA) (H1 : Heap) (locs1 : List Loc), j_F d mc ms M p R s m args meth c (cells + mc1) (slots + ms1) G → j_Rep w G al' h1 H1 → (∀ k n, w.1 h k n → w.1 h1 k n ∧ al' k n = al k n) → (∀ v, r1 = some v → j_ok w h1 v) → va_S (fun q => G.2.2 ≤ q) s.heap H1 locs1 → W p l e R s m args below meth c H1 locs1 (cells + mc1) (slots + ms1) Q (F0 m (pc + 3) ls ((r1.map (j_v al')).toList ++ rest))) :
    W p l e R s m args below meth c H locs cells slots Q (F0 m pc ls stv) := by
  intro T hT X
  obtain ⟨v, st₀, t, T', L, e0, X', hL, e1, e2, ⟨⟨al', q1, q2, q3, q4, q5⟩, hz, hk⟩, st3⟩ := run (hC has l G al) T hT X
  cases q1
  rw [e0] at hz hk
  have hS1 : va_S (fun q => G.2.2 ≤ q) s.heap T'.heap (locs ++ L) := ⟨Nat.le_trans hS.1 (by rw [e1]; exact hz), fun q a1 a2 => by rw [e1, hk q (Nat.lt_of_lt_of_le a1 hS.1) a2]; exact hS.2.1 q a1 a2, fun q hq => by
    rcases List.mem_append.mp hq with z | z
    · exact hS.2.2 q z
    · exact hL q z⟩
  have F' : j_F d mc ms M p R s m args meth c (cells + mc1) (slots + ms1) G := by
    obtain ⟨f1, f2, f3, f4, f5, f6, f7, f8, f9, f10, f11, f12, f13, f14⟩ := F
    exact ⟨f1, f2, f3, f4, f5, f6, f7, f8, f9, f10, by omega, by omega, f13, f14⟩
  obtain ⟨t2, a1, b1⟩ := kk al' T'.heap (locs ++ L) F' (by rw [e1]; exact q2) q4 q5 hS1 T' rfl X'
  exact ⟨t2, st3 t2 a1, b1⟩
theorem j_runS (F : j_F d (mc1 + mc) (ms1 + ms) M p R s m args meth c cells slots G) (hR : j_Rep w G al h H) (hsz : G.2.2 ≤ H.size) (hls : ls.size = M.2.2.1) {n : Nat} (hMD : j_MD y cc1 maxL1 ret1 n) (hSt : Cond.static y ∈ lwg) (hlink : Cond.methodLink M.1 index y ∈ lwg) (hdg : decode M.2.1 pc = .ok (.invokestatic index, 3)) (hd : d1 + 1 ≤ d) (hL : maxL1 ≤ 45) (hn : as.length = n) (hst : (rest.map fun v => v.category).sum ≤ 8)
    (hM : Met l y (.code y cc1 maxL1 ret1 :: lwg) { frames := d1, cells := mc1, slots := ms1, locals := 64 * d1 } (j_Pc w G al h as) (j_Q w G al h r1 h1) mc1 ms1 (fun q => G.2.2 ≤ q)) : va_Run p l e R s m args below meth c H locs cells slots mc1 ms1 (F0 m pc ls ((as.map (j_v al)).reverse ++ rest)) rest (j_Q w G al h r1 h1 (as.map (j_v al)).toArray) (fun q => G.2.2 ≤ q) := by
  refine va_runS (As := as.map (j_v al)) (n := n) (nL := M.2.2.1) (Ts := lwg) ⟨F.1, F.2.1, F.2.2.1, F.2.2.2.1, F.2.2.2.2.1⟩ hM ⟨j_CB F hd hL hMD hlink, F.2.2.2.2.1 _ hSt⟩ (j_PreS hR hsz F.2.2.2.2.2.2.2.2.2.2.2.2.1.2 F.2.2.2.2.2.2.2.2.2.2.2.2.2) rfl (by rw [List.length_map]; exact hn) hls rfl (lv_room hst) hdg ?_
  obtain ⟨f1, f2, f3, f4, f5, f6, f7, f8, f9, f10, f11, f12, f13, f14⟩ := F
  exact ⟨by omega, by omega⟩
theorem j_runI {k : Nat} {n0 : Int} {As : List JV} (F : j_F d (mc1 + mc) (ms1 + ms) M p R s m args meth c cells slots G) (hR : j_Rep w G al h H) (hsz : G.2.2 ≤ H.size) (hls : ls.size = M.2.2.1) {n : Nat} (hMD : j_MD y cc1 maxL1 none n) (hI : Cond.instanceMethod y ∈ lwg) (hnm : y.name = "<init>") (hlink : Cond.methodLink M.1 index y ∈ lwg) (hdg : decode M.2.1 pc = .ok (.invokespecial index, 3)) (hd : d1 + 1 ≤ d) (hL : maxL1 ≤ 45) (hn : As.length = n) (hst : (rest.map fun v => v.category).sum ≤ 8)
    (hM : Met l y (.code y cc1 maxL1 none :: lwg) { frames := d1, cells := mc1, slots := ms1, locals := 64 * d1 } (j_Pc w G al h (.inr (.inr (some (k, n0))) :: As)) (j_Q w G al h r1 h1) mc1 ms1 (fun q => G.2.2 ≤ q)) : va_Run p l e R s m args below meth c H locs cells slots mc1 ms1 (F0 m pc ls ((As.map (j_v al)).reverse ++ .ref (al k n0) :: rest)) rest (j_Q w G al h r1 h1 (((.inr (.inr (some (k, n0))) : JV) :: As).map (j_v al)).toArray) (fun q => G.2.2 ≤ q) := by
  refine va_runI (b := al k n0) (As := As.map (j_v al)) (n := n) (nL := M.2.2.1) (Ts := lwg) ⟨F.1, F.2.1, F.2.2.1, F.2.2.2.1, F.2.2.2.2.1⟩ hM ⟨j_CB F hd hL hMD hlink, hnm, F.2.2.2.2.1 _ hI⟩ (j_PreS hR hsz F.2.2.2.2.2.2.2.2.2.2.2.2.1.2 F.2.2.2.2.2.2.2.2.2.2.2.2.2) rfl (by rw [List.length_map]; exact hn) hls rfl (lv_room hst) hdg ?_
  obtain ⟨f1, f2, f3, f4, f5, f6, f7, f8, f9, f10, f11, f12, f13, f14⟩ := F
  exact ⟨by omega, by omega⟩
theorem wc_new {k : Nat} (n : Int) (hN : j_WN w h k n 0) (F : j_F d (1 + mc) (j_N k + ms) M p R s m args meth c cells slots G) (hR : j_Rep w G al h H) (hS : va_S (fun q => G.2.2 ≤ q) s.heap H locs) (hlink : Cond.classLink M.1 index (j_cl k).1 ∈ lwg) (hinst : Cond.instantiable (j_cl k).1 (j_N k) ∈ lwg) (hini : Cond.initialized (j_cl k).1 ∈ lwg) (hdg : decode M.2.1 pc = .ok (.new index, 3)) (hk : k < 13)
    (kk : ∀ H1 : Heap, j_F d mc ms M p R s m args meth c (cells + 1) (slots + j_N k) G → j_Rep w G (j_al al k n H.size) (j_nw h k n 0) H1 → va_S (fun q => G.2.2 ≤ q) s.heap H1 locs → W p l e R s m args below meth c H1 locs (cells + 1) (slots + j_N k) Q (F0 m (pc + 3) ls (.ref H.size :: rest))) : W p l e R s m args below meth c H locs cells slots Q (F0 m pc ls rest) := by
  obtain ⟨c1, c2, c3, c4, c5⟩ := j_cd k hk
  have hKn := F.2.2.2.2.2.2.2.2.2.2.2.2.2.1 k _ c1
  have F0' := F
  obtain ⟨f1, f2, f3, f4, f5, f6, f7, f8, f9, f10, f11, f12, f13, f14⟩ := F0'
  have hbase : G.2.2 ≤ H.size := Nat.le_trans f13.1 hS.1
  refine W.newcK F.1 F.2.1 F.2.2.2.1 (F.2.2.2.2.1 _ hlink) (F.2.2.2.2.1 _ hinst) (F.2.2.2.2.1 _ hini) rfl hdg (by omega) (by omega) hKn.2.1 rfl fun H1 kC hkC e1 z1 o1 => ?_
  refine kk H1 ⟨f1, f2, f3, f4, f5, f6, f7, f8, f9, f10, by omega, by omega, f13, f14⟩ (j_grow hR hN hbase (by omega) (by omega) ⟨by omega, by omega⟩ ?_ o1) ⟨by have := hS.1; omega, fun q q1 q2 => (o1 q (Nat.lt_of_lt_of_le q1 hS.1)).trans (hS.2.1 q q1 q2), hS.2.2⟩
  rw [j_cellO hk]
  refine ⟨_, c1, (u_born (j_ty k) F.2.2.2.2.1 c2 hKn hkC e1 c3).to (fun j hj => ?_)⟩
  unfold vp_V
  rw [List.getD_eq_getElem?_getD, List.getElem?_map, List.getElem?_range hj]
  show defaultValue (j_ty k j) = j_fv w _ (j_nw h k n 0) k n j (j_code k j)
  have hty := c5 j hj
  have hRn : j_R w (j_nw h k n 0) k n j = none := by
    unfold j_R
    rw [hN.2.2.2.2.1 j]
    exact if_pos ⟨rfl, rfl⟩
  have hIn : (j_nw h k n 0).1 k n j = 0 := if_pos ⟨rfl, rfl⟩
  have hLn : (j_nw h k n 0).2.1 k n j = 0 := if_pos ⟨rfl, rfl⟩
  unfold j_fv
  rw [hRn, hIn, hLn]
  cases hq : j_ty k j <;> rw [hq] at hty <;> simp [j_cty] at hty <;> (try rw [hty]) <;> (try rfl)
  all_goals (rw [if_neg (by omega), if_neg (by omega)]; rfl)
end WC
