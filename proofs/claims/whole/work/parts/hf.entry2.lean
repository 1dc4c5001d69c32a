/-! ===== the law's entry: an object is made ===== -/
section IM
variable {p : Program} {l : Launch} {e : Env} {R : Room} {s : State} {m : MethodId} {args : Array Value} {below : List Frame} {meth : Method} {c : Code} {H : Heap} {locs : List Loc} {cells slots : Nat} {Q : State → Prop} {ls : Array Slot} {G : JG} {al : JA}
variable {d d1 mc ms mc1 ms1 : Nat} {h h1 : JM} {y : MethodName} {cc : ByteArray} {mL : Nat}
theorem w_new {h : JM} {k k' : Nat} {n n' l : Int} (hk : k < 1000) (w : j_W0.1 h k' n') : j_W0.1 (j_nw h k n l) k' n' := by
  refine ⟨w.1, ?_⟩
  rw [j_nwg h k n l k' n' hk]
  by_cases z : k' = k ∧ n' = n
  · rw [if_pos z]
  · rw [if_neg z]; exact w.2
theorem w_ist {h : JM} {k : Nat} {n l : Int} (hk : k < 1000) : j_W0.1 (j_nw h k n l) k n := ⟨hk, by rw [j_nwg h k n l k n hk, if_pos ⟨rfl, rfl⟩]⟩
theorem law_mk {k P ic ii : Nat} {v0 v1 : Int} {lv : List (Nat × Value)} (hk : k < 13) (x0 : decode cL_law P = .ok (.new ic, 3)) (x3 : decode cL_law (P + 3) = .ok (.dup, 1)) (x4 : decode cL_law (P + 4) = .ok (.aload_n 0, 1)) (x5 : decode cL_law (P + 4 + 1) = .ok (.iconst 0, 1)) (x6 : decode cL_law (P + 4 + 2) = .ok (.invokestatic 9, 3)) (x9 : decode cL_law (P + 4 + 5) = .ok (.aload_n 0, 1)) (x10 : decode cL_law (P + 4 + 5 + 1) = .ok (.iconst 1, 1)) (x11 : decode cL_law (P + 4 + 5 + 2) = .ok (.invokestatic 9, 3)) (x14 : decode cL_law (P + 4 + 5 + 5) = .ok (.invokespecial ii, 3))
    (hlink : Cond.classLink RL ic (j_cl k).1 ∈ lwg) (hinst : Cond.instantiable (j_cl k).1 (j_N k) ∈ lwg) (hini : Cond.initialized (j_cl k).1 ∈ lwg) (hMD : j_MD y cc mL none 2) (hI : Cond.instanceMethod y ∈ lwg) (hnm : y.name = "<init>") (hml : Cond.methodLink RL ii y ∈ lwg) (hmL : mL ≤ 45)
    (c0 : FL_cell (some 0) 0 (j_nw h k 0 0) = some (v0, j_nw h k 0 0)) (c1 : FL_cell (some 0) 1 (j_nw h k 0 0) = some (v1, j_nw h k 0 0)) (hC : Cn j_W0 d1 mc1 ms1 y cc mL none [.inr (.inr (some (k, 0))), .inl v0, .inl v1] (j_nw h k 0 0) none h1) (pres : ¬ h.1 (k + 1000) 0 0 = 1) (w99 : j_W0.1 h 99 0)
    (F : j_F d (1 + (mc1 + mc)) (j_N k + (ms1 + ms)) TL_law p R s m args meth c cells slots G) (d3 : 3 ≤ d) (hd : d1 + 1 ≤ d) (hR : j_Rep j_W0 G al h H) (hS : va_S (fun q => G.2.2 ≤ q) s.heap H locs) (hl : lv_has ls 4 lv) (h0 : lv[0]? = some (0, .ref (al 99 0)))
    (kk : ∀ (al' : JA) (H1 : Heap) (locs1 : List Loc), j_F d mc ms TL_law p R s m args meth c (cells + 1 + mc1) (slots + j_N k + ms1) G → j_Rep j_W0 G al' h1 H1 → (∀ k' n, j_W0.1 h k' n → j_W0.1 h1 k' n ∧ al' k' n = al k' n) → j_W0.1 h1 k 0 → va_S (fun q => G.2.2 ≤ q) s.heap H1 locs1 → W p l e R s m args below meth c H1 locs1 (cells + 1 + mc1) (slots + j_N k + ms1) Q (F0 m (P + 17) ls [.ref (al' k 0)])) :
    W p l e R s m args below meth c H locs cells slots Q (F0 m P ls []) := by
  have k99 : ¬ ((99 : Nat) = k ∧ (0 : Int) = 0) := fun z => by omega
  refine wc_new 0 (j_wn0 0 (by omega) pres) F hR hS hlink hinst hini x0 hk (fun H1 F1 R1 S1 => ?_)
  obtain ⟨f1, f2, f3, f4, f5, f6, f7, f8, f9, f10, f11, f12, f13, f14⟩ := id F1
  refine lv_dup f1 f2 x3 rfl ?_
  have a99 : j_al al k 0 H.size 99 0 = al 99 0 := j_al_n al k 0 H.size k99
  have w99' : j_W0.1 (j_nw h k 0 0) 99 0 := w_new (by omega) w99
  refine law_cell (n := 0) (Or.inl rfl) x4 x5 x6 c0 w99' F1 d3 R1 S1 hl (by rw [a99]; exact h0) (Nat.le_of_ble_eq_true rfl) (fun al1 H2 locs2 F2 R2 A2 V2 S2 => ?_)
  refine law_cell (n := 0) (Or.inr rfl) x9 x10 x11 c1 w99' F2 d3 R2 S2 hl (by rw [A2 99 0 w99', a99]; exact h0) (Nat.le_of_ble_eq_true rfl) (fun al2 H3 locs3 F3 R3 A3 V3 S3 => ?_)
  have wk : j_W0.1 (j_nw h k 0 0) k 0 := w_ist (by omega)
  have ak : al2 k 0 = H.size := by rw [A3 k 0 wk, A2 k 0 wk, j_al_s]
  have hbase : G.2.2 ≤ H3.size := Nat.le_trans f13.1 S3.1
  rw [← ak]
  refine wc_call hC (fun x hx => ?_) F3 S3 (j_runI (k := k) (n0 := 0) (As := [.inl v0, .inl v1]) (rest := [.ref (al2 k 0)]) F3 R3 hbase hl.1 hMD hI hnm hml x14 hd hmL rfl (Nat.le_of_ble_eq_true rfl)) (fun al3 H4 locs4 F4 R4 k4 o4 S4 => ?_)
  · rcases List.mem_cons.1 hx with q | q
    · rw [q]; exact wk
    · rcases List.mem_cons.1 q with q | q
      · rw [q]; exact V2
      · rw [List.mem_singleton.1 q]; exact V3
  · have e1 : al3 k 0 = al2 k 0 := (k4 k 0 wk).2
    rw [← e1]
    refine kk al3 H4 locs4 F4 R4 (fun k' n w => ?_) (k4 k 0 wk).1 S4
    have w' : j_W0.1 (j_nw h k 0 0) k' n := w_new (by omega) w
    refine ⟨(k4 k' n w').1, ?_⟩
    have ne : ¬ (k' = k ∧ n = 0) := fun z => pres (by have t := w.2; rw [z.1, z.2] at t; exact t)
    rw [(k4 k' n w').2, A3 k' n w', A2 k' n w', j_al_n al k 0 H.size ne]
end IM
