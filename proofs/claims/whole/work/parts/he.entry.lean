/-! ===== the law's entry: an object is made ===== -/
section IL
variable {p : Program} {l : Launch} {e : Env} {R : Room} {s : State} {m : MethodId} {args : Array Value} {below : List Frame} {meth : Method} {c : Code} {H : Heap} {locs : List Loc} {cells slots : Nat} {Q : State → Prop} {ls : Array Slot} {G : JG} {al : JA}
variable {d d1 mc ms mc1 ms1 : Nat} {h h1 : JM} {y : MethodName} {cc : ByteArray} {mL : Nat}
theorem v_i {i : Int} (al : JA) : j_v al (.inl i) = .int (Int32.ofInt i) := rfl
theorem law_cell {P : Nat} {i v : Int} {n : Int} {rest : List Value} {lv : List (Nat × Value)} (hi : i = 0 ∨ i = 1) (d4 : decode cL_law P = .ok (.aload_n 0, 1)) (d5 : decode cL_law (P + 1) = .ok (.iconst i, 1)) (d6 : decode cL_law (P + 2) = .ok (.invokestatic 9, 3)) (hc : FL_cell (some 0) i h = some (v, h)) (w99 : j_W0.1 h 99 0) (F : j_F d mc ms TL_law p R s m args meth c cells slots G) (d3 : 3 ≤ d) (hR : j_Rep j_W0 G al h H) (hS : va_S (fun q => G.2.2 ≤ q) s.heap H locs) (hl : lv_has ls 4 lv) (h0 : lv[0]? = some (0, .ref (al 99 0))) (hst : (rest.map fun v => v.category).sum ≤ 6)
    (kk : ∀ (al' : JA) (H1 : Heap) (locs1 : List Loc), j_F d mc ms TL_law p R s m args meth c cells slots G → j_Rep j_W0 G al' h H1 → (∀ k n, j_W0.1 h k n → al' k n = al k n) → j_r32 v → va_S (fun q => G.2.2 ≤ q) s.heap H1 locs1 → W p l e R s m args below meth c H1 locs1 cells slots Q (F0 m (P + 5) ls (.int (Int32.ofInt v) :: rest))) :
    W p l e R s m args below meth c H locs cells slots Q (F0 m P ls rest) := by
  have F0' := F
  obtain ⟨f1, f2, f3, f4, f5, f6, f7, f8, f9, f10, f11, f12, f13, f14⟩ := F0'
  have hbase : G.2.2 ≤ H.size := Nat.le_trans f13.1 hS.1
  refine lv_aload_n (i := 0) f1 f2 d4 rfl (lv_at hl 0 h0) ?_
  refine lv_iconst (v := Int32.ofInt i) f1 f2 d5 rfl ?_
  have F2 : j_F d (0 + mc) (0 + ms) TL_law p R s m args meth c cells slots G := by rw [Nat.zero_add, Nat.zero_add]; exact F
  refine wc_call (mc1 := 0) (ms1 := 0) (IL_cell hc) (fun x hx => ?_) F2 hS (j_runS (as := [.inr (.inr (Option.map (Prod.mk 99) (some 0))), .inl i]) F2 hR hbase hl.1 md_L_cell ss_L_cell ml_L_9 d6 (by omega) (by omega) rfl (by omega)) (fun al' H1 locs1 F3 R3 k3 o3 S3 => ?_)
  · rcases List.mem_cons.1 hx with q | q
    · rw [q]; exact w99
    · rw [List.mem_singleton.1 q]
      show j_r32 i
      unfold j_r32; omega
  · exact kk al' H1 locs1 F3 R3 (fun k n w => (k3 k n w).2) (o3 _ rfl) S3
end IL
