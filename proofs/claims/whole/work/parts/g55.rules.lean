/-! ===== one row an instruction: stack, locals, arithmetic, branches, returns ===== -/
section EVR
variable {w : JW} {d mc ms : Nat} {M : JT} {pc : Nat} {lv lv2 : List (Nat × JV)} {st : List JV} {h h' : JM} {r : Option JV}
theorem ev_iconst {n : Int} (hdg : decode M.2.1 pc = .ok (.iconst n, 1)) (hn : (decide (-128 ≤ n) && decide (n ≤ 127)) = true := by rfl) (k : Ev w d mc ms M (pc + 1) lv (.inl n :: st) h r h') : Ev w d mc ms M pc lv (st) h r h' := by
  refine ev_s (st2 := .inl n :: st) (fun hlv hst => j_cn (by simp at hn; exact ⟨by omega, by omega⟩) hst) ?_ k
  intro p l e R s m args below meth c H locs cells slots ls al Q hx hb ho hts hl hlv hst K
  exact lv_iconst hx hb hdg rfl K
theorem ev_bipush {n : Int} (hdg : decode M.2.1 pc = .ok (.bipush n, 2)) (hn : (decide (-128 ≤ n) && decide (n ≤ 127)) = true := by rfl) (k : Ev w d mc ms M (pc + 2) lv (.inl n :: st) h r h') : Ev w d mc ms M pc lv (st) h r h' := by
  refine ev_s (st2 := .inl n :: st) (fun hlv hst => j_cn (by simp at hn; exact ⟨by omega, by omega⟩) hst) ?_ k
  intro p l e R s m args below meth c H locs cells slots ls al Q hx hb ho hts hl hlv hst K
  refine lv_bipush hx hb hdg ?_ K
  simp at hn
  rw [← Int32.toInt_inj, Int8.toInt_toInt32, j_t32 ⟨by omega, by omega⟩, Int8.toInt_ofInt_of_le (by omega) (by omega)]
theorem ev_sipush {n : Int} (hdg : decode M.2.1 pc = .ok (.sipush n, 3)) (hn : (decide (-32768 ≤ n) && decide (n ≤ 32767)) = true := by rfl) (k : Ev w d mc ms M (pc + 3) lv (.inl n :: st) h r h') : Ev w d mc ms M pc lv (st) h r h' := by
  refine ev_s (st2 := .inl n :: st) (fun hlv hst => j_cn (by simp at hn; exact ⟨by omega, by omega⟩) hst) ?_ k
  intro p l e R s m args below meth c H locs cells slots ls al Q hx hb ho hts hl hlv hst K
  refine lv_sipush hx hb hdg ?_ K
  simp at hn
  rw [← Int32.toInt_inj, Int16.toInt_toInt32, j_t32 ⟨by omega, by omega⟩, Int16.toInt_ofInt_of_le (by omega) (by omega)]
theorem ev_lconst {n : Fin 2} {v : Int} (hdg : decode M.2.1 pc = .ok (.lconst n, 1)) (hv : ((n : Nat) : Int) = v := by rfl) (k : Ev w d mc ms M (pc + 1) lv (.inr (.inl v) :: st) h r h') : Ev w d mc ms M pc lv (st) h r h' := by
  refine ev_s (st2 := .inr (.inl v) :: st) (fun hlv hst => j_cn (by have := n.isLt; exact ⟨by omega, by omega⟩) hst) ?_ k
  intro p l e R s m args below meth c H locs cells slots ls al Q hx hb ho hts hl hlv hst K
  refine lv_lconst hx hb hdg ?_ K
  rw [← hv]
  rfl
theorem ev_ldc {index : Nat} {v : Int32} {n : Int} (hw : Cond.constant M.1 index v ∈ lwg) (hdg : decode M.2.1 pc = .ok (.ldc index, 2)) (hv : v.toInt = n := by rfl) (k : Ev w d mc ms M (pc + 2) lv (.inl n :: st) h r h') : Ev w d mc ms M pc lv (st) h r h' := by
  refine ev_s (st2 := .inl n :: st) (fun hlv hst => j_cn (by rw [← hv]; exact j_b32 v) hst) ?_ k
  intro p l e R s m args below meth c H locs cells slots ls al Q hx hb ho hts hl hlv hst K
  refine lv_ldc hx hb ho (hts _ hw) hdg ?_
  subst hv
  have K := K
  simp only [List.map_cons, j_v, Int32.ofInt_toInt] at K
  exact K
theorem ev_ldcw {index : Nat} {v : Int32} {n : Int} (hw : Cond.constant M.1 index v ∈ lwg) (hdg : decode M.2.1 pc = .ok (.ldc_w index, 3)) (hv : v.toInt = n := by rfl) (k : Ev w d mc ms M (pc + 3) lv (.inl n :: st) h r h') : Ev w d mc ms M pc lv (st) h r h' := by
  refine ev_s (st2 := .inl n :: st) (fun hlv hst => j_cn (by rw [← hv]; exact j_b32 v) hst) ?_ k
  intro p l e R s m args below meth c H locs cells slots ls al Q hx hb ho hts hl hlv hst K
  refine lv_ldcw hx hb ho (hts _ hw) hdg ?_
  subst hv
  have K := K
  simp only [List.map_cons, j_v, Int32.ofInt_toInt] at K
  exact K
theorem ev_ldc2 {index : Nat} {v : Int64} {n : Int} (hw : Cond.constantLong M.1 index v ∈ lwg) (hdg : decode M.2.1 pc = .ok (.ldc2_w index, 3)) (hv : v.toInt = n := by rfl) (k : Ev w d mc ms M (pc + 3) lv (.inr (.inl n) :: st) h r h') : Ev w d mc ms M pc lv (st) h r h' := by
  refine ev_s (st2 := .inr (.inl n) :: st) (fun hlv hst => j_cn (by rw [← hv]; exact j_b64 v) hst) ?_ k
  intro p l e R s m args below meth c H locs cells slots ls al Q hx hb ho hts hl hlv hst K
  refine lv_ldc2 hx hb ho (hts _ hw) hdg ?_
  subst hv
  have K := K
  simp only [List.map_cons, j_v, Int64.ofInt_toInt] at K
  exact K
theorem ev_null (hdg : decode M.2.1 pc = .ok (.aconst_null, 1)) (k : Ev w d mc ms M (pc + 1) lv (.inr (.inr none) :: st) h r h') : Ev w d mc ms M pc lv (st) h r h' := by
  refine ev_s (st2 := .inr (.inr none) :: st) (fun hlv hst => j_cn trivial hst) ?_ k
  intro p l e R s m args below meth c H locs cells slots ls al Q hx hb ho hts hl hlv hst K
  exact lv_null hx hb hdg K
theorem ev_iload_n {kk : Fin 4} {i : Nat} {x : Int} (q : Nat) (hdg : decode M.2.1 pc = .ok (.iload_n kk, 1)) (hi : (kk : Nat) = i := by rfl) (hq : lv[q]? = some (i, .inl x) := by rfl) (k : Ev w d mc ms M (pc + 1) lv (.inl x :: st) h r h') : Ev w d mc ms M pc lv (st) h r h' := by
  refine ev_s (st2 := .inl x :: st) (fun hlv hst => j_cn (j_lok hlv hq) hst) ?_ k
  intro p l e R s m args below meth c H locs cells slots ls al Q hx hb ho hts hl hlv hst K
  exact lv_iload_n hx hb hdg hi (j_lat hl hq) K
theorem ev_iload {i : Nat} {x : Int} (q : Nat) (hdg : decode M.2.1 pc = .ok (.iload i, 2)) (hq : lv[q]? = some (i, .inl x) := by rfl) (k : Ev w d mc ms M (pc + 2) lv (.inl x :: st) h r h') : Ev w d mc ms M pc lv (st) h r h' := by
  refine ev_s (st2 := .inl x :: st) (fun hlv hst => j_cn (j_lok hlv hq) hst) ?_ k
  intro p l e R s m args below meth c H locs cells slots ls al Q hx hb ho hts hl hlv hst K
  exact lv_iload hx hb hdg (j_lat hl hq) K
theorem ev_lload_n {kk : Fin 4} {i : Nat} {x : Int} (q : Nat) (hdg : decode M.2.1 pc = .ok (.lload_n kk, 1)) (hi : (kk : Nat) = i := by rfl) (hq : lv[q]? = some (i, .inr (.inl x)) := by rfl) (k : Ev w d mc ms M (pc + 1) lv (.inr (.inl x) :: st) h r h') : Ev w d mc ms M pc lv (st) h r h' := by
  refine ev_s (st2 := .inr (.inl x) :: st) (fun hlv hst => j_cn (j_lok hlv hq) hst) ?_ k
  intro p l e R s m args below meth c H locs cells slots ls al Q hx hb ho hts hl hlv hst K
  exact lv_lload_n hx hb hdg hi (j_lat hl hq) K
theorem ev_lload {i : Nat} {x : Int} (q : Nat) (hdg : decode M.2.1 pc = .ok (.lload i, 2)) (hq : lv[q]? = some (i, .inr (.inl x)) := by rfl) (k : Ev w d mc ms M (pc + 2) lv (.inr (.inl x) :: st) h r h') : Ev w d mc ms M pc lv (st) h r h' := by
  refine ev_s (st2 := .inr (.inl x) :: st) (fun hlv hst => j_cn (j_lok hlv hq) hst) ?_ k
  intro p l e R s m args below meth c H locs cells slots ls al Q hx hb ho hts hl hlv hst K
  exact lv_lload hx hb hdg (j_lat hl hq) K
theorem ev_aload_n {kk : Fin 4} {i : Nat} {x : Option (Nat × Int)} (q : Nat) (hdg : decode M.2.1 pc = .ok (.aload_n kk, 1)) (hi : (kk : Nat) = i := by rfl) (hq : lv[q]? = some (i, .inr (.inr x)) := by rfl) (k : Ev w d mc ms M (pc + 1) lv (.inr (.inr x) :: st) h r h') : Ev w d mc ms M pc lv (st) h r h' := by
  refine ev_s (st2 := .inr (.inr x) :: st) (fun hlv hst => j_cn (j_lok hlv hq) hst) ?_ k
  intro p l e R s m args below meth c H locs cells slots ls al Q hx hb ho hts hl hlv hst K
  have e := j_lat hl hq
  cases x with
  | none => exact lv_aload_nN hx hb hdg hi e K
  | some a => exact lv_aload_n hx hb hdg hi e K
theorem ev_aload {i : Nat} {x : Option (Nat × Int)} (q : Nat) (hdg : decode M.2.1 pc = .ok (.aload i, 2)) (hq : lv[q]? = some (i, .inr (.inr x)) := by rfl) (k : Ev w d mc ms M (pc + 2) lv (.inr (.inr x) :: st) h r h') : Ev w d mc ms M pc lv (st) h r h' := by
  refine ev_s (st2 := .inr (.inr x) :: st) (fun hlv hst => j_cn (j_lok hlv hq) hst) ?_ k
  intro p l e R s m args below meth c H locs cells slots ls al Q hx hb ho hts hl hlv hst K
  have e := j_lat hl hq
  cases x with
  | none => exact lv_aloadN hx hb hdg e K
  | some a => exact lv_aload hx hb hdg e K
theorem ev_iadd {x y : Int} (hdg : decode M.2.1 pc = .ok (.iadd, 1)) (k : Ev w d mc ms M (pc + 1) lv (.inl (w32 (x + y)) :: st) h r h') : Ev w d mc ms M pc lv (.inl y :: .inl x :: st) h r h' := by
  refine ev_s (st2 := .inl (w32 (x + y)) :: st) (fun hlv hst => j_cn (w32_r _) (j_tl (j_tl hst))) ?_ k
  intro p l e R s m args below meth c H locs cells slots ls al Q hx hb ho hts hl hlv hst K
  refine lv_iadd (x := Int32.ofInt x) (y := Int32.ofInt y) hx hb hdg ?_
  rw [show Int32.ofInt x + Int32.ofInt y = Int32.ofInt (w32 (x + y)) from by rw [w32_i, Int32.ofInt_add]]
  exact K
theorem ev_isub {x y : Int} (hdg : decode M.2.1 pc = .ok (.isub, 1)) (k : Ev w d mc ms M (pc + 1) lv (.inl (w32 (x - y)) :: st) h r h') : Ev w d mc ms M pc lv (.inl y :: .inl x :: st) h r h' := by
  refine ev_s (st2 := .inl (w32 (x - y)) :: st) (fun hlv hst => j_cn (w32_r _) (j_tl (j_tl hst))) ?_ k
  intro p l e R s m args below meth c H locs cells slots ls al Q hx hb ho hts hl hlv hst K
  refine lv_isub (x := Int32.ofInt x) (y := Int32.ofInt y) hx hb hdg ?_
  rw [show Int32.ofInt x - Int32.ofInt y = Int32.ofInt (w32 (x - y)) from by rw [w32_i, Int32.ofInt_sub]]
  exact K
theorem ev_imul {x y : Int} (hdg : decode M.2.1 pc = .ok (.imul, 1)) (k : Ev w d mc ms M (pc + 1) lv (.inl (w32 (x * y)) :: st) h r h') : Ev w d mc ms M pc lv (.inl y :: .inl x :: st) h r h' := by
  refine ev_s (st2 := .inl (w32 (x * y)) :: st) (fun hlv hst => j_cn (w32_r _) (j_tl (j_tl hst))) ?_ k
  intro p l e R s m args below meth c H locs cells slots ls al Q hx hb ho hts hl hlv hst K
  refine lv_imul (x := Int32.ofInt x) (y := Int32.ofInt y) hx hb hdg ?_
  rw [show Int32.ofInt x * Int32.ofInt y = Int32.ofInt (w32 (x * y)) from by rw [w32_i, Int32.ofInt_mul]]
  exact K
theorem ev_iand {x y : Int} (hdg : decode M.2.1 pc = .ok (.iand, 1)) (k : Ev w d mc ms M (pc + 1) lv (.inl (j_and x y) :: st) h r h') : Ev w d mc ms M pc lv (.inl y :: .inl x :: st) h r h' := by
  refine ev_s (st2 := .inl (j_and x y) :: st) (fun hlv hst => j_cn (j_b32 _) (j_tl (j_tl hst))) ?_ k
  intro p l e R s m args below meth c H locs cells slots ls al Q hx hb ho hts hl hlv hst K
  refine lv_iand (x := Int32.ofInt x) (y := Int32.ofInt y) hx hb hdg ?_
  rw [show Int32.ofInt x &&& Int32.ofInt y = Int32.ofInt (j_and x y) from by rw [j_and, Int32.ofInt_toInt]]
  exact K
theorem ev_ior {x y : Int} (hdg : decode M.2.1 pc = .ok (.ior, 1)) (k : Ev w d mc ms M (pc + 1) lv (.inl (j_or x y) :: st) h r h') : Ev w d mc ms M pc lv (.inl y :: .inl x :: st) h r h' := by
  refine ev_s (st2 := .inl (j_or x y) :: st) (fun hlv hst => j_cn (j_b32 _) (j_tl (j_tl hst))) ?_ k
  intro p l e R s m args below meth c H locs cells slots ls al Q hx hb ho hts hl hlv hst K
  refine lv_ior (x := Int32.ofInt x) (y := Int32.ofInt y) hx hb hdg ?_
  rw [show Int32.ofInt x ||| Int32.ofInt y = Int32.ofInt (j_or x y) from by rw [j_or, Int32.ofInt_toInt]]
  exact K
theorem ev_ixor {x y : Int} (hdg : decode M.2.1 pc = .ok (.ixor, 1)) (k : Ev w d mc ms M (pc + 1) lv (.inl (j_xor x y) :: st) h r h') : Ev w d mc ms M pc lv (.inl y :: .inl x :: st) h r h' := by
  refine ev_s (st2 := .inl (j_xor x y) :: st) (fun hlv hst => j_cn (j_b32 _) (j_tl (j_tl hst))) ?_ k
  intro p l e R s m args below meth c H locs cells slots ls al Q hx hb ho hts hl hlv hst K
  refine lv_ixor (x := Int32.ofInt x) (y := Int32.ofInt y) hx hb hdg ?_
  rw [show Int32.ofInt x ^^^ Int32.ofInt y = Int32.ofInt (j_xor x y) from by rw [j_xor, Int32.ofInt_toInt]]
  exact K
theorem ev_ishl {x y : Int} (hdg : decode M.2.1 pc = .ok (.ishl, 1)) (k : Ev w d mc ms M (pc + 1) lv (.inl (j_shl x y) :: st) h r h') : Ev w d mc ms M pc lv (.inl y :: .inl x :: st) h r h' := by
  refine ev_s (st2 := .inl (j_shl x y) :: st) (fun hlv hst => j_cn (j_b32 _) (j_tl (j_tl hst))) ?_ k
  intro p l e R s m args below meth c H locs cells slots ls al Q hx hb ho hts hl hlv hst K
  refine lv_ishl (x := Int32.ofInt x) (y := Int32.ofInt y) hx hb hdg ?_
  rw [show Int32.ofInt x <<< (Int32.ofInt y &&& 31) = Int32.ofInt (j_shl x y) from by rw [j_shl, Int32.ofInt_toInt]]
  exact K
theorem ev_ishr {x y : Int} (hdg : decode M.2.1 pc = .ok (.ishr, 1)) (k : Ev w d mc ms M (pc + 1) lv (.inl (j_shr x y) :: st) h r h') : Ev w d mc ms M pc lv (.inl y :: .inl x :: st) h r h' := by
  refine ev_s (st2 := .inl (j_shr x y) :: st) (fun hlv hst => j_cn (j_b32 _) (j_tl (j_tl hst))) ?_ k
  intro p l e R s m args below meth c H locs cells slots ls al Q hx hb ho hts hl hlv hst K
  refine lv_ishr (x := Int32.ofInt x) (y := Int32.ofInt y) hx hb hdg ?_
  rw [show Int32.ofInt x >>> (Int32.ofInt y &&& 31) = Int32.ofInt (j_shr x y) from by rw [j_shr, Int32.ofInt_toInt]]
  exact K
theorem ev_idiv {x y : Int} (hdg : decode M.2.1 pc = .ok (.idiv, 1)) (hne : ¬ y = 0) (k : Ev w d mc ms M (pc + 1) lv (.inl (j_div x y) :: st) h r h') : Ev w d mc ms M pc lv (.inl y :: .inl x :: st) h r h' := by
  refine ev_s (st2 := .inl (j_div x y) :: st) (fun hlv hst => j_cn (j_b32 _) (j_tl (j_tl hst))) ?_ k
  intro p l e R s m args below meth c H locs cells slots ls al Q hx hb ho hts hl hlv hst K
  refine lv_idiv (x := Int32.ofInt x) (y := Int32.ofInt y) hx hb hdg (by intro e; exact hne ((j_eq32 (j_h hst) (by constructor <;> decide)).mp e)) ?_
  rw [show Int32.ofInt x / Int32.ofInt y = Int32.ofInt (j_div x y) from by rw [j_div, Int32.ofInt_toInt]]
  exact K
theorem ev_irem {x y : Int} (hdg : decode M.2.1 pc = .ok (.irem, 1)) (hne : ¬ y = 0) (k : Ev w d mc ms M (pc + 1) lv (.inl (j_rem x y) :: st) h r h') : Ev w d mc ms M pc lv (.inl y :: .inl x :: st) h r h' := by
  refine ev_s (st2 := .inl (j_rem x y) :: st) (fun hlv hst => j_cn (j_b32 _) (j_tl (j_tl hst))) ?_ k
  intro p l e R s m args below meth c H locs cells slots ls al Q hx hb ho hts hl hlv hst K
  refine lv_irem (x := Int32.ofInt x) (y := Int32.ofInt y) hx hb hdg (by intro e; exact hne ((j_eq32 (j_h hst) (by constructor <;> decide)).mp e)) ?_
  rw [show Int32.ofInt x - Int32.ofInt x / Int32.ofInt y * Int32.ofInt y = Int32.ofInt (j_rem x y) from by rw [j_rem, Int32.ofInt_toInt]]
  exact K
theorem ev_ineg {x : Int} (hdg : decode M.2.1 pc = .ok (.ineg, 1)) (k : Ev w d mc ms M (pc + 1) lv (.inl (w32 (-x)) :: st) h r h') : Ev w d mc ms M pc lv (.inl x :: st) h r h' := by
  refine ev_s (st2 := .inl (w32 (-x)) :: st) (fun hlv hst => j_cn (w32_r _) (j_tl hst)) ?_ k
  intro p l e R s m args below meth c H locs cells slots ls al Q hx hb ho hts hl hlv hst K
  refine lv_ineg (x := Int32.ofInt x) hx hb hdg ?_
  rw [show -Int32.ofInt x = Int32.ofInt (w32 (-x)) from by rw [w32_i, Int32.ofInt_neg]]
  exact K
theorem ev_ladd {x y : Int} (hdg : decode M.2.1 pc = .ok (.ladd, 1)) (k : Ev w d mc ms M (pc + 1) lv (.inr (.inl (w64 (x + y))) :: st) h r h') : Ev w d mc ms M pc lv (.inr (.inl y) :: .inr (.inl x) :: st) h r h' := by
  refine ev_s (st2 := .inr (.inl (w64 (x + y))) :: st) (fun hlv hst => j_cn (w64_r _) (j_tl (j_tl hst))) ?_ k
  intro p l e R s m args below meth c H locs cells slots ls al Q hx hb ho hts hl hlv hst K
  refine lv_ladd (x := Int64.ofInt x) (y := Int64.ofInt y) hx hb hdg ?_
  rw [show Int64.ofInt x + Int64.ofInt y = Int64.ofInt (w64 (x + y)) from by rw [w64_i, Int64.ofInt_add]]
  exact K
theorem ev_lsub {x y : Int} (hdg : decode M.2.1 pc = .ok (.lsub, 1)) (k : Ev w d mc ms M (pc + 1) lv (.inr (.inl (w64 (x - y))) :: st) h r h') : Ev w d mc ms M pc lv (.inr (.inl y) :: .inr (.inl x) :: st) h r h' := by
  refine ev_s (st2 := .inr (.inl (w64 (x - y))) :: st) (fun hlv hst => j_cn (w64_r _) (j_tl (j_tl hst))) ?_ k
  intro p l e R s m args below meth c H locs cells slots ls al Q hx hb ho hts hl hlv hst K
  refine lv_lsub (x := Int64.ofInt x) (y := Int64.ofInt y) hx hb hdg ?_
  rw [show Int64.ofInt x - Int64.ofInt y = Int64.ofInt (w64 (x - y)) from by rw [w64_i, Int64.ofInt_sub]]
  exact K
theorem ev_land {x y : Int} (hdg : decode M.2.1 pc = .ok (.land, 1)) (k : Ev w d mc ms M (pc + 1) lv (.inr (.inl (j_land x y)) :: st) h r h') : Ev w d mc ms M pc lv (.inr (.inl y) :: .inr (.inl x) :: st) h r h' := by
  refine ev_s (st2 := .inr (.inl (j_land x y)) :: st) (fun hlv hst => j_cn (j_b64 _) (j_tl (j_tl hst))) ?_ k
  intro p l e R s m args below meth c H locs cells slots ls al Q hx hb ho hts hl hlv hst K
  refine lv_land (x := Int64.ofInt x) (y := Int64.ofInt y) hx hb hdg ?_
  rw [show Int64.ofInt x &&& Int64.ofInt y = Int64.ofInt (j_land x y) from by rw [j_land, Int64.ofInt_toInt]]
  exact K
theorem ev_lor {x y : Int} (hdg : decode M.2.1 pc = .ok (.lor, 1)) (k : Ev w d mc ms M (pc + 1) lv (.inr (.inl (j_lor x y)) :: st) h r h') : Ev w d mc ms M pc lv (.inr (.inl y) :: .inr (.inl x) :: st) h r h' := by
  refine ev_s (st2 := .inr (.inl (j_lor x y)) :: st) (fun hlv hst => j_cn (j_b64 _) (j_tl (j_tl hst))) ?_ k
  intro p l e R s m args below meth c H locs cells slots ls al Q hx hb ho hts hl hlv hst K
  refine lv_lor (x := Int64.ofInt x) (y := Int64.ofInt y) hx hb hdg ?_
  rw [show Int64.ofInt x ||| Int64.ofInt y = Int64.ofInt (j_lor x y) from by rw [j_lor, Int64.ofInt_toInt]]
  exact K
theorem ev_lxor {x y : Int} (hdg : decode M.2.1 pc = .ok (.lxor, 1)) (k : Ev w d mc ms M (pc + 1) lv (.inr (.inl (j_lxor x y)) :: st) h r h') : Ev w d mc ms M pc lv (.inr (.inl y) :: .inr (.inl x) :: st) h r h' := by
  refine ev_s (st2 := .inr (.inl (j_lxor x y)) :: st) (fun hlv hst => j_cn (j_b64 _) (j_tl (j_tl hst))) ?_ k
  intro p l e R s m args below meth c H locs cells slots ls al Q hx hb ho hts hl hlv hst K
  refine lv_lxor (x := Int64.ofInt x) (y := Int64.ofInt y) hx hb hdg ?_
  rw [show Int64.ofInt x ^^^ Int64.ofInt y = Int64.ofInt (j_lxor x y) from by rw [j_lxor, Int64.ofInt_toInt]]
  exact K
theorem ev_lshl {x y : Int} (hdg : decode M.2.1 pc = .ok (.lshl, 1)) (k : Ev w d mc ms M (pc + 1) lv (.inr (.inl (j_lshl x y)) :: st) h r h') : Ev w d mc ms M pc lv (.inl y :: .inr (.inl x) :: st) h r h' := by
  refine ev_s (st2 := .inr (.inl (j_lshl x y)) :: st) (fun hlv hst => j_cn (j_b64 _) (j_tl (j_tl hst))) ?_ k
  intro p l e R s m args below meth c H locs cells slots ls al Q hx hb ho hts hl hlv hst K
  refine lv_lshl (x := Int64.ofInt x) (y := Int32.ofInt y) (v := Int64.ofInt (j_lshl x y)) hx hb hdg ?_ K
  rw [j_lshl, Int64.ofInt_toInt]
theorem ev_lshr {x y : Int} (hdg : decode M.2.1 pc = .ok (.lshr, 1)) (k : Ev w d mc ms M (pc + 1) lv (.inr (.inl (j_lshr x y)) :: st) h r h') : Ev w d mc ms M pc lv (.inl y :: .inr (.inl x) :: st) h r h' := by
  refine ev_s (st2 := .inr (.inl (j_lshr x y)) :: st) (fun hlv hst => j_cn (j_b64 _) (j_tl (j_tl hst))) ?_ k
  intro p l e R s m args below meth c H locs cells slots ls al Q hx hb ho hts hl hlv hst K
  refine lv_lshr (x := Int64.ofInt x) (y := Int32.ofInt y) (v := Int64.ofInt (j_lshr x y)) hx hb hdg ?_ K
  rw [j_lshr, Int64.ofInt_toInt]
theorem ev_i2l {x : Int} (hdg : decode M.2.1 pc = .ok (.i2l, 1)) (k : Ev w d mc ms M (pc + 1) lv (.inr (.inl x) :: st) h r h') : Ev w d mc ms M pc lv (.inl x :: st) h r h' := by
  refine ev_s (st2 := .inr (.inl x) :: st) (fun hlv hst => j_cn (by have a := j_h hst; exact ⟨by have := a.1; omega, by have := a.2; omega⟩) (j_tl hst)) ?_ k
  intro p l e R s m args below meth c H locs cells slots ls al Q hx hb ho hts hl hlv hst K
  have a := j_h hst
  refine lv_i2l (x := Int32.ofInt x) (v := Int64.ofInt x) hx hb hdg ?_ K
  rw [← Int64.toInt_inj, Int32.toInt_toInt64, j_t32 a, j_t64 ⟨by have := a.1; omega, by have := a.2; omega⟩]
theorem ev_l2i {x : Int} (hdg : decode M.2.1 pc = .ok (.l2i, 1)) (k : Ev w d mc ms M (pc + 1) lv (.inl (w32 x) :: st) h r h') : Ev w d mc ms M pc lv (.inr (.inl x) :: st) h r h' := by
  refine ev_s (st2 := .inl (w32 x) :: st) (fun hlv hst => j_cn (w32_r _) (j_tl hst)) ?_ k
  intro p l e R s m args below meth c H locs cells slots ls al Q hx hb ho hts hl hlv hst K
  refine lv_l2i (x := Int64.ofInt x) (v := Int32.ofInt (w32 x)) hx hb hdg ?_ K
  rw [w32_i, Int64.toInt32_ofInt]
theorem ev_i2b {x : Int} (hdg : decode M.2.1 pc = .ok (.i2b, 1)) (k : Ev w d mc ms M (pc + 1) lv (.inl (j_i2b x) :: st) h r h') : Ev w d mc ms M pc lv (.inl x :: st) h r h' := by
  refine ev_s (st2 := .inl (j_i2b x) :: st) (fun hlv hst => j_cn (j_b32 _) (j_tl hst)) ?_ k
  intro p l e R s m args below meth c H locs cells slots ls al Q hx hb ho hts hl hlv hst K
  refine lv_i2b (x := Int32.ofInt x) (v := Int32.ofInt (j_i2b x)) hx hb hdg ?_ K
  rw [j_i2b, Int32.ofInt_toInt]
theorem ev_lcmp {x y : Int} (hdg : decode M.2.1 pc = .ok (.lcmp, 1)) (k : Ev w d mc ms M (pc + 1) lv (.inl (j_lcmp x y) :: st) h r h') : Ev w d mc ms M pc lv (.inr (.inl y) :: .inr (.inl x) :: st) h r h' := by
  refine ev_s (st2 := .inl (j_lcmp x y) :: st) (fun hlv hst => j_cn (by unfold j_lcmp; (repeat' split) <;> exact ⟨by omega, by omega⟩) (j_tl (j_tl hst))) ?_ k
  intro p l e R s m args below meth c H locs cells slots ls al Q hx hb ho hts hl hlv hst K
  refine W.lcmp (x := Int64.ofInt x) (y := Int64.ofInt y) hx hb hdg ?_
  have a := j_h hst
  have b := j_h (j_tl hst)
  rw [show lg_cmp (Int64.ofInt x) (Int64.ofInt y) = Int32.ofInt (j_lcmp x y) from by
    unfold lg_cmp j_lcmp
    simp only [gt_iff_lt, Int64.lt_iff_toInt_lt, ← Int64.toInt_inj, j_t64 a, j_t64 b]
    (repeat' split) <;> first | rfl | omega]
  exact K
theorem j_cat1 (al : JA) (i : Int) : (j_v al (.inl i)).category = 1 := rfl
theorem j_cat1r (al : JA) (x : Option (Nat × Int)) : (j_v al (.inr (.inr x))).category = 1 := by cases x <;> rfl
def j_c1 : JV → Bool
  | .inr (.inl _) => false
  | _ => true
theorem j_c1c (al : JA) {v : JV} (hv : j_c1 v = true) : (j_v al v).category = 1 := by
  rcases v with i | i | x
  · rfl
  · cases hv
  · exact j_cat1r al x
theorem ev_dup {v : JV} (hdg : decode M.2.1 pc = .ok (.dup, 1)) (hv : j_c1 v = true := by rfl) (k : Ev w d mc ms M (pc + 1) lv (v :: v :: st) h r h') : Ev w d mc ms M pc lv (v :: st) h r h' := by
  refine ev_s (st2 := v :: v :: st) (fun hlv hst => j_cn (j_h hst) hst) ?_ k
  intro p l e R s m args below meth c H locs cells slots ls al Q hx hb ho hts hl hlv hst K
  exact lv_dup hx hb hdg (j_c1c al hv) K
theorem ev_dup_x1 {v u : JV} (hdg : decode M.2.1 pc = .ok (.dup_x1, 1)) (hv : j_c1 v = true := by rfl) (hu : j_c1 u = true := by rfl) (k : Ev w d mc ms M (pc + 1) lv (v :: u :: v :: st) h r h') : Ev w d mc ms M pc lv (v :: u :: st) h r h' := by
  refine ev_s (st2 := v :: u :: v :: st) (fun hlv hst => j_cn (j_h hst) (j_cn (j_h (j_tl hst)) (j_cn (j_h hst) (j_tl (j_tl hst))))) ?_ k
  intro p l e R s m args below meth c H locs cells slots ls al Q hx hb ho hts hl hlv hst K
  exact lv_dup_x1 hx hb hdg (j_c1c al hv) (j_c1c al hu) K
theorem ev_dup_x2 {v u z : JV} (hdg : decode M.2.1 pc = .ok (.dup_x2, 1)) (hv : j_c1 v = true := by rfl) (hu : j_c1 u = true := by rfl) (hz : j_c1 z = true := by rfl) (k : Ev w d mc ms M (pc + 1) lv (v :: u :: z :: v :: st) h r h') : Ev w d mc ms M pc lv (v :: u :: z :: st) h r h' := by
  refine ev_s (st2 := v :: u :: z :: v :: st) (fun hlv hst => j_cn (j_h hst) (j_cn (j_h (j_tl hst)) (j_cn (j_h (j_tl (j_tl hst))) (j_cn (j_h hst) (j_tl (j_tl (j_tl hst))))))) ?_ k
  intro p l e R s m args below meth c H locs cells slots ls al Q hx hb ho hts hl hlv hst K
  exact lv_dup_x2 hx hb hdg (j_c1c al hv) (j_c1c al hu) (j_c1c al hz) K
theorem ev_dup2 {v u : JV} (hdg : decode M.2.1 pc = .ok (.dup2, 1)) (hv : j_c1 v = true := by rfl) (hu : j_c1 u = true := by rfl) (k : Ev w d mc ms M (pc + 1) lv (v :: u :: v :: u :: st) h r h') : Ev w d mc ms M pc lv (v :: u :: st) h r h' := by
  refine ev_s (st2 := v :: u :: v :: u :: st) (fun hlv hst => j_cn (j_h hst) (j_cn (j_h (j_tl hst)) hst)) ?_ k
  intro p l e R s m args below meth c H locs cells slots ls al Q hx hb ho hts hl hlv hst K
  exact lv_dup2_11 hx hb hdg (j_c1c al hv) (j_c1c al hu) K
theorem ev_goto {off : Int} (tgt : Nat) (hdg : decode M.2.1 pc = .ok (.goto off, 3)) (ht : (pc : Int) + off = (tgt : Int) := by rfl) (k : Ev w d mc ms M tgt lv st h r h') : Ev w d mc ms M pc lv st h r h' := by
  refine ev_s (fun _ hst => hst) ?_ k
  intro p l e R s m args below meth c H locs cells slots ls al Q hx hb ho hts hl hlv hst K
  exact lv_goto hx hb hdg ht K
theorem ev_ifeq {x : Int} {off : Int} (tgt : Nat) (hdg : decode M.2.1 pc = .ok (.ifCond .eq off, 3)) (ht : (pc : Int) + off = (tgt : Int) := by rfl) (kt : x = 0 → Ev w d mc ms M tgt lv st h r h') (kf : ¬ x = 0 → Ev w d mc ms M (pc + 3) lv st h r h') : Ev w d mc ms M pc lv (.inl x :: st) h r h' := by
  intro hlv hst p l e R s m args below meth c H locs cells slots ls G al al0 h0 F S hl
  have a := j_h hst
  have z0 : j_r32 0 := by constructor <;> decide
  exact lv_if_eq (x := Int32.ofInt x) F.1 F.2.1 hdg ht (fun q => kt ((j_eq32 a z0).mp q) hlv (j_tl hst) p l e R s m args below meth c H locs cells slots ls G al al0 h0 F S hl) (fun q => kf (fun z => q ((j_eq32 a z0).mpr z)) hlv (j_tl hst) p l e R s m args below meth c H locs cells slots ls G al al0 h0 F S hl)
theorem ev_icmpeq {x y : Int} {off : Int} (tgt : Nat) (hdg : decode M.2.1 pc = .ok (.if_icmp .eq off, 3)) (ht : (pc : Int) + off = (tgt : Int) := by rfl) (kt : x = y → Ev w d mc ms M tgt lv st h r h') (kf : ¬ x = y → Ev w d mc ms M (pc + 3) lv st h r h') : Ev w d mc ms M pc lv (.inl y :: .inl x :: st) h r h' := by
  intro hlv hst p l e R s m args below meth c H locs cells slots ls G al al0 h0 F S hl
  have b := j_h hst
  have a := j_h (j_tl hst)
  exact lv_icmp_eq (x := Int32.ofInt x) (y := Int32.ofInt y) F.1 F.2.1 hdg ht (fun q => kt ((j_eq32 a b).mp q) hlv (j_tl (j_tl hst)) p l e R s m args below meth c H locs cells slots ls G al al0 h0 F S hl) (fun q => kf (fun z => q ((j_eq32 a b).mpr z)) hlv (j_tl (j_tl hst)) p l e R s m args below meth c H locs cells slots ls G al al0 h0 F S hl)
theorem ev_ifne {x : Int} {off : Int} (tgt : Nat) (hdg : decode M.2.1 pc = .ok (.ifCond .ne off, 3)) (ht : (pc : Int) + off = (tgt : Int) := by rfl) (kt : ¬ x = 0 → Ev w d mc ms M tgt lv st h r h') (kf : x = 0 → Ev w d mc ms M (pc + 3) lv st h r h') : Ev w d mc ms M pc lv (.inl x :: st) h r h' := by
  intro hlv hst p l e R s m args below meth c H locs cells slots ls G al al0 h0 F S hl
  have a := j_h hst
  have z0 : j_r32 0 := by constructor <;> decide
  exact lv_if_ne (x := Int32.ofInt x) F.1 F.2.1 hdg ht (fun q => kt (fun z => q (((j_eq32 a z0)).mpr z)) hlv (j_tl hst) p l e R s m args below meth c H locs cells slots ls G al al0 h0 F S hl) (fun q => kf ((j_eq32 a z0).mp q) hlv (j_tl hst) p l e R s m args below meth c H locs cells slots ls G al al0 h0 F S hl)
theorem ev_icmpne {x y : Int} {off : Int} (tgt : Nat) (hdg : decode M.2.1 pc = .ok (.if_icmp .ne off, 3)) (ht : (pc : Int) + off = (tgt : Int) := by rfl) (kt : ¬ x = y → Ev w d mc ms M tgt lv st h r h') (kf : x = y → Ev w d mc ms M (pc + 3) lv st h r h') : Ev w d mc ms M pc lv (.inl y :: .inl x :: st) h r h' := by
  intro hlv hst p l e R s m args below meth c H locs cells slots ls G al al0 h0 F S hl
  have b := j_h hst
  have a := j_h (j_tl hst)
  exact lv_icmp_ne (x := Int32.ofInt x) (y := Int32.ofInt y) F.1 F.2.1 hdg ht (fun q => kt (fun z => q (((j_eq32 a b)).mpr z)) hlv (j_tl (j_tl hst)) p l e R s m args below meth c H locs cells slots ls G al al0 h0 F S hl) (fun q => kf ((j_eq32 a b).mp q) hlv (j_tl (j_tl hst)) p l e R s m args below meth c H locs cells slots ls G al al0 h0 F S hl)
theorem ev_iflt {x : Int} {off : Int} (tgt : Nat) (hdg : decode M.2.1 pc = .ok (.ifCond .lt off, 3)) (ht : (pc : Int) + off = (tgt : Int) := by rfl) (kt : x < 0 → Ev w d mc ms M tgt lv st h r h') (kf : ¬ x < 0 → Ev w d mc ms M (pc + 3) lv st h r h') : Ev w d mc ms M pc lv (.inl x :: st) h r h' := by
  intro hlv hst p l e R s m args below meth c H locs cells slots ls G al al0 h0 F S hl
  have a := j_h hst
  have z0 : j_r32 0 := by constructor <;> decide
  exact lv_if_lt (x := Int32.ofInt x) F.1 F.2.1 hdg ht (fun q => kt ((j_lt32 a z0).mp q) hlv (j_tl hst) p l e R s m args below meth c H locs cells slots ls G al al0 h0 F S hl) (fun q => kf (fun z => q ((j_lt32 a z0).mpr z)) hlv (j_tl hst) p l e R s m args below meth c H locs cells slots ls G al al0 h0 F S hl)
theorem ev_icmplt {x y : Int} {off : Int} (tgt : Nat) (hdg : decode M.2.1 pc = .ok (.if_icmp .lt off, 3)) (ht : (pc : Int) + off = (tgt : Int) := by rfl) (kt : x < y → Ev w d mc ms M tgt lv st h r h') (kf : ¬ x < y → Ev w d mc ms M (pc + 3) lv st h r h') : Ev w d mc ms M pc lv (.inl y :: .inl x :: st) h r h' := by
  intro hlv hst p l e R s m args below meth c H locs cells slots ls G al al0 h0 F S hl
  have b := j_h hst
  have a := j_h (j_tl hst)
  exact lv_icmp_lt (x := Int32.ofInt x) (y := Int32.ofInt y) F.1 F.2.1 hdg ht (fun q => kt ((j_lt32 a b).mp q) hlv (j_tl (j_tl hst)) p l e R s m args below meth c H locs cells slots ls G al al0 h0 F S hl) (fun q => kf (fun z => q ((j_lt32 a b).mpr z)) hlv (j_tl (j_tl hst)) p l e R s m args below meth c H locs cells slots ls G al al0 h0 F S hl)
theorem ev_ifge {x : Int} {off : Int} (tgt : Nat) (hdg : decode M.2.1 pc = .ok (.ifCond .ge off, 3)) (ht : (pc : Int) + off = (tgt : Int) := by rfl) (kt : 0 ≤ x → Ev w d mc ms M tgt lv st h r h') (kf : ¬ 0 ≤ x → Ev w d mc ms M (pc + 3) lv st h r h') : Ev w d mc ms M pc lv (.inl x :: st) h r h' := by
  intro hlv hst p l e R s m args below meth c H locs cells slots ls G al al0 h0 F S hl
  have a := j_h hst
  have z0 : j_r32 0 := by constructor <;> decide
  exact lv_if_ge (x := Int32.ofInt x) F.1 F.2.1 hdg ht (fun q => kt ((j_le32 z0 a).mp q) hlv (j_tl hst) p l e R s m args below meth c H locs cells slots ls G al al0 h0 F S hl) (fun q => kf (fun z => q ((j_le32 z0 a).mpr z)) hlv (j_tl hst) p l e R s m args below meth c H locs cells slots ls G al al0 h0 F S hl)
theorem ev_icmpge {x y : Int} {off : Int} (tgt : Nat) (hdg : decode M.2.1 pc = .ok (.if_icmp .ge off, 3)) (ht : (pc : Int) + off = (tgt : Int) := by rfl) (kt : y ≤ x → Ev w d mc ms M tgt lv st h r h') (kf : ¬ y ≤ x → Ev w d mc ms M (pc + 3) lv st h r h') : Ev w d mc ms M pc lv (.inl y :: .inl x :: st) h r h' := by
  intro hlv hst p l e R s m args below meth c H locs cells slots ls G al al0 h0 F S hl
  have b := j_h hst
  have a := j_h (j_tl hst)
  exact lv_icmp_ge (x := Int32.ofInt x) (y := Int32.ofInt y) F.1 F.2.1 hdg ht (fun q => kt ((j_le32 b a).mp q) hlv (j_tl (j_tl hst)) p l e R s m args below meth c H locs cells slots ls G al al0 h0 F S hl) (fun q => kf (fun z => q ((j_le32 b a).mpr z)) hlv (j_tl (j_tl hst)) p l e R s m args below meth c H locs cells slots ls G al al0 h0 F S hl)
theorem ev_ifgt {x : Int} {off : Int} (tgt : Nat) (hdg : decode M.2.1 pc = .ok (.ifCond .gt off, 3)) (ht : (pc : Int) + off = (tgt : Int) := by rfl) (kt : 0 < x → Ev w d mc ms M tgt lv st h r h') (kf : ¬ 0 < x → Ev w d mc ms M (pc + 3) lv st h r h') : Ev w d mc ms M pc lv (.inl x :: st) h r h' := by
  intro hlv hst p l e R s m args below meth c H locs cells slots ls G al al0 h0 F S hl
  have a := j_h hst
  have z0 : j_r32 0 := by constructor <;> decide
  exact lv_if_gt (x := Int32.ofInt x) F.1 F.2.1 hdg ht (fun q => kt ((j_lt32 z0 a).mp q) hlv (j_tl hst) p l e R s m args below meth c H locs cells slots ls G al al0 h0 F S hl) (fun q => kf (fun z => q ((j_lt32 z0 a).mpr z)) hlv (j_tl hst) p l e R s m args below meth c H locs cells slots ls G al al0 h0 F S hl)
theorem ev_icmpgt {x y : Int} {off : Int} (tgt : Nat) (hdg : decode M.2.1 pc = .ok (.if_icmp .gt off, 3)) (ht : (pc : Int) + off = (tgt : Int) := by rfl) (kt : y < x → Ev w d mc ms M tgt lv st h r h') (kf : ¬ y < x → Ev w d mc ms M (pc + 3) lv st h r h') : Ev w d mc ms M pc lv (.inl y :: .inl x :: st) h r h' := by
  intro hlv hst p l e R s m args below meth c H locs cells slots ls G al al0 h0 F S hl
  have b := j_h hst
  have a := j_h (j_tl hst)
  exact lv_icmp_gt (x := Int32.ofInt x) (y := Int32.ofInt y) F.1 F.2.1 hdg ht (fun q => kt ((j_lt32 b a).mp q) hlv (j_tl (j_tl hst)) p l e R s m args below meth c H locs cells slots ls G al al0 h0 F S hl) (fun q => kf (fun z => q ((j_lt32 b a).mpr z)) hlv (j_tl (j_tl hst)) p l e R s m args below meth c H locs cells slots ls G al al0 h0 F S hl)
theorem ev_ifle {x : Int} {off : Int} (tgt : Nat) (hdg : decode M.2.1 pc = .ok (.ifCond .le off, 3)) (ht : (pc : Int) + off = (tgt : Int) := by rfl) (kt : x ≤ 0 → Ev w d mc ms M tgt lv st h r h') (kf : ¬ x ≤ 0 → Ev w d mc ms M (pc + 3) lv st h r h') : Ev w d mc ms M pc lv (.inl x :: st) h r h' := by
  intro hlv hst p l e R s m args below meth c H locs cells slots ls G al al0 h0 F S hl
  have a := j_h hst
  have z0 : j_r32 0 := by constructor <;> decide
  exact lv_if_le (x := Int32.ofInt x) F.1 F.2.1 hdg ht (fun q => kt ((j_le32 a z0).mp q) hlv (j_tl hst) p l e R s m args below meth c H locs cells slots ls G al al0 h0 F S hl) (fun q => kf (fun z => q ((j_le32 a z0).mpr z)) hlv (j_tl hst) p l e R s m args below meth c H locs cells slots ls G al al0 h0 F S hl)
theorem ev_icmple {x y : Int} {off : Int} (tgt : Nat) (hdg : decode M.2.1 pc = .ok (.if_icmp .le off, 3)) (ht : (pc : Int) + off = (tgt : Int) := by rfl) (kt : x ≤ y → Ev w d mc ms M tgt lv st h r h') (kf : ¬ x ≤ y → Ev w d mc ms M (pc + 3) lv st h r h') : Ev w d mc ms M pc lv (.inl y :: .inl x :: st) h r h' := by
  intro hlv hst p l e R s m args below meth c H locs cells slots ls G al al0 h0 F S hl
  have b := j_h hst
  have a := j_h (j_tl hst)
  exact lv_icmp_le (x := Int32.ofInt x) (y := Int32.ofInt y) F.1 F.2.1 hdg ht (fun q => kt ((j_le32 a b).mp q) hlv (j_tl (j_tl hst)) p l e R s m args below meth c H locs cells slots ls G al al0 h0 F S hl) (fun q => kf (fun z => q ((j_le32 a b).mpr z)) hlv (j_tl (j_tl hst)) p l e R s m args below meth c H locs cells slots ls G al al0 h0 F S hl)
theorem ev_ifnull {x : Option (Nat × Int)} {off : Int} (tgt : Nat) (hdg : decode M.2.1 pc = .ok (.ifnull off, 3)) (ht : (pc : Int) + off = (tgt : Int) := by rfl) (kt : x = none → Ev w d mc ms M tgt lv st h r h') (kf : ¬ x = none → Ev w d mc ms M (pc + 3) lv st h r h') : Ev w d mc ms M pc lv (.inr (.inr x) :: st) h r h' := by
  intro hlv hst p l e R s m args below meth c H locs cells slots ls G al al0 h0 F S hl
  cases x with
  | none => exact lv_ifnullN F.1 F.2.1 hdg ht (kt rfl hlv (j_tl hst) p l e R s m args below meth c H locs cells slots ls G al al0 h0 F S hl)
  | some a => exact lv_ifnull F.1 F.2.1 hdg (kf (fun q => by cases q) hlv (j_tl hst) p l e R s m args below meth c H locs cells slots ls G al al0 h0 F S hl)
theorem ev_ifnonnull {x : Option (Nat × Int)} {off : Int} (tgt : Nat) (hdg : decode M.2.1 pc = .ok (.ifnonnull off, 3)) (ht : (pc : Int) + off = (tgt : Int) := by rfl) (kt : ¬ x = none → Ev w d mc ms M tgt lv st h r h') (kf : x = none → Ev w d mc ms M (pc + 3) lv st h r h') : Ev w d mc ms M pc lv (.inr (.inr x) :: st) h r h' := by
  intro hlv hst p l e R s m args below meth c H locs cells slots ls G al al0 h0 F S hl
  cases x with
  | none => exact lv_ifnonnullN F.1 F.2.1 hdg (kf rfl hlv (j_tl hst) p l e R s m args below meth c H locs cells slots ls G al al0 h0 F S hl)
  | some a => exact lv_ifnonnull F.1 F.2.1 hdg ht (kt (fun q => by cases q) hlv (j_tl hst) p l e R s m args below meth c H locs cells slots ls G al al0 h0 F S hl)
theorem j_refeq {G : JG} {al : JA} {H : Heap} (hR : j_Rep w G al h H) {x y : Option (Nat × Int)} (hx : j_ok w h (.inr (.inr x))) (hy : j_ok w h (.inr (.inr y))) : (x.map (fun q => al q.1 q.2) = y.map (fun q => al q.1 q.2)) ↔ x = y := by
  constructor
  · intro e
    cases x with
    | none => cases y with
      | none => rfl
      | some b => cases e
    | some a => cases y with
      | none => cases e
      | some b =>
        obtain ⟨e1, e2⟩ := hR.2.1 _ _ _ _ hx hy (Option.some.inj e)
        exact congrArg some (Prod.ext e1 e2)
  · intro e; rw [e]
theorem ev_acmpeq {x y : Option (Nat × Int)} {off : Int} (tgt : Nat) (hdg : decode M.2.1 pc = .ok (.if_acmp .eq off, 3)) (ht : (pc : Int) + off = (tgt : Int) := by rfl) (kt : x = y → Ev w d mc ms M tgt lv st h r h') (kf : ¬ x = y → Ev w d mc ms M (pc + 3) lv st h r h') : Ev w d mc ms M pc lv (.inr (.inr y) :: .inr (.inr x) :: st) h r h' := by
  intro hlv hst p l e R s m args below meth c H locs cells slots ls G al al0 h0 F S hl
  have b := j_h hst
  have a := j_h (j_tl hst)
  exact lv_acmp_eq (rx := x.map (fun q => al q.1 q.2)) (ry := y.map (fun q => al q.1 q.2)) F.1 F.2.1 hdg ht (fun q => kt ((j_refeq S.1 a b).mp q) hlv (j_tl (j_tl hst)) p l e R s m args below meth c H locs cells slots ls G al al0 h0 F S hl) (fun q => kf (fun z => q ((j_refeq S.1 a b).mpr z)) hlv (j_tl (j_tl hst)) p l e R s m args below meth c H locs cells slots ls G al al0 h0 F S hl)
theorem ev_acmpne {x y : Option (Nat × Int)} {off : Int} (tgt : Nat) (hdg : decode M.2.1 pc = .ok (.if_acmp .ne off, 3)) (ht : (pc : Int) + off = (tgt : Int) := by rfl) (kt : ¬ x = y → Ev w d mc ms M tgt lv st h r h') (kf : x = y → Ev w d mc ms M (pc + 3) lv st h r h') : Ev w d mc ms M pc lv (.inr (.inr y) :: .inr (.inr x) :: st) h r h' := by
  intro hlv hst p l e R s m args below meth c H locs cells slots ls G al al0 h0 F S hl
  have b := j_h hst
  have a := j_h (j_tl hst)
  exact lv_acmp_ne (rx := x.map (fun q => al q.1 q.2)) (ry := y.map (fun q => al q.1 q.2)) F.1 F.2.1 hdg ht (fun q => kt (fun z => q ((j_refeq S.1 a b).mpr z)) hlv (j_tl (j_tl hst)) p l e R s m args below meth c H locs cells slots ls G al al0 h0 F S hl) (fun q => kf ((j_refeq S.1 a b).mp q) hlv (j_tl (j_tl hst)) p l e R s m args below meth c H locs cells slots ls G al al0 h0 F S hl)
theorem ev_tableOut {dflt lo hi : Int} {offs : Array Int} {len : Nat} {x : Int} (tgt : Nat) (hdg : decode M.2.1 pc = .ok (.tableswitch dflt lo hi offs, len)) (hc : x < lo ∨ hi < x) (ht : (pc : Int) + dflt = (tgt : Int) := by rfl) (k : Ev w d mc ms M tgt lv st h r h') : Ev w d mc ms M pc lv (.inl x :: st) h r h' := by
  refine ev_s (fun _ hst => j_tl hst) ?_ k
  intro p l e R s m args below meth c H locs cells slots ls al Q hx hb ho hts hl hlv hst K
  exact lv_tableOut (x := Int32.ofInt x) hx hb hdg (by rw [j_t32 (j_h hst)]; exact hc) ht K
theorem ev_tableIn {dflt lo hi : Int} {offs : Array Int} {len : Nat} {x off : Int} (tgt : Nat) (hdg : decode M.2.1 pc = .ok (.tableswitch dflt lo hi offs, len)) (h1 : ¬ x < lo) (h2 : ¬ hi < x) (hof : offs[(x - lo).toNat]? = some off) (ht : (pc : Int) + off = (tgt : Int) := by rfl) (k : Ev w d mc ms M tgt lv st h r h') : Ev w d mc ms M pc lv (.inl x :: st) h r h' := by
  refine ev_s (fun _ hst => j_tl hst) ?_ k
  intro p l e R s m args below meth c H locs cells slots ls al Q hx hb ho hts hl hlv hst K
  exact lv_tableIn (x := Int32.ofInt x) hx hb hdg (by rw [j_t32 (j_h hst)]; exact h1) (by rw [j_t32 (j_h hst)]; exact h2) (by rw [j_t32 (j_h hst)]; exact hof) ht K
theorem ev_lookup {dflt : Int} {ps : Array (Int × Int)} {len : Nat} {x off : Int} (tgt : Nat) (hdg : decode M.2.1 pc = .ok (.lookupswitch dflt ps, len)) (hp : (ps.toList.zip (ps.toList.drop 1)).all (fun (a, next) => a.1 < next.1) = true) (hof : Op.lookupswitch.offset ps.toList dflt x = off) (ht : (pc : Int) + off = (tgt : Int) := by rfl) (k : Ev w d mc ms M tgt lv st h r h') : Ev w d mc ms M pc lv (.inl x :: st) h r h' := by
  refine ev_s (fun _ hst => j_tl hst) ?_ k
  intro p l e R s m args below meth c H locs cells slots ls al Q hx hb ho hts hl hlv hst K
  exact lv_lookup (x := Int32.ofInt x) hx hb hdg hp (by rw [j_t32 (j_h hst)]; exact hof) ht K
def j_st (lv : List (Nat × JV)) (i : Nat) (v : JV) : List (Nat × JV) := (i, v) :: lv.filter (fun q => !(q.1 == i) && !(q.1 + 1 == i && !j_c1 q.2))
def j_st2 (lv : List (Nat × JV)) (i : Nat) (v : JV) : List (Nat × JV) := (i, v) :: lv.filter (fun q => !(q.1 == i) && (!(q.1 == i + 1) && !(q.1 + 1 == i && !j_c1 q.2)))
theorem j_c2 (al : JA) (v : JV) : ((j_v al v).category == 2) = !j_c1 v := by
  rcases v with i | i | x
  · rfl
  · rfl
  · cases x <;> rfl
theorem j_stl (al : JA) (lv : List (Nat × JV)) (i : Nat) (v : JV) : (i, j_v al v) :: (j_l al lv).filter (fun q => !(q.1 == i) && !(q.1 + 1 == i && q.2.category == 2)) = j_l al (j_st lv i v) := by
  unfold j_st j_l
  rw [List.map_cons, List.filter_map]
  congr 2
  apply List.filter_congr
  intro q _
  simp only [Function.comp, j_c2]
theorem j_stl2 (al : JA) (lv : List (Nat × JV)) (i : Nat) (v : JV) : (i, j_v al v) :: (j_l al lv).filter (fun q => !(q.1 == i) && (!(q.1 == i + 1) && !(q.1 + 1 == i && q.2.category == 2))) = j_l al (j_st2 lv i v) := by
  unfold j_st2 j_l
  rw [List.map_cons, List.filter_map]
  congr 2
  apply List.filter_congr
  intro q _
  simp only [Function.comp, j_c2]
theorem j_stok {i : Nat} {v : JV} (hlv : ∀ q ∈ lv, j_ok w h q.2) (hv : j_ok w h v) : ∀ q ∈ j_st lv i v, j_ok w h q.2 := by
  intro q hq
  rcases List.mem_cons.mp hq with rfl | hq
  · exact hv
  · exact hlv q (List.mem_filter.mp hq).1
theorem j_stok2 {i : Nat} {v : JV} (hlv : ∀ q ∈ lv, j_ok w h q.2) (hv : j_ok w h v) : ∀ q ∈ j_st2 lv i v, j_ok w h q.2 := by
  intro q hq
  rcases List.mem_cons.mp hq with rfl | hq
  · exact hv
  · exact hlv q (List.mem_filter.mp hq).1
theorem ev_istore_n {kk : Fin 4} {i : Nat} {x : Int} (lv2 : List (Nat × JV)) (hdg : decode M.2.1 pc = .ok (.istore_n kk, 1)) (hi : (kk : Nat) = i := by rfl) (hn : decide (i < M.2.2.1) = true := by rfl) (hl2 : j_st lv i (.inl x) = lv2 := by rfl) (k : Ev w d mc ms M (pc + 1) lv2 st h r h') : Ev w d mc ms M pc lv (.inl x :: st) h r h' := by
  intro hlv hst p l e R s m args below meth c H locs cells slots ls G al al0 h0 F S hl
  have hn := of_decide_eq_true hn
  subst hl2
  exact lv_istore_n F.1 F.2.1 hdg hi hl hn (j_stl al lv i (.inl x)) (fun ls2 hl2 => k (j_stok hlv (j_h hst)) (j_tl hst) p l e R s m args below meth c H locs cells slots ls2 G al al0 h0 F S hl2)
theorem ev_istore {i : Nat} {x : Int} (lv2 : List (Nat × JV)) (hdg : decode M.2.1 pc = .ok (.istore i, 2)) (hn : decide (i < M.2.2.1) = true := by rfl) (hl2 : j_st lv i (.inl x) = lv2 := by rfl) (k : Ev w d mc ms M (pc + 2) lv2 st h r h') : Ev w d mc ms M pc lv (.inl x :: st) h r h' := by
  intro hlv hst p l e R s m args below meth c H locs cells slots ls G al al0 h0 F S hl
  have hn := of_decide_eq_true hn
  subst hl2
  exact lv_istore F.1 F.2.1 hdg hl hn (j_stl al lv i (.inl x)) (fun ls2 hl2 => k (j_stok hlv (j_h hst)) (j_tl hst) p l e R s m args below meth c H locs cells slots ls2 G al al0 h0 F S hl2)
theorem ev_lstore_n {kk : Fin 4} {i : Nat} {x : Int} (lv2 : List (Nat × JV)) (hdg : decode M.2.1 pc = .ok (.lstore_n kk, 1)) (hi : (kk : Nat) = i := by rfl) (hn : decide (i + 1 < M.2.2.1) = true := by rfl) (hl2 : j_st2 lv i (.inr (.inl x)) = lv2 := by rfl) (k : Ev w d mc ms M (pc + 1) lv2 st h r h') : Ev w d mc ms M pc lv (.inr (.inl x) :: st) h r h' := by
  intro hlv hst p l e R s m args below meth c H locs cells slots ls G al al0 h0 F S hl
  have hn := of_decide_eq_true hn
  subst hl2
  exact lv_lstore_n F.1 F.2.1 hdg hi hl hn (j_stl2 al lv i (.inr (.inl x))) (fun ls2 hl2 => k (j_stok2 hlv (j_h hst)) (j_tl hst) p l e R s m args below meth c H locs cells slots ls2 G al al0 h0 F S hl2)
theorem ev_lstore {i : Nat} {x : Int} (lv2 : List (Nat × JV)) (hdg : decode M.2.1 pc = .ok (.lstore i, 2)) (hn : decide (i + 1 < M.2.2.1) = true := by rfl) (hl2 : j_st2 lv i (.inr (.inl x)) = lv2 := by rfl) (k : Ev w d mc ms M (pc + 2) lv2 st h r h') : Ev w d mc ms M pc lv (.inr (.inl x) :: st) h r h' := by
  intro hlv hst p l e R s m args below meth c H locs cells slots ls G al al0 h0 F S hl
  have hn := of_decide_eq_true hn
  subst hl2
  exact lv_lstore F.1 F.2.1 hdg hl hn (j_stl2 al lv i (.inr (.inl x))) (fun ls2 hl2 => k (j_stok2 hlv (j_h hst)) (j_tl hst) p l e R s m args below meth c H locs cells slots ls2 G al al0 h0 F S hl2)
theorem ev_astore_n {kk : Fin 4} {i : Nat} {x : Option (Nat × Int)} (lv2 : List (Nat × JV)) (hdg : decode M.2.1 pc = .ok (.astore_n kk, 1)) (hi : (kk : Nat) = i := by rfl) (hn : decide (i < M.2.2.1) = true := by rfl) (hl2 : j_st lv i (.inr (.inr x)) = lv2 := by rfl) (k : Ev w d mc ms M (pc + 1) lv2 st h r h') : Ev w d mc ms M pc lv (.inr (.inr x) :: st) h r h' := by
  intro hlv hst p l e R s m args below meth c H locs cells slots ls G al al0 h0 F S hl
  have hn := of_decide_eq_true hn
  subst hl2
  cases x with
  | none => exact lv_astore_nN F.1 F.2.1 hdg hi hl hn (j_stl al lv i (.inr (.inr none))) (fun ls2 hl2 => k (j_stok hlv (j_h hst)) (j_tl hst) p l e R s m args below meth c H locs cells slots ls2 G al al0 h0 F S hl2)
  | some a => exact lv_astore_n F.1 F.2.1 hdg hi hl hn (j_stl al lv i (.inr (.inr (some a)))) (fun ls2 hl2 => k (j_stok hlv (j_h hst)) (j_tl hst) p l e R s m args below meth c H locs cells slots ls2 G al al0 h0 F S hl2)
theorem ev_astore {i : Nat} {x : Option (Nat × Int)} (lv2 : List (Nat × JV)) (hdg : decode M.2.1 pc = .ok (.astore i, 2)) (hn : decide (i < M.2.2.1) = true := by rfl) (hl2 : j_st lv i (.inr (.inr x)) = lv2 := by rfl) (k : Ev w d mc ms M (pc + 2) lv2 st h r h') : Ev w d mc ms M pc lv (.inr (.inr x) :: st) h r h' := by
  intro hlv hst p l e R s m args below meth c H locs cells slots ls G al al0 h0 F S hl
  have hn := of_decide_eq_true hn
  subst hl2
  cases x with
  | none => exact lv_astoreN F.1 F.2.1 hdg hl hn (j_stl al lv i (.inr (.inr none))) (fun ls2 hl2 => k (j_stok hlv (j_h hst)) (j_tl hst) p l e R s m args below meth c H locs cells slots ls2 G al al0 h0 F S hl2)
  | some a => exact lv_astore F.1 F.2.1 hdg hl hn (j_stl al lv i (.inr (.inr (some a)))) (fun ls2 hl2 => k (j_stok hlv (j_h hst)) (j_tl hst) p l e R s m args below meth c H locs cells slots ls2 G al al0 h0 F S hl2)
theorem ev_iinc {i : Nat} {n x : Int} (q : Nat) (lv2 : List (Nat × JV)) (hdg : decode M.2.1 pc = .ok (.iinc i n, 3)) (hq : lv[q]? = some (i, .inl x) := by rfl) (hn : decide (i < M.2.2.1) = true := by rfl) (hl2 : j_st lv i (.inl (w32 (x + n))) = lv2 := by rfl) (k : Ev w d mc ms M (pc + 3) lv2 st h r h') : Ev w d mc ms M pc lv st h r h' := by
  intro hlv hst p l e R s m args below meth c H locs cells slots ls G al al0 h0 F S hl
  have hn := of_decide_eq_true hn
  subst hl2
  refine lv_iinc (k := q) (x := Int32.ofInt x) (v := Int32.ofInt (w32 (x + n))) F.1 F.2.1 hdg hl ?_ ?_ hn (j_stl al lv i (.inl (w32 (x + n)))) (fun ls2 hl2 => k (j_stok hlv (w32_r _)) hst p l e R s m args below meth c H locs cells slots ls2 G al al0 h0 F S hl2)
  · rw [List.getElem?_map, hq]; rfl
  · rw [w32_i, Int32.ofInt_add]
/-- fewer locals, in another order -/
theorem ev_lv (ks : List Nat) (lv2 : List (Nat × JV)) (hk : ks.filterMap (fun i => lv[i]?) = lv2 := by rfl) (k : Ev w d mc ms M pc lv2 st h r h') : Ev w d mc ms M pc lv st h r h' := by
  intro hlv hst p l e R s m args below meth c H locs cells slots ls G al al0 h0 F S hl
  refine k (fun q hq => ?_) hst p l e R s m args below meth c H locs cells slots ls G al al0 h0 F S (lv_sub hl ks ?_)
  · rw [← hk] at hq
    obtain ⟨i, -, hi⟩ := List.mem_filterMap.mp hq
    exact hlv q (List.mem_of_getElem? hi)
  · rw [← hk]
    unfold lv_pick j_l
    rw [List.map_filterMap]
    congr 1
    funext i
    rw [List.getElem?_map]
theorem j_end {G : JG} {al al0 : JA} {h0 : JM} {p : Program} {R : Room} {s t : State} {m : MethodId} {args : Array Value} {meth : Method} {c : Code} {H : Heap} {locs : List Loc} {cells slots : Nat} (F : j_F d mc ms M p R s m args meth c cells slots G) (S : j_S w G al al0 h0 h s H locs) (hr : ∀ v, r = some v → j_ok w h v) (ht : t.heap = H) (hW : s.WarmedH t.vm) : j_Q w G al0 h0 r h args s (.returned (r.map (j_v al))) t :=
  ⟨⟨al, rfl, by rw [ht]; exact S.1, va_K.moved hW.alike F.2.2.2.2.2.2.2.2.2.2.2.2.2, S.2.2, hr⟩, S.2.1.F ht⟩
theorem ev_ireturn {x : Int} (hdg : decode M.2.1 pc = .ok (.ireturn, 1)) (hr : M.2.2.2.1 = some .int := by rfl) : Ev w d mc ms M pc lv [.inl x] h (some (.inl x)) h := by
  intro hlv hst p l e R s m args below meth c H locs cells slots ls G al al0 h0 F S hl
  refine W.widen (k := cells + mc) (n := slots + ms) (by omega) (by omega) ?_
  exact W.iret (v := Int32.ofInt x) F.1 F.2.1 (F.2.2.2.2.2.1.trans hr) (fun t ht hW => j_end F S (fun v hv => by cases hv; exact j_h hst) ht hW) S.2.1.2.2 hdg (hlocks := F.2.2.2.2.2.2.1)
theorem ev_zreturn {x : Int} (hx : x = 0 ∨ x = 1) (hdg : decode M.2.1 pc = .ok (.ireturn, 1)) (hr : M.2.2.2.1 = some .boolean := by rfl) : Ev w d mc ms M pc lv [.inl x] h (some (.inl x)) h := by
  intro hlv hst p l e R s m args below meth c H locs cells slots ls G al al0 h0 F S hl
  refine W.widen (k := cells + mc) (n := slots + ms) (by omega) (by omega) ?_
  exact W.zret (v := Int32.ofInt x) F.1 F.2.1 (F.2.2.2.2.2.1.trans hr) (by rcases hx with rfl | rfl <;> decide) (fun t ht hW => j_end F S (fun v hv => by cases hv; exact j_h hst) ht hW) S.2.1.2.2 hdg (hlocks := F.2.2.2.2.2.2.1)
theorem ev_lreturn {x : Int} (hdg : decode M.2.1 pc = .ok (.lreturn, 1)) (hr : M.2.2.2.1 = some .long := by rfl) : Ev w d mc ms M pc lv [.inr (.inl x)] h (some (.inr (.inl x))) h := by
  intro hlv hst p l e R s m args below meth c H locs cells slots ls G al al0 h0 F S hl
  refine W.widen (k := cells + mc) (n := slots + ms) (by omega) (by omega) ?_
  exact W.lret (v := Int64.ofInt x) F.1 F.2.1 (F.2.2.2.2.2.1.trans hr) (fun t ht hW => j_end F S (fun v hv => by cases hv; exact j_h hst) ht hW) S.2.1.2.2 hdg (hlocks := F.2.2.2.2.2.2.1)
theorem ev_areturn {x : Option (Nat × Int)} {C : String} (hdg : decode M.2.1 pc = .ok (.areturn, 1)) (hr : M.2.2.2.1 = some (.object C) := by rfl) : Ev w d mc ms M pc lv [.inr (.inr x)] h (some (.inr (.inr x))) h := by
  intro hlv hst p l e R s m args below meth c H locs cells slots ls G al al0 h0 F S hl
  refine W.widen (k := cells + mc) (n := slots + ms) (by omega) (by omega) ?_
  exact W.aret (v := j_v al (.inr (.inr x))) F.1 F.2.1 (F.2.2.2.2.2.1.trans hr) (Or.inl ⟨_, rfl⟩) (by cases x with
    | none => exact Or.inl rfl
    | some a => exact Or.inr ⟨_, rfl⟩) (fun t ht hW => j_end F S (fun v hv => by cases hv; exact j_h hst) ht hW) S.2.1.2.2 hdg (hlocks := F.2.2.2.2.2.2.1)
theorem ev_return (hdg : decode M.2.1 pc = .ok (.return_, 1)) (hr : M.2.2.2.1 = none := by rfl) : Ev w d mc ms M pc lv [] h none h := by
  intro hlv hst p l e R s m args below meth c H locs cells slots ls G al al0 h0 F S hl
  refine W.widen (k := cells + mc) (n := slots + ms) (by omega) (by omega) ?_
  exact W.vret F.1 F.2.1 (F.2.2.2.2.2.1.trans hr) (fun t ht hW => j_end (r := none) F S (fun v hv => by cases hv) ht hW) S.2.1.2.2 hdg (hlocks := F.2.2.2.2.2.2.1)
end EVR
