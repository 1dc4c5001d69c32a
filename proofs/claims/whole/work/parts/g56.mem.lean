/-! ===== memory: fields and arrays ===== -/
section JMEM
variable {p : Program} {l : Launch} {e : Env} {R : Room} {s : State} {m : MethodId} {args : Array Value} {below : List Frame} {meth : Method} {c : Code} {H : Heap} {locs : List Loc} {cells slots : Nat} {Q : State → Prop}
variable {cc : ByteArray} {pc : Nat} {ls : Array Slot} {rest : List Value} {D : va_G} {cl : List vw_C} {a : Nat} {tys : List (ClassId × FieldType)}
theorem jw_put (hexec : p.tables.exec = Jvm.exec) (hb : c.code = cc) {own C : String} {T : u_T} {N ci index : Nat} {Ts : List Cond} (hts : ∀ w ∈ Ts, w.before args s = true) (hin : ∀ w ∈ u_ws C T N, w ∈ Ts) (ty0 : Nat → FieldType) (hty : ∀ k, k < N → parseFieldDescriptor (T k).2.2.1 = some (ty0 k)) (hnm : ∀ a, a < N → ∀ b, b < N → a ≠ b → (T a).2.1 ≠ (T b).2.1) (hown : s.vm.findClass own = some m.cls) (hK : va_K D cl tys s) {fs : List Value} (hP : va_at D cl (a, .inr (ci, fs)) H) (hc : cl[ci]? = some (C, T, N)) (k : Nat) (hk : k < N) (hlink : (Cond.fieldLink own index (T k).1 (T k).2.1 (T k).2.2.1).before args s = true) (hfin : (T k).2.2.2 = false) {v : Value} (hn : narrow (ty0 k) v = v) (hfit : fits (ty0 k) v = true) (hl : k < fs.length)
    (hdg : decode cc pc = .ok (.putfield index, 3)) (kk : ∀ (H1 : Heap) (lo : Loc), lo.base = a → va_at D cl (a, .inr (ci, fs.set k v)) H1 → H1.size = H.size → (∀ q, q ≠ a → H1[q]? = H[q]?) → W p l e R s m args below meth c H1 (locs ++ [lo]) cells slots Q (F0 m (pc + 3) ls rest)) : W p l e R s m args below meth c H locs cells slots Q (F0 m pc ls (v :: .ref a :: rest)) := by
  have hap := va_apart (own := own) hts hin ty0 hty hnm hK hc
  obtain ⟨r, h1, cell, q1, q2, q3, q4⟩ := hP
  have hr : r = (C, T, N) := Option.some.inj (h1.symm.trans hc)
  subst hr
  obtain ⟨hS, hfc, kC, hkC, hkind⟩ := hK.1 ci _ hc
  obtain ⟨cf, kf, fi, f, hi, hsl⟩ := hS k hk
  have hlay := hts _ (hin _ (u_in_lay hk))
  unfold u_lay at hlay
  rw [if_neg (by rw [hfin]; decide)] at hlay
  have hst := (u_facts hfc hkC (u_lays hts hin hk) hi).1
  have h6 := u_store hfc hkC hkind hlay hi (hty k hk) hn hfit
  refine W.putK hexec hb (f := f) ⟨hown, hlink, ⟨_, _, _, hi⟩, hst⟩ (by rw [q2]; exact h6) q1 q3 (by rw [hsl]; exact k2_hasslot (q4 k hk)) rfl rfl hdg fun H' e1 e2 e3 => ?_
  rw [hsl] at e1 ⊢
  exact kk H' _ rfl ⟨_, hc, t_OB.to (V := updV (vp_V fs) k v) ⟨_, e1, q2, q3, t_set q4 hap hk v⟩ (fun j _ => vp_updV_set hl v j)⟩ e2 e3
theorem jw_putF (hexec : p.tables.exec = Jvm.exec) (hb : c.code = cc) {own C : String} {T : u_T} {N ci index : Nat} {Ts : List Cond} (hts : ∀ w ∈ Ts, w.before args s = true) (hin : ∀ w ∈ u_ws C T N, w ∈ Ts) (ty0 : Nat → FieldType) (hty : ∀ k, k < N → parseFieldDescriptor (T k).2.2.1 = some (ty0 k)) (hnm : ∀ a, a < N → ∀ b, b < N → a ≠ b → (T a).2.1 ≠ (T b).2.1) (hown : s.vm.findClass own = some m.cls) (hK : va_K D cl tys s) {fs : List Value} (hP : va_at D cl (a, .inr (ci, fs)) H) (hc : cl[ci]? = some (C, T, N)) (k : Nat) (hk : k < N) (hlink : (Cond.fieldLink own index (T k).1 (T k).2.1 (T k).2.2.1).before args s = true) (hfin : (T k).2.2.2 = true) (hin2 : meth.name = "<init>") (hdecl : (T k).1 = own) {v : Value} (hn : narrow (ty0 k) v = v) (hfit : fits (ty0 k) v = true) (hl : k < fs.length)
    (hdg : decode cc pc = .ok (.putfield index, 3)) (kk : ∀ (H1 : Heap) (lo : Loc), lo.base = a → va_at D cl (a, .inr (ci, fs.set k v)) H1 → H1.size = H.size → (∀ q, q ≠ a → H1[q]? = H[q]?) → W p l e R s m args below meth c H1 (locs ++ [lo]) cells slots Q (F0 m (pc + 3) ls rest)) : W p l e R s m args below meth c H locs cells slots Q (F0 m pc ls (v :: .ref a :: rest)) := by
  have hap := va_apart (own := own) hts hin ty0 hty hnm hK hc
  obtain ⟨r, h1, cell, q1, q2, q3, q4⟩ := hP
  have hr : r = (C, T, N) := Option.some.inj (h1.symm.trans hc)
  subst hr
  obtain ⟨hS, hfc, kC, hkC, hkind⟩ := hK.1 ci _ hc
  obtain ⟨cf, kf, fi, f, hi, hsl⟩ := hS k hk
  have hlay := hts _ (hin _ (u_in_lay hk))
  unfold u_lay at hlay
  rw [if_pos hfin] at hlay
  have hst := (u_facts hfc hkC (u_lays hts hin hk) hi).1
  have hcf : m.cls = cf := by
    obtain ⟨_, _, c', _, _, _, -, -, hf', -, -, -, hown2, -⟩ := Cond.laysFinal_spec hlay
    have e1 : c' = cf := by have := hi.symm.trans hf'; simp at this; exact this.1.symm
    rw [hdecl] at hown2
    rw [← e1]; exact Option.some.inj (hown.symm.trans hown2)
  have h6 := u_fits hfc hkC hkind (Or.inr hlay) hi (hty k hk) hn hfit
  refine W.putFinK hexec hb hown hlink hi hst hcf hin2 (by rw [q2]; exact h6) q1 q3 (by rw [hsl]; exact k2_hasslot (q4 k hk)) rfl rfl hdg fun H' e1 e2 e3 => ?_
  rw [hsl] at e1 ⊢
  exact kk H' _ rfl ⟨_, hc, t_OB.to (V := updV (vp_V fs) k v) ⟨_, e1, q2, q3, t_set q4 hap hk v⟩ (fun j _ => vp_updV_set hl v j)⟩ e2 e3
theorem jw_ia {cA : ClassId} {n : Nat} {f : Nat → Value} {x : Value} {i : Int32} {H1 : Heap} (e : H1[a]? = some ((arrV cA n f).setSlot i.toNatClampNeg x)) : H1[a]? = some (arrV cA n (updV f i.toNatClampNeg x)) := by rw [e, arrV_store]
theorem jw_iast (hexec : p.tables.exec = Jvm.exec) (hb : c.code = cc) (hK : va_K D cl tys s) (t0 : Nat) {cA : ClassId} {n : Nat} {f : Nat → Int32} (ha : H[a]? = some (arrV cA n (fun j => .int (f j)))) (ht : tys[t0]? = some (cA, .int)) {i x : Int32} (hin : vp_in i n) (hdg : decode cc pc = .ok (.iastore, 1))
    (kk : ∀ (H1 : Heap) (lo : Loc), lo.base = a → H1[a]? = some (arrV cA n (updV (fun j => .int (f j)) i.toNatClampNeg (.int x))) → H1.size = H.size → (∀ q, q ≠ a → H1[q]? = H[q]?) → W p l e R s m args below meth c H1 (locs ++ [lo]) cells slots Q (F0 m (pc + 1) ls rest)) : W p l e R s m args below meth c H locs cells slots Q (F0 m pc ls (.int x :: .int i :: .ref a :: rest)) :=
  W.iast hexec hb ha ((hK.2 t0 _ ht).1 n _) (fun q => by cases q) (by rw [arrV_size]; exact hin) rfl rfl hdg fun H1 e z oq => kk H1 _ rfl (jw_ia e) z oq
theorem jw_bast (hexec : p.tables.exec = Jvm.exec) (hb : c.code = cc) (hK : va_K D cl tys s) (t0 : Nat) {cA : ClassId} {n : Nat} {f : Nat → Int32} (ha : H[a]? = some (arrV cA n (fun j => .int (f j)))) (ht : tys[t0]? = some (cA, .byte)) {i x : Int32} (hin : vp_in i n) (hdg : decode cc pc = .ok (.bastore, 1))
    (kk : ∀ (H1 : Heap) (lo : Loc), lo.base = a → H1[a]? = some (arrV cA n (updV (fun j => .int (f j)) i.toNatClampNeg (.int x.toInt8.toInt32))) → H1.size = H.size → (∀ q, q ≠ a → H1[q]? = H[q]?) → W p l e R s m args below meth c H1 (locs ++ [lo]) cells slots Q (F0 m (pc + 1) ls rest)) : W p l e R s m args below meth c H locs cells slots Q (F0 m pc ls (.int x :: .int i :: .ref a :: rest)) :=
  W.bast hexec hb ha ((hK.2 t0 _ ht).1 n _) (fun q => by cases q) (by rw [arrV_size]; exact hin) rfl rfl hdg fun H1 e z oq => kk H1 _ rfl (jw_ia e) z oq
theorem jw_zast (hexec : p.tables.exec = Jvm.exec) (hb : c.code = cc) (hK : va_K D cl tys s) (t0 : Nat) {cA : ClassId} {n : Nat} {f : Nat → Int32} (ha : H[a]? = some (arrV cA n (fun j => .int (f j)))) (ht : tys[t0]? = some (cA, .boolean)) {i x : Int32} (hin : vp_in i n) (hdg : decode cc pc = .ok (.bastore, 1))
    (kk : ∀ (H1 : Heap) (lo : Loc), lo.base = a → H1[a]? = some (arrV cA n (updV (fun j => .int (f j)) i.toNatClampNeg (.int (x &&& 1)))) → H1.size = H.size → (∀ q, q ≠ a → H1[q]? = H[q]?) → W p l e R s m args below meth c H1 (locs ++ [lo]) cells slots Q (F0 m (pc + 1) ls rest)) : W p l e R s m args below meth c H locs cells slots Q (F0 m pc ls (.int x :: .int i :: .ref a :: rest)) :=
  W.zast hexec hb ha ((hK.2 t0 _ ht).1 n _) (fun q => by cases q) (by rw [arrV_size]; exact hin) rfl rfl hdg fun H1 e z oq => kk H1 _ rfl (jw_ia e) z oq
theorem jw_last (hexec : p.tables.exec = Jvm.exec) (hb : c.code = cc) (hK : va_K D cl tys s) (t0 : Nat) {cA : ClassId} {n : Nat} {f : Nat → Int64} (ha : H[a]? = some (arrV cA n (fun j => .long (f j)))) (ht : tys[t0]? = some (cA, .long)) {i : Int32} {x : Int64} (hin : vp_in i n) (hdg : decode cc pc = .ok (.lastore, 1))
    (kk : ∀ (H1 : Heap) (lo : Loc), lo.base = a → H1[a]? = some (arrV cA n (updV (fun j => .long (f j)) i.toNatClampNeg (.long x))) → H1.size = H.size → (∀ q, q ≠ a → H1[q]? = H[q]?) → W p l e R s m args below meth c H1 (locs ++ [lo]) cells slots Q (F0 m (pc + 1) ls rest)) : W p l e R s m args below meth c H locs cells slots Q (F0 m pc ls (.long x :: .int i :: .ref a :: rest)) :=
  W.last hexec hb ha ((hK.2 t0 _ ht).1 n _) (fun q => by cases q) (by rw [arrV_size]; exact hin) rfl rfl hdg fun H1 e z oq => kk H1 _ rfl (jw_ia e) z oq
theorem jw_aastN (hexec : p.tables.exec = Jvm.exec) (hb : c.code = cc) (hK : va_K D cl tys s) (t0 : Nat) {cA : ClassId} {C : String} {n : Nat} {f : Nat → Value} (ha : H[a]? = some (arrV cA n f)) (ht : tys[t0]? = some (cA, .object C)) {i : Int32} (hin : vp_in i n) (hdg : decode cc pc = .ok (.aastore, 1))
    (kk : ∀ (H1 : Heap) (lo : Loc), lo.base = a → H1[a]? = some (arrV cA n (updV f i.toNatClampNeg .null)) → H1.size = H.size → (∀ q, q ≠ a → H1[q]? = H[q]?) → W p l e R s m args below meth c H1 (locs ++ [lo]) cells slots Q (F0 m (pc + 1) ls rest)) : W p l e R s m args below meth c H locs cells slots Q (F0 m pc ls (.null :: .int i :: .ref a :: rest)) :=
  va_WaastN (C := C) hexec hb ha ((hK.2 t0 _ ht).1 n _) (fun q => by cases q) (by rw [arrV_size]; exact hin) rfl rfl hdg fun H1 e z oq => kk H1 _ rfl (jw_ia e) z oq
theorem jw_aast (hexec : p.tables.exec = Jvm.exec) (hb : c.code = cc) (hK : va_K D cl tys s) (t0 ci : Nat) {cA : ClassId} {r : vw_C} {n v : Nat} {vs : List Value} {f : Nat → Value} (ha : H[a]? = some (arrV cA n f)) (ht : tys[t0]? = some (cA, .object r.1)) (hv : va_at D cl (v, .inr (ci, vs)) H) (hc : cl[ci]? = some r) {i : Int32} (hin : vp_in i n) (hdg : decode cc pc = .ok (.aastore, 1))
    (kk : ∀ (H1 : Heap) (lo : Loc), lo.base = a → H1[a]? = some (arrV cA n (updV f i.toNatClampNeg (.ref v))) → H1.size = H.size → (∀ q, q ≠ a → H1[q]? = H[q]?) → W p l e R s m args below meth c H1 (locs ++ [lo]) cells slots Q (F0 m (pc + 1) ls rest)) : W p l e R s m args below meth c H locs cells slots Q (F0 m pc ls (.ref v :: .int i :: .ref a :: rest)) := by
  have hlt : i.toNatClampNeg < n := Nat.not_le.mp fun q => hin (Or.inr q)
  have h0 : ¬ i < 0 := fun q => hin (Or.inl q)
  obtain ⟨r', hr', cellV, g1, g2, g3, -⟩ := hv
  have hcls := (hK.1 ci r hc).2
  obtain ⟨kA, comp, k1, k2, k3, -⟩ := (hK.2 t0 _ ht).2
  have hcomp : comp = D.1 ci := Option.some.inj (k3.symm.trans hcls.1)
  subst hcomp
  obtain ⟨kC, hkC, -⟩ := hcls.2
  exact W.aast hexec hb ha (fun q h => by cases h) (fun h => by cases h) k1 k2 rfl hkC ⟨h0, by show _ < (arrV _ _ _).slots.size; rw [arrV_size]; exact hlt⟩ g1 (fun q h => by rw [g3] at h; cases h) (by rw [g2]; exact hkC) (by rw [g2]; exact va_assign hcls) rfl rfl hdg fun H1 e z oq => kk H1 _ rfl (jw_ia e) z oq
end JMEM
section EVM
variable {w : JW} {d mc ms : Nat} {M : JT} {pc : Nat} {lv : List (Nat × JV)} {st : List JV} {h h1 h' : JM} {r : Option JV}
/-- a field's link, and what the field is -/
def j_FL (own : String) (index k j code : Nat) : Prop := k < 13 ∧ j < j_N k ∧ j_code k j = code ∧ Cond.fieldLink own index ((j_cl k).2.1 j).1 ((j_cl k).2.1 j).2.1 ((j_cl k).2.1 j).2.2.1 ∈ lwg
theorem j_P1 {G : JG} {al : JA} {H : Heap} {k : Nat} {n : Int} (hR : j_Rep w G al h H) (hw : w.1 h k n) (h99 : k ≠ 99) : va_P G.1 vwCl [(al k n, j_cell w G al h k n)] H := by
  intro i q hq
  cases i with
  | zero => cases hq; exact hR.1 k n hw h99
  | succ i => simp at hq
theorem j_cellO {G : JG} {al : JA} {k : Nat} {n : Int} (hk : k < 13) : j_cell w G al h k n = .inr (k, (List.range (j_N k)).map (fun j => j_fv w al h k n j (j_code k j))) := if_pos hk
theorem j_fsat {al : JA} {k : Nat} {n : Int} {j : Nat} (hj : j < j_N k) : ((List.range (j_N k)).map (fun j => j_fv w al h k n j (j_code k j)))[j]? = some (j_fv w al h k n j (j_code k j)) := by
  rw [List.getElem?_map, List.getElem?_range hj]; rfl
/-- getfield, of any sort -/
theorem ev_getf {k : Nat} {n : Int} {j index code : Nat} {v : JV} (hfl : j_FL M.1 index k j code) (hv : ∀ al : JA, j_fv w al h k n j code = j_v al v) (hok : ∀ (G : JG) (al : JA) (H : Heap), j_Rep w G al h H → w.1 h k n → j_ok w h v) (hdg : decode M.2.1 pc = .ok (.getfield index, 3)) (K : Ev w d mc ms M (pc + 3) lv (v :: st) h r h') : Ev w d mc ms M pc lv (.inr (.inr (some (k, n))) :: st) h r h' := by
  intro hlv hst p l e R s m args below meth c H locs cells slots ls G al al0 h0 F S hl
  obtain ⟨hk, hj, hc, hw⟩ := hfl
  have hd : w.1 h k n := j_h hst
  obtain ⟨c1, c2, c3, c4, c5⟩ := j_cd k hk
  refine va_get (own := M.1) (C := (j_cl k).1) (T := (j_cl k).2.1) (N := j_N k) (ci := k) (a := al k n) (ref := ((j_cl k).2.1 j).1) (index := index) (v := j_v al v) F.1 F.2.1 F.2.2.2.2.1 c2 F.2.2.2.1 F.2.2.2.2.2.2.2.2.2.2.2.2.2 (j_P1 S.1 hd (by omega)) 0 (by rw [j_cellO hk]; rfl) c1 j hj (F.2.2.2.2.1 _ hw) (fun x hx => hx) (by rw [j_fsat hj, hc, hv al]) hdg ?_
  exact K hlv (j_cn (hok G al H S.1 hd) (j_tl hst)) p l e R s m args below meth c H locs cells slots ls G al al0 h0 F S hl
theorem ev_getI {k : Nat} {n : Int} {j index code : Nat} {x : Int} (hfl : j_FL M.1 index k j code) (hdg : decode M.2.1 pc = .ok (.getfield index, 3)) (hc : decide (code ≤ 2) = true := by rfl) (hx : h.1 k n (j : Int) = x := by rfl) (K : Ev w d mc ms M (pc + 3) lv (.inl x :: st) h r h') : Ev w d mc ms M pc lv (.inr (.inr (some (k, n))) :: st) h r h' :=
  ev_getf hfl (fun al => by unfold j_fv; rw [if_pos (of_decide_eq_true hc), hx]; rfl) (fun G al H hR _ => by rw [← hx]; exact hR.2.2.2.1 k n j) hdg K
theorem ev_getL {k : Nat} {n : Int} {j index : Nat} {x : Int} (hfl : j_FL M.1 index k j 3) (hdg : decode M.2.1 pc = .ok (.getfield index, 3)) (hx : h.2.1 k n (j : Int) = x := by rfl) (K : Ev w d mc ms M (pc + 3) lv (.inr (.inl x) :: st) h r h') : Ev w d mc ms M pc lv (.inr (.inr (some (k, n))) :: st) h r h' :=
  ev_getf hfl (fun al => by unfold j_fv; rw [if_neg (by decide), if_pos rfl, hx]; rfl) (fun G al H hR _ => by rw [← hx]; exact hR.2.2.2.2.1 k n j) hdg K
theorem ev_getR {k : Nat} {n : Int} {j index t : Nat} {x : Option (Nat × Int)} (hfl : j_FL M.1 index k j (t + 10)) (hdg : decode M.2.1 pc = .ok (.getfield index, 3)) (hx : (j_R w h k n (j : Int)).map (Prod.mk t) = x := by rfl) (K : Ev w d mc ms M (pc + 3) lv (.inr (.inr x) :: st) h r h') : Ev w d mc ms M pc lv (.inr (.inr (some (k, n))) :: st) h r h' := by
  refine ev_getf (v := .inr (.inr x)) hfl (fun al => ?_) (fun G al H hR hd => ?_) hdg K
  · unfold j_fv
    rw [if_neg (by omega), if_neg (by omega), ← hx]
    cases j_R w h k n (j : Int) <;> rfl
  · rw [← hx]
    cases hq : j_R w h k n (j : Int) with
    | none => trivial
    | some m =>
      have := hR.2.2.2.2.2.1 k n j m hd (by rw [hfl.2.2.1]; omega) (fun _ => hfl.2.1) (fun z => absurd hfl.1 (by omega)) hq
      rw [hfl.2.2.1] at this
      exact this
theorem j_okeq (hd : w.1 h1 = w.1 h) {v : JV} (hv : j_ok w h v) : j_ok w h1 v := by
  rcases v with i | i | x
  · exact hv
  · exact hv
  · cases x with
    | none => trivial
    | some q => show w.1 h1 q.1 q.2; rw [hd]; exact hv
/-- writing into one cell -/
theorem j_Rep.upd {G : JG} {al : JA} {H H1 : Heap} {k : Nat} {n : Int} (hR : j_Rep w G al h H) (hd : w.1 h1 = w.1 h) (hln : w.2.1 h1 = w.2.1 h) (off : ∀ k' n' j, ¬ (k' = k ∧ n' = n) → h1.1 k' n' j = h.1 k' n' j ∧ h1.2.1 k' n' j = h.2.1 k' n' j ∧ h1.2.2 k' n' j = h.2.2 k' n' j)
    (r1 : ∀ k n j, j_r32 (h1.1 k n j)) (r2 : ∀ k n j, j_r64 (h1.2.1 k n j)) (rf : ∀ (j : Nat) m, 10 ≤ j_code k j → (k < 13 → j < j_N k) → (13 ≤ k → (j : Int) < w.2.1 h k n) → j_R w h1 k n j = some m → w.1 h (j_code k j - 10) m) (hw : w.1 h k n) (h99 : k ≠ 99) (hat : va_at G.1 vwCl (al k n, j_cell w G al h1 k n) H1) (oq : ∀ q, q ≠ al k n → H1[q]? = H[q]?) : j_Rep w G al h1 H1 := by
  obtain ⟨a1, a2, a3, a4, a5, a6, a7⟩ := hR
  have hce : ∀ k' n', ¬ (k' = k ∧ n' = n) → j_cell w G al h1 k' n' = j_cell w G al h k' n' := by
    intro k' n' hne
    have hRe : ∀ j, j_R w h1 k' n' j = j_R w h k' n' j := fun j => by unfold j_R; rw [(off k' n' j hne).2.2]
    unfold j_cell
    rw [hln]
    congr 1
    · congr 2
      apply List.map_congr_left
      intro j _
      unfold j_fv
      rw [(off k' n' j hne).1, (off k' n' j hne).2.1, hRe]
    · congr 3
      unfold j_av
      congr 1
      · congr 1; funext i; rw [(off k' n' i hne).1]
      · congr 1
        · congr 2; funext i; rw [(off k' n' i hne).2.1]
        · congr 4; funext i; rw [hRe]
  refine ⟨fun k' n' hw' h9 => ?_, fun k1 n1 k2 n2 q1 q2 => ?_, fun k' n' hw' => ?_, r1, r2, fun k' n' j mm hw' hc hb1 hb2 hj => ?_, fun n' hw' => ?_⟩
  · rw [hd] at hw'
    by_cases hq : k' = k ∧ n' = n
    · obtain ⟨rfl, rfl⟩ := hq
      exact hat
    · rw [hce k' n' hq]
      exact (a1 k' n' hw' h9).kept (oq _ fun z => hq (a2 k' n' k n hw' hw z))
  · rw [hd] at q1 q2
    exact a2 k1 n1 k2 n2 q1 q2
  · rw [hd] at hw'
    exact a3 k' n' hw'
  · rw [hd] at hw' ⊢
    by_cases hq : k' = k ∧ n' = n
    · obtain ⟨rfl, rfl⟩ := hq
      exact rf j mm hc hb1 (fun z => by rw [← hln]; exact hb2 z) hj
    · exact a6 k' n' j mm hw' hc hb1 (fun z => by rw [← hln]; exact hb2 z) (by rw [← hj]; unfold j_R; rw [(off k' n' _ hq).2.2])
  · rw [hd] at hw'
    obtain ⟨b1, b2, b3, b4, b5⟩ := a7 n' hw'
    have hne : ¬ (99 = k ∧ n' = n) := fun z => h99 z.1.symm
    refine ⟨b1, by rw [oq _ (fun z => hne (a2 99 n' k n hw' hw z))]; exact b2, b3, by rw [hln]; exact b4, fun j hj => ?_⟩
    rw [hln] at hj
    rw [(off 99 n' j hne).1]
    exact b5 j hj
theorem j_setmap {f f' : Nat → Value} {N j : Nat} (hne : ∀ i, i ≠ j → f' i = f i) : ((List.range N).map f).set j (f' j) = (List.range N).map f' := by
  apply List.ext_getElem?
  intro i
  by_cases hi : i = j
  · subst hi
    by_cases hl : i < N
    · rw [List.getElem?_set_self (by simpa using hl), List.getElem?_map, List.getElem?_range hl]; rfl
    · rw [List.getElem?_eq_none (by simpa using hl), List.getElem?_eq_none (by simpa using hl)]
  · rw [List.getElem?_set_ne (Ne.symm hi), List.getElem?_map, List.getElem?_map]
    by_cases hl : i < N
    · rw [List.getElem?_range hl]; simp [hne i hi]
    · rw [List.getElem?_eq_none (by simpa using hl)]; rfl
/-- putfield, of any sort -/
theorem ev_putf {k : Nat} {n : Int} {j index code : Nat} {v : JV} (hfl : j_FL M.1 index k j code) (hd : w.1 h1 = w.1 h) (hln : w.2.1 h1 = w.2.1 h) (hfin : ((j_cl k).2.1 j).2.2.2 = false ∨ (((j_cl k).2.1 j).2.2.2 = true ∧ M.2.2.2.2 = true ∧ ((j_cl k).2.1 j).1 = M.1)) (hnar : ∀ al : JA, j_ok w h v → narrow (j_ty k j) (j_v al v) = j_v al v ∧ fits (j_ty k j) (j_v al v) = true)
    (off : ∀ k' n' j', ¬ (k' = k ∧ n' = n ∧ j' = (j : Int)) → h1.1 k' n' j' = h.1 k' n' j' ∧ h1.2.1 k' n' j' = h.2.1 k' n' j' ∧ h1.2.2 k' n' j' = h.2.2 k' n' j') (hv : ∀ al : JA, j_fv w al h1 k n j code = j_v al v)
    (r1 : (∀ k n j, j_r32 (h.1 k n j)) → j_ok w h v → j_r32 (h1.1 k n j)) (r2 : (∀ k n j, j_r64 (h.2.1 k n j)) → j_ok w h v → j_r64 (h1.2.1 k n j)) (rf : j_ok w h v → ∀ m, 10 ≤ code → j_R w h1 k n j = some m → w.1 h (code - 10) m)
    (hdg : decode M.2.1 pc = .ok (.putfield index, 3)) (K : Ev w d mc ms M (pc + 3) lv st h1 r h') : Ev w d mc ms M pc lv (v :: .inr (.inr (some (k, n))) :: st) h r h' := by
  intro hlv hst p l e R s m args below meth c H locs cells slots ls G al al0 h0 F S hl
  obtain ⟨hk, hj, hc, hw⟩ := hfl
  have hokv := j_h hst
  have hdm : w.1 h k n := j_h (j_tl hst)
  obtain ⟨c1, c2, c3, c4, c5⟩ := j_cd k hk
  have hat := S.1.1 k n hdm (by omega)
  rw [j_cellO hk] at hat
  obtain ⟨hn1, hn2⟩ := hnar al hokv
  have goOn : ∀ (H1 : Heap) (lo : Loc), lo.base = al k n → va_at G.1 vwCl (al k n, .inr (k, ((List.range (j_N k)).map (fun j => j_fv w al h k n j (j_code k j))).set j (j_v al v))) H1 → H1.size = H.size → (∀ q, q ≠ al k n → H1[q]? = H[q]?) → W p l e R s m args below meth c H1 (locs ++ [lo]) cells slots (MQ below (j_Q w G al0 h0 r h') args s (cells + mc) (slots + ms) (fun q => G.2.2 ≤ q)) (F0 m (pc + 3) ls (st.map (j_v al))) := by
    intro H1 lo hlo hat1 hz oq
    have hA : G.2.2 ≤ al k n := S.1.2.2.1 k n hdm (by omega)
    have hS1 : va_S (fun q => G.2.2 ≤ q) s.heap H1 (locs ++ [lo]) := by
      have := S.2.1.put (k := lo.slot) hz oq hA
      rw [← hlo] at this
      exact this
    have hRe : ∀ i : Nat, i ≠ j → j_R w h1 k n i = j_R w h k n i := fun i hi => by unfold j_R; rw [(off k n i (fun q => hi (by have := q.2.2; omega))).2.2]
    have hR1 : j_Rep w G al h1 H1 := by
      refine j_Rep.upd S.1 hd hln (fun k' n' j' hq => off k' n' j' (fun q => hq ⟨q.1, q.2.1⟩)) (fun k' n' j' => ?_) (fun k' n' j' => ?_) (fun i mm hi hb1 hb2 hm => ?_) hdm (by omega) ?_ oq
      · by_cases hq : k' = k ∧ n' = n ∧ j' = (j : Int)
        · obtain ⟨rfl, rfl, rfl⟩ := hq; exact r1 S.1.2.2.2.1 hokv
        · rw [(off k' n' j' hq).1]; exact S.1.2.2.2.1 _ _ _
      · by_cases hq : k' = k ∧ n' = n ∧ j' = (j : Int)
        · obtain ⟨rfl, rfl, rfl⟩ := hq; exact r2 S.1.2.2.2.2.1 hokv
        · rw [(off k' n' j' hq).2.1]; exact S.1.2.2.2.2.1 _ _ _
      · by_cases hij : i = j
        · subst hij
          rw [hc] at hi ⊢
          exact rf hokv mm hi hm
        · rw [hRe i hij] at hm
          exact S.1.2.2.2.2.2.1 k n i mm hdm hi hb1 hb2 hm
      · rw [j_cellO hk]
        rw [← j_setmap (f := fun j => j_fv w al h k n j (j_code k j)) (f' := fun j => j_fv w al h1 k n j (j_code k j)) (j := j)]
        · show va_at G.1 vwCl (al k n, .inr (k, (List.map _ _).set j (j_fv w al h1 k n j (j_code k j)))) H1
          rw [hc, hv al]
          exact hat1
        · intro i hi
          have := off k n i (fun q => hi (by have := q.2.2; omega))
          show j_fv w al h1 k n i _ = j_fv w al h k n i _
          unfold j_fv
          rw [this.1, this.2.1, hRe i hi]
    exact K (fun q hq => j_okeq hd (hlv q hq)) (fun u hu => j_okeq hd (j_tl (j_tl hst) u hu)) p l e R s m args below meth c H1 (locs ++ [lo]) cells slots ls G al al0 h0 F ⟨hR1, hS1, fun k' n' hq => by rw [hd]; exact S.2.2 k' n' hq⟩ hl
  rcases hfin with hf | ⟨hf, hi, hde⟩
  · exact jw_put (own := M.1) (C := (j_cl k).1) (T := (j_cl k).2.1) (N := j_N k) (ci := k) (a := al k n) (index := index) F.1 F.2.1 F.2.2.2.2.1 c2 (j_ty k) c3 c4 F.2.2.2.1 F.2.2.2.2.2.2.2.2.2.2.2.2.2 hat c1 j hj (F.2.2.2.2.1 _ hw) hf hn1 hn2 (by simpa using hj) hdg goOn
  · exact jw_putF (own := M.1) (C := (j_cl k).1) (T := (j_cl k).2.1) (N := j_N k) (ci := k) (a := al k n) (index := index) F.1 F.2.1 F.2.2.2.2.1 c2 (j_ty k) c3 c4 F.2.2.2.1 F.2.2.2.2.2.2.2.2.2.2.2.2.2 hat c1 j hj (F.2.2.2.2.1 _ hw) hf (F.2.2.2.2.2.2.2.1 hi) hde hn1 hn2 (by simpa using hj) hdg goOn
end EVM
