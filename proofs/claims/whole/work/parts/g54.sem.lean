/-! ===== values and cells ===== -/
def j_R (w : JW) (h : JM) (k : Nat) (n j : Int) : Option Int := match w.2.2 k n j with
  | some r => r
  | none => h.2.2 k n j
def j_v (al : JA) : JV → Value
  | .inl i => .int (Int32.ofInt i)
  | .inr (.inl x) => .long (Int64.ofInt x)
  | .inr (.inr r) => va_rf (r.map (fun q => al q.1 q.2))
def j_ok (w : JW) (h : JM) : JV → Prop
  | .inl i => j_r32 i
  | .inr (.inl x) => j_r64 x
  | .inr (.inr none) => True
  | .inr (.inr (some q)) => w.1 h q.1 q.2
def j_fv (w : JW) (al : JA) (h : JM) (k : Nat) (n : Int) (j c : Nat) : Value :=
  if c ≤ 2 then .int (Int32.ofInt (h.1 k n j)) else if c = 3 then .long (Int64.ofInt (h.2.1 k n j)) else va_rf ((j_R w h k n j).map (al (c - 10)))
def j_av (w : JW) (al : JA) (h : JM) (k : Nat) (n : Int) (c : Nat) : (Nat → Int32) ⊕ (Nat → Int64) ⊕ (Nat → UInt32) ⊕ (Nat → UInt64) ⊕ (Nat → Option Nat) :=
  if c ≤ 2 then .inl (fun i => Int32.ofInt (h.1 k n i)) else if c = 3 then .inr (.inl (fun i => Int64.ofInt (h.2.1 k n i))) else .inr (.inr (.inr (.inr (fun i => (j_R w h k n i).map (al (c - 10))))))
def j_cell (w : JW) (G : JG) (al : JA) (h : JM) (k : Nat) (n : Int) : va_E :=
  if k < 13 then .inr (k, (List.range (j_N k)).map (fun j => j_fv w al h k n j (j_code k j)))
  else .inl (G.2.1.1 (j_code k 0), (w.2.1 h k n).toNat, j_av w al h k n (j_code k 0))
def j_tys (aC : Nat → ClassId) : List (ClassId × FieldType) := [(aC 0, .int), (aC 1, .boolean), (aC 2, .byte), (aC 3, .long), (aC 10, .object RX0), (aC 11, .object RX1), (aC 12, .object RX2), (aC 14, .object RX4), (aC 16, .object RX6), (aC 18, .object RX8), (aC 19, .object RX9)]
/-- the heap holds the memory: every cell, apart, from the first address on; numbers in their ranges, references to cells that are there -/
def j_Rep (w : JW) (G : JG) (al : JA) (h : JM) (H : Heap) : Prop :=
  (∀ k n, w.1 h k n → k ≠ 99 → va_at G.1 vwCl (al k n, j_cell w G al h k n) H) ∧
  (∀ k n k' n', w.1 h k n → w.1 h k' n' → al k n = al k' n' → k = k' ∧ n = n') ∧
  (∀ k n, w.1 h k n → k ≠ 99 → G.2.2 ≤ al k n) ∧
  (∀ k n j, j_r32 (h.1 k n j)) ∧ (∀ k n j, j_r64 (h.2.1 k n j)) ∧
  (∀ k n (j : Nat) m, w.1 h k n → 10 ≤ j_code k j → (k < 13 → j < j_N k) → (13 ≤ k → (j : Int) < w.2.1 h k n) → j_R w h k n j = some m → w.1 h (j_code k j - 10) m) ∧
  (∀ n, w.1 h 99 n → al 99 n < G.2.2 ∧ H[al 99 n]? = some G.2.1.2 ∧ G.2.1.2.vm ≠ .unknown ∧ G.2.1.2.slots.size = (w.2.1 h 99 n).toNat ∧ ∀ j : Nat, j < (w.2.1 h 99 n).toNat → G.2.1.2.slots[j]? = some (.int (Int32.ofInt (h.1 99 n j))))
/-- what a world must keep: writing an int, a long or a reference into a cell makes no cell -/
def j_WOK (w : JW) : Prop := (∀ h k n j v, k < 1000 → w.1 (sI h k n j v) = w.1 h ∧ w.2.1 (sI h k n j v) = w.2.1 h) ∧ (∀ h k n j v, w.1 (sL h k n j v) = w.1 h ∧ w.2.1 (sL h k n j v) = w.2.1 h) ∧ (∀ h k n j v, w.1 (sR h k n j v) = w.1 h ∧ w.2.1 (sR h k n j v) = w.2.1 h)
/-- words that only a warmed machine keeps: links to nest mates' private members, classes of arrays of references -/
def j_nests : List (String × Nat × MethodName × String) := [(RX11, 36, yX7_init, "TelephoneTown"), (RX11, 46, yX10_init, "TelephoneTown"), (RX5, 31, yX9_init, "TelephoneTown"), (RX1, 50, yX2_init, "TelephoneTown"), (RX11, 78, yX0_init, "TelephoneTown"), (RX1, 58, yX11_countOf, "TelephoneTown"), (RX1, 62, yX11_beginsWith, "TelephoneTown"), (RX9, 43, yX11_countOf, "TelephoneTown"), (RX10, 102, yX11_withKey, "TelephoneTown")]
def j_overs : List String := [RX1, RX4, RX0, RX2, RX6, RX9, RX8]
def j_NW (G : JG) (U : State) : Prop := (∀ q ∈ j_nests, va_Nw (.methodLinkNest q.1 q.2.1 q.2.2.1 q.2.2.2) U) ∧ (∀ C ∈ j_overs, va_AO C U) ∧ U.isArrayOf G.2.1.2 .int
theorem j_NW.warm {G : JG} {s U : State} (hW : s.WarmedH U.vm) (q : j_NW G s) : j_NW G U := ⟨fun x hx => va_Nw.warmM hW (q.1 x hx), fun C hC => va_AO.moved hW.alike (q.2.1 C hC), State.isArrayOf_alike hW.alike q.2.2⟩
theorem j_NW.same {G : JG} {s U : State} (hv : s.vm = U.vm) (q : j_NW G s) : j_NW G U := ⟨fun x hx => va_Nw.same rfl hv (q.1 x hx), fun C hC => va_AO.moved (by rw [hv]; exact Vm.Alike.refl _) (q.2.1 C hC), State.isArrayOf_alike (by rw [hv]; exact Vm.Alike.refl _) q.2.2⟩
def j_F (d mc ms : Nat) (M : JT) (p : Program) (R : Room) (s : State) (m : MethodId) (args : Array Value) (meth : Method) (c : Code) (cells slots : Nat) (G : JG) : Prop :=
  p.tables.exec = Jvm.exec ∧ c.code = M.2.1 ∧ c.maxLocals = M.2.2.1 ∧ s.vm.findClass M.1 = some m.cls ∧ (∀ w ∈ lwg, w.before args s = true) ∧ meth.sig.returnType = M.2.2.2.1 ∧ meth.locks = false ∧ (M.2.2.2.2 = true → meth.name = "<init>") ∧
  d ≤ R.frames ∧ 64 * d ≤ R.locals ∧ cells + mc ≤ R.cells ∧ slots + ms ≤ R.slots ∧ (G.2.2 ≤ s.heap.size ∧ j_NW G s) ∧ va_K G.1 vwCl (j_tys G.2.1.1) s
def j_S (w : JW) (G : JG) (al al0 : JA) (h0 h : JM) (s : State) (H : Heap) (locs : List Loc) : Prop :=
  j_Rep w G al h H ∧ va_S (fun q => G.2.2 ≤ q) s.heap H locs ∧ ∀ k n, w.1 h0 k n → w.1 h k n ∧ al k n = al0 k n
def j_Q (w : JW) (G : JG) (al0 : JA) (h0 : JM) (r : Option JV) (h' : JM) : Array Value → State → Outcome → State → Prop := fun _ st oc t =>
  (∃ al' : JA, oc = .returned (r.map (j_v al')) ∧ j_Rep w G al' h' t.heap ∧ va_K G.1 vwCl (j_tys G.2.1.1) t ∧ (∀ k n, w.1 h0 k n → w.1 h' k n ∧ al' k n = al0 k n) ∧ ∀ v, r = some v → j_ok w h' v) ∧ va_F (fun q => G.2.2 ≤ q) st t
abbrev j_l (al : JA) (lv : List (Nat × JV)) : List (Nat × Value) := lv.map fun q => (q.1, j_v al q.2)
/-- from pc, with these locals, this stack and this memory, the method returns r, and the memory is then h' -/
def Ev (w : JW) (d mc ms : Nat) (M : JT) (pc : Nat) (lv : List (Nat × JV)) (st : List JV) (h : JM) (r : Option JV) (h' : JM) : Prop :=
  (∀ q ∈ lv, j_ok w h q.2) → (∀ v ∈ st, j_ok w h v) →
  ∀ (p : Program) (l : Launch) (e : Env) (R : Room) (s : State) (m : MethodId) (args : Array Value) (below : List Frame) (meth : Method) (c : Code) (H : Heap) (locs : List Loc) (cells slots : Nat) (ls : Array Slot) (G : JG) (al al0 : JA) (h0 : JM),
  j_F d mc ms M p R s m args meth c cells slots G → j_S w G al al0 h0 h s H locs → lv_has ls M.2.2.1 (j_l al lv) →
  W p l e R s m args below meth c H locs cells slots (MQ below (j_Q w G al0 h0 r h') args s (cells + mc) (slots + ms) (fun q => G.2.2 ≤ q)) (F0 m pc ls (st.map (j_v al)))
/-- the contract of a method -/
def Cn (w : JW) (d mc ms : Nat) (y : MethodName) (cc : ByteArray) (maxL : Nat) (ret : Option FieldType) (as : List JV) (h : JM) (r : Option JV) (h' : JM) : Prop :=
  (∀ v ∈ as, j_ok w h v) → ∀ (l : Launch) (G : JG) (al : JA),
  Met l y (.code y cc maxL ret :: lwg) { frames := d, cells := mc, slots := ms, locals := 64 * d } (va_Pc (as.map (j_v al)) (fun U => (G.2.2 ≤ U.heap.size ∧ j_NW G U) ∧ j_Rep w G al h U.heap ∧ va_K G.1 vwCl (j_tys G.2.1.1) U)) (j_Q w G al h r h') mc ms (fun q => G.2.2 ≤ q)
section EVB
variable {w : JW} {d mc ms : Nat} {M : JT} {pc pc2 : Nat} {lv lv2 : List (Nat × JV)} {st st2 : List JV} {h h' : JM} {r : Option JV}
/-- an instruction that moves the stack alone -/
theorem ev_s (hok : (∀ q ∈ lv, j_ok w h q.2) → (∀ v ∈ st, j_ok w h v) → ∀ v ∈ st2, j_ok w h v)
    (step : ∀ (p : Program) (l : Launch) (e : Env) (R : Room) (s : State) (m : MethodId) (args : Array Value) (below : List Frame) (meth : Method) (c : Code) (H : Heap) (locs : List Loc) (cells slots : Nat) (ls : Array Slot) (al : JA) (Q : State → Prop), p.tables.exec = Jvm.exec → c.code = M.2.1 → s.vm.findClass M.1 = some m.cls → (∀ w ∈ lwg, w.before args s = true) → lv_has ls M.2.2.1 (j_l al lv) → (∀ q ∈ lv, j_ok w h q.2) → (∀ v ∈ st, j_ok w h v) →
      W p l e R s m args below meth c H locs cells slots Q (F0 m pc2 ls (st2.map (j_v al))) → W p l e R s m args below meth c H locs cells slots Q (F0 m pc ls (st.map (j_v al))))
    (k : Ev w d mc ms M pc2 lv st2 h r h') : Ev w d mc ms M pc lv st h r h' := by
  intro hlv hst p l e R s m args below meth c H locs cells slots ls G al al0 h0 F S hl
  exact step p l e R s m args below meth c H locs cells slots ls al _ F.1 F.2.1 F.2.2.2.1 F.2.2.2.2.1 hl hlv hst (k hlv (hok hlv hst) p l e R s m args below meth c H locs cells slots ls G al al0 h0 F S hl)
theorem j_h {v : JV} (hst : ∀ u ∈ v :: st, j_ok w h u) : j_ok w h v := hst v List.mem_cons_self
theorem j_tl {v : JV} (hst : ∀ u ∈ v :: st, j_ok w h u) : ∀ u ∈ st, j_ok w h u := fun u hu => hst u (List.mem_cons_of_mem _ hu)
theorem j_cn {v : JV} (hv : j_ok w h v) (hst : ∀ u ∈ st, j_ok w h u) : ∀ u ∈ v :: st, j_ok w h u := fun u hu => by
  rcases List.mem_cons.mp hu with rfl | hu
  · exact hv
  · exact hst u hu
theorem j_lat {al : JA} {nL : Nat} {ls : Array Slot} (hl : lv_has ls nL (j_l al lv)) {k i : Nat} {v : JV} (hk : lv[k]? = some (i, v)) : ls[i]? = some (.val (j_v al v)) := by
  refine lv_at hl k ?_
  rw [List.getElem?_map, hk]
  rfl
theorem j_lok (hlv : ∀ q ∈ lv, j_ok w h q.2) {k i : Nat} {v : JV} (hk : lv[k]? = some (i, v)) : j_ok w h v := hlv (i, v) (List.mem_of_getElem? hk)
end EVB
