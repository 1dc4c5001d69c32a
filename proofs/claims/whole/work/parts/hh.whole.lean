/-! THE CLAIM OUT OF ONE WALK OF THE LAW'S BODY. Your part is whole_start (and what it stands on); all else here is the same for every law, but numbers. -/
def R_law : String := "TelephoneTownLaw"
def lw_P (b : Addr) (xs : List Int32) (args : Array Value) (s : State) : Prop := args = #[.ref b] ∧ s.IntsAt b xs ∧ xs.length ≤ 386 ∧ (Jvm.Cond.and given_1 narrow_1).before args s = true
def lw_Q (_ : Array Value) (s : State) (o : Outcome) (t : State) : Prop := o = .returned (some (.int 1)) ∧ Framed s o t [] 600000 7302250
def lw_Z (below : List Frame) (a : Array Value) (s : State) : State → Prop := fun t => ∃ o, t.status = .running ∧ Ended t below o ∧ lw_Q a s o t
/-- the law's own end, with 1 on the stack, nothing written that was there before, its room as the claim has it -/
theorem lw_ret {p : Program} {l : Launch} {e : Env} {s : State} {m : MethodId} {below : List Frame} {meth : Method} {c : Code} {b : Nat} (hx : p.tables.exec = Jvm.exec) (hb : c.code = code) (hr : meth.sig.returnType = ret) (hlocks : meth.locks = false) {pc : Nat} {H : Heap} {ls : Array Slot} (hdg : decode code pc = .ok (.ireturn, 1)) : W p l e room_1 s m #[Value.ref b] below meth c H [] 600000 7302250 (lw_Z below #[Value.ref b] s) (F0 m pc ls [.int 1]) := by
  intro T hT X
  obtain ⟨fs, hret, hrun, hended, hW, hframe⟩ := X.leave (v := some (.int 1)) (hlocks := hlocks) (fun h => by rw [hr] at h; cases h)
  have hmeth' : T.vm.method? m = some meth := X.method'
  refine ⟨T.setFrames fs, ?_, .returned (some (.int 1)), hrun, hended, rfl, ⟨_, rfl⟩, hW, hframe⟩
  jvm_step X.here [X.here.top, hx, hb, hdg, hmeth', hr, ret, narrow_b1]
  (try refine ⟨rfl, ?_⟩); (try refine ⟨rfl, ?_⟩)
  first | (intro acts; rw [hret _ acts rfl rfl rfl]) | rw [hret _ _ rfl rfl rfl]
  exact Steps.refl _
/-- what holds at the law's entry: the machine, the code, the tables' words (any of lw_tbl by 'hts w (by decide +kernel)'), the script of L ints xs at the cell b, what the Statement gives of the start (any of its parts by flat_of_before) -/
def lw_At (p : Program) (s : State) (m : MethodId) (meth : Method) (c : Code) (b L : Nat) (xs : Nat → Int32) : Prop :=
  p.tables.exec = Jvm.exec ∧ c.code = code ∧ meth.sig.returnType = ret ∧ c.maxLocals = 4 ∧ s.vm.findClass R_law = some m.cls ∧ (∀ w ∈ lw_tbl, w.before #[Value.ref b] s = true) ∧ va_X b L xs s s.heap ∧ b < s.heap.size ∧ meth.locks = false ∧ (Jvm.Cond.and given_1 narrow_1).before #[Value.ref b] s = true
/-! ===== the whole: from the law's entry to its end ===== -/
def jm0 (L : Nat) (xs : Nat → Int32) : JM := (fun k n j => if k = 99 ∧ n = 0 ∧ 0 ≤ j ∧ j < L then (xs j.toNat).toInt else if k = 1099 ∧ n = 0 ∧ j = 0 then 1 else if k = 1099 ∧ n = 0 ∧ j = 1 then (L : Int) else 0, fun _ _ _ => 0, fun _ _ _ => none)
def cv (h : JM) (i : Int) : Int := if h.1 1099 0 1 ≤ i then 0 else h.1 99 0 i
theorem jm_em (L : Nat) (xs : Nat → Int32) : em (jm0 L xs) := by
  refine ⟨fun k n j => ⟨rfl, rfl⟩, fun k n j h1 h2 => ?_⟩
  show (if k = 99 ∧ n = 0 ∧ 0 ≤ j ∧ j < L then (xs j.toNat).toInt else if k = 1099 ∧ n = 0 ∧ j = 0 then 1 else if k = 1099 ∧ n = 0 ∧ j = 1 then (L : Int) else 0) = 0
  rw [if_neg (fun z => h1 z.1), if_neg (fun z => h2 z.1), if_neg (fun z => h2 z.1)]
theorem jm_l (L : Nat) (xs : Nat → Int32) : (jm0 L xs).1 1099 0 1 = (L : Int) ∧ (jm0 L xs).1 1099 0 0 = 1 := by
  constructor
  · show (if (1099 : Nat) = 99 ∧ (0 : Int) = 0 ∧ (0 : Int) ≤ 1 ∧ (1 : Int) < L then (xs (1 : Int).toNat).toInt else if (1099 : Nat) = 1099 ∧ (0 : Int) = 0 ∧ (1 : Int) = 0 then 1 else if (1099 : Nat) = 1099 ∧ (0 : Int) = 0 ∧ (1 : Int) = 1 then (L : Int) else 0) = (L : Int)
    rw [if_neg (fun z => absurd z.1 (by decide)), if_neg (fun z => absurd z.2.2 (by decide)), if_pos ⟨rfl, rfl, rfl⟩]
  · show (if (1099 : Nat) = 99 ∧ (0 : Int) = 0 ∧ (0 : Int) ≤ 0 ∧ (0 : Int) < L then (xs (0 : Int).toNat).toInt else if (1099 : Nat) = 1099 ∧ (0 : Int) = 0 ∧ (0 : Int) = 0 then 1 else if (1099 : Nat) = 1099 ∧ (0 : Int) = 0 ∧ (0 : Int) = 1 then (L : Int) else 0) = 1
    rw [if_neg (fun z => absurd z.1 (by decide)), if_pos ⟨rfl, rfl, rfl⟩]
theorem jm_x {L : Nat} {xs : Nat → Int32} {j : Nat} (hj : j < L) : (jm0 L xs).1 99 0 (j : Int) = (xs j).toInt := by
  show (if (99 : Nat) = 99 ∧ (0 : Int) = 0 ∧ (0 : Int) ≤ (j : Int) ∧ (j : Int) < L then (xs (j : Int).toNat).toInt else _) = (xs j).toInt
  rw [if_pos ⟨rfl, rfl, by omega, by omega⟩]
  rfl
theorem jm_r {L : Nat} {xs : Nat → Int32} (hL : L ≤ 386) (k : Nat) (n j : Int) : j_r32 ((jm0 L xs).1 k n j) := by
  show j_r32 (if k = 99 ∧ n = 0 ∧ 0 ≤ j ∧ j < L then (xs j.toNat).toInt else if k = 1099 ∧ n = 0 ∧ j = 0 then 1 else if k = 1099 ∧ n = 0 ∧ j = 1 then (L : Int) else 0)
  unfold j_r32
  split
  · have h1 := Int32.le_toInt (xs j.toNat)
    have h2 := Int32.toInt_lt (xs j.toNat)
    constructor
    · simpa using h1
    · simpa using h2
  · split
    · omega
    · split <;> omega
theorem jm_w {L : Nat} {xs : Nat → Int32} {k : Nat} {n : Int} (w : j_W0.1 (jm0 L xs) k n) : k = 99 ∧ n = 0 := by
  by_cases z : k = 99 ∧ n = 0
  · exact z
  · have t : (jm0 L xs).1 (k + 1000) n 0 = 1 := w.2
    unfold jm0 at t
    dsimp only at t
    rw [if_neg (fun y => by omega), if_neg (fun y => z ⟨by omega, y.2.1⟩), if_neg (fun y => absurd y.2.2 (by decide))] at t
    exact absurd t (by decide)
theorem cell_ok {h : JM} {i : Int} (i0 : 0 ≤ i) (hl : 0 ≤ h.1 1099 0 1 ∧ h.1 1099 0 1 < 2147483648) : FL_cell (some 0) i h = some (cv h i, h) := by
  unfold FL_cell cv
  rw [Option.bind_some, g_t hl]
  by_cases z : h.1 1099 0 1 ≤ i
  · rw [if_pos z, if_pos z]
  · rw [if_neg z, if_neg z, g_t (by omega)]
theorem cv_cg {h h' : JM} (e1 : h'.1 1099 0 1 = h.1 1099 0 1) (e2 : ∀ j, h'.1 99 0 j = h.1 99 0 j) (i : Int) : cv h' i = cv h i := by
  unfold cv; rw [e1, e2]
theorem fe_ok {s : State} {o : Outcome} {t : State} {L : List Loc} {k n : Nat} (h : FrameEnd s o t L k n) (hL : ∀ q ∈ L, s.heap.size ≤ q.base) (hk : k ≤ 600000) (hn : n ≤ 7302250) : Framed s o t [] 600000 7302250 := by
  obtain ⟨h1, h2, a1, a2, a3, a4, a5, a6⟩ := h
  refine ⟨h1, h2, a1, a2, Nat.le_trans a3 (by omega), a4, Nat.le_trans a5 hn, fun a c hc => ?_⟩
  obtain ⟨c', b1, b2, b3, b4⟩ := a6 a c hc
  refine ⟨c', b1, b2, b3, fun i _ => b4 i (fun q => ?_)⟩
  have t1 := hL _ q
  have t2 : a < s.heap.size := (Array.getElem?_eq_some_iff.mp hc).1
  exact absurd t1 (Nat.not_le_of_lt t2)
theorem whole_start {p : Program} {e : Env} {s : State} {m : MethodId} {below : List Frame} {meth : Method} {c : Code} (l : Launch) {b L : Nat} {xs : Nat → Int32} (hL : L ≤ 386) (C0 : lw_At p s m meth c b L xs) : W p l e room_1 s m #[Value.ref b] below meth c s.heap [] 0 0 (lw_Z below #[Value.ref b] s) (entryFrame m ([Value.ref b] : List Value).toArray 4) := by
  obtain ⟨hx, hb, hr, hml, hown, hts, hX, hbl, hlocks, hgv⟩ := id C0
  obtain ⟨scr, hcb, hof, hkn, hsz, hval⟩ := hX
  obtain ⟨D, aC, hK⟩ := set_K hts
  have hNW : j_NW (D, (aC, scr), s.heap.size) s := set_N hts hof
  obtain ⟨h0, eh0⟩ : ∃ h0, h0 = jm0 L xs := ⟨_, rfl⟩
  have e0 : em h0 := by rw [eh0]; exact jm_em L xs
  have l0 : h0.1 1099 0 1 = (L : Int) ∧ h0.1 1099 0 0 = 1 := by rw [eh0]; exact jm_l L xs
  have w0 : j_W0.1 h0 99 0 := ⟨by decide, l0.2⟩
  obtain ⟨al, eal⟩ : ∃ al : JA, al = fun _ _ => b := ⟨_, rfl⟩
  have a99 : al 99 0 = b := by rw [eal]
  have R0 : j_Rep j_W0 (D, (aC, scr), s.heap.size) al h0 s.heap := by
    rw [eh0]
    refine ⟨fun k n w k99 => absurd (jm_w w).1 k99, fun k n k' n' w w' _ => ?_, fun k n w k99 => absurd (jm_w w).1 k99, fun k n j => jm_r hL k n j, fun k n j => ?_, fun k n j x w _ _ _ q => ?_, fun n w => ?_⟩
    · have t1 := jm_w w
      have t2 := jm_w w'
      exact ⟨by rw [t1.1, t2.1], by rw [t1.2, t2.2]⟩
    · show j_r64 0
      unfold j_r64; omega
    · cases q
    · have n0 := (jm_w w).2
      subst n0
      rw [a99]
      have e1 : j_W0.2.1 (jm0 L xs) 99 0 = (L : Int) := (jm_l L xs).1
      rw [e1]
      refine ⟨hbl, hcb, hkn, hsz, fun j hj => ?_⟩
      have hj2 : j < L := hj
      rw [jm_x hj2, hval j hj2]
      congr 2
      exact (Int32.ofInt_toInt (xs j)).symm
  have hl := lv_entry ([.ref b]) (n := 4) (Nat.le_of_ble_eq_true rfl)
  rw [lg_entry_eq]
  generalize (lg_sl ([.ref b]) ++ List.replicate (4 - (lg_sl ([.ref b])).length) Slot.unset).toArray = ls at hl ⊢
  have hl : lv_has ls 4 [(0, .ref b)] := hl
  -- the class's object
  obtain ⟨a, ea⟩ : ∃ a, a = cv h0 0 := ⟨_, rfl⟩
  obtain ⟨b', eb⟩ : ∃ b', b' = cv h0 1 := ⟨_, rfl⟩
  obtain ⟨c1, i1, Fc, Cc⟩ := i11 a b' e0
  have n99 : ∀ k : Nat, k < 13 → ∀ (h : JM) (i : Int), (j_nw h k 0 0).1 99 0 i = h.1 99 0 i ∧ (j_nw h k 0 0).1 1099 0 1 = h.1 1099 0 1 := fun k hk h i => ⟨nwI (Or.inl (by omega)) (Or.inl (by omega)), nwI (Or.inl (by omega)) (Or.inl (by omega))⟩
  have hN := cN_r a
  have c99 : ∀ j, c1.1 99 0 j = h0.1 99 0 j ∧ c1.1 1099 0 j = h0.1 1099 0 j := fun j => by
    have k1 : ∀ k, k = 99 ∨ k = 1099 → ¬ PC (cN a) k 0 := fun k hk p => by
      rcases pc_k p with q | (q | q) | q | q
      · have := pm_k q; omega
      · have := px_k q; omega
      · have := px_k q; omega
      · unfold P231 at q; omega
      · unfold P259 at q; omega
    exact ⟨(Fc 99 0 (k1 99 (Or.inl rfl)) j).1, (Fc 1099 0 (k1 1099 (Or.inr rfl)) j).1⟩
  have cz : ∀ k n j, k ≠ 99 → k ≠ 1099 → ¬ PC (cN a) k n → c1.1 k n j = 0 := fun k n j k1 k2 q => by
    rw [(Fc k n q j).1]; exact e0.2 k n j k1 k2
  have npc : ∀ k n, (k = 12 ∨ k = 1012 ∨ (100 ≤ k ∧ k < 200) ∨ (1100 ≤ k ∧ k < 1200)) → ¬ PC (cN a) k n := fun k n hk p => by
    rcases pc_k p with q | (q | q) | q | q
    · have := pm_k q; omega
    · have := px_k q; omega
    · have := px_k q; omega
    · unfold P231 at q; omega
    · unfold P259 at q; omega
  obtain ⟨m1, i2, Fm, m12, MM, mm⟩ := i12 (c := c1) a b' (fun k n j k0 k1 => cz k n j (by omega) (by omega) (npc k n (by omega))) (fun k n k0 k1 => cz k n 0 (by omega) (by omega) (npc k n (by omega)))
  -- the law's loop
  have m99 : ∀ j, m1.1 99 0 j = h0.1 99 0 j ∧ m1.1 1099 0 j = h0.1 1099 0 j := fun j => by
    have t1 := (Fm 99 0 (fun q => by have := pr_k q; omega) j).1
    have t2 := (Fm 1099 0 (fun q => by have := pr_k q; omega) j).1
    exact ⟨t1.trans (c99 j).1, t2.trans (c99 j).2⟩
  have RX : r_x f_st (cN a) 0 m1 m1 := r_start e0 Fc Cc Fm m12 mm
  obtain ⟨hE, lawE⟩ := law_loop (a := 0) (n := (L : Int)) (by omega) 64 66 f_st 0 2 m1 f_st_ok RX (by rw [(m99 1).2]; exact l0.1) (by omega) (Or.inr rfl) (by omega) (by omega) (by omega)
  have EV := EL_law_38 66 (some 0) (some 0) (some 0) 2 m1 (1, hE) lawE
  have hF : j_F 95 (1 + (51515 + (1 + (81 + (1 * 66 + 1))))) (j_N 11 + (371135 + (j_N 12 + (61028 + (5 * 66 + 5))))) TL_law p room_1 s m #[Value.ref b] meth c 0 0 (D, (aC, scr), s.heap.size) := by
    refine ⟨hx, hb, hml, hown, fun w hw => hts w (lwg_in w hw), hr, hlocks, (fun z => by cases z), ?_, ?_, ?_, ?_, ⟨Nat.le_refl _, hNW⟩, hK⟩ <;> exact Nat.le_of_ble_eq_true rfl
  have hS : va_S (fun q => (D, (aC, scr), s.heap.size).2.2 ≤ q) s.heap s.heap [] := va_S.rf
  have L0 : 0 ≤ h0.1 1099 0 1 ∧ h0.1 1099 0 1 < 2147483648 := by rw [l0.1]; omega
  have fc : ∀ (k : Nat), k < 13 → ∀ (h : JM), (∀ j, h.1 99 0 j = h0.1 99 0 j ∧ h.1 1099 0 j = h0.1 1099 0 j) → ∀ i, i = 0 ∨ i = 1 → FL_cell (some 0) i (j_nw h k 0 0) = some (cv h0 i, j_nw h k 0 0) := fun k hk h q i hi => by
    have t : cv (j_nw h k 0 0) i = cv h0 i := cv_cg (by rw [(n99 k hk h 0).2]; exact (q 1).2) (fun j => by rw [(n99 k hk h j).1]; exact (q j).1) i
    rw [← t]
    exact cell_ok (by omega) (by rw [(n99 k hk h 0).2, (q 1).2]; exact L0)
  refine law_mk (k := 11) (P := 0) (by decide) dL_law_0 dL_law_3 dL_law_4 dL_law_5 dL_law_6 dL_law_9 dL_law_10 dL_law_11 dL_law_14 ck_L_7 it_11 in_11 md_X11_init im_X11_init rfl ml_L_15 (by decide) (fc 11 (by decide) h0 (fun j => ⟨rfl, rfl⟩) 0 (Or.inl rfl)) (fc 11 (by decide) h0 (fun j => ⟨rfl, rfl⟩) 1 (Or.inr rfl)) (I11_init (by rw [← ea, ← eb]; exact i1)) (by rw [e0.2 1011 0 0 (by decide) (by decide)]; decide) w0 hF (by decide) (by decide) R0 hS hl (by rw [a99]; rfl) (fun al1 H1 locs1 F1 R1 A1 W1 S1 => ?_)
  have hb2 := F1.2.1
  refine lv_astore_n (i := 1) (lv' := [(1, .ref (al1 11 0)), (0, .ref b)]) hx hb dL_law_17 rfl hl (by decide) rfl (fun ls hl => ?_)
  have hl : lv_has ls 4 [(0, .ref b), (1, .ref (al1 11 0))] := lv_sub hl [1, 0] rfl
  have A99 : al1 99 0 = b := by rw [(A1 99 0 w0).2, a99]
  refine law_mk (k := 12) (P := 18) (by decide) dL_law_18 dL_law_21 dL_law_22 dL_law_23 dL_law_24 dL_law_27 dL_law_28 dL_law_29 dL_law_32 ck_L_18 it_12 in_12 md_X12_init im_X12_init rfl ml_L_20 (by decide) (fc 12 (by decide) c1 c99 0 (Or.inl rfl)) (fc 12 (by decide) c1 c99 1 (Or.inr rfl)) (I12_init (by rw [← ea, ← eb]; exact i2)) (by rw [cz 1012 0 0 (by decide) (by decide) (npc 1012 0 (by omega))]; decide) (A1 99 0 w0).1 F1 (by decide) (by decide) R1 S1 hl (by rw [A99]; rfl) (fun al2 H2 locs2 F2 R2 A2 W2 S2 => ?_)
  refine lv_astore_n (i := 2) (lv' := [(2, .ref (al2 12 0)), (0, .ref b), (1, .ref (al1 11 0))]) hx hb dL_law_35 rfl hl (by decide) rfl (fun ls hl => ?_)
  refine lv_iconst (v := 2) hx hb dL_law_36 (by decide) ?_
  refine lv_istore_n (i := 3) (lv' := [(3, .int 2), (2, .ref (al2 12 0)), (0, .ref b), (1, .ref (al1 11 0))]) hx hb dL_law_37 rfl hl (by decide) rfl (fun ls hl => ?_)
  have hl : lv_has ls 4 [(0, .ref b), (1, .ref (al1 11 0)), (2, .ref (al2 12 0)), (3, .int 2)] := lv_sub hl [2, 3, 1, 0] rfl
  have B11 : al2 11 0 = al1 11 0 := (A2 11 0 W1).2
  have B99 : al2 99 0 = b := by rw [(A2 99 0 (A1 99 0 w0).1).2, A99]
  have R3 : j_Rep j_W1 (D, (aC, scr), s.heap.size) al2 m1 H2 := rep01 (w_A hN e0 Fc Cc Fm MM) (w_B hN e0 Fc Cc Fm MM) R2
  have w99 : j_W1.1 m1 99 0 := (A2 99 0 (A1 99 0 w0).1).1
  have w11 : j_W1.1 m1 11 0 := (A2 11 0 W1).1
  have w12 : j_W1.1 m1 12 0 := W2
  have hl3 : lv_has ls TL_law.2.2.1 (j_l al2 [(0, .inr (.inr (Option.map (Prod.mk 99) (some 0)))), (1, .inr (.inr (Option.map (Prod.mk 11) (some 0)))), (2, .inr (.inr (Option.map (Prod.mk 12) (some 0)))), (3, .inl 2)]) := by
    rw [← B11, ← B99] at hl
    exact hl
  have Wend := EV (fun q hq => by
    rcases List.mem_cons.1 hq with q1 | q1
    · rw [q1]; exact w99
    · rcases List.mem_cons.1 q1 with q1 | q1
      · rw [q1]; exact w11
      · rcases List.mem_cons.1 q1 with q1 | q1
        · rw [q1]; exact w12
        · rw [List.mem_singleton.1 q1]
          show j_r32 2
          unfold j_r32; omega) (fun v hv => by cases hv) p l e room_1 s m #[Value.ref b] below meth c H2 locs2 _ _ ls (D, (aC, scr), s.heap.size) al2 al2 m1 F2 ⟨R3, S2, fun k n w => ⟨w, rfl⟩⟩ hl3
  refine W.imp (fun t q => ?_) Wend
  obtain ⟨o, t1, t2, ⟨⟨al', t3, _⟩, _⟩, Lx, t4, t5⟩ := q
  refine ⟨o, t1, t2, ?_, fe_ok t4 t5 (Nat.le_of_ble_eq_true rfl) (Nat.le_of_ble_eq_true rfl)⟩
  rw [t3]
  rfl
set_option maxHeartbeats 4000000 in
theorem lw_walk (l : Launch) (b : Addr) (xs : List Int32) : MetFree l x (headSpec (Jvm.Cond.code x code maxLocals ret :: tables_1) room_1) (lw_P b xs) (fun _ _ _ _ _ => True) lw_Q := by
  refine MetFree.of_bodyS (code := code) (maxLocals := maxLocals) (ret := ret) (by decide) ?_ ?_
  · intro args s m h hn
    obtain ⟨meth, c, h1, h2, h3, h4, h5, h6, -, -⟩ := Cond.code_spec hn (atoms_spec (ws := Jvm.Cond.code x code maxLocals ret :: tables_1) h _ List.mem_cons_self)
    exact ⟨meth, c, h1, h2, h3, h4, h5, h6⟩
  · intro p e s m args below meth c s₁ B hml0 hP _
    obtain ⟨rfl, hx, hbd, hgv⟩ := hP
    obtain ⟨scr, harrAt, hlist, hof, hsmall⟩ := hx
    obtain ⟨hcb, hkn, -, -⟩ := State.arrayAt?_spec harrAt
    have hown : s.vm.findClass R_law = some m.cls := findClass_of_methodNamed B.named
    have hts0 : ∀ c ∈ (Jvm.Cond.code x code maxLocals ret :: tables_1), c.before #[Value.ref b] s = true := atoms_spec (ws := Jvm.Cond.code x code maxLocals ret :: tables_1) B.pre
    have hts : ∀ w ∈ lw_tbl, w.before #[Value.ref b] s = true := k2_hts_sels lw_privs (fun w hw => hts0 w (List.mem_cons_of_mem _ hw)) lw_privs_ok
    have hml : c.maxLocals = 4 := B.maxLocals_eq (hts0 _ List.mem_cons_self)
    have X₀ : Stand p l e room_1 s m #[Value.ref b] below meth c s₁ [] 0 0 := Stand.of_body B
    have hh0 : s₁.heap = s.heap := by rw [B.state]; rfl
    have hsz : scr.slots.size = xs.length := by rw [← Array.length_toList, hlist, List.length_map]
    have hval : ∀ j : Nat, j < xs.length → scr.slots[j]? = some (.int (xs.getD j 0)) := fun j hj => by
      rw [← Array.getElem?_toList, hlist]
      simp [hj]
    have hbl : b < s.heap.size := (Array.getElem?_eq_some_iff.mp hcb).1
    have hX : va_X b xs.length (fun j => xs.getD j 0) s s.heap := ⟨scr, hcb, hof, hkn, hsz, hval⟩
    have K : W p l e room_1 s m #[Value.ref b] below meth c s₁.heap [] 0 0 (lw_Z below #[Value.ref b] s) (entryFrame m ([Value.ref b] : List Value).toArray 4) := by
      rw [hh0]
      exact whole_start l hbd ⟨B.exec, B.bytes, B.returns, hml, hown, hts, hX, hbl, B.notSynchronized, hgv⟩
    obtain ⟨t, a1, o, b1, b2, b3⟩ := K s₁ rfl X₀
    exact ⟨t, o, a1, b1, b2, b3⟩
theorem lw_pre_spec {args : Array Value} {s : State} (h : (Jvm.Cond.and given_1 narrow_1).before args s = true) (hr : rest_1_c.before args s = true) : ∃ (b : Addr) (xs : List Int32), lw_P b xs args s := by
  have hs := flat_of_before _ h
  have hq := flat_of_before _ hr
  have hc : (Cond.count 1).before args s = true := hs _ (by decide +kernel)
  have harr : (Cond.arrayOf (.arg 0) .int).before args s = true := hs _ (by decide +kernel)
  have hle : (Cond.le (.length (.arg 0)) (.int 386)).before args s = true := hs _ (by decide +kernel)
  have hlen : (Cond.isInt (.length (.arg 0))).before args s = true := hq _ (by decide +kernel)
  have hall : (Cond.all (.arg 0) (.isInt (.elem (.arg 0) (.index 0)))).before args s = true := hq _ (by decide +kernel)
  obtain ⟨b, xs, hb, hx⟩ := State.ints_of_pre rfl harr hlen hall
  have hsm : xs.length < 2 ^ 31 := hx.choose_spec.2.2.2
  have hev : (Term.length (.arg 0)).eval args s none [] s = some (.int xs.length.toInt32) := hx.length_eval hb
  have hv := Cond.le_ints hev (show (Term.int 386).eval args s none [] s = some (.int 386) from rfl)
  have hd : xs.length.toInt32 ≤ 386 := by
    simpa [Cond.before, Cond.holds, hv] using hle
  have hN : xs.length ≤ 386 := (Int32.ofNat_le_ofNat hsm (by decide)).mp (show Int32.ofNat xs.length ≤ Int32.ofNat 386 from hd)
  exact ⟨b, xs, Cond.one_arg hc (show args[0]? = some (.ref b) from hb), hx, hN, h⟩
theorem lw_comes (l : Launch) : Comes l x (Jvm.Cond.code x code maxLocals ret :: tables_1) room_1 (fun tb e args s => Calls_1 tb e args s ∧ rest_1 tb e args s ∧ Pre_1 tb e args s)
    (fun _ _ args s o t => lw_Q args s o t) := by
  intro p e ha hc hk s m args below hf hfit hheap happ hpre
  obtain ⟨b, xs, hP⟩ := lw_pre_spec hpre.2.2 hpre.2.1
  obtain ⟨k, o, h1, h2, h3, hQ⟩ := lw_walk l b xs p e ha hc hk s m args below hf ((Spec.applies_iff_loose hf).mp happ).1 hP trivial
  exact ⟨k, o, h1, h2, h3, hQ⟩
theorem lw_frame {s t : State} {o : Outcome} {args : Array Value} (h : Framed s o t [] 600000 7302250) :
    Framed s o t (fieldLocs frame_1_writes args s ++ arrayLocs frame_1_arrays args s ++ staticLocs frame_1_statics s) 600000 7302250 := h
theorem lw_limb (L : Cond) (hL : ∀ (args : Array Value) (s t : State), L.after args s (.returned (some (.int 1))) t = true) :
    ArmFor flags0 classFile x code maxLocals ret World_1 tables_1 room_1 Calls_1 rest_1 Pre_1
      (fun tb e a s o t => postC L tb e a s o t ∧ Framed s o t (fieldLocs frame_1_writes a s ++ arrayLocs frame_1_arrays a s ++ staticLocs frame_1_statics s) 600000 7302250) := by
  intro l _ _ _ p e ha hc hk s m args below hf hfit hheap happ hpre
  obtain ⟨k, o, h1, h2, h3, rfl, hF⟩ := lw_comes l p e ha hc hk s m args below hf hfit hheap happ hpre
  exact ⟨k, _, h1, h2, h3, hL args s _, lw_frame hF⟩
