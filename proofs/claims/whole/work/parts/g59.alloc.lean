/-! ===== new cells ===== -/
/-- what a world must say of a new cell -/
def j_WN (w : JW) (h : JM) (k : Nat) (n len : Int) : Prop := (∀ k' n', w.1 (j_nw h k n len) k' n' ↔ (w.1 h k' n' ∨ (k' = k ∧ n' = n))) ∧ (∀ k' n', ¬ (k' = k ∧ n' = n) → w.2.1 (j_nw h k n len) k' n' = w.2.1 h k' n') ∧ w.2.1 (j_nw h k n len) k n = len ∧ ¬ w.1 h k n ∧ (∀ j, w.2.2 k n j = none) ∧ (∀ k' n', w.1 h k' n' → k' < 1000)
def j_al (al : JA) (k : Nat) (n : Int) (a : Nat) : JA := fun k' n' => if k' = k ∧ n' = n then a else al k' n'
section EVA
variable {w : JW} {d mc ms : Nat} {M : JT} {pc index : Nat} {lv : List (Nat × JV)} {st : List JV} {h h1 h' : JM} {r : Option JV}
theorem j_al_s (al : JA) (k : Nat) (n : Int) (a : Nat) : j_al al k n a k n = a := if_pos ⟨rfl, rfl⟩
theorem j_al_n (al : JA) (k : Nat) (n : Int) (a : Nat) {k' : Nat} {n' : Int} (q : ¬ (k' = k ∧ n' = n)) : j_al al k n a k' n' = al k' n' := if_neg q
theorem j_grow {G : JG} {al : JA} {H H1 : Heap} {k : Nat} {n len : Int} (hR : j_Rep w G al h H) (hN : j_WN w h k n len) (hbase : G.2.2 ≤ H.size) (hk : k < 1000) (h99 : k ≠ 99) (hlen : j_r32 len) (hat : va_at G.1 vwCl (H.size, j_cell w G (j_al al k n H.size) (j_nw h k n len) k n) H1) (o1 : ∀ q, q < H.size → H1[q]? = H[q]?) : j_Rep w G (j_al al k n H.size) (j_nw h k n len) H1 := by
  obtain ⟨n1, n2, n3, n4, n5, n6⟩ := hN
  obtain ⟨a1, a2, a3, a4, a5, a6, a7⟩ := hR
  have hlt : ∀ k' n', w.1 h k' n' → al k' n' < H.size := fun k' n' q => by
    by_cases h9 : k' = 99
    · subst h9; exact Nat.lt_of_lt_of_le (a7 n' q).1 hbase
    · exact (a1 k' n' q h9).lt
  have hne : ∀ k' n', w.1 h k' n' → ¬ (k' = k ∧ n' = n) := fun k' n' q z => n4 (by rw [← z.1, ← z.2]; exact q)
  have hI : ∀ k' n' j, w.1 h k' n' → (j_nw h k n len).1 k' n' j = h.1 k' n' j := fun k' n' j q => by
    have := n6 k' n' q
    show (if k' = k ∧ n' = n then _ else _) = _
    rw [if_neg (hne k' n' q), if_neg (fun z => by omega)]
  have hL : ∀ k' n' j, w.1 h k' n' → (j_nw h k n len).2.1 k' n' j = h.2.1 k' n' j := fun k' n' j q => if_neg (hne k' n' q)
  have hRR : ∀ k' n' j, w.1 h k' n' → j_R w (j_nw h k n len) k' n' j = j_R w h k' n' j := fun k' n' j q => by
    unfold j_R
    rw [show (j_nw h k n len).2.2 k' n' j = h.2.2 k' n' j from if_neg (hne k' n' q)]
  have hRn : ∀ j, j_R w (j_nw h k n len) k n j = none := fun j => by
    unfold j_R
    rw [n5 j]
    exact if_pos ⟨rfl, rfl⟩
  have hce : ∀ k' n', w.1 h k' n' → va_at G.1 vwCl (al k' n', j_cell w G al h k' n') H → va_at G.1 vwCl (al k' n', j_cell w G (j_al al k n H.size) (j_nw h k n len) k' n') H := by
    intro k' n' q hv
    have hmap : ∀ (j : Nat), 10 ≤ j_code k' j → (k' < 13 → j < j_N k') → (13 ≤ k' → (j : Int) < w.2.1 h k' n') → (j_R w h k' n' j).map (j_al al k n H.size (j_code k' j - 10)) = (j_R w h k' n' j).map (al (j_code k' j - 10)) := by
      intro j hj hb1 hb2
      cases hq : j_R w h k' n' j with
      | none => rfl
      | some m =>
        show some _ = some _
        rw [j_al_n al k n H.size (hne _ _ (a6 k' n' j m q hj hb1 hb2 hq))]
    unfold j_cell at hv ⊢
    by_cases hk' : k' < 13
    · rw [if_pos hk'] at hv ⊢
      have e : (List.range (j_N k')).map (fun j => j_fv w (j_al al k n H.size) (j_nw h k n len) k' n' j (j_code k' j)) = (List.range (j_N k')).map (fun j => j_fv w al h k' n' j (j_code k' j)) := by
        apply List.map_congr_left
        intro j hjr
        have hjr : j < j_N k' := by simpa using hjr
        unfold j_fv
        rw [hI k' n' j q, hL k' n' j q, hRR k' n' j q]
        by_cases c1 : j_code k' j ≤ 2
        · rw [if_pos c1, if_pos c1]
        · rw [if_neg c1, if_neg c1]
          by_cases c2 : j_code k' j = 3
          · rw [if_pos c2, if_pos c2]
          · rw [if_neg c2, if_neg c2]
            by_cases c3 : 10 ≤ j_code k' j
            · rw [hmap j c3 (fun _ => hjr) (fun z => by omega)]
            · exfalso
              have h2 : ∀ k, k < 13 → ∀ j, j < 100 → (j_code k j ≤ 3 ∨ 10 ≤ j_code k j) := by decide +kernel
              have h3 : ∀ k, k < 13 → j_N k ≤ 100 := by decide +kernel
              rcases h2 k' hk' j (Nat.lt_of_lt_of_le hjr (h3 k' hk')) with z | z <;> omega
      rw [e]
      exact hv
    · rw [if_neg hk'] at hv ⊢
      rw [n2 k' n' (hne k' n' q)]
      have hcode : ∀ j, j_code k' j = j_code k' 0 := fun j => by unfold j_code; rw [if_neg hk', if_neg hk']
      have hv : H[al k' n']? = some (vp_cell (G.2.1.1 (j_code k' 0)) ((w.2.1 h k' n').toNat, j_av w al h k' n' (j_code k' 0))) := hv
      show H[al k' n']? = some (vp_cell (G.2.1.1 (j_code k' 0)) ((w.2.1 h k' n').toNat, j_av w (j_al al k n H.size) (j_nw h k n len) k' n' (j_code k' 0)))
      rw [hv]
      congr 1
      unfold j_av
      by_cases c1 : j_code k' 0 ≤ 2
      · rw [if_pos c1, if_pos c1, vp_cell_i, vp_cell_i]
        congr 1; funext i; rw [hI k' n' i q]
      · rw [if_neg c1, if_neg c1]
        by_cases c2 : j_code k' 0 = 3
        · rw [if_pos c2, if_pos c2, vp_cell_l, vp_cell_l]
          congr 1; funext i; rw [hL k' n' i q]
        · rw [if_neg c2, if_neg c2, vp_cell_q, vp_cell_q]
          unfold arrV
          congr 2
          funext i
          show va_rf _ = va_rf _
          rw [hRR k' n' i.val q]
          by_cases c3 : 10 ≤ j_code k' 0
          · have := hmap i.val (by rw [hcode]; exact c3) (fun z => absurd z hk') (fun _ => by have := i.isLt; omega)
            rw [hcode] at this
            rw [this]
          · exfalso
            have h2 : ∀ k, k < 200 → (j_ac k ≤ 3 ∨ 10 ≤ j_ac k) := by decide +kernel
            have h3 : j_code k' 0 = j_ac k' := by unfold j_code; rw [if_neg hk']
            by_cases hk2 : k' < 200
            · rcases h2 k' hk2 with z | z <;> omega
            · have : j_ac k' = 0 := by
                unfold j_ac
                split <;> first | rfl | omega
              omega
  refine ⟨fun k' n' q h9 => ?_, fun k1 m1 k2 m2 q1 q2 z => ?_, fun k' n' q hq => ?_, fun k' n' j => ?_, fun k' n' j => ?_, fun k' n' j m q hc hb1 hb2 hj => ?_, fun n' q => ?_⟩
  · by_cases hq : k' = k ∧ n' = n
    · obtain ⟨rfl, rfl⟩ := hq
      rw [j_al_s]; exact hat
    · have q' := ((n1 k' n').mp q).resolve_right hq
      rw [j_al_n al k n H.size hq]
      exact (hce k' n' q' (a1 k' n' q' h9)).kept (o1 _ (a1 k' n' q' h9).lt)
  · by_cases e1 : k1 = k ∧ m1 = n <;> by_cases e2 : k2 = k ∧ m2 = n
    · exact ⟨e1.1.trans e2.1.symm, e1.2.trans e2.2.symm⟩
    · have q2' := ((n1 k2 m2).mp q2).resolve_right e2
      rw [e1.1, e1.2, j_al_s, j_al_n al k n H.size e2] at z
      have := hlt k2 m2 q2'
      exact absurd this (by show ¬ (al k2 m2 < H.size); omega)
    · have q1' := ((n1 k1 m1).mp q1).resolve_right e1
      rw [e2.1, e2.2, j_al_s, j_al_n al k n H.size e1] at z
      have := hlt k1 m1 q1'
      exact absurd this (by show ¬ (al k1 m1 < H.size); omega)
    · have q1' := ((n1 k1 m1).mp q1).resolve_right e1
      have q2' := ((n1 k2 m2).mp q2).resolve_right e2
      rw [j_al_n al k n H.size e1, j_al_n al k n H.size e2] at z
      exact a2 k1 m1 k2 m2 q1' q2' z
  · by_cases e1 : k' = k ∧ n' = n
    · rw [e1.1, e1.2, j_al_s]; exact hbase
    · rw [j_al_n al k n H.size e1]
      exact a3 k' n' (((n1 k' n').mp q).resolve_right e1) hq
  · show j_r32 (if k' = k ∧ n' = n then 0 else if k' = k + 1000 ∧ n' = n then (if j = 0 then 1 else if j = 1 then len else h.1 k' n' j) else h.1 k' n' j)
    split
    · exact ⟨by omega, by omega⟩
    · split
      · split
        · exact ⟨by omega, by omega⟩
        · split
          · exact hlen
          · exact a4 k' n' j
      · exact a4 k' n' j
  · show j_r64 (if k' = k ∧ n' = n then 0 else h.2.1 k' n' j)
    split
    · exact ⟨by omega, by omega⟩
    · exact a5 k' n' j
  · by_cases e1 : k' = k ∧ n' = n
    · rw [e1.1, e1.2, hRn] at hj; cases hj
    · have q' := ((n1 k' n').mp q).resolve_right e1
      rw [hRR k' n' j q'] at hj
      exact (n1 _ _).mpr (Or.inl (a6 k' n' j m q' hc hb1 (fun z => by rw [← n2 k' n' e1]; exact hb2 z) hj))
  · have e1 : ¬ (99 = k ∧ n' = n) := fun z => h99 z.1.symm
    have q' := ((n1 99 n').mp q).resolve_right e1
    obtain ⟨b1, b2, b3, b4, b5⟩ := a7 n' q'
    rw [j_al_n al k n H.size e1, n2 99 n' e1]
    refine ⟨b1, by rw [o1 _ (Nat.lt_of_lt_of_le b1 hbase)]; exact b2, b3, b4, fun j hj => ?_⟩
    rw [hI 99 n' j q']
    exact b5 j hj
theorem j_goOn {G : JG} {al al0 : JA} {h0 : JM} {H H1 : Heap} {k : Nat} {n len : Int} {c1 s1 pc' : Nat} {p : Program} {l : Launch} {e : Env} {R : Room} {s : State} {m : MethodId} {args : Array Value} {below : List Frame} {meth : Method} {c : Code} {locs : List Loc} {cells slots : Nat} {ls : Array Slot}
    (F : j_F d (c1 + mc) (s1 + ms) M p R s m args meth c cells slots G) (S : j_S w G al al0 h0 h s H locs) (hl : lv_has ls M.2.2.1 (j_l al lv)) (hlv : ∀ q ∈ lv, j_ok w h q.2) (hst : ∀ v ∈ st, j_ok w h v) (hN : j_WN w h k n len) (hk : k < 1000) (h99 : k ≠ 99) (hlen : j_r32 len) (hat : va_at G.1 vwCl (H.size, j_cell w G (j_al al k n H.size) (j_nw h k n len) k n) H1) (hz : H1.size = H.size + 1) (o1 : ∀ q, q < H.size → H1[q]? = H[q]?)
    (K : Ev w d mc ms M pc' lv (.inr (.inr (some (k, n))) :: st) (j_nw h k n len) r h') : W p l e R s m args below meth c H1 locs (cells + c1) (slots + s1) (MQ below (j_Q w G al0 h0 r h') args s (cells + (c1 + mc)) (slots + (s1 + ms)) (fun q => G.2.2 ≤ q)) (F0 m pc' ls (.ref H.size :: st.map (j_v al))) := by
  have hbase : G.2.2 ≤ H.size := Nat.le_trans F.2.2.2.2.2.2.2.2.2.2.2.2.1.1 S.2.1.1
  have hR1 := j_grow S.1 hN hbase hk h99 hlen hat o1
  have hm : ∀ k' n', w.1 h k' n' → w.1 (j_nw h k n len) k' n' := fun k' n' q => (hN.1 k' n').mpr (Or.inl q)
  have ha : ∀ k' n', w.1 h k' n' → j_al al k n H.size k' n' = al k' n' := fun k' n' q => j_al_n al k n H.size (fun z => hN.2.2.2.1 (by rw [← z.1, ← z.2]; exact q))
  have F' : j_F d mc ms M p R s m args meth c (cells + c1) (slots + s1) G := by
    obtain ⟨f1, f2, f3, f4, f5, f6, f7, f8, f9, f10, f11, f12, f13, f14⟩ := F
    exact ⟨f1, f2, f3, f4, f5, f6, f7, f8, f9, f10, by omega, by omega, f13, f14⟩
  have hKW := K (fun q hq => j_okm hm (hlv q hq)) (j_cn ((hN.1 k n).mpr (Or.inr ⟨rfl, rfl⟩)) (fun u hu => j_okm hm (hst u hu))) p l e R s m args below meth c H1 locs (cells + c1) (slots + s1) ls G (j_al al k n H.size) al0 h0 F' ⟨hR1, ⟨by have := S.2.1.1; omega, fun q z1 z2 => (o1 q (Nat.lt_of_lt_of_le z1 S.2.1.1)).trans (S.2.1.2.1 q z1 z2), S.2.1.2.2⟩, fun k' n' q => ⟨hm _ _ (S.2.2 k' n' q).1, (ha _ _ (S.2.2 k' n' q).1).trans (S.2.2 k' n' q).2⟩⟩ (by rw [j_ls ha hlv]; exact hl)
  rw [Nat.add_assoc, Nat.add_assoc] at hKW
  rw [List.map_cons, j_vs ha hst] at hKW
  have e3 : j_v (j_al al k n H.size) (.inr (.inr (some (k, n)))) = .ref H.size := by
    show Value.ref (j_al al k n H.size k n) = _
    rw [j_al_s]
  rw [e3] at hKW
  exact hKW
theorem ev_new {k : Nat} (n : Int) (hN : j_WN w h k n 0) (e1 : h1 = j_nw h k n 0) (hlink : Cond.classLink M.1 index (j_cl k).1 ∈ lwg) (hinst : Cond.instantiable (j_cl k).1 (j_N k) ∈ lwg) (hini : Cond.initialized (j_cl k).1 ∈ lwg) (hdg : decode M.2.1 pc = .ok (.new index, 3)) (hk : decide (k < 13) = true := by rfl) (K : Ev w d mc ms M (pc + 3) lv (.inr (.inr (some (k, n))) :: st) h1 r h') : Ev w d (1 + mc) (j_N k + ms) M pc lv st h r h' := by
  subst e1
  intro hlv hst p l e R s m args below meth c H locs cells slots ls G al al0 h0 F S hl
  have hk := of_decide_eq_true hk
  obtain ⟨c1, c2, c3, c4, c5⟩ := j_cd k hk
  have hKn := F.2.2.2.2.2.2.2.2.2.2.2.2.2.1 k _ c1
  have F0' := F
  obtain ⟨f1, f2, f3, f4, f5, f6, f7, f8, f9, f10, f11, f12, f13, f14⟩ := F0'
  refine W.newcK F.1 F.2.1 F.2.2.2.1 (F.2.2.2.2.1 _ hlink) (F.2.2.2.2.1 _ hinst) (F.2.2.2.2.1 _ hini) rfl hdg (by omega) (by omega) hKn.2.1 rfl fun H1 kC hkC e1 z1 o1 => ?_
  refine j_goOn F S hl hlv hst hN (by omega) (by omega) ⟨by omega, by omega⟩ ?_ z1 o1 K
  rw [j_cellO hk]
  refine ⟨_, c1, (u_born (j_ty k) F.2.2.2.2.1 c2 hKn hkC e1 c3).to (fun j hj => ?_)⟩
  unfold vp_V
  rw [List.getD_eq_getElem?_getD, List.getElem?_map, List.getElem?_range hj]
  show defaultValue (j_ty k j) = j_fv w _ (j_nw h k n 0) k n j (j_code k j)
  have hty := c5 j hj
  have hRn : j_R w (j_nw h k n 0) k n j = none := by
    unfold j_R
    rw [hN.2.2.2.2.1 j]
    exact if_pos ⟨rfl, rfl⟩
  have hIn : (j_nw h k n 0).1 k n j = 0 := if_pos ⟨rfl, rfl⟩
  have hLn : (j_nw h k n 0).2.1 k n j = 0 := if_pos ⟨rfl, rfl⟩
  unfold j_fv
  rw [hRn, hIn, hLn]
  cases hq : j_ty k j <;> rw [hq] at hty <;> simp [j_cty] at hty <;> (try rw [hty]) <;> (try rfl)
  all_goals (rw [if_neg (by omega), if_neg (by omega)]; rfl)
theorem ev_newa {k : Nat} (n : Int) {len : Int} {atype : ArrayType} {ty : FieldType} {c t0 : Nat} (hN : j_WN w h k n len) (e1 : h1 = j_nw h k n len) (h0 : 0 ≤ len) (h9 : len ≤ 60000) (harr : Cond.arrayClass ty ∈ lwg) (hty : newarray.typeOf atype = ty) (ht : ∀ aC, (j_tys aC)[t0]? = some (aC c, ty)) (hc : j_code k 0 = c) (hc3 : c ≤ 3) (hdef : defaultValue ty = if c = 3 then Value.long 0 else Value.int 0) (hRA : ∀ (U : State) (cA : ClassId), va_RA U cA ty → U.vm.findClass ("[" ++ ty.toString) = some cA) (hby : componentBytes ty ≤ 8) (hdg : decode M.2.1 pc = .ok (.newarray atype, 2)) (hk : decide (13 ≤ k ∧ k < 1000 ∧ k ≠ 99) = true := by rfl) (K : Ev w d mc ms M (pc + 2) lv (.inr (.inr (some (k, n))) :: st) h1 r h') : Ev w d (1 + mc) (len.toNat + ms) M pc lv (.inl len :: st) h r h' := by
  subst e1
  subst hty
  intro hlv hst p l e R s m args below meth c0 H locs cells slots ls G al al0 h0' F S hl
  have hk := of_decide_eq_true hk
  have F0' := F
  obtain ⟨f1, f2, f3, f4, f5, f6, f7, f8, f9, f10, f11, f12, f13, f14⟩ := F0'
  have hr := j_h hst
  have hcl : (Int32.ofInt len).toNatClampNeg = len.toNat := by show (Int32.ofInt len).toInt.toNat = _; rw [j_t32 hr]
  refine va_newaK (N := len.toNat) (n := Int32.ofInt len) F.1 F.2.1 (F.2.2.2.2.1 _ harr) rfl hdg rfl (by rw [Int32.lt_iff_toInt_lt, j_t32 hr, Int32.toInt_zero]; omega) hcl ?_ (by omega) (by omega) rfl fun H1 cA e1 z1 o1 hAr hNm => ?_
  · have hln : len.toNat ≤ 60000 := by omega
    calc len.toNat * componentBytes (newarray.typeOf atype) ≤ 60000 * 8 := Nat.mul_le_mul hln hby
      _ ≤ 536870912 := by decide
  have hcA : cA = G.2.1.1 c := Option.some.inj (hNm.symm.trans (hRA _ _ (f14.2 t0 _ (ht _)).2))
  subst hcA
  refine j_goOn F S hl hlv (j_tl hst) hN (by omega) hk.2.2 hr ?_ z1 o1 K
  rw [j_cellA (len := len) (decide_eq_true hk.1) hc hN.2.2.1]
  show H1[H.size]? = some (vp_cell _ (len.toNat, _))
  rw [e1, hdef]
  by_cases hc3' : c = 3
  · rw [if_pos hc3', hc3', j_avL, vp_cell_l]
    congr 2
    funext i
    show Value.long 0 = Value.long (Int64.ofInt ((j_nw h k n len).2.1 k n i))
    rw [show (j_nw h k n len).2.1 k n i = 0 from if_pos ⟨rfl, rfl⟩]; rfl
  · rw [if_neg hc3', j_avI (by omega), vp_cell_i]
    congr 2
    funext i
    show Value.int 0 = Value.int (Int32.ofInt ((j_nw h k n len).1 k n i))
    rw [show (j_nw h k n len).1 k n i = 0 from if_pos ⟨rfl, rfl⟩]; rfl
theorem ev_anew {k t : Nat} (n : Int) {len : Int} (hN : j_WN w h k n len) (e1 : h1 = j_nw h k n len) (h0 : 0 ≤ len) (h9 : len ≤ 60000) (hlink : Cond.classLink M.1 index (j_cl t).1 ∈ lwg) (hover : (j_cl t).1 ∈ j_overs) (hdg : decode M.2.1 pc = .ok (.anewarray index, 3)) (hk : decide (13 ≤ k ∧ k < 1000 ∧ k ≠ 99) = true := by rfl) (hc : j_code k 0 = t + 10 := by rfl) (ht : ∀ aC, (j_tys aC)[j_tp t]? = some (aC (t + 10), .object (j_cl t).1) := by intro _; rfl) (K : Ev w d mc ms M (pc + 3) lv (.inr (.inr (some (k, n))) :: st) h1 r h') : Ev w d (1 + mc) (len.toNat + ms) M pc lv (.inl len :: st) h r h' := by
  subst e1
  intro hlv hst p l e R s m args below meth c0 H locs cells slots ls G al al0 h0' F S hl
  have hk := of_decide_eq_true hk
  have F0' := F
  obtain ⟨f1, f2, f3, f4, f5, f6, f7, f8, f9, f10, f11, f12, f13, f14⟩ := F0'
  have hr := j_h hst
  have hcl : (Int32.ofInt len).toNatClampNeg = len.toNat := by show (Int32.ofInt len).toInt.toNat = _; rw [j_t32 hr]
  refine W.anew (n := Int32.ofInt len) F.1 F.2.1 F.2.2.2.1 (F.2.2.2.2.1 _ hlink) (va_AO.use (F.2.2.2.2.2.2.2.2.2.2.2.2.1.2.2.1 _ hover)) rfl hdg rfl (by rw [Int32.lt_iff_toInt_lt, j_t32 hr, Int32.toInt_zero]; omega) (by rw [hcl]; omega) (by omega) (by rw [hcl]; omega) fun cA kA comp g1 g2 g3 g4 => ?_
  rw [hcl]
  generalize hH1 : H.push ({ cls := cA, slots := Array.replicate len.toNat .null, vm := .none } : Cell) = H1
  have z1 : H1.size = H.size + 1 := by rw [← hH1, Array.size_push]
  have e1 : H1[H.size]? = some (arrV cA len.toNat (fun _ => .null)) := by rw [← hH1, Array.getElem?_push_size, ← arrV_new]
  have o1 : ∀ q : Nat, q < H.size → H1[q]? = H[q]? := fun q hq => by rw [← hH1, Array.getElem?_push, if_neg (Nat.ne_of_lt hq)]
  obtain ⟨kA2, comp2, k1, k2, k3, k4⟩ := (f14.2 _ _ (ht _)).2
  have hcA : cA = G.2.1.1 (t + 10) := Option.some.inj (g1.symm.trans k4)
  subst hcA
  refine j_goOn F S hl hlv (j_tl hst) hN (by omega) hk.2.2 hr ?_ z1 o1 K
  rw [j_cellA (len := len) (decide_eq_true hk.1) hc hN.2.2.1]
  show H1[H.size]? = some (vp_cell _ (len.toNat, _))
  rw [e1, j_avR, vp_cell_q]
  congr 2
  funext i
  have hRn : j_R w (j_nw h k n len) k n i = none := by
    unfold j_R
    rw [hN.2.2.2.2.1 i]
    exact if_pos ⟨rfl, rfl⟩
  rw [hRn]; rfl
end EVA
