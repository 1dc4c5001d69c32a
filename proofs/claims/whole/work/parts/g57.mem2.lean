/-! ===== putfield by sort; arrays ===== -/
section EVN
variable {w : JW} {d mc ms : Nat} {M : JT} {pc : Nat} {lv : List (Nat × JV)} {st : List JV} {h h1 h' : JM} {r : Option JV}
theorem j_ct0 {t : FieldType} (q : j_cty 0 t = true) : t = .int := by cases t <;> simp [j_cty] at q <;> rfl
theorem j_ct1 {t : FieldType} (q : j_cty 1 t = true) : t = .boolean := by cases t <;> simp [j_cty] at q <;> rfl
theorem j_ct3 {t : FieldType} (q : j_cty 3 t = true) : t = .long := by cases t <;> simp [j_cty] at q <;> rfl
theorem j_ctR {t : FieldType} {c : Nat} (q : j_cty (c + 10) t = true) : (∃ n, t = .object n) ∨ ∃ n, t = .array n := by
  cases t <;> simp [j_cty] at q
  · exact Or.inl ⟨_, rfl⟩
  · exact Or.inr ⟨_, rfl⟩
theorem sI_s (h : JM) (k : Nat) (n j v : Int) : (sI h k n j v).1 k n j = v := if_pos ⟨rfl, rfl, rfl⟩
theorem sL_s (h : JM) (k : Nat) (n j v : Int) : (sL h k n j v).2.1 k n j = v := if_pos ⟨rfl, rfl, rfl⟩
theorem sR_s (h : JM) (k : Nat) (n j : Int) (v : Option Int) : (sR h k n j v).2.2 k n j = v := if_pos ⟨rfl, rfl, rfl⟩
theorem sI_off (h : JM) (k : Nat) (n j v : Int) (k' : Nat) (n' j' : Int) (q : ¬ (k' = k ∧ n' = n ∧ j' = j)) : (sI h k n j v).1 k' n' j' = h.1 k' n' j' ∧ (sI h k n j v).2.1 k' n' j' = h.2.1 k' n' j' ∧ (sI h k n j v).2.2 k' n' j' = h.2.2 k' n' j' := ⟨if_neg q, rfl, rfl⟩
theorem sL_off (h : JM) (k : Nat) (n j v : Int) (k' : Nat) (n' j' : Int) (q : ¬ (k' = k ∧ n' = n ∧ j' = j)) : (sL h k n j v).1 k' n' j' = h.1 k' n' j' ∧ (sL h k n j v).2.1 k' n' j' = h.2.1 k' n' j' ∧ (sL h k n j v).2.2 k' n' j' = h.2.2 k' n' j' := ⟨rfl, if_neg q, rfl⟩
theorem sR_off (h : JM) (k : Nat) (n j : Int) (v : Option Int) (k' : Nat) (n' j' : Int) (q : ¬ (k' = k ∧ n' = n ∧ j' = j)) : (sR h k n j v).1 k' n' j' = h.1 k' n' j' ∧ (sR h k n j v).2.1 k' n' j' = h.2.1 k' n' j' ∧ (sR h k n j v).2.2 k' n' j' = h.2.2 k' n' j' := ⟨rfl, rfl, if_neg q⟩
def j_nf (k j : Nat) : Bool := !((j_cl k).2.1 j).2.2.2
theorem j_nfo {k j : Nat} (q : j_nf k j = true) : ((j_cl k).2.1 j).2.2.2 = false ∨ (((j_cl k).2.1 j).2.2.2 = true ∧ M.2.2.2.2 = true ∧ ((j_cl k).2.1 j).1 = M.1) := Or.inl (by simpa [j_nf] using q)
/-- a final field in a constructor of its own class -/
def j_fi (M : JT) (k j : Nat) : Bool := ((j_cl k).2.1 j).2.2.2 && (M.2.2.2.2 && decide (((j_cl k).2.1 j).1 = M.1))
theorem j_fio {k j : Nat} (q : j_fi M k j = true) : ((j_cl k).2.1 j).2.2.2 = false ∨ (((j_cl k).2.1 j).2.2.2 = true ∧ M.2.2.2.2 = true ∧ ((j_cl k).2.1 j).1 = M.1) := Or.inr (by simpa [j_fi] using q)
theorem ev_putI (hW : j_WOK w) {k : Nat} {n : Int} {j index : Nat} {v : Int} (hfl : j_FL M.1 index k j 0) (e1 : h1 = sI h k n (j : Int) v) (hdg : decode M.2.1 pc = .ok (.putfield index, 3)) (hf : j_nf k j = true := by rfl) (K : Ev w d mc ms M (pc + 3) lv st h1 r h') : Ev w d mc ms M pc lv (.inl v :: .inr (.inr (some (k, n))) :: st) h r h' := by
  subst e1
  have hty := j_ct0 (by have := (j_cd k hfl.1).2.2.2.2 j hfl.2.1; rw [hfl.2.2.1] at this; exact this)
  have hk := hfl.1
  refine ev_putf (v := .inl v) hfl (hW.1 h k n j v (by omega)).1 (hW.1 h k n j v (by omega)).2 (j_nfo hf) (fun al _ => by rw [hty]; exact ⟨rfl, rfl⟩) (sI_off h k n j v) (fun al => ?_) (fun _ q => by rw [sI_s]; exact q) (fun q _ => q k n j) (fun _ m q => absurd q (by omega)) hdg K
  unfold j_fv; rw [if_pos (by omega), sI_s]; rfl
theorem ev_putZ (hW : j_WOK w) {k : Nat} {n : Int} {j index : Nat} {v : Int} (hv : v = 0 ∨ v = 1) (hfl : j_FL M.1 index k j 1) (e1 : h1 = sI h k n (j : Int) v) (hdg : decode M.2.1 pc = .ok (.putfield index, 3)) (hf : j_nf k j = true := by rfl) (K : Ev w d mc ms M (pc + 3) lv st h1 r h') : Ev w d mc ms M pc lv (.inl v :: .inr (.inr (some (k, n))) :: st) h r h' := by
  subst e1
  have hty := j_ct1 (by have := (j_cd k hfl.1).2.2.2.2 j hfl.2.1; rw [hfl.2.2.1] at this; exact this)
  have hk := hfl.1
  refine ev_putf (v := .inl v) hfl (hW.1 h k n j v (by omega)).1 (hW.1 h k n j v (by omega)).2 (j_nfo hf) (fun al _ => by rw [hty]; exact (by rcases hv with rfl | rfl <;> exact ⟨rfl, rfl⟩)) (sI_off h k n j v) (fun al => ?_) (fun _ q => by rw [sI_s]; exact q) (fun q _ => q k n j) (fun _ m q => absurd q (by omega)) hdg K
  unfold j_fv; rw [if_pos (by omega), sI_s]; rfl
theorem ev_putL (hW : j_WOK w) {k : Nat} {n : Int} {j index : Nat} {v : Int} (hfl : j_FL M.1 index k j 3) (e1 : h1 = sL h k n (j : Int) v) (hdg : decode M.2.1 pc = .ok (.putfield index, 3)) (hf : j_nf k j = true := by rfl) (K : Ev w d mc ms M (pc + 3) lv st h1 r h') : Ev w d mc ms M pc lv (.inr (.inl v) :: .inr (.inr (some (k, n))) :: st) h r h' := by
  subst e1
  have hty := j_ct3 (by have := (j_cd k hfl.1).2.2.2.2 j hfl.2.1; rw [hfl.2.2.1] at this; exact this)
  refine ev_putf (v := .inr (.inl v)) hfl (hW.2.1 h k n j v).1 (hW.2.1 h k n j v).2 (j_nfo hf) (fun al _ => by rw [hty]; exact ⟨rfl, rfl⟩) (sL_off h k n j v) (fun al => ?_) (fun q _ => q k n j) (fun _ q => by rw [sL_s]; exact q) (fun _ m q => absurd q (by omega)) hdg K
  unfold j_fv; rw [if_neg (by omega), if_pos rfl, sL_s]; rfl
theorem ev_putR (hW : j_WOK w) {k : Nat} {n : Int} {j index : Nat} {t : Nat} (y : Option Int) {x : Option (Nat × Int)} (hfl : j_FL M.1 index k j (t + 10)) (e1 : h1 = sR h k n (j : Int) y) (hx : y.map (Prod.mk t) = x := by rfl) (hly : w.2.2 k n (j : Int) = none := by rfl) (hdg : decode M.2.1 pc = .ok (.putfield index, 3)) (hf : j_nf k j = true := by rfl) (K : Ev w d mc ms M (pc + 3) lv st h1 r h') : Ev w d mc ms M pc lv (.inr (.inr x) :: .inr (.inr (some (k, n))) :: st) h r h' := by
  subst e1
  subst hx
  have hty := j_ctR (by have := (j_cd k hfl.1).2.2.2.2 j hfl.2.1; rw [hfl.2.2.1] at this; exact this)
  have hRj : j_R w (sR h k n j y) k n j = y := by unfold j_R; rw [hly]; exact sR_s h k n j y
  refine ev_putf (v := .inr (.inr (y.map (Prod.mk t)))) hfl (hW.2.2 h k n j y).1 (hW.2.2 h k n j y).2 (j_nfo hf) (fun al _ => ?_) (sR_off h k n j y) (fun al => ?_) (fun q _ => q k n j) (fun q _ => q k n j) (fun q m _ hm => ?_) hdg K
  · rcases hty with ⟨_, e⟩ | ⟨_, e⟩ <;> rw [e] <;> cases y <;> exact ⟨rfl, rfl⟩
  · unfold j_fv; rw [if_neg (by omega), if_neg (by omega), hRj]; cases y <;> rfl
  · rw [hRj] at hm; subst hm; exact q
theorem ev_putIF (hW : j_WOK w) {k : Nat} {n : Int} {j index : Nat} {v : Int} (hfl : j_FL M.1 index k j 0) (e1 : h1 = sI h k n (j : Int) v) (hdg : decode M.2.1 pc = .ok (.putfield index, 3)) (hf : j_fi M k j = true := by decide +kernel) (K : Ev w d mc ms M (pc + 3) lv st h1 r h') : Ev w d mc ms M pc lv (.inl v :: .inr (.inr (some (k, n))) :: st) h r h' := by
  subst e1
  have hty := j_ct0 (by have := (j_cd k hfl.1).2.2.2.2 j hfl.2.1; rw [hfl.2.2.1] at this; exact this)
  have hk := hfl.1
  refine ev_putf (v := .inl v) hfl (hW.1 h k n j v (by omega)).1 (hW.1 h k n j v (by omega)).2 (j_fio hf) (fun al _ => by rw [hty]; exact ⟨rfl, rfl⟩) (sI_off h k n j v) (fun al => ?_) (fun _ q => by rw [sI_s]; exact q) (fun q _ => q k n j) (fun _ m q => absurd q (by omega)) hdg K
  unfold j_fv; rw [if_pos (by omega), sI_s]; rfl
theorem ev_putZF (hW : j_WOK w) {k : Nat} {n : Int} {j index : Nat} {v : Int} (hv : v = 0 ∨ v = 1) (hfl : j_FL M.1 index k j 1) (e1 : h1 = sI h k n (j : Int) v) (hdg : decode M.2.1 pc = .ok (.putfield index, 3)) (hf : j_fi M k j = true := by decide +kernel) (K : Ev w d mc ms M (pc + 3) lv st h1 r h') : Ev w d mc ms M pc lv (.inl v :: .inr (.inr (some (k, n))) :: st) h r h' := by
  subst e1
  have hty := j_ct1 (by have := (j_cd k hfl.1).2.2.2.2 j hfl.2.1; rw [hfl.2.2.1] at this; exact this)
  have hk := hfl.1
  refine ev_putf (v := .inl v) hfl (hW.1 h k n j v (by omega)).1 (hW.1 h k n j v (by omega)).2 (j_fio hf) (fun al _ => by rw [hty]; exact (by rcases hv with rfl | rfl <;> exact ⟨rfl, rfl⟩)) (sI_off h k n j v) (fun al => ?_) (fun _ q => by rw [sI_s]; exact q) (fun q _ => q k n j) (fun _ m q => absurd q (by omega)) hdg K
  unfold j_fv; rw [if_pos (by omega), sI_s]; rfl
theorem ev_putLF (hW : j_WOK w) {k : Nat} {n : Int} {j index : Nat} {v : Int} (hfl : j_FL M.1 index k j 3) (e1 : h1 = sL h k n (j : Int) v) (hdg : decode M.2.1 pc = .ok (.putfield index, 3)) (hf : j_fi M k j = true := by decide +kernel) (K : Ev w d mc ms M (pc + 3) lv st h1 r h') : Ev w d mc ms M pc lv (.inr (.inl v) :: .inr (.inr (some (k, n))) :: st) h r h' := by
  subst e1
  have hty := j_ct3 (by have := (j_cd k hfl.1).2.2.2.2 j hfl.2.1; rw [hfl.2.2.1] at this; exact this)
  refine ev_putf (v := .inr (.inl v)) hfl (hW.2.1 h k n j v).1 (hW.2.1 h k n j v).2 (j_fio hf) (fun al _ => by rw [hty]; exact ⟨rfl, rfl⟩) (sL_off h k n j v) (fun al => ?_) (fun q _ => q k n j) (fun _ q => by rw [sL_s]; exact q) (fun _ m q => absurd q (by omega)) hdg K
  unfold j_fv; rw [if_neg (by omega), if_pos rfl, sL_s]; rfl
theorem ev_putRF (hW : j_WOK w) {k : Nat} {n : Int} {j index : Nat} {t : Nat} (y : Option Int) {x : Option (Nat × Int)} (hfl : j_FL M.1 index k j (t + 10)) (e1 : h1 = sR h k n (j : Int) y) (hx : y.map (Prod.mk t) = x := by rfl) (hly : w.2.2 k n (j : Int) = none := by rfl) (hdg : decode M.2.1 pc = .ok (.putfield index, 3)) (hf : j_fi M k j = true := by decide +kernel) (K : Ev w d mc ms M (pc + 3) lv st h1 r h') : Ev w d mc ms M pc lv (.inr (.inr x) :: .inr (.inr (some (k, n))) :: st) h r h' := by
  subst e1
  subst hx
  have hty := j_ctR (by have := (j_cd k hfl.1).2.2.2.2 j hfl.2.1; rw [hfl.2.2.1] at this; exact this)
  have hRj : j_R w (sR h k n j y) k n j = y := by unfold j_R; rw [hly]; exact sR_s h k n j y
  refine ev_putf (v := .inr (.inr (y.map (Prod.mk t)))) hfl (hW.2.2 h k n j y).1 (hW.2.2 h k n j y).2 (j_fio hf) (fun al _ => ?_) (sR_off h k n j y) (fun al => ?_) (fun q _ => q k n j) (fun q _ => q k n j) (fun q m _ hm => ?_) hdg K
  · rcases hty with ⟨_, e⟩ | ⟨_, e⟩ <;> rw [e] <;> cases y <;> exact ⟨rfl, rfl⟩
  · unfold j_fv; rw [if_neg (by omega), if_neg (by omega), hRj]; cases y <;> rfl
  · rw [hRj] at hm; subst hm; exact q
def j_tp : Nat → Nat
  | 0 => 4
  | 1 => 5
  | 2 => 6
  | 4 => 7
  | 6 => 8
  | 8 => 9
  | _ => 10
theorem j_cellA {G : JG} {al : JA} {k : Nat} {n : Int} {c : Nat} {len : Int} (hk : decide (13 ≤ k) = true) (hc : j_code k 0 = c) (hlen : w.2.1 h k n = len) : j_cell w G al h k n = .inl (G.2.1.1 c, len.toNat, j_av w al h k n c) := by
  unfold j_cell
  have := of_decide_eq_true hk
  rw [if_neg (by omega), hc, hlen]
theorem j_avI {al : JA} {k : Nat} {n : Int} {c : Nat} (hc : c ≤ 2) : j_av w al h k n c = .inl (fun i => Int32.ofInt (h.1 k n i)) := if_pos hc
theorem j_avL {al : JA} {k : Nat} {n : Int} : j_av w al h k n 3 = .inr (.inl (fun i => Int64.ofInt (h.2.1 k n i))) := by unfold j_av; rw [if_neg (by decide), if_pos rfl]
theorem j_avR {al : JA} {k : Nat} {n : Int} {t : Nat} : j_av w al h k n (t + 10) = .inr (.inr (.inr (.inr (fun i => (j_R w h k n i).map (al t))))) := by unfold j_av; rw [if_neg (by omega), if_neg (by omega), Nat.add_sub_cancel]
theorem j_ix {i len : Int} (hr : j_r32 i) (h0 : 0 ≤ i) (hl : i < len) : vp_in (Int32.ofInt i) len.toNat ∧ (Int32.ofInt i).toNatClampNeg = i.toNat ∧ ((i.toNat : Nat) : Int) = i := by
  refine ⟨?_, ?_, Int.toNat_of_nonneg h0⟩
  · rw [vp_in_iff, j_t32 hr]; omega
  · show (Int32.ofInt i).toInt.toNat = i.toNat
    rw [j_t32 hr]
theorem ev_iaload {k : Nat} {n i len : Int} {x : Int} (h0 : 0 ≤ i) (hl0 : i < len) (hdg : decode M.2.1 pc = .ok (.iaload, 1)) (hk : decide (13 ≤ k) = true := by rfl) (h9 : decide (k ≠ 99) = true := by rfl) (hc : j_code k 0 = 0 := by rfl) (hlen : w.2.1 h k n = len := by rfl) (hx : h.1 k n i = x := by rfl) (K : Ev w d mc ms M (pc + 1) lv (.inl x :: st) h r h') : Ev w d mc ms M pc lv (.inl i :: .inr (.inr (some (k, n))) :: st) h r h' := by
  intro hlv hst p l e R s m args below meth c H locs cells slots ls G al al0 h0' F S hl
  obtain ⟨q1, q2, q3⟩ := j_ix (j_h hst) h0 hl0
  have hP := j_P1 S.1 (j_h (j_tl hst)) (of_decide_eq_true h9)
  rw [j_cellA hk hc hlen, j_avI (by decide)] at hP
  refine va_iald (a := al k n) F.1 F.2.1 F.2.2.2.2.2.2.2.2.2.2.2.2.2 hP 0 0 rfl rfl q1 hdg ?_
  rw [q2, q3, hx]
  exact K hlv (j_cn (by rw [← hx]; exact S.1.2.2.2.1 k n i) (j_tl (j_tl hst))) p l e R s m args below meth c H locs cells slots ls G al al0 h0' F S hl
theorem ev_zaload {k : Nat} {n i len : Int} {x : Int} (h0 : 0 ≤ i) (hl0 : i < len) (hdg : decode M.2.1 pc = .ok (.baload, 1)) (hk : decide (13 ≤ k) = true := by rfl) (h9 : decide (k ≠ 99) = true := by rfl) (hc : j_code k 0 = 1 := by rfl) (hlen : w.2.1 h k n = len := by rfl) (hx : h.1 k n i = x := by rfl) (K : Ev w d mc ms M (pc + 1) lv (.inl x :: st) h r h') : Ev w d mc ms M pc lv (.inl i :: .inr (.inr (some (k, n))) :: st) h r h' := by
  intro hlv hst p l e R s m args below meth c H locs cells slots ls G al al0 h0' F S hl
  obtain ⟨q1, q2, q3⟩ := j_ix (j_h hst) h0 hl0
  have hP := j_P1 S.1 (j_h (j_tl hst)) (of_decide_eq_true h9)
  rw [j_cellA hk hc hlen, j_avI (by decide)] at hP
  refine va_zald (a := al k n) F.1 F.2.1 F.2.2.2.2.2.2.2.2.2.2.2.2.2 hP 0 1 rfl rfl q1 hdg ?_
  rw [q2, q3, hx]
  exact K hlv (j_cn (by rw [← hx]; exact S.1.2.2.2.1 k n i) (j_tl (j_tl hst))) p l e R s m args below meth c H locs cells slots ls G al al0 h0' F S hl
theorem ev_baload {k : Nat} {n i len : Int} {x : Int} (h0 : 0 ≤ i) (hl0 : i < len) (hdg : decode M.2.1 pc = .ok (.baload, 1)) (hk : decide (13 ≤ k) = true := by rfl) (h9 : decide (k ≠ 99) = true := by rfl) (hc : j_code k 0 = 2 := by rfl) (hlen : w.2.1 h k n = len := by rfl) (hx : h.1 k n i = x := by rfl) (K : Ev w d mc ms M (pc + 1) lv (.inl x :: st) h r h') : Ev w d mc ms M pc lv (.inl i :: .inr (.inr (some (k, n))) :: st) h r h' := by
  intro hlv hst p l e R s m args below meth c H locs cells slots ls G al al0 h0' F S hl
  obtain ⟨q1, q2, q3⟩ := j_ix (j_h hst) h0 hl0
  have hP := j_P1 S.1 (j_h (j_tl hst)) (of_decide_eq_true h9)
  rw [j_cellA hk hc hlen, j_avI (by decide)] at hP
  refine va_bald (a := al k n) F.1 F.2.1 F.2.2.2.2.2.2.2.2.2.2.2.2.2 hP 0 2 rfl rfl q1 hdg ?_
  rw [q2, q3, hx]
  exact K hlv (j_cn (by rw [← hx]; exact S.1.2.2.2.1 k n i) (j_tl (j_tl hst))) p l e R s m args below meth c H locs cells slots ls G al al0 h0' F S hl
theorem ev_laload {k : Nat} {n i len : Int} {x : Int} (h0 : 0 ≤ i) (hl0 : i < len) (hdg : decode M.2.1 pc = .ok (.laload, 1)) (hk : decide (13 ≤ k) = true := by rfl) (h9 : decide (k ≠ 99) = true := by rfl) (hc : j_code k 0 = 3 := by rfl) (hlen : w.2.1 h k n = len := by rfl) (hx : h.2.1 k n i = x := by rfl) (K : Ev w d mc ms M (pc + 1) lv (.inr (.inl x) :: st) h r h') : Ev w d mc ms M pc lv (.inl i :: .inr (.inr (some (k, n))) :: st) h r h' := by
  intro hlv hst p l e R s m args below meth c H locs cells slots ls G al al0 h0' F S hl
  obtain ⟨q1, q2, q3⟩ := j_ix (j_h hst) h0 hl0
  have hP := j_P1 S.1 (j_h (j_tl hst)) (of_decide_eq_true h9)
  rw [j_cellA hk hc hlen, j_avL] at hP
  refine va_lald (a := al k n) F.1 F.2.1 F.2.2.2.2.2.2.2.2.2.2.2.2.2 hP 0 3 rfl rfl q1 hdg ?_
  rw [q2, q3, hx]
  exact K hlv (j_cn (by rw [← hx]; exact S.1.2.2.2.2.1 k n i) (j_tl (j_tl hst))) p l e R s m args below meth c H locs cells slots ls G al al0 h0' F S hl
theorem ev_aaload {k : Nat} {n i len : Int} (t : Nat) {x : Option (Nat × Int)} (h0 : 0 ≤ i) (hl0 : i < len) (hdg : decode M.2.1 pc = .ok (.aaload, 1)) (hk : decide (13 ≤ k) = true := by rfl) (h9 : decide (k ≠ 99) = true := by rfl) (hc : j_code k 0 = t + 10 := by rfl) (hlen : w.2.1 h k n = len := by rfl) (ht : ∀ aC, (j_tys aC)[j_tp t]? = some (aC (t + 10), .object (j_cl t).1) := by intro _; rfl) (hx : (j_R w h k n i).map (Prod.mk t) = x := by rfl) (K : Ev w d mc ms M (pc + 1) lv (.inr (.inr x) :: st) h r h') : Ev w d mc ms M pc lv (.inl i :: .inr (.inr (some (k, n))) :: st) h r h' := by
  intro hlv hst p l e R s m args below meth c H locs cells slots ls G al al0 h0' F S hl
  obtain ⟨q1, q2, q3⟩ := j_ix (j_h hst) h0 hl0
  have hP := j_P1 S.1 (j_h (j_tl hst)) (of_decide_eq_true h9)
  rw [j_cellA hk hc hlen, j_avR] at hP
  refine va_aldq (a := al k n) F.1 F.2.1 F.2.2.2.2.2.2.2.2.2.2.2.2.2 hP 0 (j_tp t) rfl (ht _) q1 hdg ?_
  rw [q2, q3]
  have hv : va_rf ((j_R w h k n i).map (al t)) = j_v al (.inr (.inr x)) := by rw [← hx]; cases j_R w h k n i <;> rfl
  rw [hv]
  refine K hlv (j_cn ?_ (j_tl (j_tl hst))) p l e R s m args below meth c H locs cells slots ls G al al0 h0' F S hl
  rw [← hx]
  cases hq : j_R w h k n i with
  | none => trivial
  | some mm =>
    have hcode : j_code k i.toNat = t + 10 := by
      have := of_decide_eq_true hk
      unfold j_code at hc ⊢
      rw [if_neg (by omega)] at hc ⊢
      exact hc
    have := S.1.2.2.2.2.2.1 k n i.toNat mm (j_h (j_tl hst)) (by rw [hcode]; omega) (fun z => by have := of_decide_eq_true hk; omega) (fun _ => by rw [hlen, q3]; exact hl0) (by rw [q3]; exact hq)
    rw [hcode] at this
    exact this
theorem ev_alen {k : Nat} {n len : Int} {c t0 : Nat} {ty : FieldType} (hdg : decode M.2.1 pc = .ok (.arraylength, 1)) (ht : ∀ aC, (j_tys aC)[t0]? = some (aC c, ty)) (h0 : 0 ≤ len) (hl0 : len < 2147483648) (hk : decide (13 ≤ k) = true := by rfl) (h9 : decide (k ≠ 99) = true := by rfl) (hc : j_code k 0 = c := by rfl) (hlen : w.2.1 h k n = len := by rfl) (K : Ev w d mc ms M (pc + 1) lv (.inl len :: st) h r h') : Ev w d mc ms M pc lv (.inr (.inr (some (k, n))) :: st) h r h' := by
  intro hlv hst p l e R s m args below meth c H locs cells slots ls G al al0 h0' F S hl
  have hP := j_P1 S.1 (j_h hst) (of_decide_eq_true h9)
  rw [j_cellA hk hc hlen] at hP
  refine va_alen (a := al k n) (v := Int32.ofInt len) F.1 F.2.1 F.2.2.2.2.2.2.2.2.2.2.2.2.2 hP 0 t0 rfl (ht _) ?_ hdg ?_
  · show Int32.ofNat len.toNat = Int32.ofInt len
    conv => rhs; rw [← Int.toNat_of_nonneg h0]
    rfl
  · exact K hlv (j_cn ⟨by omega, by omega⟩ (j_tl hst)) p l e R s m args below meth c H locs cells slots ls G al al0 h0' F S hl
theorem ev_sload {n i len : Int} {x : Int} (h0 : 0 ≤ i) (hl0 : i < len) (hdg : decode M.2.1 pc = .ok (.iaload, 1)) (hlen : w.2.1 h 99 n = len := by rfl) (hx : h.1 99 n i = x := by rfl) (K : Ev w d mc ms M (pc + 1) lv (.inl x :: st) h r h') : Ev w d mc ms M pc lv (.inl i :: .inr (.inr (some (99, n))) :: st) h r h' := by
  intro hlv hst p l e R s m args below meth c H locs cells slots ls G al al0 h0' F S hl
  obtain ⟨q1, q2, q3⟩ := j_ix (j_h hst) h0 hl0
  obtain ⟨b1, b2, b3, b4, b5⟩ := S.1.2.2.2.2.2.2 n (j_h (j_tl hst))
  rw [hlen] at b4 b5
  have hi : i.toNat < len.toNat := by omega
  refine W.iald (a := al 99 n) (j := Int32.ofInt i) (v := .int (Int32.ofInt x)) F.1 F.2.1 b2 F.2.2.2.2.2.2.2.2.2.2.2.2.1.2.2.2 b3 ?_ ?_ rfl rfl hdg ?_
  · rw [b4]; exact q1
  · rw [q2, b5 i.toNat hi, q3, hx]
  · exact K hlv (j_cn (by rw [← hx]; exact S.1.2.2.2.1 99 n i) (j_tl (j_tl hst))) p l e R s m args below meth c H locs cells slots ls G al al0 h0' F S hl
theorem ev_slen {n len : Int} (hdg : decode M.2.1 pc = .ok (.arraylength, 1)) (h0 : 0 ≤ len) (hl0 : len < 2147483648) (hlen : w.2.1 h 99 n = len := by rfl) (K : Ev w d mc ms M (pc + 1) lv (.inl len :: st) h r h') : Ev w d mc ms M pc lv (.inr (.inr (some (99, n))) :: st) h r h' := by
  intro hlv hst p l e R s m args below meth c H locs cells slots ls G al al0 h0' F S hl
  obtain ⟨b1, b2, b3, b4, b5⟩ := S.1.2.2.2.2.2.2 n (j_h hst)
  rw [hlen] at b4
  refine W.alen (a := al 99 n) (n := Int32.ofInt len) F.1 F.2.1 b2 F.2.2.2.2.2.2.2.2.2.2.2.2.1.2.2.2 ?_ rfl rfl hdg ?_
  · rw [b4]
    show Int32.ofNat len.toNat = Int32.ofInt len
    conv => rhs; rw [← Int.toNat_of_nonneg h0]
    exact Int32.ofInt_eq_ofNat.symm
  · exact K hlv (j_cn ⟨by omega, by omega⟩ (j_tl hst)) p l e R s m args below meth c H locs cells slots ls G al al0 h0' F S hl
/-- behind a store into an array -/
theorem j_after {k : Nat} {n : Int} {c : Nat} {len i : Int} {v : JV} (hd : w.1 h1 = w.1 h) (hln : w.2.1 h1 = w.2.1 h) (hk : decide (13 ≤ k) = true) (h99 : decide (k ≠ 99) = true) (hc : j_code k 0 = c) (hlen : w.2.1 h k n = len)
    (off : ∀ k' n' j', ¬ (k' = k ∧ n' = n ∧ j' = i) → h1.1 k' n' j' = h.1 k' n' j' ∧ h1.2.1 k' n' j' = h.2.1 k' n' j' ∧ h1.2.2 k' n' j' = h.2.2 k' n' j')
    (r1 : (∀ k n j, j_r32 (h.1 k n j)) → j_r32 (h1.1 k n i)) (r2 : (∀ k n j, j_r64 (h.2.1 k n j)) → j_r64 (h1.2.1 k n i)) (rf : ∀ m, 10 ≤ c → j_R w h1 k n i = some m → w.1 h (c - 10) m)
    (K : Ev w d mc ms M pc lv st h1 r h') (hlv : ∀ q ∈ lv, j_ok w h q.2) (hst : ∀ u ∈ st, j_ok w h u) (hdm : w.1 h k n) {p : Program} {l : Launch} {e : Env} {R : Room} {s : State} {m : MethodId} {args : Array Value} {below : List Frame} {meth : Method} {c0 : Code} {H H1 : Heap} {locs : List Loc} {lo : Loc} {cells slots : Nat} {ls : Array Slot} {G : JG} {al al0 : JA} {h0 : JM}
    (F : j_F d mc ms M p R s m args meth c0 cells slots G) (S : j_S w G al al0 h0 h s H locs) (hl : lv_has ls M.2.2.1 (j_l al lv)) (hlo : lo.base = al k n) (hat : H1[al k n]? = some (vp_cell (G.2.1.1 c) (len.toNat, j_av w al h1 k n c))) (hz : H1.size = H.size) (oq : ∀ q, q ≠ al k n → H1[q]? = H[q]?) :
    W p l e R s m args below meth c0 H1 (locs ++ [lo]) cells slots (MQ below (j_Q w G al0 h0 r h') args s (cells + mc) (slots + ms) (fun q => G.2.2 ≤ q)) (F0 m pc ls (st.map (j_v al))) := by
  have hA : G.2.2 ≤ al k n := S.1.2.2.1 k n hdm (of_decide_eq_true h99)
  have hS1 : va_S (fun q => G.2.2 ≤ q) s.heap H1 (locs ++ [lo]) := by
    have := S.2.1.put (k := lo.slot) hz oq hA
    rw [← hlo] at this
    exact this
  have hcode : ∀ j, j_code k j = c := by
    intro j
    have := of_decide_eq_true hk
    rw [← hc]
    unfold j_code
    rw [if_neg (by omega), if_neg (by omega)]
  have hR1 : j_Rep w G al h1 H1 := by
    refine j_Rep.upd S.1 hd hln (fun k' n' j' hq => off k' n' j' (fun q => hq ⟨q.1, q.2.1⟩)) (fun k' n' j' => ?_) (fun k' n' j' => ?_) (fun j mm hi hb1 hb2 hm => ?_) hdm (of_decide_eq_true h99) ?_ oq
    · by_cases hq : k' = k ∧ n' = n ∧ j' = i
      · obtain ⟨rfl, rfl, rfl⟩ := hq; exact r1 S.1.2.2.2.1
      · rw [(off k' n' j' hq).1]; exact S.1.2.2.2.1 _ _ _
    · by_cases hq : k' = k ∧ n' = n ∧ j' = i
      · obtain ⟨rfl, rfl, rfl⟩ := hq; exact r2 S.1.2.2.2.2.1
      · rw [(off k' n' j' hq).2.1]; exact S.1.2.2.2.2.1 _ _ _
    · rw [hcode] at hi ⊢
      by_cases hij : (j : Int) = i
      · rw [hij] at hm; exact rf mm hi hm
      · have hm2 : j_R w h k n j = some mm := by rw [← hm]; unfold j_R; rw [(off k n j (fun q => hij q.2.2)).2.2]
        have := S.1.2.2.2.2.2.1 k n j mm hdm (by rw [hcode]; exact hi) hb1 hb2 hm2
        rw [hcode] at this
        exact this
    · rw [j_cellA (len := len) hk hc (by rw [hln]; exact hlen)]
      exact hat
  exact K (fun q hq => j_okeq hd (hlv q hq)) (fun u hu => j_okeq hd (hst u hu)) p l e R s m args below meth c0 H1 (locs ++ [lo]) cells slots ls G al al0 h0 F ⟨hR1, hS1, fun k' n' hq => by rw [hd]; exact S.2.2 k' n' hq⟩ hl
theorem j_toN {i : Int} {q : Nat} (h0 : 0 ≤ i) (hq : ¬ q = i.toNat) : ¬ (q : Int) = i := by omega
theorem ev_iastore (hW : j_WOK w) {k : Nat} {n i len : Int} {v : Int} (h0 : 0 ≤ i) (hl0 : i < len) (e1 : h1 = sI h k n i (v)) (hdg : decode M.2.1 pc = .ok (.iastore, 1)) (hkt : decide (k < 1000) = true := by rfl) (h99 : decide (k ≠ 99) = true := by rfl) (hk : decide (13 ≤ k) = true := by rfl) (h9 : decide (k ≠ 99) = true := by rfl) (hc : j_code k 0 = 0 := by rfl) (hlen : w.2.1 h k n = len := by rfl) (K : Ev w d mc ms M (pc + 1) lv st h1 r h') : Ev w d mc ms M pc lv (.inl v :: .inl i :: .inr (.inr (some (k, n))) :: st) h r h' := by
  subst e1
  have hkt := of_decide_eq_true hkt
  intro hlv hst p l e R s m args below meth c H locs cells slots ls G al al0 h0' F S hl
  obtain ⟨q1, q2, q3⟩ := j_ix (j_h (j_tl hst)) h0 hl0
  have hdm : w.1 h k n := j_h (j_tl (j_tl hst))
  have hP := S.1.1 k n hdm (of_decide_eq_true h99)
  rw [j_cellA hk hc hlen, j_avI (by decide)] at hP
  have hP : H[al k n]? = some (arrV (G.2.1.1 0) len.toNat (fun j => .int (Int32.ofInt (h.1 k n j)))) := hP
  refine jw_iast (a := al k n) (i := Int32.ofInt i) (x := Int32.ofInt v) F.1 F.2.1 F.2.2.2.2.2.2.2.2.2.2.2.2.2 0 hP rfl q1 hdg (fun H1 lo hlo e z oq => ?_)
  refine j_after (v := .inl v) (i := i) (hW.1 h k n i _ hkt).1 (hW.1 h k n i _ hkt).2 hk h99 hc hlen (sI_off h k n i _) (fun _ => by rw [sI_s]; exact (j_h hst)) (fun q => q k n i) (fun m q => absurd q (by omega)) K hlv (j_tl (j_tl (j_tl hst))) hdm F S hl hlo ?_ z oq
  rw [e, j_avI (by decide), vp_cell_i, q2]
  congr 2
  funext q
  unfold updV
  by_cases hq : q = i.toNat
  · rw [if_pos hq, hq, q3, sI_s]
  · rw [if_neg hq, (sI_off h k n i _ k n q (fun z => j_toN h0 hq z.2.2)).1]
theorem ev_bastore (hW : j_WOK w) {k : Nat} {n i len : Int} {v : Int} (h0 : 0 ≤ i) (hl0 : i < len) (e1 : h1 = sI h k n i (j_i2b v)) (hdg : decode M.2.1 pc = .ok (.bastore, 1)) (hkt : decide (k < 1000) = true := by rfl) (h99 : decide (k ≠ 99) = true := by rfl) (hk : decide (13 ≤ k) = true := by rfl) (h9 : decide (k ≠ 99) = true := by rfl) (hc : j_code k 0 = 2 := by rfl) (hlen : w.2.1 h k n = len := by rfl) (K : Ev w d mc ms M (pc + 1) lv st h1 r h') : Ev w d mc ms M pc lv (.inl v :: .inl i :: .inr (.inr (some (k, n))) :: st) h r h' := by
  subst e1
  have hkt := of_decide_eq_true hkt
  intro hlv hst p l e R s m args below meth c H locs cells slots ls G al al0 h0' F S hl
  obtain ⟨q1, q2, q3⟩ := j_ix (j_h (j_tl hst)) h0 hl0
  have hdm : w.1 h k n := j_h (j_tl (j_tl hst))
  have hP := S.1.1 k n hdm (of_decide_eq_true h99)
  rw [j_cellA hk hc hlen, j_avI (by decide)] at hP
  have hP : H[al k n]? = some (arrV (G.2.1.1 2) len.toNat (fun j => .int (Int32.ofInt (h.1 k n j)))) := hP
  refine jw_bast (a := al k n) (i := Int32.ofInt i) (x := Int32.ofInt v) F.1 F.2.1 F.2.2.2.2.2.2.2.2.2.2.2.2.2 2 hP rfl q1 hdg (fun H1 lo hlo e z oq => ?_)
  refine j_after (v := .inl v) (i := i) (hW.1 h k n i _ hkt).1 (hW.1 h k n i _ hkt).2 hk h99 hc hlen (sI_off h k n i _) (fun _ => by rw [sI_s]; exact (j_b32 _)) (fun q => q k n i) (fun m q => absurd q (by omega)) K hlv (j_tl (j_tl (j_tl hst))) hdm F S hl hlo ?_ z oq
  rw [e, j_avI (by decide), vp_cell_i, q2]
  congr 2
  funext q
  unfold updV
  by_cases hq : q = i.toNat
  · rw [if_pos hq, hq, q3, sI_s]; rw [j_i2b, Int32.ofInt_toInt]
  · rw [if_neg hq, (sI_off h k n i _ k n q (fun z => j_toN h0 hq z.2.2)).1]
theorem ev_zastore (hW : j_WOK w) {k : Nat} {n i len : Int} {v : Int} (h0 : 0 ≤ i) (hl0 : i < len) (hv : v = 0 ∨ v = 1) (e1 : h1 = sI h k n i (v)) (hdg : decode M.2.1 pc = .ok (.bastore, 1)) (hkt : decide (k < 1000) = true := by rfl) (h99 : decide (k ≠ 99) = true := by rfl) (hk : decide (13 ≤ k) = true := by rfl) (h9 : decide (k ≠ 99) = true := by rfl) (hc : j_code k 0 = 1 := by rfl) (hlen : w.2.1 h k n = len := by rfl) (K : Ev w d mc ms M (pc + 1) lv st h1 r h') : Ev w d mc ms M pc lv (.inl v :: .inl i :: .inr (.inr (some (k, n))) :: st) h r h' := by
  subst e1
  have hkt := of_decide_eq_true hkt
  intro hlv hst p l e R s m args below meth c H locs cells slots ls G al al0 h0' F S hl
  obtain ⟨q1, q2, q3⟩ := j_ix (j_h (j_tl hst)) h0 hl0
  have hdm : w.1 h k n := j_h (j_tl (j_tl hst))
  have hP := S.1.1 k n hdm (of_decide_eq_true h99)
  rw [j_cellA hk hc hlen, j_avI (by decide)] at hP
  have hP : H[al k n]? = some (arrV (G.2.1.1 1) len.toNat (fun j => .int (Int32.ofInt (h.1 k n j)))) := hP
  refine jw_zast (a := al k n) (i := Int32.ofInt i) (x := Int32.ofInt v) F.1 F.2.1 F.2.2.2.2.2.2.2.2.2.2.2.2.2 1 hP rfl q1 hdg (fun H1 lo hlo e z oq => ?_)
  refine j_after (v := .inl v) (i := i) (hW.1 h k n i _ hkt).1 (hW.1 h k n i _ hkt).2 hk h99 hc hlen (sI_off h k n i _) (fun _ => by rw [sI_s]; exact (j_h hst)) (fun q => q k n i) (fun m q => absurd q (by omega)) K hlv (j_tl (j_tl (j_tl hst))) hdm F S hl hlo ?_ z oq
  rw [e, j_avI (by decide), vp_cell_i, q2]
  congr 2
  funext q
  unfold updV
  by_cases hq : q = i.toNat
  · rw [if_pos hq, hq, q3, sI_s]; rcases hv with rfl | rfl <;> rfl
  · rw [if_neg hq, (sI_off h k n i _ k n q (fun z => j_toN h0 hq z.2.2)).1]
theorem ev_lastore (hW : j_WOK w) {k : Nat} {n i len : Int} {v : Int} (h0 : 0 ≤ i) (hl0 : i < len) (e1 : h1 = sL h k n i v) (hdg : decode M.2.1 pc = .ok (.lastore, 1)) (h99 : decide (k ≠ 99) = true := by rfl) (hk : decide (13 ≤ k) = true := by rfl) (h9 : decide (k ≠ 99) = true := by rfl) (hc : j_code k 0 = 3 := by rfl) (hlen : w.2.1 h k n = len := by rfl) (K : Ev w d mc ms M (pc + 1) lv st h1 r h') : Ev w d mc ms M pc lv (.inr (.inl v) :: .inl i :: .inr (.inr (some (k, n))) :: st) h r h' := by
  subst e1
  intro hlv hst p l e R s m args below meth c H locs cells slots ls G al al0 h0' F S hl
  obtain ⟨q1, q2, q3⟩ := j_ix (j_h (j_tl hst)) h0 hl0
  have hdm : w.1 h k n := j_h (j_tl (j_tl hst))
  have hP := S.1.1 k n hdm (of_decide_eq_true h99)
  rw [j_cellA hk hc hlen, j_avL] at hP
  have hP : H[al k n]? = some (arrV (G.2.1.1 3) len.toNat (fun j => .long (Int64.ofInt (h.2.1 k n j)))) := hP
  refine jw_last (a := al k n) (i := Int32.ofInt i) (x := Int64.ofInt v) F.1 F.2.1 F.2.2.2.2.2.2.2.2.2.2.2.2.2 3 hP rfl q1 hdg (fun H1 lo hlo e z oq => ?_)
  refine j_after (v := .inl v) (i := i) (hW.2.1 h k n i _).1 (hW.2.1 h k n i _).2 hk h99 hc hlen (sL_off h k n i _) (fun q => q k n i) (fun _ => by rw [sL_s]; exact (j_h hst)) (fun m q => absurd q (by omega)) K hlv (j_tl (j_tl (j_tl hst))) hdm F S hl hlo ?_ z oq
  rw [e, j_avL, vp_cell_l, q2]
  congr 2
  funext q
  unfold updV
  by_cases hq : q = i.toNat
  · rw [if_pos hq, hq, q3, sL_s]
  · rw [if_neg hq, (sL_off h k n i _ k n q (fun z => j_toN h0 hq z.2.2)).2.1]
theorem ev_aastore (hW : j_WOK w) {k : Nat} {n i len : Int} (t : Nat) (y : Option Int) {x : Option (Nat × Int)} (h0 : 0 ≤ i) (hl0 : i < len) (e1 : h1 = sR h k n i y) (hdg : decode M.2.1 pc = .ok (.aastore, 1)) (hly : w.2.2 k n i = none := by rfl) (htt : decide (t < 13) = true := by rfl) (ht : ∀ aC, (j_tys aC)[j_tp t]? = some (aC (t + 10), .object (j_cl t).1) := by intro _; rfl) (hx : y.map (Prod.mk t) = x := by rfl) (h99 : decide (k ≠ 99) = true := by rfl) (hk : decide (13 ≤ k) = true := by rfl) (h9 : decide (k ≠ 99) = true := by rfl) (hc : j_code k 0 = t + 10 := by rfl) (hlen : w.2.1 h k n = len := by rfl) (K : Ev w d mc ms M (pc + 1) lv st h1 r h') : Ev w d mc ms M pc lv (.inr (.inr x) :: .inl i :: .inr (.inr (some (k, n))) :: st) h r h' := by
  subst e1
  subst hx
  intro hlv hst p l e R s m args below meth c H locs cells slots ls G al al0 h0' F S hl
  have htt := of_decide_eq_true htt
  obtain ⟨q1, q2, q3⟩ := j_ix (j_h (j_tl hst)) h0 hl0
  have hdm : w.1 h k n := j_h (j_tl (j_tl hst))
  have hP := S.1.1 k n hdm (of_decide_eq_true h99)
  have hokv := j_h hst
  rw [j_cellA hk hc hlen, j_avR] at hP
  have hP : H[al k n]? = some (arrV (G.2.1.1 (t + 10)) len.toNat (fun j => va_rf ((j_R w h k n j).map (al t)))) := hP
  have hRj : j_R w (sR h k n i y) k n i = y := by unfold j_R; rw [hly]; exact sR_s h k n i y
  have fin : ∀ (H1 : Heap) (lo : Loc), lo.base = al k n → H1[al k n]? = some (arrV (G.2.1.1 (t + 10)) len.toNat (updV (fun j => va_rf ((j_R w h k n j).map (al t))) (Int32.ofInt i).toNatClampNeg (va_rf (y.map (al t))))) → H1.size = H.size → (∀ q, q ≠ al k n → H1[q]? = H[q]?) → W p l e R s m args below meth c H1 (locs ++ [lo]) cells slots (MQ below (j_Q w G al0 h0' r h') args s (cells + mc) (slots + ms) (fun q => G.2.2 ≤ q)) (F0 m (pc + 1) ls (st.map (j_v al))) := by
    intro H1 lo hlo e z oq
    refine j_after (v := .inl 0) (i := i) (hW.2.2 h k n i _).1 (hW.2.2 h k n i _).2 hk h99 hc hlen (sR_off h k n i _) (fun q => q k n i) (fun q => q k n i) (fun mm _ hm => ?_) K hlv (j_tl (j_tl (j_tl hst))) hdm F S hl hlo ?_ z oq
    · rw [hRj] at hm; subst hm; rw [Nat.add_sub_cancel]; exact hokv
    · rw [e, j_avR, vp_cell_q, q2]
      congr 2
      funext q
      unfold updV
      by_cases hq : q = i.toNat
      · rw [if_pos hq, hq, q3, hRj]
      · rw [if_neg hq]
        unfold j_R
        rw [(sR_off h k n i _ k n q (fun z => j_toN h0 hq z.2.2)).2.2]
  cases y with
  | none => exact jw_aastN (a := al k n) (i := Int32.ofInt i) F.1 F.2.1 F.2.2.2.2.2.2.2.2.2.2.2.2.2 (j_tp t) hP (ht _) q1 hdg fin
  | some v =>
    have hv := S.1.1 t v hokv (by omega)
    rw [j_cellO htt] at hv
    exact jw_aast (a := al k n) (i := Int32.ofInt i) (r := j_cl t) F.1 F.2.1 F.2.2.2.2.2.2.2.2.2.2.2.2.2 (j_tp t) t hP (ht _) hv (j_cd t htt).1 q1 hdg fin
end EVN
