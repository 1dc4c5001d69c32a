/-! ===== from the constructors' world to the law's ===== -/
theorem arrV_cg {cI : ClassId} {n : Nat} {f g : Nat → Value} (h : ∀ j, j < n → f j = g j) : arrV cI n f = arrV cI n g := by
  unfold arrV
  have : (Array.ofFn (n := n) fun j => f j.val) = Array.ofFn (n := n) fun j => g j.val := by
    congr 1
    funext j
    exact h j.val j.isLt
  rw [this]
set_option maxRecDepth 10000 in
theorem code_ok (k j : Nat) : j_code k j ≤ 3 ∨ 10 ≤ j_code k j := by
  unfold j_code
  split
  · have h1 : ∀ l ∈ j_fcs, ∀ c ∈ l, c ≤ 3 ∨ 10 ≤ c := by decide +kernel
    by_cases z : j < (j_fcs.getD k []).length
    · have h2 : (j_fcs.getD k []).getD j 0 ∈ j_fcs.getD k [] := by
        rw [List.getD_eq_getElem?_getD (l := j_fcs.getD k []), List.getElem?_eq_getElem z]
        exact List.getElem_mem z
      by_cases y : k < j_fcs.length
      · refine h1 (j_fcs.getD k []) ?_ _ h2
        rw [List.getD_eq_getElem?_getD, List.getElem?_eq_getElem y]
        exact List.getElem_mem y
      · rw [List.getD_eq_getElem?_getD (l := j_fcs), List.getElem?_eq_none (by omega)] at z
        exact absurd z (Nat.not_lt_zero _)
    · rw [List.getD_eq_getElem?_getD (l := j_fcs.getD k []), List.getElem?_eq_none (by omega)]
      exact Or.inl (Nat.zero_le _)
  · unfold j_ac
    split <;> omega
theorem rep01 {G : JG} {al : JA} {h : JM} {H : Heap} (hA : ∀ k n, k < 1000 → h.1 (k + 1000) n 0 = 1 → 13 ≤ k → j_ln h k n = h.1 (k + 1000) n 1) (hB : ∀ k n (j : Nat) r, k < 1000 → h.1 (k + 1000) n 0 = 1 → 10 ≤ j_code k j → (k < 13 → j < j_N k) → (13 ≤ k → (j : Int) < h.1 (k + 1000) n 1) → j_ly k n j = some r → h.2.2 k n j = r) (R : j_Rep j_W0 G al h H) : j_Rep j_W1 G al h H := by
  obtain ⟨r1, r2, r3, r4, r5, r6, r7⟩ := R
  have hR : ∀ k n (j : Nat), k < 1000 → h.1 (k + 1000) n 0 = 1 → 10 ≤ j_code k j → (k < 13 → j < j_N k) → (13 ≤ k → (j : Int) < h.1 (k + 1000) n 1) → j_R j_W1 h k n j = j_R j_W0 h k n j := fun k n j a b d e g => by
    show (match j_ly k n j with | some r => r | none => h.2.2 k n j) = h.2.2 k n j
    cases hl : j_ly k n j with
    | none => rfl
    | some r => exact (hB k n j r a b d e g hl).symm
  refine ⟨fun k n w k99 => ?_, r2, r3, r4, r5, fun k n j m w c1 c2 c3 c4 => ?_, r7⟩
  · have t := r1 k n w k99
    obtain ⟨w1, w2⟩ := id w
    by_cases z : k < 13
    · have e : j_cell j_W1 G al h k n = j_cell j_W0 G al h k n := by
        unfold j_cell
        rw [if_pos z, if_pos z]
        congr 2
        refine List.map_congr_left (fun j hj => ?_)
        have hj2 : j < j_N k := List.mem_range.1 hj
        unfold j_fv
        rcases code_ok k j with q | q
        · by_cases y : j_code k j ≤ 2
          · rw [if_pos y, if_pos y]
          · rw [if_neg y, if_neg y, if_pos (by omega), if_pos (by omega)]
        · rw [hR k n j w1 w2 q (fun _ => hj2) (fun y => by omega)]
      rw [e]; exact t
    · have el : j_W1.2.1 h k n = j_W0.2.1 h k n := hA k n w1 w2 (by omega)
      unfold j_cell at t ⊢
      rw [if_neg z] at t ⊢
      rw [el]
      show H[al k n]? = some (vp_cell _ _)
      have t2 : H[al k n]? = some (vp_cell (G.2.1.1 (j_code k 0)) ((j_W0.2.1 h k n).toNat, j_av j_W0 al h k n (j_code k 0))) := t
      rw [t2]
      congr 1
      unfold j_av
      by_cases y : j_code k 0 ≤ 2
      · rw [if_pos y, if_pos y]
      · rw [if_neg y, if_neg y]
        by_cases x : j_code k 0 = 3
        · rw [if_pos x, if_pos x]
        · rw [if_neg x, if_neg x, vp_cell_q, vp_cell_q]
          refine arrV_cg (fun j hj => ?_)
          have cj : j_code k j = j_code k 0 := by unfold j_code; rw [if_neg z, if_neg z]
          have hj2 : (j : Int) < h.1 (k + 1000) n 1 := by
            have : j < (h.1 (k + 1000) n 1).toNat := hj
            omega
          rw [hR k n j w1 w2 (by rw [cj]; have := code_ok k 0; omega) (fun q => absurd q z) (fun _ => hj2)]
  · obtain ⟨w1, w2⟩ := id w
    have c3' : 13 ≤ k → (j : Int) < h.1 (k + 1000) n 1 := fun q => by rw [← hA k n w1 w2 q]; exact c3 q
    exact r6 k n j m w c1 c2 c3' (by rw [← hR k n j w1 w2 c1 c2 c3']; exact c4)
theorem ln_ar : ∀ x ∈ m_ar, ∀ (h : JM) (n : Int), j_ln h x.1 n = x.2.2.1 := by
  unfold m_ar
  exact List.forall_mem_cons.mpr ⟨fun _ _ => rfl, List.forall_mem_cons.mpr ⟨fun _ _ => rfl, List.forall_mem_cons.mpr ⟨fun _ _ => rfl, List.forall_mem_cons.mpr ⟨fun _ _ => rfl, List.forall_mem_cons.mpr ⟨fun _ _ => rfl, List.forall_mem_cons.mpr ⟨fun _ _ => rfl, List.forall_mem_cons.mpr ⟨fun _ _ => rfl, List.forall_mem_cons.mpr ⟨fun _ _ => rfl, List.forall_mem_cons.mpr ⟨fun _ _ => rfl, List.forall_mem_cons.mpr ⟨fun _ _ => rfl, List.forall_mem_cons.mpr ⟨fun _ _ => rfl, List.forall_mem_cons.mpr ⟨fun _ _ => rfl, List.forall_mem_cons.mpr ⟨fun _ _ => rfl, List.forall_mem_cons.mpr ⟨fun _ _ => rfl, List.forall_mem_cons.mpr ⟨fun _ _ => rfl, List.forall_mem_cons.mpr ⟨fun _ _ => rfl, List.forall_mem_cons.mpr ⟨fun _ _ => rfl, List.forall_mem_cons.mpr ⟨fun _ _ => rfl, List.forall_mem_cons.mpr ⟨fun _ _ => rfl, List.forall_mem_cons.mpr ⟨fun _ _ => rfl, List.forall_mem_cons.mpr ⟨fun _ _ => rfl, List.forall_mem_cons.mpr ⟨fun _ _ => rfl, List.forall_mem_cons.mpr ⟨fun _ _ => rfl, List.forall_mem_cons.mpr ⟨fun _ _ => rfl, List.forall_mem_cons.mpr ⟨fun _ _ => rfl, List.forall_mem_cons.mpr ⟨fun _ _ => rfl, List.forall_mem_cons.mpr ⟨fun _ _ => rfl, List.forall_mem_cons.mpr ⟨fun _ _ => rfl, List.forall_mem_cons.mpr ⟨fun _ _ => rfl, List.forall_mem_cons.mpr ⟨fun _ _ => rfl, List.forall_mem_cons.mpr ⟨fun _ _ => rfl, List.forall_mem_cons.mpr ⟨fun _ _ => rfl, List.forall_mem_cons.mpr ⟨fun _ _ => rfl, List.forall_mem_cons.mpr ⟨fun _ _ => rfl, List.forall_mem_cons.mpr ⟨fun _ _ => rfl, List.forall_mem_cons.mpr ⟨fun _ _ => rfl, List.forall_mem_cons.mpr ⟨fun _ _ => rfl, List.forall_mem_cons.mpr ⟨fun _ _ => rfl, List.forall_mem_cons.mpr ⟨fun _ _ => rfl, List.forall_mem_cons.mpr ⟨fun _ _ => rfl, List.forall_mem_cons.mpr ⟨fun _ _ => rfl, List.forall_mem_cons.mpr ⟨fun _ _ => rfl, List.forall_mem_cons.mpr ⟨fun _ _ => rfl, List.forall_mem_cons.mpr ⟨fun _ _ => rfl, List.forall_mem_cons.mpr ⟨fun _ _ => rfl, List.forall_mem_cons.mpr ⟨fun _ _ => rfl, List.forall_mem_cons.mpr ⟨fun _ _ => rfl, List.forall_mem_cons.mpr ⟨fun _ _ => rfl, List.forall_mem_cons.mpr ⟨fun _ _ => rfl, List.forall_mem_cons.mpr ⟨fun _ _ => rfl, List.forall_mem_cons.mpr ⟨fun _ _ => rfl, List.forall_mem_cons.mpr ⟨fun _ _ => rfl, List.forall_mem_cons.mpr ⟨fun _ _ => rfl, List.forall_mem_cons.mpr ⟨fun _ _ => rfl, List.forall_mem_cons.mpr ⟨fun _ _ => rfl, List.forall_mem_cons.mpr ⟨fun _ _ => rfl, List.forall_mem_cons.mpr ⟨fun _ _ => rfl, List.forall_mem_cons.mpr ⟨fun _ _ => rfl, List.forall_mem_cons.mpr ⟨fun _ _ => rfl, List.forall_mem_cons.mpr ⟨fun _ _ => rfl, List.forall_mem_cons.mpr ⟨fun _ _ => rfl, List.forall_mem_cons.mpr ⟨fun _ _ => rfl, List.forall_mem_cons.mpr ⟨fun _ _ => rfl, List.forall_mem_cons.mpr ⟨fun _ _ => rfl, List.forall_mem_cons.mpr ⟨fun _ _ => rfl, List.forall_mem_cons.mpr ⟨fun _ _ => rfl, List.forall_mem_cons.mpr ⟨fun _ _ => rfl, List.forall_mem_cons.mpr ⟨fun _ _ => rfl, List.forall_mem_cons.mpr ⟨fun _ _ => rfl, List.forall_mem_cons.mpr ⟨fun _ _ => rfl, List.forall_mem_cons.mpr ⟨fun _ _ => rfl, List.forall_mem_cons.mpr ⟨fun _ _ => rfl, List.forall_mem_cons.mpr ⟨fun _ _ => rfl, List.forall_mem_cons.mpr ⟨fun _ _ => rfl, List.forall_mem_cons.mpr ⟨fun _ _ => rfl, List.forall_mem_cons.mpr ⟨fun _ _ => rfl, List.forall_mem_cons.mpr ⟨fun _ _ => rfl, List.forall_mem_cons.mpr ⟨fun _ _ => rfl, List.forall_mem_cons.mpr ⟨fun _ _ => rfl, List.forall_mem_cons.mpr ⟨fun _ _ => rfl, List.forall_mem_cons.mpr ⟨fun _ _ => rfl, (fun _ h => absurd h List.not_mem_nil)⟩⟩⟩⟩⟩⟩⟩⟩⟩⟩⟩⟩⟩⟩⟩⟩⟩⟩⟩⟩⟩⟩⟩⟩⟩⟩⟩⟩⟩⟩⟩⟩⟩⟩⟩⟩⟩⟩⟩⟩⟩⟩⟩⟩⟩⟩⟩⟩⟩⟩⟩⟩⟩⟩⟩⟩⟩⟩⟩⟩⟩⟩⟩⟩⟩⟩⟩⟩⟩⟩⟩⟩⟩⟩⟩⟩⟩⟩⟩⟩⟩
theorem f12_ar : ∀ j ∈ List.range 92, 10 ≤ j_code 12 j → (m_ar.any fun x => x.2.2.2 == (j : Int)) = true := by decide +kernel
