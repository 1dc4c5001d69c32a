/-! ===== a call is forwarded ===== -/
theorem cgI (h : JM) (k : Nat) (n : Int) {a b : Int} (e : a = b) : h.1 k n a = h.1 k n b := by rw [e]
theorem rI_s (h : JM) (k : Nat) (n j v : Int) : (sI h k n j v).1 k n j = v := by rw [rI_I, if_pos ⟨rfl, rfl, rfl⟩]
theorem rI_o {h : JM} {k : Nat} {n j v : Int} {k' : Nat} {n' j' : Int} (q : k' ≠ k ∨ n' ≠ n ∨ j' ≠ j) : (sI h k n j v).1 k' n' j' = h.1 k' n' j' := by rw [rI_I, if_neg (fun z => by rcases q with w | w | w; exact w z.1; exact w z.2.1; exact w z.2.2)]
theorem idemI (m : JM) (k : Nat) (n j : Int) : sI m k n j (m.1 k n j) = m := by
  unfold sI
  refine Prod.ext ?_ rfl
  funext k' n' j'
  simp only
  split
  · rename_i q; obtain ⟨rfl, rfl, rfl⟩ := q; rfl
  · rfl
section RF
variable {f : Int → Int} {N z1 z2 X : Int} {sec : Option Int} {Y zd : Int} {c m c' m' : JM} {B B' : Int} {H : HT}
theorem m_on49 (kp : Int → Int → JM → Option JM) {s fi n : Int} (hs : 0 ≤ s ∧ s < 80) (hfi : 0 ≤ fi ∧ fi < 48) (hn : n ≤ 12) : ∀ (fu : Nat) (i : Int) (h : JM), 0 ≤ i → i ≤ n → (n - i).toNat < fu → h.1 129 0 fi = n →
    ∃ h' : JM, F12_goesOn_49 kp fu s fi i h = (F12_analysis s h').bind (fun q1 => if 0 ≤ q1.1 then (kp s q1.1 q1.2).bind (fun h2 => some h2) else (F12_over s 1 (-1) q1.2).bind (fun h3 => some h3)) ∧ h'.2 = h.2 ∧ (∀ k' n' j', h'.1 k' n' j' = if k' = 139 ∧ n' = 0 ∧ 12 * s + i ≤ j' ∧ j' < 12 * s + n then h.1 128 0 (12 * fi + (j' - 12 * s)) else h.1 k' n' j')
  | 0, _, _, _, _, h, _ => by omega
  | fu + 1, i, h, i0, i1, hfu, hm => by
    show ∃ h' : JM, F12_goesOn_49b kp (F12_goesOn_49 kp fu) s fi i h = _ ∧ _
    unfold F12_goesOn_49b
    rw [g_t hfi, hm]
    by_cases c1 : n ≤ i
    · rw [if_pos c1]
      exact ⟨h, rfl, rfl, fun k' n' j' => by rw [if_neg (by omega)]⟩
    · have w1 : w32 (12 * fi) = 12 * fi := w32_of (by omega) (by omega)
      have w2 : w32 (12 * fi + i) = 12 * fi + i := w32_of (by omega) (by omega)
      have w3 : w32 (12 * s) = 12 * s := w32_of (by omega) (by omega)
      have w4 : w32 (12 * s + i) = 12 * s + i := w32_of (by omega) (by omega)
      have w5 : w32 (i + 1) = i + 1 := w32_of (by omega) (by omega)
      rw [if_neg c1, w1, w2, w3, w4, g_t (by omega), g_t (by omega), lt_d, w5]
      obtain ⟨h', y1, y2, y3⟩ := m_on49 kp hs hfi hn fu (i + 1) (sI h 139 0 (12 * s + i) (h.1 128 0 (12 * fi + i))) (by omega) (by omega) (by omega) (by rw [rI_o (by omega), hm])
      refine ⟨h', y1, y2, fun k' n' j' => ?_⟩
      have q1 : ∀ j, (sI h 139 0 (12 * s + i) (h.1 128 0 (12 * fi + i))).1 128 0 j = h.1 128 0 j := fun j => by rw [rI_o (by omega)]
      rw [y3, q1, rI_I]
      clear y1 y2 y3 q1 hm hfu w1 w2 w3 w4 w5
      by_cases z : k' = 139 ∧ n' = 0
      · obtain ⟨rfl, rfl⟩ := z
        by_cases z2 : j' = 12 * s + i
        · subst z2
          rw [if_neg (show ¬ (139 = 139 ∧ (0 : Int) = 0 ∧ 12 * s + (i + 1) ≤ 12 * s + i ∧ 12 * s + i < 12 * s + n) by omega), if_pos ⟨rfl, rfl, rfl⟩, if_pos ⟨rfl, rfl, by omega, by omega⟩, show 12 * s + i - 12 * s = i by omega]
        · by_cases z3 : 12 * s + i ≤ j' ∧ j' < 12 * s + n
          · rw [if_pos ⟨rfl, rfl, by omega, by omega⟩, if_pos ⟨rfl, rfl, by omega, by omega⟩]
          · rw [if_neg (fun w => z3 (by omega)), if_neg (fun w => z2 w.2.2), if_neg (fun w => z3 w.2.2)]
      · rw [if_neg (fun w => z ⟨w.1, w.2.1⟩), if_neg (fun w => z ⟨w.1, w.2.1⟩), if_neg (fun w => z ⟨w.1, w.2.1⟩)]

theorem t_on (hf : f_ok f) {id w : Int} (hv : lv c id) (HH : r_h f N (-1) (-1) (-1) none Y id c m) (hw : w = c.1 0 id 12 + 1) (hw6 : c.1 0 id 12 ≤ 5) (hs1 : c.1 0 id 9 ≠ 1)
    (cI : ∀ k n j, c'.1 k n j = if k = 0 ∧ n = id ∧ j = 12 then w else c.1 k n j) (cL : ∀ k n j, k ≠ 0 ∨ n ≠ id ∨ j ≠ 8 → c'.2.1 k n j = c.2.1 k n j) (cR : ∀ k n j, k ≠ 0 ∨ n ≠ id ∨ j ≠ 7 → c'.2.2 k n j = c.2.2 k n j)
    (mI : ∀ k j, k ≠ 139 → k ≠ 140 → k ≠ 144 → m'.1 k 0 j = m.1 k 0 j) (m144 : m'.1 144 0 (f id) = w) (m144x : ∀ j, j ≠ f id → m'.1 144 0 j = m.1 144 0 j) (m140 : ∀ j, j ≠ f id → m'.1 140 0 j = m.1 140 0 j) (m139 : ∀ j, j < 12 * f id ∨ 12 * f id + 12 ≤ j → m'.1 139 0 j = m.1 139 0 j) :
    r_h f N (-1) (-1) (-1) none Y id c' m' := by
  have inj := hf.1
  have a6 : ∀ i, c'.1 0 i 6 = c.1 0 i 6 := fun i => by rw [cI, if_neg (by omega)]
  have a9 : ∀ i, c'.1 0 i 9 = c.1 0 i 9 := fun i => by rw [cI, if_neg (by omega)]
  have a10 : ∀ i, c'.1 0 i 10 = c.1 0 i 10 := fun i => by rw [cI, if_neg (by omega)]
  have a11 : ∀ i, c'.1 0 i 11 = c.1 0 i 11 := fun i => by rw [cI, if_neg (by omega)]
  have a13 : ∀ i, c'.1 0 i 13 = c.1 0 i 13 := fun i => by rw [cI, if_neg (by omega)]
  have a15 : ∀ i, c'.1 0 i 15 = c.1 0 i 15 := fun i => by rw [cI, if_neg (by omega)]
  have a12 : ∀ i, c'.1 0 i 12 = if i = id then w else c.1 0 i 12 := fun i => by rw [cI]; simp
  have a46 : ∀ l, c'.1 4 l 6 = c.1 4 l 6 := fun l => by rw [cI, if_neg (by omega)]
  have a6x : ∀ r j, c'.1 6 r j = c.1 6 r j := fun r j => by rw [cI, if_neg (by omega)]
  have a82 : ∀ t, c'.1 8 t 2 = c.1 8 t 2 := fun l => by rw [cI, if_neg (by omega)]
  have r0 : ∀ i, c'.2.2 0 i 0 = c.2.2 0 i 0 := fun i => cR 0 i 0 (by omega)
  have r1 : ∀ i, c'.2.2 0 i 1 = c.2.2 0 i 1 := fun i => cR 0 i 1 (by omega)
  have r2 : ∀ i, c'.2.2 0 i 2 = c.2.2 0 i 2 := fun i => cR 0 i 2 (by omega)
  have r3 : ∀ i, c'.2.2 0 i 3 = c.2.2 0 i 3 := fun i => cR 0 i 3 (by omega)
  have r4 : ∀ i, c'.2.2 0 i 4 = c.2.2 0 i 4 := fun i => cR 0 i 4 (by omega)
  have r5 : ∀ i, c'.2.2 0 i 5 = c.2.2 0 i 5 := fun i => cR 0 i 5 (by omega)
  have r411 : ∀ l, c'.2.2 4 l 11 = c.2.2 4 l 11 := fun l => cR 4 l 11 (by omega)
  have r412 : ∀ l, c'.2.2 4 l 12 = c.2.2 4 l 12 := fun l => cR 4 l 12 (by omega)
  have r413 : ∀ l, c'.2.2 4 l 13 = c.2.2 4 l 13 := fun l => cR 4 l 13 (by omega)
  have r83 : ∀ t, c'.2.2 8 t 3 = c.2.2 8 t 3 := fun l => cR 8 l 3 (by omega)
  have b105 : ∀ j, m'.1 105 0 j = m.1 105 0 j := fun j => mI 105 j (by decide) (by decide) (by decide)
  have b119 : ∀ j, m'.1 119 0 j = m.1 119 0 j := fun j => mI 119 j (by decide) (by decide) (by decide)
  have b120 : ∀ j, m'.1 120 0 j = m.1 120 0 j := fun j => mI 120 j (by decide) (by decide) (by decide)
  have b121 : ∀ j, m'.1 121 0 j = m.1 121 0 j := fun j => mI 121 j (by decide) (by decide) (by decide)
  have b133 : ∀ j, m'.1 133 0 j = m.1 133 0 j := fun j => mI 133 j (by decide) (by decide) (by decide)
  have b134 : ∀ j, m'.1 134 0 j = m.1 134 0 j := fun j => mI 134 j (by decide) (by decide) (by decide)
  have b135 : ∀ j, m'.1 135 0 j = m.1 135 0 j := fun j => mI 135 j (by decide) (by decide) (by decide)
  have b136 : ∀ j, m'.1 136 0 j = m.1 136 0 j := fun j => mI 136 j (by decide) (by decide) (by decide)
  have b137 : ∀ j, m'.1 137 0 j = m.1 137 0 j := fun j => mI 137 j (by decide) (by decide) (by decide)
  have b138 : ∀ j, m'.1 138 0 j = m.1 138 0 j := fun j => mI 138 j (by decide) (by decide) (by decide)
  have b141 : ∀ j, m'.1 141 0 j = m.1 141 0 j := fun j => mI 141 j (by decide) (by decide) (by decide)
  have b142 : ∀ j, m'.1 142 0 j = m.1 142 0 j := fun j => mI 142 j (by decide) (by decide) (by decide)
  have b143 : ∀ j, m'.1 143 0 j = m.1 143 0 j := fun j => mI 143 j (by decide) (by decide) (by decide)
  have b145 : ∀ j, m'.1 145 0 j = m.1 145 0 j := fun j => mI 145 j (by decide) (by decide) (by decide)
  have b146 : ∀ j, m'.1 146 0 j = m.1 146 0 j := fun j => mI 146 j (by decide) (by decide) (by decide)
  have b147 : ∀ j, m'.1 147 0 j = m.1 147 0 j := fun j => mI 147 j (by decide) (by decide) (by decide)
  have b148 : ∀ j, m'.1 148 0 j = m.1 148 0 j := fun j => mI 148 j (by decide) (by decide) (by decide)
  have b154 : ∀ j, m'.1 154 0 j = m.1 154 0 j := fun j => mI 154 j (by decide) (by decide) (by decide)
  have b155 : ∀ j, m'.1 155 0 j = m.1 155 0 j := fun j => mI 155 j (by decide) (by decide) (by decide)
  have hlv : ∀ i, lv c' i ↔ lv c i := fun i => by unfold lv; rw [a9]
  obtain ⟨h_st, h_sx, h_hm, h_sa, h_sb, h_gp, h_ky, h_k1, h_fw, h_fr, h_ce, h_an, h_zn, h_rw, h_la, h_lo, h_lr, h_wa, h_wo, h_wx, h_wr, h_w3, h_w4, h_w8, h_w9, h_w5, h_t1, h_t2, h_t3, h_t6, h_t9, h_ty, h_xx, h_zr⟩ := HH
  refine ⟨?_, ?_, ?_, ?_, ?_, ?_, ?_, ?_, ?_, ?_, ?_, ?_, ?_, ?_, ?_, ?_, ?_, ?_, ?_, ?_, ?_, ?_, ?_, ?_, ?_, ?_, ?_, ?_, ?_, ?_, ?_, ?_, ?_, ?_⟩
  · -- st
    simpa only [d_st, hlv, a6, a9, a10, a11, a13, a15, a12, a46, a6x, a82, r0, r1, r2, r3, r4, r5, r411, r412, r413, r83, b105, b119, b120, b121, b133, b134, b135, b136, b137, b138, b141, b142, b143, b145, b146, b147, b148, b154, b155] using h_st
  · -- sx
    simpa only [d_sx, hlv, a6, a9, a10, a11, a13, a15, a12, a46, a6x, a82, r0, r1, r2, r3, r4, r5, r411, r412, r413, r83, b105, b119, b120, b121, b133, b134, b135, b136, b137, b138, b141, b142, b143, b145, b146, b147, b148, b154, b155] using h_sx
  · -- hm
    simpa only [d_hm, hlv, a6, a9, a10, a11, a13, a15, a12, a46, a6x, a82, r0, r1, r2, r3, r4, r5, r411, r412, r413, r83, b105, b119, b120, b121, b133, b134, b135, b136, b137, b138, b141, b142, b143, b145, b146, b147, b148, b154, b155] using h_hm
  · -- sa
    simpa only [d_sa, hlv, a6, a9, a10, a11, a13, a15, a12, a46, a6x, a82, r0, r1, r2, r3, r4, r5, r411, r412, r413, r83, b105, b119, b120, b121, b133, b134, b135, b136, b137, b138, b141, b142, b143, b145, b146, b147, b148, b154, b155] using h_sa
  · -- sb
    simpa only [d_sb, hlv, a6, a9, a10, a11, a13, a15, a12, a46, a6x, a82, r0, r1, r2, r3, r4, r5, r411, r412, r413, r83, b105, b119, b120, b121, b133, b134, b135, b136, b137, b138, b141, b142, b143, b145, b146, b147, b148, b154, b155] using h_sb
  · -- gp
    simpa only [d_gp, hlv, a6, a9, a10, a11, a13, a15, a12, a46, a6x, a82, r0, r1, r2, r3, r4, r5, r411, r412, r413, r83, b105, b119, b120, b121, b133, b134, b135, b136, b137, b138, b141, b142, b143, b145, b146, b147, b148, b154, b155] using h_gp
  · -- ky
    simp only [d_ky, hlv] at h_ky ⊢
    intro i a b
    have hne : f i ≠ f id := fun q => b (inj _ _ q)
    obtain ⟨K, k1, k2, k3, k4⟩ := h_ky i a b
    have hl := k1.1
    refine ⟨K, k1, by rw [cL 0 i 8 (by omega)]; exact k2, by rw [m140 _ hne]; exact k3, fun j hj => ?_⟩
    show m'.1 139 0 (12 * f i + j) = _
    rw [m139 _ (by omega)]
    exact k4 j hj
  · -- k1
    simp only [d_k1, hlv, a9, a12] at h_k1 ⊢
    intro i a b
    have hne : f i ≠ f id := fun q => b (inj _ _ q)
    rw [m140 _ hne, if_neg b]
    exact h_k1 i a b
  · -- fw
    simp only [d_fw, hlv, a12] at h_fw ⊢
    intro i a
    by_cases z : i = id
    · subst z; rw [m144, if_pos rfl]; have := h_fw i a; simp; omega
    · have hne : f i ≠ f id := fun q => z (inj _ _ q)
      rw [m144x _ hne, if_neg z]; exact h_fw i a
  · -- fr
    simpa only [d_fr, hlv, a6, a9, a10, a11, a13, a15, a12, a46, a6x, a82, r0, r1, r2, r3, r4, r5, r411, r412, r413, r83, b105, b119, b120, b121, b133, b134, b135, b136, b137, b138, b141, b142, b143, b145, b146, b147, b148, b154, b155] using h_fr
  · -- ce
    simpa only [d_ce, hlv, a6, a9, a10, a11, a13, a15, a12, a46, a6x, a82, r0, r1, r2, r3, r4, r5, r411, r412, r413, r83, b105, b119, b120, b121, b133, b134, b135, b136, b137, b138, b141, b142, b143, b145, b146, b147, b148, b154, b155] using h_ce
  · -- an
    simpa only [d_an, hlv, a6, a9, a10, a11, a13, a15, a12, a46, a6x, a82, r0, r1, r2, r3, r4, r5, r411, r412, r413, r83, b105, b119, b120, b121, b133, b134, b135, b136, b137, b138, b141, b142, b143, b145, b146, b147, b148, b154, b155] using h_an
  · -- zn
    simpa only [d_zn, hlv, a6, a9, a10, a11, a13, a15, a12, a46, a6x, a82, r0, r1, r2, r3, r4, r5, r411, r412, r413, r83, b105, b119, b120, b121, b133, b134, b135, b136, b137, b138, b141, b142, b143, b145, b146, b147, b148, b154, b155] using h_zn
  · -- rw
    simp only [d_rw, hlv, a9, a6x, b135, b105, b141, b142] at h_rw ⊢
    intro i a s
    have z : i ≠ id := fun q => hs1 (q ▸ s)
    have hne : f i ≠ f id := fun q => z (inj _ _ q)
    rw [cR 0 i 7 (by omega), m140 _ hne]
    exact h_rw i a s
  · -- la
    simpa only [d_la, hlv, a6, a9, a10, a11, a13, a15, a12, a46, a6x, a82, r0, r1, r2, r3, r4, r5, r411, r412, r413, r83, b105, b119, b120, b121, b133, b134, b135, b136, b137, b138, b141, b142, b143, b145, b146, b147, b148, b154, b155] using h_la
  · -- lo
    simpa only [d_lo, hlv, a6, a9, a10, a11, a13, a15, a12, a46, a6x, a82, r0, r1, r2, r3, r4, r5, r411, r412, r413, r83, b105, b119, b120, b121, b133, b134, b135, b136, b137, b138, b141, b142, b143, b145, b146, b147, b148, b154, b155] using h_lo
  · -- lr
    simpa only [d_lr, hlv, a6, a9, a10, a11, a13, a15, a12, a46, a6x, a82, r0, r1, r2, r3, r4, r5, r411, r412, r413, r83, b105, b119, b120, b121, b133, b134, b135, b136, b137, b138, b141, b142, b143, b145, b146, b147, b148, b154, b155] using h_lr
  · -- wa
    simpa only [d_wa, hlv, a6, a9, a10, a11, a13, a15, a12, a46, a6x, a82, r0, r1, r2, r3, r4, r5, r411, r412, r413, r83, b105, b119, b120, b121, b133, b134, b135, b136, b137, b138, b141, b142, b143, b145, b146, b147, b148, b154, b155] using h_wa
  · -- wo
    simpa only [d_wo, hlv, a6, a9, a10, a11, a13, a15, a12, a46, a6x, a82, r0, r1, r2, r3, r4, r5, r411, r412, r413, r83, b105, b119, b120, b121, b133, b134, b135, b136, b137, b138, b141, b142, b143, b145, b146, b147, b148, b154, b155] using h_wo
  · -- wx
    simpa only [d_wx, hlv, a6, a9, a10, a11, a13, a15, a12, a46, a6x, a82, r0, r1, r2, r3, r4, r5, r411, r412, r413, r83, b105, b119, b120, b121, b133, b134, b135, b136, b137, b138, b141, b142, b143, b145, b146, b147, b148, b154, b155] using h_wx
  · -- wr
    simpa only [d_wr, hlv, a6, a9, a10, a11, a13, a15, a12, a46, a6x, a82, r0, r1, r2, r3, r4, r5, r411, r412, r413, r83, b105, b119, b120, b121, b133, b134, b135, b136, b137, b138, b141, b142, b143, b145, b146, b147, b148, b154, b155] using h_wr
  · -- w3
    simpa only [d_w3, hlv, a6, a9, a10, a11, a13, a15, a12, a46, a6x, a82, r0, r1, r2, r3, r4, r5, r411, r412, r413, r83, b105, b119, b120, b121, b133, b134, b135, b136, b137, b138, b141, b142, b143, b145, b146, b147, b148, b154, b155] using h_w3
  · -- w4
    simpa only [d_w4, hlv, a6, a9, a10, a11, a13, a15, a12, a46, a6x, a82, r0, r1, r2, r3, r4, r5, r411, r412, r413, r83, b105, b119, b120, b121, b133, b134, b135, b136, b137, b138, b141, b142, b143, b145, b146, b147, b148, b154, b155] using h_w4
  · -- w8
    simpa only [d_w8, hlv, a6, a9, a10, a11, a13, a15, a12, a46, a6x, a82, r0, r1, r2, r3, r4, r5, r411, r412, r413, r83, b105, b119, b120, b121, b133, b134, b135, b136, b137, b138, b141, b142, b143, b145, b146, b147, b148, b154, b155] using h_w8
  · -- w9
    simpa only [d_w9, hlv, a6, a9, a10, a11, a13, a15, a12, a46, a6x, a82, r0, r1, r2, r3, r4, r5, r411, r412, r413, r83, b105, b119, b120, b121, b133, b134, b135, b136, b137, b138, b141, b142, b143, b145, b146, b147, b148, b154, b155] using h_w9
  · -- w5
    simpa only [d_w5, hlv, a6, a9, a10, a11, a13, a15, a12, a46, a6x, a82, r0, r1, r2, r3, r4, r5, r411, r412, r413, r83, b105, b119, b120, b121, b133, b134, b135, b136, b137, b138, b141, b142, b143, b145, b146, b147, b148, b154, b155] using h_w5
  · -- t1
    simpa only [d_t1, hlv, a6, a9, a10, a11, a13, a15, a12, a46, a6x, a82, r0, r1, r2, r3, r4, r5, r411, r412, r413, r83, b105, b119, b120, b121, b133, b134, b135, b136, b137, b138, b141, b142, b143, b145, b146, b147, b148, b154, b155] using h_t1
  · -- t2
    simpa only [d_t2, hlv, a6, a9, a10, a11, a13, a15, a12, a46, a6x, a82, r0, r1, r2, r3, r4, r5, r411, r412, r413, r83, b105, b119, b120, b121, b133, b134, b135, b136, b137, b138, b141, b142, b143, b145, b146, b147, b148, b154, b155] using h_t2
  · -- t3
    simpa only [d_t3, hlv, a6, a9, a10, a11, a13, a15, a12, a46, a6x, a82, r0, r1, r2, r3, r4, r5, r411, r412, r413, r83, b105, b119, b120, b121, b133, b134, b135, b136, b137, b138, b141, b142, b143, b145, b146, b147, b148, b154, b155] using h_t3
  · -- t6
    simpa only [d_t6, hlv, a6, a9, a10, a11, a13, a15, a12, a46, a6x, a82, r0, r1, r2, r3, r4, r5, r411, r412, r413, r83, b105, b119, b120, b121, b133, b134, b135, b136, b137, b138, b141, b142, b143, b145, b146, b147, b148, b154, b155] using h_t6
  · -- t9
    simpa only [d_t9, hlv, a6, a9, a10, a11, a13, a15, a12, a46, a6x, a82, r0, r1, r2, r3, r4, r5, r411, r412, r413, r83, b105, b119, b120, b121, b133, b134, b135, b136, b137, b138, b141, b142, b143, b145, b146, b147, b148, b154, b155] using h_t9
  · -- ty
    simpa only [d_ty, hlv, a6, a9, a10, a11, a13, a15, a12, a46, a6x, a82, r0, r1, r2, r3, r4, r5, r411, r412, r413, r83, b105, b119, b120, b121, b133, b134, b135, b136, b137, b138, b141, b142, b143, b145, b146, b147, b148, b154, b155] using h_ty
  · -- xx
    simpa only [d_xx, hlv, a6, a9, a10, a11, a13, a15, a12, a46, a6x, a82, r0, r1, r2, r3, r4, r5, r411, r412, r413, r83, b105, b119, b120, b121, b133, b134, b135, b136, b137, b138, b141, b142, b143, b145, b146, b147, b148, b154, b155] using h_xx
  · -- zr
    simpa only [d_zr, hlv, a6, a9, a10, a11, a13, a15, a12, a46, a6x, a82, r0, r1, r2, r3, r4, r5, r411, r412, r413, r83, b105, b119, b120, b121, b133, b134, b135, b136, b137, b138, b141, b142, b143, b145, b146, b147, b148, b154, b155] using h_zr

/-- a call that is being placed -/
def plc (f : Int → Int) (N Y B : Int) (H : HT) (id : Int) (c m : JM) : Prop := rel f N (-1) (-1) (-1) none Y id B H c m ∧ lv c id ∧ m.1 137 0 (f id) = -1 ∧ c.2.2 0 id 5 = none ∧ k_R (c.2.1 0 id 8) (m.1 140 0 (f id)) (fun j => m.1 139 0 (12 * f id + j)) ∧ c.1 0 id 12 ≤ 5
/-- the row by which it is placed -/
def rwo (f : Int → Int) (id r : Int) (c m : JM) : Prop := c.2.2 0 id 7 = some r ∧ 24 * m.1 135 0 (f id) ≤ r ∧ r < 24 * m.1 135 0 (f id) + m.1 105 0 (m.1 135 0 (f id)) ∧ m.1 108 0 r = m.1 140 0 (f id)
theorem p_on (hf : f_ok f) (kp : Int → Int → JM → Option JM) {id x fi : Int} (hfi : 0 ≤ fi ∧ fi < 48) (hv : lv c id) (R : rel f N (-1) (-1) (-1) none Y id B H c m) (h7 : m.1 137 0 (f id) = -1) (hg : c.2.2 0 id 5 = none) (hw6 : c.1 0 id 12 ≤ 5) (hs1 : c.1 0 id 9 ≠ 1) (hx : c.2.1 0 id 8 = x) (hk : k_R x (m.1 129 0 fi) (fun j => m.1 128 0 (12 * fi + j))) :
    ∃ out c' m', F11_findRowAnew (some id) c = some (out, c') ∧ rel f N (-1) (-1) (-1) none Y id B H c' m' ∧ lv c' id ∧ so w_C c c' ∧ so w_M m m' ∧ c'.1 0 id 9 = c.1 0 id 9 ∧ c'.2.2 0 id 1 = c.2.2 0 id 1 ∧ c'.1 0 id 11 = c.1 0 id 11 ∧ m'.1 143 0 (f id) = m.1 143 0 (f id) ∧ c'.1 0 id 12 = c.1 0 id 12 + 1 ∧
      (((out = 1 ∨ out = 2) ∧ F12_goesOn kp (f id) fi m = (F12_over (f id) out (-1) m').bind (fun h => some h)) ∨
       (out = -1 ∧ plc f N Y B H id c' m' ∧ ∃ r, rwo f id r c' m' ∧ F12_goesOn kp (f id) fi m = (kp (f id) r m').bind (fun h => some h))) := by
  have hfr := hf.2.2.1 id hv.1 (by have := hv.2.1; omega)
  have b_hm := R.2.2.1.2.2.1 id hv
  have b_fw := R.2.2.1.2.2.2.2.2.2.2.2.1 id hv
  have e1 : w32 (c.1 0 id 12 + 1) = c.1 0 id 12 + 1 := w32_of (by omega) (by omega)
  obtain ⟨K, hK, k1, k2, k3⟩ := hk
  have hK1 := hK.1
  have m0 : sI m 137 0 (f id) (-1) = m := by rw [← h7]; exact idemI m 137 0 (f id)
  have g0 : F12_goesOn kp (f id) fi m = if c.1 0 id 12 + 1 ≤ 5 then F12_goesOn_49 kp j_fu (f id) fi 0 (sI (sI m 144 0 (f id) (c.1 0 id 12 + 1)) 140 0 (f id) (m.1 129 0 fi)) else (F12_over (f id) 2 (-1) (sI m 144 0 (f id) (c.1 0 id 12 + 1))).bind (fun h8 => some h8) := by
    unfold F12_goesOn
    rw [g_t hfr, lt_d, g_t hfr, g_t hfr, m0, b_fw.1, e1, lt_d, g_t hfr, rI_s]
    by_cases c5 : c.1 0 id 12 + 1 ≤ 5
    · rw [if_pos c5, if_pos c5, g_t hfi, g_t hfr, lt_d, rI_o (by omega)]
    · rw [if_neg c5, if_neg c5]
  have hk4 : ∀ {c' m' : JM}, (∀ k n j, c'.1 k n j = if k = 0 ∧ n = id ∧ j = 12 then c.1 0 id 12 + 1 else c.1 k n j) → c'.2.1 = c.2.1 → (∀ k n j, k ≠ 0 ∨ n ≠ id ∨ j ≠ 7 → c'.2.2 k n j = c.2.2 k n j) → (m'.2 = m.2) → (∀ k n j, k ≠ 139 → k ≠ 140 → k ≠ 144 → m'.1 k n j = m.1 k n j) → (m'.1 144 0 (f id) = c.1 0 id 12 + 1) → (∀ j, j ≠ f id → m'.1 144 0 j = m.1 144 0 j) → (∀ j, j ≠ f id → m'.1 140 0 j = m.1 140 0 j) → (∀ j, j < 12 * f id ∨ 12 * f id + 12 ≤ j → m'.1 139 0 j = m.1 139 0 j) → rel f N (-1) (-1) (-1) none Y id B H c' m' ∧ lv c' id ∧ so w_C c c' ∧ so w_M m m' := fun {c' m'} q1 q2 q3 q4 q5 q6 q7 q8 q9 => by
    have hh := t_on hf hv R.2.2.1 rfl hw6 hs1 q1 (fun k n j _ => by rw [q2]) q3 (fun k j a b d => q5 k 0 j a b d) q6 q7 q8 q9
    have sc : so w_h c c' := fun k n j q => ⟨by rw [q1, if_neg (fun z => by rw [z.1] at q; cases q)], by rw [q2], q3 k n j (Or.inl (fun z => by rw [z] at q; cases q))⟩
    have sm : so w_hm m m' := fun k n j q => ⟨q5 k n j (fun z => by rw [z] at q; cases q) (fun z => by rw [z] at q; cases q) (fun z => by rw [z] at q; cases q), by rw [q4], by rw [q4]⟩
    refine ⟨rel_h hf R hh sc sm (fun n => ?_) (fun s s0 s1 => ?_), ⟨hv.1, hv.2.1, ?_⟩, rw_C sc, rw_M sm⟩
    · rw [q1, q1, if_neg (by omega), if_neg (by omega), q3 0 n 5 (by omega)]; simp
    · rw [q5 133 0 s (by decide) (by decide) (by decide), q5 135 0 s (by decide) (by decide) (by decide), q5 137 0 s (by decide) (by decide) (by decide)]; simp
    · rw [q1, if_neg (by omega)]; exact hv.2.2
  unfold F11_findRowAnew
  rw [Option.bind_some, lt_d, e1, rI_s, g0]
  by_cases c5 : c.1 0 id 12 + 1 ≤ 5
  · rw [if_pos c5, if_pos c5, rI_R, rI_L, b_hm.1, Option.bind_some]
    obtain ⟨h', y1, y2, y3⟩ := m_on49 kp (n := m.1 129 0 fi) hfr hfi (by omega) j_fu 0 (sI (sI m 144 0 (f id) (c.1 0 id 12 + 1)) 140 0 (f id) (m.1 129 0 fi)) (by omega) (by omega) (by unfold j_fu; omega) (by rw [rI_I, rI_o (by omega), if_neg (by omega)])
    have z5 : ∀ k n j, k ≠ 139 → k ≠ 140 → k ≠ 144 → h'.1 k n j = m.1 k n j := fun k n j a b d => by rw [y3, if_neg (by omega), rI_o (by omega), rI_o (by omega)]
    have z0 : h'.1 140 0 (f id) = m.1 129 0 fi := by rw [y3, if_neg (by omega), rI_s]
    have z9 : ∀ j : Nat, j < K.length → h'.1 139 0 (12 * f id + j) = (K.getD j 0 : Int) := fun j hj => by
      rw [y3, if_pos (by omega), rI_o (by omega), rI_o (by omega), ← k3 j hj]
      show m.1 128 0 (12 * fi + (12 * f id + (j : Int) - 12 * f id)) = m.1 128 0 (12 * fi + j)
      exact cgI _ _ _ (by omega)
    have zk : k_R x (h'.1 140 0 (f id)) (fun j => h'.1 139 0 (12 * f id + j)) := ⟨K, hK, k1, by rw [z0, k2], z9⟩
    have z6 : h'.1 144 0 (f id) = c.1 0 id 12 + 1 := by rw [y3, if_neg (by omega), rI_o (by omega), rI_s]
    have z7 : ∀ j, j ≠ f id → h'.1 144 0 j = m.1 144 0 j := fun j hj => by rw [y3, if_neg (by omega), rI_o (by omega), rI_o (by omega)]
    have z8 : ∀ j, j ≠ f id → h'.1 140 0 j = m.1 140 0 j := fun j hj => by rw [y3, if_neg (by omega), rI_o (by omega), rI_o (by omega)]
    have z10 : ∀ j, j < 12 * f id ∨ 12 * f id + 12 ≤ j → h'.1 139 0 j = m.1 139 0 j := fun j hj => by rw [y3, if_neg (by omega), rI_o (by omega), rI_o (by omega)]
    have hp' : r_p (sI c 0 id 12 (c.1 0 id 12 + 1)) h' := r_p_cg (fun k n j q => ⟨by rw [rI_I, if_neg (fun z => by rw [z.1] at q; cases q)], rfl, rfl⟩) (fun k n j q => z5 k n j (fun z => by rw [z] at q; cases q) (fun z => by rw [z] at q; cases q) (fun z => by rw [z] at q; cases q)) R.2.2.2.2.2.2.2.2.1
    have e5 : h'.1 135 0 (f id) = m.1 135 0 (f id) := z5 135 0 _ (by decide) (by decide) (by decide)
    have e15 : ∀ j, h'.1 105 0 j = m.1 105 0 j := fun j => z5 105 0 _ (by decide) (by decide) (by decide)
    obtain ⟨r, r', a1, a2, a3⟩ := p_analyse hp' (by rw [e5]; exact b_hm.2) hfr rfl zk
    rw [e5] at a1 a3
    rw [hx, a1, Option.bind_some, y1, a2, Option.bind_some]
    rcases a3 with ⟨rfl, rfl⟩ | ⟨rfl, rfl, _⟩ | ⟨r0, r1, rfl, r3⟩
    · rw [if_neg (by simp), if_neg (by simp)]
      obtain ⟨q1, q2, q3, q4⟩ := hk4 (c' := sI c 0 id 12 (c.1 0 id 12 + 1)) (m' := h') (fun k n j => by rw [rI_I]) rfl (fun _ _ _ _ => rfl) y2 z5 z6 z7 z8 z10
      refine ⟨1, _, h', rfl, q1, q2, q3, q4, ?_, rfl, ?_, z5 143 0 _ (by decide) (by decide) (by decide), ?_, Or.inl ⟨Or.inl rfl, rfl⟩⟩ <;> simp [rI_I]
    · rw [if_neg (by simp), if_neg (by simp)]
      obtain ⟨q1, q2, q3, q4⟩ := hk4 (c' := sI c 0 id 12 (c.1 0 id 12 + 1)) (m' := h') (fun k n j => by rw [rI_I]) rfl (fun _ _ _ _ => rfl) y2 z5 z6 z7 z8 z10
      refine ⟨1, _, h', rfl, q1, q2, q3, q4, ?_, rfl, ?_, z5 143 0 _ (by decide) (by decide) (by decide), ?_, Or.inl ⟨Or.inl rfl, rfl⟩⟩ <;> simp [rI_I]
    · have p24 := hp' (m.1 135 0 (f id)) b_hm.2
      have r1' : r < h'.1 105 0 (m.1 135 0 (f id)) := r1
      have p3 := p24.2.2.1
      have p4 := (p24.2.2.2 (24 * m.1 135 0 (f id) + r) (by omega) (by omega)).1
      rw [show 24 * m.1 135 0 (f id) + r - 24 * m.1 135 0 (f id) = r by omega, rI_R] at p4
      rw [if_pos r0, if_pos (by omega), rI_R, b_hm.1, Option.bind_some, g_t (by omega), lt_d]
      dsimp only
      rw [p4]
      obtain ⟨q1, q2, q3, q4⟩ := hk4 (c' := sR (sI c 0 id 12 (c.1 0 id 12 + 1)) 0 id 7 (some (24 * m.1 135 0 (f id) + r))) (m' := h') (fun k n j => by rw [rR_I, rI_I]) rfl (fun k n j q => by rw [rR_R, if_neg (by omega), rI_R]) y2 z5 z6 z7 z8 z10
      refine ⟨-1, _, h', rfl, q1, q2, q3, q4, ?_, ?_, ?_, z5 143 0 _ (by decide) (by decide) (by decide), ?_, Or.inr ⟨rfl, ⟨q1, q2, ?_, ?_, ?_, ?_⟩, 24 * m.1 135 0 (f id) + r, ⟨?_, ?_, ?_, ?_⟩, rfl⟩⟩
      · simp [rR_I, rI_I]
      · simp [rR_R, rI_R]
      · simp [rR_I, rI_I]
      · simp [rR_I, rI_I]
      · rw [z5 137 0 _ (by decide) (by decide) (by decide), h7]
      · simp [rR_R, rI_R, hg]
      · rw [rR_L, rI_L, hx]; exact zk
      · simp [rR_I, rI_I]; exact c5
      · simp [rR_R]
      · rw [e5]; omega
      · rw [e5]; omega
      · exact r3
  · rw [if_neg c5, if_neg c5]
    obtain ⟨q1, q2, q3, q4⟩ := hk4 (c' := sI c 0 id 12 (c.1 0 id 12 + 1)) (m' := sI m 144 0 (f id) (c.1 0 id 12 + 1)) (fun k n j => by rw [rI_I]) rfl (fun _ _ _ _ => rfl) rfl (fun k n j a b d => by rw [rI_o (by omega)]) (by rw [rI_s]) (fun j hj => by rw [rI_o (by omega)]) (fun j hj => by rw [rI_o (by omega)]) (fun j hj => by rw [rI_o (by omega)])
    refine ⟨2, _, _, rfl, q1, q2, q3, q4, ?_, rfl, ?_, ?_, ?_, Or.inl ⟨Or.inr rfl, rfl⟩⟩ <;> simp [rI_I]
end RF
