/-! ===== a unit is taken ===== -/
/-- a unit on its way, in class and reference -/
def fl (N : Int) (c m : JM) (u : Int) (on : Nat) : Prop :=
  (c.1 9 u 5 = 2 ∧ m.1 174 0 (on : Int) = 0) ∨
  (∃ U, mw m on U ∧ 8 ≤ U.length ∧ m.1 174 0 (on : Int) = (U.length : Int) ∧ ((c.1 9 u 5 = 1 ∧ rd U = none) ∨ (c.1 9 u 5 = 0 ∧ ∃ l, rd U = some l ∧ bl l ∧ c.1 9 u 0 = (vr l 0 7 : Int) ∧ c.1 9 u 1 = (vr l 7 1 : Int) ∧ c.1 9 u 2 = (vr l 8 7 : Int) ∧ c.1 9 u 3 = (vr l 15 1 : Int) ∧ dm N (vr l 16 6) (fun j => vr l (24 + 8 * j) 8) (c.2.1 9 u 4))))
def w_lk (k : Nat) (j : Int) : Bool := k == 5 && j != 0 && j != 3
def w_lkm (k : Nat) (j : Int) : Bool := (decide (161 ≤ k) && decide (k ≤ 168) && k != 163) || k == 182 || (k == 12 && j == 83)
def w_T (k : Nat) (j : Int) : Bool := w_DM k j || (decide (161 ≤ k) && decide (k ≤ 168)) || k == 182 || (k == 12 && j == 83)
theorem w_k1 : ∀ k j, w_D k j = false → w_lk k j = false := by intro k j; simp [w_D, w_C, w_lk]; omega
theorem w_k2 : ∀ k j, w_T k j = false → w_lkm k j = false := by intro k j; simp [w_T, w_lkm]; omega
theorem w_k3 : ∀ k j, w_T k j = false → w_DM k j = false := by
  intro k j h
  cases hh : w_DM k j
  · rfl
  · unfold w_T at h; rw [hh] at h; simp at h
theorem w_k4 : ∀ k j, w_T k j = false → w_by k j = false := by intro k j; simp [w_T, w_by]; omega
section SN
variable {f : Int → Int} {N z1 z2 X : Int} {sec : Option Int} {Y zd : Int} {c m c' m' : JM} {B B' : Int} {H : HT}
/-- a step in a link's counters alone -/
theorem rel_lk (hf : f_ok f) (R : relN f N B H c m) {e : Int} (he : e = 0 ∨ e = 1) (sc : so w_lk c c') (sm : so w_lkm m m') (hc : ∀ n j, n ≠ e → c'.1 5 n j = c.1 5 n j) (hm : ∀ k j, 160 ≤ k → k ≤ 167 → j ≠ e → m'.1 k 0 j = m.1 k 0 j)
    (v : m'.1 161 0 e = c'.1 5 e 1 ∧ m'.1 162 0 e = c'.1 5 e 2 ∧ m'.1 164 0 e = c'.1 5 e 4 ∧ m'.1 165 0 e = c'.1 5 e 5 ∧ m'.1 166 0 e = c'.1 5 e 6 ∧ m'.1 167 0 e = c'.1 5 e 7)
    (w : c.1 5 e 1 ≤ c'.1 5 e 1 ∧ c'.1 5 e 1 ≤ c'.1 5 e 2 ∧ c'.1 5 e 2 ≤ c.1 5 e 3 ∧ 0 ≤ c'.1 5 e 4 ∧ c'.1 5 e 4 ≤ B + 1 ∧ 0 ≤ c'.1 5 e 7 ∧ c'.1 5 e 7 ≤ B + 1 ∧ (c'.1 5 e 5 = 0 ∨ c'.1 5 e 5 = 1) ∧ (c'.1 5 e 6 = 0 ∨ c'.1 5 e 6 = 1)) : relN f N (B + 1) H c' m' := by
  obtain ⟨R1, R2, R3, R4, R5, R6, R7, R8, R9, R10⟩ := R
  have hb : B ≤ B + 1 := by omega
  refine ⟨?_, ?_, ?_, ?_, ?_, ?_, ?_, ?_, ?_, ?_⟩
  · exact r_k_cg (fun k n j q => by have := sc k n j (by simp [rkC] at q; simp [w_lk]; omega); exact ⟨this.1, this.2.2⟩) (fun k n j q => (sm k n j (by simp [rkM] at q; simp [w_lkm]; omega)).1) R1
  · exact r_l_cg (fun k n j q => (sc k n j (by simp [rlC] at q; simp [w_lk]; omega)).1) (fun k n j q => (sm k n j (by simp [rlM] at q; simp [w_lkm]; omega)).1) R2
  · exact r_h_cg (fun k n j q => sc k n j (by simp [rdC] at q; simp [w_lk]; omega)) (fun k n j q => (sm k n j (by simp [rdM] at q; simp [w_lkm]; omega)).1) R3
  · intro x hx
    obtain ⟨q1, q2, q3⟩ := R4 x hx
    have c31 : ∀ j, c'.2.1 31 x j = c.2.1 31 x j := fun j => (sc 31 x j rfl).2.1
    have m158 : ∀ j, m'.1 158 0 j = m.1 158 0 j := fun j => (sm 158 0 j rfl).1
    have m159 : ∀ j, m'.1 159 0 j = m.1 159 0 j := fun j => (sm 159 0 j rfl).1
    have c50 : c'.1 5 x 0 = c.1 5 x 0 := (sc 5 x 0 rfl).1
    have c53 : c'.1 5 x 3 = c.1 5 x 3 := (sc 5 x 3 rfl).1
    have m160 : m'.1 160 0 x = m.1 160 0 x := (sm 160 0 x rfl).1
    have m163 : m'.1 163 0 x = m.1 163 0 x := (sm 163 0 x rfl).1
    by_cases z : x = e
    · subst z
      refine ⟨⟨by rw [m160, c50]; exact q1.1, v.1, v.2.1, by rw [m163, c53]; exact q1.2.2.2.1, v.2.2.1, v.2.2.2.1, v.2.2.2.2.1, v.2.2.2.2.2⟩, ⟨by omega, by omega, by rw [c53]; omega, by rw [c53, c50]; omega, by rw [c50]; omega, by rw [c50]; omega, w.2.2.2.1, w.2.2.2.2.1, w.2.2.2.2.2.1, w.2.2.2.2.2.2.1, w.2.2.2.2.2.2.2.1, w.2.2.2.2.2.2.2.2⟩, fun i i0 i1 => ?_⟩
      rw [c50] at i1
      obtain ⟨L, l1, l2, l3⟩ := q3 i (by omega) i1
      exact ⟨L, by rw [c31]; exact l1, by rw [m159]; exact l2, fun j hj => by rw [m158]; exact l3 j hj⟩
    · have cc := fun j => hc x j z
      refine ⟨⟨?_, ?_, ?_, ?_, ?_, ?_, ?_, ?_⟩, ?_, fun i i0 i1 => ?_⟩
      · rw [m160, c50]; exact q1.1
      · rw [hm 161 x (by decide) (by decide) z, cc]; exact q1.2.1
      · rw [hm 162 x (by decide) (by decide) z, cc]; exact q1.2.2.1
      · rw [m163, c53]; exact q1.2.2.2.1
      · rw [hm 164 x (by decide) (by decide) z, cc]; exact q1.2.2.2.2.1
      · rw [hm 165 x (by decide) (by decide) z, cc]; exact q1.2.2.2.2.2.1
      · rw [hm 166 x (by decide) (by decide) z, cc]; exact q1.2.2.2.2.2.2.1
      · rw [hm 167 x (by decide) (by decide) z, cc]; exact q1.2.2.2.2.2.2.2
      · rw [cc, cc, cc, cc, cc, cc, cc, cc]; omega
      · rw [cc] at i0 i1
        obtain ⟨L, l1, l2, l3⟩ := q3 i i0 i1
        exact ⟨L, by rw [c31]; exact l1, by rw [m159]; exact l2, fun j hj => by rw [m158]; exact l3 j hj⟩
  · exact r_q_mono hb (q_cg R5 (fun n => by rw [(sc 0 n 9 rfl).1, (sc 0 n 5 rfl).2.2, (sc 0 n 14 rfl).1]; exact ⟨Iff.rfl, fun _ => ⟨rfl, rfl⟩⟩) hf (fun n j => (sc 2 n j rfl).1) (fun n j => (sc 25 n j rfl).2.2) (fun k j a b => (sm k 0 j (by simp [w_lkm]; omega)).1))
  · exact rr_cg R6 (fun s _ _ => by rw [(sm 133 0 s rfl).1, (sm 135 0 s rfl).1, (sm 137 0 s rfl).1]; exact ⟨Iff.rfl, fun _ _ _ _ => Iff.rfl⟩) (fun e r => (sc 23 e r rfl).1) (sc 11 0 13 rfl).1
  · exact r_a_mono hb (a_cg R7 (fun n => by rw [(sc 0 n 9 rfl).1]) (fun j => (sc 40 0 j rfl).2.2) (sc 11 0 11 rfl).1 (sc 11 0 12 rfl).1 (fun j => (sm 134 0 j rfl).1) (sm 12 0 32 rfl).1)
  · exact r_g_mono hb (g_cg R8 (fun j => (sc 26 0 j rfl).1) (fun j => (sc 27 0 j rfl).1) (sc 3 0 2 rfl).1 (fun k j a b => (sm k 0 j (by simp [w_lkm]; omega)).1) (sm 12 0 90 rfl).1)
  · exact r_p_cg (fun k n j q => sc k n j (by simp [rpC] at q; simp [w_lk]; omega)) (fun k n j q => (sm k n j (by simp [rpM] at q; simp [w_lkm]; omega)).1) R9
  · exact r_f_cg (fun k n j q => sc k n j (by simp [rpC] at q; simp [w_lk]; omega)) (fun k n j q => (sm k n j (by simp [rpM] at q; simp [w_lkm]; omega)).1) R10
/-- the bytes of a message are laid out -/
theorem m_came {l : List Nat} {n : Nat} (hn : n < 64) (hl : l.length = 40 + 8 * n) : ∀ (d fu i : Nat) (m : JM) (e : Int), bst m l → i + d = n → d < fu →
    ∃ m', F12_unitComes_246 fu e (n : Int) (i : Int) m = (F12_comes e (n : Int) m').bind (fun q => some q) ∧ m'.2 = m.2 ∧ (∀ k n' j, m'.1 k n' j = if k = 168 ∧ n' = 0 ∧ (i : Int) ≤ j ∧ j < (n : Int) then (vr l (24 + 8 * j.toNat) 8 : Int) else m.1 k n' j)
  | _, 0, _, _, _, _, _, q => by omega
  | 0, fu + 1, i, m, e, hb, ei, _ => by
    refine ⟨m, ?_, rfl, fun k n' j => by rw [if_neg (by omega)]⟩
    show F12_unitComes_246b (F12_unitComes_246 fu) _ _ _ m = _
    unfold F12_unitComes_246b
    rw [if_pos (by omega)]
  | d + 1, fu + 1, i, m, e, hb, ei, q => by
    have wi : w32 ((i : Int) + 1) = ((i + 1 : Nat) : Int) := by rw [w32_of (by omega) (by omega)]; omega
    have wa : w32 (24 + w32 (8 * (i : Int))) = ((24 + 8 * i : Nat) : Int) := by rw [w32_of (x := 8 * (i : Int)) (by omega) (by omega), w32_of (by omega) (by omega)]; omega
    have hr := m_read hb (a := 24 + 8 * i) (w := 8) (by decide) (by omega)
    have hb2 : bst (sI m 168 0 (i : Int) (vr l (24 + 8 * i) 8 : Int)) l := ⟨ar_cg hb.1 (fun j _ => rI_o (by omega)), by rw [rI_o (by omega)]; exact hb.2.1, hb.2.2.1, hb.2.2.2⟩
    obtain ⟨m', x1, x2, x3⟩ := m_came hn hl d fu (i + 1) (sI m 168 0 (i : Int) (vr l (24 + 8 * i) 8 : Int)) e hb2 (by omega) (by omega)
    refine ⟨m', ?_, x2, fun k n' j => ?_⟩
    · show F12_unitComes_246b (F12_unitComes_246 fu) _ _ _ m = _
      unfold F12_unitComes_246b
      rw [if_neg (by omega), wa, show (8 : Int) = ((8 : Nat) : Int) from rfl, hr, Option.bind_some, g_t (by omega), lt_d, wi]
      exact x1
    · rw [x3]
      by_cases z : k = 168 ∧ n' = 0
      · obtain ⟨rfl, rfl⟩ := z
        by_cases z2 : j = (i : Int)
        · subst z2
          rw [if_neg (by omega), rI_s, if_pos (by omega), Int.toNat_natCast]
        · by_cases z3 : ((i + 1 : Nat) : Int) ≤ j ∧ j < (n : Int)
          · rw [if_pos (by omega), if_pos (by omega)]
          · rw [if_neg (by omega), rI_o (by omega), if_neg (by omega)]
      · rw [if_neg (by omega), rI_o (by omega), if_neg (by omega)]
/-- the link's answer to a unit that was read -/
theorem p_unit0 (hf : f_ok f) (hB : B + 400 < 2000000000) {h : Int} (hh : h + 1 ≤ 72) {e u : Int} (he : e = 0 ∨ e = 1) {l : List Nat} (hbl : bl l) (hl : l.length = 40 + 8 * vr l 16 6) (bs : bst m l) (h0 : c.1 9 u 0 = (vr l 0 7 : Int)) (h1 : c.1 9 u 1 = (vr l 7 1 : Int)) (h2 : c.1 9 u 2 = (vr l 8 7 : Int)) (h3 : c.1 9 u 3 = (vr l 15 1 : Int)) (hd : dm N (vr l 16 6) (fun j => vr l (24 + 8 * j) 8) (c.2.1 9 u 4)) (h5 : c.1 9 u 5 = 0) (R : relN f N B (h, aL) c m) :
    ∃ f' c' m', f_ok f' ∧ (∀ k2, (F5_take e (some u) c).bind (fun q1 => ud k2 e q1.1 q1.2) = k2 (e + 1) c') ∧ ((F12_read 0 7 m).bind (fun q18 =>
 g_ ((0 : Int) ≤ e ∧ e < (2 : Int)) (
 (F12_modulo (w32 (q18.1 - (q18.2.1 161 0 e))) q18.2).bind (fun q19 =>
 g_ ((0 : Int) ≤ e ∧ e < (2 : Int)) (
 g_ ((0 : Int) ≤ e ∧ e < (2 : Int)) (
 if q19.1 ≤ w32 ((q19.2.1 163 0 e) - (q19.2.1 161 0 e)) then (
 g_ ((0 : Int) ≤ e ∧ e < (2 : Int)) (
 g_ ((0 : Int) ≤ e ∧ e < (2 : Int)) (
 lt_ (sI q19.2 161 0 e (w32 ((q19.2.1 161 0 e) + q19.1))) (fun h20 =>
 g_ ((0 : Int) ≤ e ∧ e < (2 : Int)) (
 g_ ((0 : Int) ≤ e ∧ e < (2 : Int)) (
 if h20.1 161 0 e ≤ h20.1 162 0 e then (
 g_ ((0 : Int) ≤ e ∧ e < (2 : Int)) (
 F12_unitComes_133 e (some 0) e (h20.1 162 0 e) h20)) else (
 g_ ((0 : Int) ≤ e ∧ e < (2 : Int)) (
 F12_unitComes_133 e (some 0) e (h20.1 161 0 e) h20)))))))) else (
 some q19.2))))))) = some m' ∧ relN f' N (B + 30) (h + 1, aL) c' m' ∧ so w_D c c' ∧ so w_T m m' := by
  have r4 := R.2.2.2.1 e he
  obtain ⟨⟨m0, m1, m2, m3, m4, m5, m6, m7⟩, ⟨i1, i2, i3, i4, i5, i6, i7, i8, i9, i10, i11, i12⟩, _⟩ := r4
  have he2 : (0 : Int) ≤ e ∧ e < 2 := by omega
  have we : w32 (e + 1) = e + 1 := w32_of (by omega) (by omega)
  have l7 := vr_lt hbl 0 7
  have l8 := vr_lt hbl 8 7
  have l1 := vr_lt hbl 7 1
  have l15 := vr_lt hbl 15 1
  have hn64 := vr_lt hbl 16 6
  have rd0 := m_read bs (a := 0) (w := 7) (by decide) (by omega)
  rw [show ((0 : Nat) : Int) = 0 from rfl, show ((7 : Nat) : Int) = 7 from rfl] at rd0
  generalize hK : ((vr l 0 7 : Int) - c.1 5 e 1) % 128 = k at *
  have km : (F12_modulo (w32 ((vr l 0 7 : Int) - m.1 161 0 e)) m) = some (k, m) := by rw [m1, m_modulo (by omega) (by omega), hK]
  have kc : j_and (w32 (c.1 9 u 0 - c.1 5 e 1)) 127 = k := by rw [h0, v_and127, hK]
  have wh : w32 (c.1 5 e 3 - c.1 5 e 1) = c.1 5 e 3 - c.1 5 e 1 := w32_of (by omega) (by omega)
  have k0 : 0 ≤ k ∧ k < 128 := by omega
  have upd : ∀ {c' m'}, relN f N (B + 1) (h, aL) c' m' → relN f N (B + 30) (h + 1, aL) c' m' := fun r => rel_mono (by omega) (rel_up r (by omega) hh)
  have nomsg : ∀ k2 (c' : JM), ud k2 e (-1) c' = k2 (e + 1) c' := fun k2 c' => by
    unfold ud F11_takeUnits_129
    rw [if_pos (by decide), we]
  rw [rd0, Option.bind_some]
  dsimp only
  rw [g_t he2, km, Option.bind_some]
  simp only [g_t he2]
  rw [m3, m1, wh]
  have tk0 : F5_take e (some u) c = F5_take_18 e (some u) c := by
    unfold F5_take
    rw [Option.bind_some, if_neg (by omega)]
  by_cases zk : k ≤ c.1 5 e 3 - c.1 5 e 1
  · have wA : w32 (c.1 5 e 1 + k) = c.1 5 e 1 + k := w32_of (by omega) (by omega)
    rw [if_pos zk, wA, lt_d]
    obtain ⟨A, hA⟩ : ∃ A, A = c.1 5 e 1 + k := ⟨_, rfl⟩
    obtain ⟨Xn, hX⟩ : ∃ Xn, Xn = if A ≤ c.1 5 e 2 then c.1 5 e 2 else A := ⟨_, rfl⟩
    have hXr : A ≤ Xn ∧ Xn ≤ c.1 5 e 3 := by rw [hX]; split <;> omega
    rw [← hA]
    -- the class up to the bib
    have cc0 : ∃ cX, F5_take_18 e (some u) c = F5_take_88 e (some u) cX ∧ so w_lk c cX ∧ (∀ n j, cX.1 5 n j = if n = e ∧ j = 1 then A else if n = e ∧ j = 2 then Xn else c.1 5 n j) := by
      unfold F5_take_18
      rw [Option.bind_some, if_pos h5, lt_d, kc, wh, if_pos zk, wA, lt_d, ← hA, rI_s, rI_o (by omega)]
      by_cases zx : A ≤ c.1 5 e 2
      · rw [if_pos zx]
        refine ⟨_, rfl, so_I (so_rfl c) rfl _ _, fun n j => ?_⟩
        rw [rI_I, hX, if_pos zx]
        by_cases y : n = e ∧ j = 1
        · rw [if_pos (by omega), if_pos y]
        · rw [if_neg (by omega), if_neg y]
          by_cases y2 : n = e ∧ j = 2
          · rw [if_pos y2, y2.1, y2.2]
          · rw [if_neg y2]
      · rw [if_neg zx, lt_d]
        refine ⟨_, rfl, so_I (so_I (so_rfl c) rfl _ _) rfl _ _, fun n j => ?_⟩
        rw [rI_I, rI_I, hX, if_neg zx]
        by_cases y : n = e ∧ j = 1
        · rw [if_neg (by omega), if_pos (by omega), if_pos y]
        · by_cases y2 : n = e ∧ j = 2
          · rw [if_pos (by omega), if_neg y, if_pos y2]
          · rw [if_neg (by omega), if_neg (by omega), if_neg y, if_neg y2]
    obtain ⟨cX, tk1, sX, cXI⟩ := cc0
    -- the reference up to the bib
    have mm0 : (if (sI m 161 0 e A).1 161 0 e ≤ (sI m 161 0 e A).1 162 0 e then F12_unitComes_133 e (some 0) e ((sI m 161 0 e A).1 162 0 e) (sI m 161 0 e A) else F12_unitComes_133 e (some 0) e ((sI m 161 0 e A).1 161 0 e) (sI m 161 0 e A)) = F12_unitComes_133 e (some 0) e Xn (sI m 161 0 e A) := by
      rw [rI_s, rI_o (by omega), m2, hX]
      by_cases zx : A ≤ c.1 5 e 2
      · rw [if_pos zx, if_pos zx]
      · rw [if_neg zx, if_neg zx]
    rw [mm0]
    have bsX : bst (sI (sI m 161 0 e A) 162 0 e Xn) l := ⟨ar_cg bs.1 (fun j _ => by rw [rI_o (by omega), rI_o (by omega)]), by rw [rI_o (by omega), rI_o (by omega)]; exact bs.2.1, bs.2.2.1, bs.2.2.2⟩
    have rd7 := m_read bsX (a := 7) (w := 1) (by decide) (by omega)
    rw [show ((7 : Nat) : Int) = 7 from rfl, show ((1 : Nat) : Int) = 1 from rfl] at rd7
    unfold F12_unitComes_133
    rw [Option.bind_some, g_t he2, lt_d, rd7, Option.bind_some]
    simp only [g_t he2]
    rw [rI_o (by omega), rI_o (by omega), m5]
    obtain ⟨Fb, hFb⟩ : ∃ Fb, Fb = (vr l 7 1 : Int) := ⟨_, rfl⟩
    obtain ⟨Xm, hXm⟩ : ∃ Xm, Xm = if Fb = c.1 5 e 5 then Xn else A := ⟨_, rfl⟩
    have hXmr : A ≤ Xm ∧ Xm ≤ c.1 5 e 3 := by rw [hXm]; split <;> omega
    have ccb : ∃ cB, F5_take_88 e (some u) cX = F5_take_115 e (some u) cB ∧ so w_lk c cB ∧ (∀ n j, cB.1 5 n j = if n = e ∧ j = 1 then A else if n = e ∧ j = 2 then Xm else if n = e ∧ j = 5 then Fb else c.1 5 n j) := by
      have cX5 : cX.1 5 e 5 = c.1 5 e 5 := by rw [cXI, if_neg (by omega), if_neg (by omega)]
      unfold F5_take_88
      rw [Option.bind_some, (sX 9 u 1 rfl).1, h1, ← hFb, cX5]
      by_cases zf : Fb = c.1 5 e 5
      · rw [if_pos zf]
        refine ⟨cX, rfl, sX, fun n j => ?_⟩
        rw [cXI, hXm, if_pos zf]
        by_cases y5 : n = e ∧ j = 5
        · rw [if_neg (by omega), if_neg (by omega), if_neg (by omega), if_neg (by omega), if_pos y5, zf, y5.1, y5.2]
        · rw [if_neg y5]
      · have cX1 : (sI cX 5 e 5 Fb).1 5 e 1 = A := by rw [rI_o (by omega), cXI, if_pos ⟨rfl, rfl⟩]
        rw [if_neg zf, lt_d, lt_d, cX1]
        refine ⟨_, rfl, so_I (so_I sX rfl _ _) rfl _ _, fun n j => ?_⟩
        rw [rI_I, rI_I, cXI, hXm, if_neg zf]
        by_cases y1 : n = e ∧ j = 1
        · rw [if_neg (by omega), if_neg (by omega), if_pos y1, if_pos y1]
        · by_cases y2 : n = e ∧ j = 2
          · rw [if_pos (by omega), if_neg y1, if_pos y2]
          · by_cases y5 : n = e ∧ j = 5
            · rw [if_neg (by omega), if_pos (by omega), if_neg y1, if_neg y2, if_pos y5]
            · rw [if_neg (by omega), if_neg (by omega), if_neg y1, if_neg y2, if_neg y1, if_neg y2, if_neg y5]
    obtain ⟨cB, tk2, sB, cBI⟩ := ccb
    have mmb : ∃ mB, (if (vr l 7 1 : Int) = c.1 5 e 5 then F12_unitComes_175 e (sI (sI m 161 0 e A) 162 0 e Xn) else (F12_read 7 1 (sI (sI m 161 0 e A) 162 0 e Xn)).bind (fun q13 => lt_ (sI q13.2 165 0 e q13.1) (fun h14 => lt_ (sI h14 162 0 e (h14.1 161 0 e)) (fun h15 => F12_unitComes_175 e h15)))) = F12_unitComes_175 e mB ∧ so w_lkm m mB ∧ (∀ k j, mB.1 k 0 j = if k = 161 ∧ j = e then A else if k = 162 ∧ j = e then Xm else if k = 165 ∧ j = e then Fb else m.1 k 0 j) := by
      rw [rd7, Option.bind_some, ← hFb]
      by_cases zf : Fb = c.1 5 e 5
      · rw [if_pos zf]
        refine ⟨_, rfl, so_I (so_I (so_rfl m) rfl _ _) rfl _ _, fun k j => ?_⟩
        rw [rI_I, rI_I, hXm, if_pos zf]
        by_cases y1 : k = 161 ∧ j = e
        · rw [if_neg (by omega), if_pos (by omega), if_pos y1]
        · by_cases y2 : k = 162 ∧ j = e
          · rw [if_pos (by omega), if_neg y1, if_pos y2]
          · by_cases y5 : k = 165 ∧ j = e
            · rw [if_neg (by omega), if_neg (by omega), if_neg y1, if_neg y2, if_pos y5, y5.1, y5.2, m5, zf]
            · rw [if_neg (by omega), if_neg (by omega), if_neg y1, if_neg y2, if_neg y5]
      · rw [if_neg zf, lt_d, lt_d]
        refine ⟨_, rfl, so_I (so_I (so_I (so_I (so_rfl m) rfl _ _) rfl _ _) rfl _ _) rfl _ _, fun k j => ?_⟩
        rw [rI_o (k' := 161) (by omega), rI_o (k' := 161) (by omega), rI_s, rI_I, rI_I, rI_I, rI_I, hXm, if_neg zf]
        by_cases y1 : k = 161 ∧ j = e
        · rw [if_neg (by omega), if_neg (by omega), if_neg (by omega), if_pos (by omega), if_pos y1]
        · by_cases y2 : k = 162 ∧ j = e
          · rw [if_pos (by omega), if_neg y1, if_pos y2]
          · by_cases y5 : k = 165 ∧ j = e
            · rw [if_neg (by omega), if_pos (by omega), if_neg y1, if_neg y2, if_pos y5]
            · rw [if_neg (by omega), if_neg (by omega), if_neg (by omega), if_neg (by omega), if_neg y1, if_neg y2, if_neg y5]
    obtain ⟨mB, tm2, sMB, mBI⟩ := mmb
    have tkA : F5_take e (some u) c = F5_take_115 e (some u) cB := by rw [tk0, tk1, tk2]
    rw [tkA]
    have tmA := tm2
    rw [tmA]
    -- what is left
    have bsB : bst mB l := ⟨ar_cg bs.1 (fun j _ => by rw [mBI, if_neg (by omega), if_neg (by omega), if_neg (by omega)]), by rw [mBI, if_neg (by omega), if_neg (by omega), if_neg (by omega)]; exact bs.2.1, bs.2.2.1, bs.2.2.2⟩
    have rd15 := m_read bsB (a := 15) (w := 1) (by decide) (by omega)
    have rd8 := m_read bsB (a := 8) (w := 7) (by decide) (by omega)
    have rd16 := m_read bsB (a := 16) (w := 6) (by decide) (by omega)
    rw [show ((15 : Nat) : Int) = 15 from rfl, show ((1 : Nat) : Int) = 1 from rfl] at rd15
    rw [show ((8 : Nat) : Int) = 8 from rfl, show ((7 : Nat) : Int) = 7 from rfl] at rd8
    rw [show ((16 : Nat) : Int) = 16 from rfl, show ((6 : Nat) : Int) = 6 from rfl] at rd16
    have mB6 : mB.1 166 0 e = c.1 5 e 6 := by rw [mBI, if_neg (by omega), if_neg (by omega), if_neg (by omega)]; exact m6
    have mB4 : mB.1 164 0 e = c.1 5 e 4 := by rw [mBI, if_neg (by omega), if_neg (by omega), if_neg (by omega)]; exact m4
    have cB6 : cB.1 5 e 6 = c.1 5 e 6 := by rw [cBI, if_neg (by omega), if_neg (by omega), if_neg (by omega)]
    have cB4 : cB.1 5 e 4 = c.1 5 e 4 := by rw [cBI, if_neg (by omega), if_neg (by omega), if_neg (by omega)]
    have hFb01 : Fb = 0 ∨ Fb = 1 := by omega
    -- the relation after any end of this
    have fin : ∀ (cE mE : JM) (g4 g6 : Int), so w_lk cB cE → so w_lkm mB mE → (∀ n j, cE.1 5 n j = if n = e ∧ j = 4 then g4 else if n = e ∧ j = 6 then g6 else cB.1 5 n j) → (∀ k j, 160 ≤ k → k ≤ 167 → mE.1 k 0 j = if k = 164 ∧ j = e then g4 else if k = 166 ∧ j = e then g6 else mB.1 k 0 j) → 0 ≤ g4 → g4 ≤ B + 1 → (g6 = 0 ∨ g6 = 1) → relN f N (B + 1) (h, aL) cE mE := fun cE mE g4 g6 s1 s2 cI mI a1 a2 a3 => by
      refine rel_lk hf R he (so_tr sB s1) (so_tr sMB s2) (fun n j q => ?_) (fun k j a b q => ?_) ⟨?_, ?_, ?_, ?_, ?_, ?_⟩ ?_
      · rw [cI, if_neg (by omega), if_neg (by omega), cBI, if_neg (by omega), if_neg (by omega), if_neg (by omega)]
      · rw [mI k j a b, if_neg (by omega), if_neg (by omega), mBI, if_neg (by omega), if_neg (by omega), if_neg (by omega)]
      · rw [mI 161 e (by decide) (by decide), cI, if_neg (by omega), if_neg (by omega), if_neg (by omega), if_neg (by omega), mBI, cBI, if_pos (by omega), if_pos (by omega)]
      · rw [mI 162 e (by decide) (by decide), cI, if_neg (by omega), if_neg (by omega), if_neg (by omega), if_neg (by omega), mBI, cBI, if_neg (by omega), if_pos (by omega), if_neg (by omega), if_pos (by omega)]
      · rw [mI 164 e (by decide) (by decide), cI, if_pos (by omega), if_pos (by omega)]
      · rw [mI 165 e (by decide) (by decide), cI, if_neg (by omega), if_neg (by omega), if_neg (by omega), if_neg (by omega), mBI, cBI, if_neg (by omega), if_neg (by omega), if_pos (by omega), if_neg (by omega), if_neg (by omega), if_pos (by omega)]
      · rw [mI 166 e (by decide) (by decide), cI, if_neg (by omega), if_pos (by omega), if_neg (by omega), if_pos (by omega)]
      · rw [mI 167 e (by decide) (by decide), cI, if_neg (by omega), if_neg (by omega), if_neg (by omega), if_neg (by omega), mBI, cBI, if_neg (by omega), if_neg (by omega), if_neg (by omega), if_neg (by omega), if_neg (by omega), if_neg (by omega)]
        exact m7
      · have z1 : cE.1 5 e 1 = A := by rw [cI, if_neg (by omega), if_neg (by omega), cBI, if_pos (by omega)]
        have z2 : cE.1 5 e 2 = Xm := by rw [cI, if_neg (by omega), if_neg (by omega), cBI, if_neg (by omega), if_pos (by omega)]
        have z4 : cE.1 5 e 4 = g4 := by rw [cI, if_pos (by omega)]
        have z5 : cE.1 5 e 5 = Fb := by rw [cI, if_neg (by omega), if_neg (by omega), cBI, if_neg (by omega), if_neg (by omega), if_pos (by omega)]
        have z6 : cE.1 5 e 6 = g6 := by rw [cI, if_neg (by omega), if_pos (by omega)]
        have z7 : cE.1 5 e 7 = c.1 5 e 7 := by rw [cI, if_neg (by omega), if_neg (by omega), cBI, if_neg (by omega), if_neg (by omega), if_neg (by omega)]
        rw [z1, z2, z4, z5, z6, z7]
        exact ⟨by omega, hXmr.1, hXmr.2, a1, a2, i9, by omega, hFb01, a3⟩
    have same : relN f N (B + 1) (h, aL) cB mB := fin cB mB (c.1 5 e 4) (c.1 5 e 6) (so_rfl _) (so_rfl _) (fun n j => by
      by_cases y : n = e ∧ j = 4
      · rw [if_pos y, y.1, y.2, cB4]
      · rw [if_neg y]
        by_cases y : n = e ∧ j = 6
        · rw [if_pos y, y.1, y.2, cB6]
        · rw [if_neg y]) (fun k j _ _ => by
      by_cases y : k = 164 ∧ j = e
      · rw [if_pos y, y.1, y.2, mB4]
      · rw [if_neg y]
        by_cases y : k = 166 ∧ j = e
        · rw [if_pos y, y.1, y.2, mB6]
        · rw [if_neg y]) i7 (by omega) i12
    have scB : so w_D c cB := so_mono w_k1 sB
    have smB : so w_T m mB := so_mono w_k2 sMB
    generalize hD : ((vr l 8 7 : Int) - c.1 5 e 4) % 128 = dd at *
    have dm8 : (F12_modulo (w32 ((vr l 8 7 : Int) - mB.1 164 0 e)) mB) = some (dd, mB) := by rw [mB4, m_modulo (by omega) (by omega), hD]
    have dc8 : j_and (w32 (cB.1 9 u 2 - cB.1 5 e 4)) 127 = dd := by rw [(sB 9 u 2 rfl).1, h2, cB4, v_and127, hD]
    unfold F12_unitComes_175 F5_take_115 F5_take_178 F5_take_143
    rw [rd15, Option.bind_some, Option.bind_some, dc8, lt_d, (sB 9 u 3 rfl).1, h3, cB6, (sB 9 u 4 rfl).2.1]
    simp only [g_t he2]
    rw [mB6]
    by_cases zb : (vr l 15 1 : Int) = c.1 5 e 6
    · rw [if_pos zb, if_pos zb, rd8, Option.bind_some]
      dsimp only
      rw [dm8, Option.bind_some]
      dsimp only
      rw [rd16, Option.bind_some]
      dsimp only
      -- the bit is turned
      have turn : ∀ k2 : Int → JM → Option JM, dd ≠ 0 → ∃ f' c' m', f_ok f' ∧ (∀ k2, (lt_ (sI cB 5 e 6 (w32 (1 - c.1 5 e 6))) (fun h1 => some ((-1 : Int), h1))).bind (fun q1 => ud k2 e q1.1 q1.2) = k2 (e + 1) c') ∧ F12_unitComes_290 e dd mB = some m' ∧ relN f' N (B + 30) (h + 1, aL) c' m' ∧ so w_D c c' ∧ so w_T m m' := fun _ hd0 => by
        have wb1 : w32 (1 - c.1 5 e 6) = 1 - c.1 5 e 6 := w32_of (by omega) (by omega)
        refine ⟨f, sI cB 5 e 6 (1 - c.1 5 e 6), sI mB 166 0 e (1 - c.1 5 e 6), hf, fun k2 => ?_, ?_, upd (fin _ _ (c.1 5 e 4) (1 - c.1 5 e 6) (so_I (so_rfl _) rfl _ _) (so_I (so_rfl _) rfl _ _) (fun n j => ?_) (fun k j _ _ => ?_) i7 (by omega) (by omega)), so_I scB rfl _ _, so_I smB rfl _ _⟩
        · rw [lt_d, wb1, Option.bind_some]
          exact nomsg k2 _
        · unfold F12_unitComes_290
          rw [if_neg hd0]
          simp only [g_t he2, lt_d]
          rw [mB6, wb1]
        · rw [rI_I]
          by_cases y6 : n = e ∧ j = 6
          · rw [if_pos (by omega), if_neg (by omega), if_pos y6]
          · rw [if_neg (by omega), if_neg y6]
            by_cases y : n = e ∧ j = 4
            · rw [if_pos y, y.1, y.2, cB4]
            · rw [if_neg y]
        · rw [rI_I]
          by_cases y6 : k = 166 ∧ j = e
          · rw [if_pos (by omega), if_neg (by omega), if_pos y6]
          · rw [if_neg (by omega), if_neg y6]
            by_cases y : k = 164 ∧ j = e
            · rw [if_pos y, y.1, y.2, mB4]
            · rw [if_neg y]
      by_cases zd0 : dd = 0
      · rw [if_pos zd0, if_neg (by omega)]
        refine ⟨f, cB, mB, hf, fun k2 => ?_, ?_, upd same, scB, smB⟩
        · rw [Option.bind_some]; exact nomsg k2 cB
        · unfold F12_unitComes_290
          rw [if_pos zd0]
      · rw [if_neg zd0]
        by_cases zd1 : dd = 1
        · rw [if_pos zd1, if_pos zd1]
          by_cases zn : vr l 16 6 = 0
          · have xm : c.2.1 9 u 4 = -1 := by
              rcases hd with ⟨_, q⟩ | ⟨q, _⟩ | ⟨L, q1, q2, _⟩
              · exact q
              · omega
              · have := (mg_len q1).1; omega
            rw [if_pos (lc_eq.2 xm), if_pos (by omega)]
            exact turn (fun _ _ => none) zd0
          · have xm : c.2.1 9 u 4 ≠ -1 := by
              rcases hd with ⟨q, _⟩ | ⟨_, q, _⟩ | ⟨L, q1, _⟩
              · exact absurd q zn
              · rw [q]; decide
              · have := mg_nn q1; omega
            have wg : w32 (c.1 5 e 4 + 1) = c.1 5 e 4 + 1 := w32_of (by omega) (by omega)
            rw [if_neg (fun w => xm (lc_eq.1 w)), if_neg (by omega), cB4, mB4, wg, lt_d, lt_d]
            obtain ⟨cG, hcG⟩ : ∃ x, x = sI cB 5 e 4 (c.1 5 e 4 + 1) := ⟨_, rfl⟩
            obtain ⟨mG, hmG⟩ : ∃ x, x = sI mB 164 0 e (c.1 5 e 4 + 1) := ⟨_, rfl⟩
            rw [← hcG, ← hmG]
            have bsG : bst mG l := by rw [hmG]; exact ⟨ar_cg bsB.1 (fun j _ => rI_o (by omega)), by rw [rI_o (by omega)]; exact bsB.2.1, bsB.2.2.1, bsB.2.2.2⟩
            obtain ⟨mC, x1, x2, x3⟩ := m_came (n := vr l 16 6) hn64 hl (vr l 16 6) j_fu 0 mG e bsG (by omega) (by unfold j_fu; omega)
            rw [show ((0 : Nat) : Int) = 0 from rfl] at x1
            rw [x1]
            have sGC : so w_lkm mG mC := fun k n j q => ⟨by rw [x3, if_neg (fun w => by rw [w.1] at q; simp [w_lkm] at q)], by rw [x2], by rw [x2]⟩
            have RG : relN f N (B + 1) (h, aL) cG mC := fin _ _ (c.1 5 e 4 + 1) (c.1 5 e 6) (by rw [hcG]; exact so_I (so_rfl _) rfl _ _) (so_tr (by rw [hmG]; exact so_I (so_rfl _) rfl _ _) sGC) (fun n j => by
              rw [hcG, rI_I]
              by_cases y : n = e ∧ j = 4
              · rw [if_pos (by omega), if_pos y]
              · rw [if_neg (by omega), if_neg y]
                by_cases y : n = e ∧ j = 6
                · rw [if_pos y, y.1, y.2, cB6]
                · rw [if_neg y]) (fun k j a b => by
              rw [x3, if_neg (by omega), hmG, rI_I]
              by_cases y : k = 164 ∧ j = e
              · rw [if_pos (by omega), if_pos y]
              · rw [if_neg (by omega), if_neg y]
                by_cases y : k = 166 ∧ j = e
                · rw [if_pos y, y.1, y.2, mB6]
                · rw [if_neg y]) (by omega) (by omega) i12
            obtain ⟨f', c', m', p0, p1, p2, p3, p4, p5⟩ := p_comes (n := vr l 16 6) (b := fun j => vr l (24 + 8 * j) 8) (x := c.2.1 9 u 4) hf (by omega) hh he ⟨by omega, hn64⟩ (fun j hj => by rw [x3, if_pos (by omega), Int.toNat_natCast]) hd RG
            refine ⟨f', c', m', p0, fun k2 => ?_, by rw [p2, Option.bind_some], rel_mono (by omega) p3, so_tr (by rw [hcG]; exact so_I scB rfl _ _) p4, so_tr (so_tr (by rw [hmG]; exact so_I smB rfl _ _) (so_mono w_k2 sGC)) (so_mono w_k3 p5)⟩
            rw [Option.bind_some]
            dsimp only
            rw [show cG.2.1 9 u 4 = c.2.1 9 u 4 by rw [hcG]; exact (sB 9 u 4 rfl).2.1]
            exact p1 k2
        · rw [if_neg zd1, if_neg zd1]
          exact turn (fun _ _ => none) zd0
    · rw [if_neg zb, if_neg zb]
      exact ⟨f, cB, mB, hf, fun k2 => by rw [Option.bind_some]; exact nomsg k2 cB, rfl, upd same, scB, smB⟩
  · rw [if_neg zk]
    refine ⟨f, c, m, hf, fun k2 => ?_, rfl, rel_mono (by omega) (rel_up R (by omega) hh), so_rfl c, so_rfl m⟩
    rw [tk0]
    unfold F5_take_18
    rw [Option.bind_some, if_pos h5, lt_d, kc, wh, if_neg zk, Option.bind_some]
    exact nomsg k2 c
end SN
