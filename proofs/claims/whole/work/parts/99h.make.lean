/-! ===== a new call ===== -/
section SB
variable {f f' : Int → Int} {N z1 z2 X : Int} {sec : Option Int} {Y zd : Int} {c m c' m' : JM} {B B' : Int} {H : HT}

theorem r_h_phi (ag : ∀ i, lv c i → f' i = f i) (dd : ∀ i, 0 ≤ i → i < 80 → ¬ lv c i → m.1 133 0 (f' i) = -1) (HH : r_h f N z1 z2 X sec Y zd c m) : r_h f' N z1 z2 X sec Y zd c m := by
  have rfe : ∀ o : Option Int, (∀ i, o = some i → lv c i) → rf f' o = rf f o := fun o h => by
    cases o with
    | none => rfl
    | some i => exact ag i (h i rfl)
  obtain ⟨h_st, h_sx, h_hm, h_sa, h_sb, h_gp, h_ky, h_k1, h_fw, h_fr, h_ce, h_an, h_zn, h_rw, h_la, h_lo, h_lr, h_wa, h_wo, h_wx, h_wr, h_w3, h_w4, h_w8, h_w9, h_w5, h_t1, h_t2, h_t3, h_t6, h_t9, h_ty, h_xx, h_zr⟩ := HH
  refine ⟨?_, ?_, ?_, ?_, ?_, ?_, ?_, ?_, ?_, ?_, ?_, ?_, ?_, ?_, ?_, ?_, ?_, ?_, ?_, ?_, ?_, ?_, ?_, ?_, ?_, ?_, ?_, ?_, ?_, ?_, ?_, ?_, ?_, ?_⟩
  · -- st
    intro i a b
    by_cases z : lv c i
    · rw [ag i z]; exact h_st i a b
    · have e1 := dd i a (by omega) z
      have e2 : c.1 0 i 9 = -1 := by
        by_cases w : c.1 0 i 9 = -1
        · exact w
        · exact absurd ⟨a, b, w⟩ z
      have := h_st i a b
      rw [e1, e2]; omega
  · -- sx
    intro i a b
    exact dd i (by omega) b (fun z => by have := z.2.1; omega)
  · -- hm
    intro i a
    rw [ag i a]; exact h_hm i a
  · -- sa
    intro i a
    rw [ag i a]; exact h_sa i a
  · -- sb
    intro i a
    rw [ag i a]; exact h_sb i a
  · -- gp
    intro i a
    rw [ag i a]; exact h_gp i a
  · -- ky
    intro i a b
    rw [ag i a]; exact h_ky i a b
  · -- k1
    intro i a b
    rw [ag i a]; exact h_k1 i a b
  · -- fw
    intro i a
    rw [ag i a]; exact h_fw i a
  · -- fr
    intro i a
    rw [ag i a]; exact h_fr i a
  · -- ce
    intro i a
    rw [ag i a]; exact h_ce i a
  · -- an
    intro i a
    rw [ag i a]; exact h_an i a
  · -- zn
    intro i a b
    rw [ag i a]; exact h_zn i a b
  · -- rw
    intro i a s
    rw [ag i a]; exact h_rw i a s
  · -- la
    intro l a b
    rw [rfe _ (fun i q => (h_wa l i q).2.2.1)]; exact h_la l a b
  · -- lo
    intro l a b d
    rw [rfe _ (fun i q => (h_wo l i q).2.2.1)]; exact h_lo l a b d
  · -- lr
    intro l a b
    rw [rfe _ (fun i q => (h_wr l i q).2.2.1)]; exact h_lr l a b
  · -- wa
    exact h_wa
  · -- wo
    exact h_wo
  · -- wx
    exact h_wx
  · -- wr
    exact h_wr
  · -- w3
    exact h_w3
  · -- w4
    exact h_w4
  · -- w8
    exact h_w8
  · -- w9
    exact h_w9
  · -- w5
    exact h_w5
  · -- t1
    exact h_t1
  · -- t2
    intro t a b
    rw [rfe _ (fun i q => ?_)]
    · exact h_t2 t a b
    · by_cases w : t = Y
      · have := h_ty (by omega); rw [← w, q] at this; cases this.2.2.1
      · rcases h_t3 t a b w with ⟨_, z⟩ | ⟨j, z1, z2, _⟩
        · rw [q] at z; cases z
        · rw [q] at z1; cases z1; exact z2
  · -- t3
    exact h_t3
  · -- t6
    exact h_t6
  · -- t9
    exact h_t9
  · -- ty
    exact h_ty
  · -- xx
    intro a
    obtain ⟨x1, x2, x3, x4⟩ := h_xx a
    exact ⟨x1, x2, by rw [rfe _ (fun i q => (x4 i q).1)]; exact x3, x4⟩
  · -- zr
    exact h_zr

theorem rel_phi (hf : f_ok f) (hf' : f_ok f') (ag : ∀ i, lv c i → f' i = f i) (dd : ∀ i, 0 ≤ i → i < 80 → ¬ lv c i → m.1 133 0 (f' i) = -1) (R : rel f N z1 z2 X sec Y zd B H c m) : rel f' N z1 z2 X sec Y zd B H c m := by
  obtain ⟨R1, R2, R3, R4, R5, R6, R7, R8, R9, R10⟩ := R
  refine ⟨R1, R2, r_h_phi ag dd R3, R4, ?_, R6, ?_, R8, R9, R10⟩
  · obtain ⟨h1, h2, h3, h4, h5, h6⟩ := R5
    refine ⟨h1, h2, ?_, ?_, ?_, h6⟩
    · intro q q0 q1
      refine ⟨(h3 q q0 q1).1, fun i i0 i1 => ?_⟩
      obtain ⟨x, x1, x2, x3, x4⟩ := (h3 q q0 q1).2 i i0 i1
      exact ⟨x, x1, x2, x3, by rw [ag x x1]; exact x4⟩
    · intro q i j a b q0 q1 i0 ij j1 e1 e2
      obtain ⟨x, x1, x2, x3, x4⟩ := (h3 q q0 q1).2 i i0 (by omega)
      obtain ⟨y, y1, y2, y3, y4⟩ := (h3 q q0 q1).2 j (by omega) j1
      have ha : a = x := hf'.1 _ _ (by rw [← e1, x4, ag x x1])
      have hb : b = y := hf'.1 _ _ (by rw [← e2, y4, ag y y1])
      subst ha hb
      exact h4 q i j a b q0 q1 i0 ij j1 x4 y4
    · intro x q x1 x2 x3
      rw [ag x x1]
      exact h5 x q x1 x2 x3
  · obtain ⟨h1, h2, h3, h4, h5, h6, h7, h8, h9⟩ := R7
    refine ⟨h1, h2, h3, h4, h5, fun i j a b i0 ij jh e1 e2 la lb => ?_, fun a la => ?_, h8, h9⟩
    · rw [ag a la, ag b lb]; exact h6 i j a b i0 ij jh e1 e2 la lb
    · rw [ag a la]; exact h7 a la
/-- f with the images of two swapped, so that id's is s -/
def sw (f : Int → Int) (id a : Int) (i : Int) : Int := if i = id then f a else if i = a then f id else f i
theorem sw_ok (hf : f_ok f) {id a : Int} (h1 : 0 ≤ id ∧ id < 80) (h2 : 0 ≤ a ∧ a < 80) : f_ok (sw f id a) := by
  obtain ⟨i1, i2, i3, i4⟩ := hf
  refine ⟨fun x y => ?_, fun x => ?_, fun x x0 x1 => ?_, fun s s0 s1 => ?_⟩
  · unfold sw
    intro e
    by_cases a1 : x = id
    · rw [if_pos a1] at e
      by_cases a2 : y = id
      · omega
      · rw [if_neg a2] at e
        by_cases a4 : y = a
        · rw [if_pos a4] at e; have := i1 _ _ e; omega
        · rw [if_neg a4] at e; have := i1 _ _ e; omega
    · rw [if_neg a1] at e
      by_cases a3 : x = a
      · rw [if_pos a3] at e
        by_cases a2 : y = id
        · rw [if_pos a2] at e; have := i1 _ _ e; omega
        · rw [if_neg a2] at e
          by_cases a4 : y = a
          · omega
          · rw [if_neg a4] at e; have := i1 _ _ e; omega
      · rw [if_neg a3] at e
        by_cases a2 : y = id
        · rw [if_pos a2] at e; have := i1 _ _ e; omega
        · rw [if_neg a2] at e
          by_cases a4 : y = a
          · rw [if_pos a4] at e; have := i1 _ _ e; omega
          · rw [if_neg a4] at e; exact i1 _ _ e
  · unfold sw; split
    · exact i2 _
    · split
      · exact i2 _
      · exact i2 _
  · unfold sw; split
    · exact i3 a h2.1 h2.2
    · split
      · exact i3 id h1.1 h1.2
      · exact i3 x x0 x1
  · obtain ⟨x, x0, x1, x2⟩ := i4 s s0 s1
    by_cases z1 : x = id
    · refine ⟨a, h2.1, h2.2, ?_⟩
      unfold sw
      by_cases z2 : a = id
      · rw [if_pos z2, z2, ← z1, x2]
      · rw [if_neg z2, if_pos rfl, ← z1, x2]
    · by_cases z2 : x = a
      · exact ⟨id, h1.1, h1.2, by unfold sw; rw [if_pos rfl, ← z2, x2]⟩
      · exact ⟨x, x0, x1, by unfold sw; rw [if_neg z1, if_neg z2, x2]⟩
/-- the reference finds a slot -/
theorem m_slot {e side : Int} : ∀ (d : Nat) (fu : Nat) (i : Int), 0 ≤ i → d < fu → (∃ s, i ≤ s ∧ s < 80 ∧ s - i ≤ d ∧ m.1 133 0 s = -1) →
    ∃ s, 0 ≤ s ∧ s < 80 ∧ m.1 133 0 s = -1 ∧ F12_makes_2 fu e side i m = F12_makes_2b (fun _ _ _ _ => none) e side s m
  | _, 0, _, _, h, _ => by omega
  | d, fu + 1, i, i0, hfu, ⟨s, s1, s2, s3, s4⟩ => by
    by_cases z : m.1 133 0 i = -1
    · refine ⟨i, i0, by omega, z, ?_⟩
      show F12_makes_2b (F12_makes_2 fu) e side i m = _
      unfold F12_makes_2b
      rw [if_pos z, if_pos z]
    · have hne : i ≠ s := fun w => z (w ▸ s4)
      obtain ⟨s', q1, q2, q3, q4⟩ := m_slot (e := e) (side := side) (d - 1) fu (i + 1) (by omega) (by omega) ⟨s, by omega, s2, by omega, s4⟩
      refine ⟨s', q1, q2, q3, ?_⟩
      rw [← q4]
      show F12_makes_2b (F12_makes_2 fu) e side i m = _
      unfold F12_makes_2b
      rw [g_t (show 0 ≤ i ∧ i < 80 by omega), if_neg z, w32_of (by omega) (by omega)]
/-- a slot's first values -/
def m_new (m : JM) (e side s : Int) : JM := sI (sI (sI (sI (sI (sI (sI (sI (sI (sI (sI (sI (sI m 133 0 s 0) 12 0 32 (m.1 12 0 32 + 1)) 134 0 s (m.1 12 0 32)) 135 0 s e) 136 0 s side) 137 0 s (-1)) 138 0 s (-1)) 140 0 s 0) 143 0 s (-1)) 144 0 s 0) 145 0 s (m.1 12 0 2)) 147 0 s 0) 148 0 s 0
theorem m_new_I (m : JM) (e side s : Int) (k : Nat) (n j : Int) : (m_new m e side s).1 k n j = if n = 0 ∧ j = s ∧ (k = 148 ∨ k = 147 ∨ k = 144 ∨ k = 140) then 0 else if k = 145 ∧ n = 0 ∧ j = s then m.1 12 0 2 else if n = 0 ∧ j = s ∧ (k = 143 ∨ k = 138 ∨ k = 137) then -1 else if k = 136 ∧ n = 0 ∧ j = s then side else if k = 135 ∧ n = 0 ∧ j = s then e else if k = 134 ∧ n = 0 ∧ j = s then m.1 12 0 32 else if k = 12 ∧ n = 0 ∧ j = 32 then m.1 12 0 32 + 1 else if k = 133 ∧ n = 0 ∧ j = s then 0 else m.1 k n j := by
  unfold m_new
  simp only [rI_I]
  grind (splits := 60)
theorem f_makes {e side s : Int} (h0 : 0 ≤ s ∧ s < 80) (hs : m.1 133 0 s = -1) (hm : 0 ≤ m.1 12 0 32 ∧ m.1 12 0 32 < 2000000000) : F12_makes_2b (fun _ _ _ _ => none) e side s m = some (s, m_new m e side s) := by
  have w1 : w32 (m.1 12 0 32 + 1) = m.1 12 0 32 + 1 := w32_of (by omega) (by omega)
  unfold F12_makes_2b m_new
  rw [if_pos hs]
  simp only [g_t h0, lt_d]
  have r1 : (sI m 133 0 s 0).1 12 0 32 = m.1 12 0 32 := by simp [rI_I]
  rw [r1, w1]
  have r2 : (sI (sI (sI (sI (sI (sI (sI (sI (sI (sI m 133 0 s 0) 12 0 32 (m.1 12 0 32 + 1)) 134 0 s (m.1 12 0 32)) 135 0 s e) 136 0 s side) 137 0 s (-1)) 138 0 s (-1)) 140 0 s 0) 143 0 s (-1)) 144 0 s 0).1 12 0 2 = m.1 12 0 2 := by simp [rI_I]
  rw [r2]
/-- the class's first values -/
def c_new (c : JM) (id : Int) (e : Option Int) : JM := sI (sI (sI (sI (sI (sI (sI (sL (sR (sI (sR (sR (sR (sR (sR (sR (sI (sI (sI c 11 0 11 (c.1 11 0 11 + 1)) 11 0 12 (c.1 11 0 12 + 1)) 11 0 13 (c.1 11 0 13 + 1)) 0 id 0 e) 0 id 1 none) 0 id 2 none) 0 id 3 none) 0 id 4 none) 0 id 5 none) 0 id 6 (-1)) 0 id 7 none) 0 id 8 0) 0 id 9 0) 0 id 10 (c.1 11 0 10)) 0 id 11 0) 0 id 12 0) 0 id 13 0) 0 id 14 0) 0 id 15 0
theorem f_make {e id : Int} (h1 : 0 ≤ c.1 11 0 11 ∧ c.1 11 0 11 < 72) (h2 : 0 ≤ c.1 11 0 12 ∧ c.1 11 0 12 < 2000000000) (h3 : 0 ≤ c.1 11 0 13 ∧ c.1 11 0 13 ≤ 80) (hi : c.2.2 40 0 (c.1 11 0 11) = some id) : F11_makeCall (some e) c = some (some id, c_new c id (some e)) := by
  have w1 : w32 (c.1 11 0 11 + 1) = c.1 11 0 11 + 1 := w32_of (by omega) (by omega)
  have w2 : w32 (c.1 11 0 12 + 1) = c.1 11 0 12 + 1 := w32_of (by omega) (by omega)
  have w3 : w32 (c.1 11 0 13 + 1) = c.1 11 0 13 + 1 := w32_of (by omega) (by omega)
  unfold F11_makeCall F0_begin c_new
  rw [if_pos h1.2, g_t h1]
  simp only [lt_d]
  rw [hi, Option.bind_some]
  simp [rI_I, w1, w2, w3]
theorem c_new_I (c : JM) (id : Int) (e : Option Int) (k : Nat) (n j : Int) : (c_new c id e).1 k n j = if k = 0 ∧ n = id ∧ (j = 15 ∨ j = 14 ∨ j = 13 ∨ j = 12 ∨ j = 11 ∨ j = 9) then 0 else if k = 0 ∧ n = id ∧ j = 10 then c.1 11 0 10 else if k = 0 ∧ n = id ∧ j = 6 then -1 else if k = 11 ∧ n = 0 ∧ j = 13 then c.1 11 0 13 + 1 else if k = 11 ∧ n = 0 ∧ j = 12 then c.1 11 0 12 + 1 else if k = 11 ∧ n = 0 ∧ j = 11 then c.1 11 0 11 + 1 else c.1 k n j := by
  unfold c_new
  simp only [rI_I, rR_I, rL_I]
  grind (splits := 60)
theorem c_new_R (c : JM) (id : Int) (e : Option Int) (k : Nat) (n j : Int) : (c_new c id e).2.2 k n j = if k = 0 ∧ n = id ∧ (j = 7 ∨ j = 5 ∨ j = 4 ∨ j = 3 ∨ j = 2 ∨ j = 1) then none else if k = 0 ∧ n = id ∧ j = 0 then e else c.2.2 k n j := by
  unfold c_new
  simp only [rI_R, rR_R, rL_R]
  grind (splits := 60)
theorem c_new_L (c : JM) (id : Int) (e : Option Int) (k : Nat) (n j : Int) : (c_new c id e).2.1 k n j = if k = 0 ∧ n = id ∧ j = 8 then 0 else c.2.1 k n j := by
  unfold c_new
  simp only [rI_L, rR_L, rL_L]
/-- rooms and counts -/
theorem rr_new (hf : f_ok f) (hr : r_r c m) {id : Int} (hi : 0 ≤ id ∧ id < 72) (hs : m.1 133 0 (f id) = -1) (k3 : ∀ j, m'.1 133 0 j = if j = f id then 0 else m.1 133 0 j) (k5 : ∀ j, j ≠ f id → m'.1 135 0 j = m.1 135 0 j) (k7 : ∀ j, j ≠ f id → m'.1 137 0 j = m.1 137 0 j) (kr : ∀ e r, c'.1 23 e r = c.1 23 e r) (kv : c'.1 11 0 13 = c.1 11 0 13 + 1) : r_r c' m' := by
  have hfr := hf.2.2.1 id hi.1 (by omega)
  refine ⟨?_, ?_, fun e r he hr' => by rw [kr]; exact hr.2.2 e r he hr'⟩
  · intro e r he hr'
    rw [kr, hr.1 e r he hr']
    refine (cn_eq (fun i a b => decide_eq_decide.2 ?_)).symm
    by_cases z : i = f id
    · rw [k3, if_pos z, z, hs]; simp
    · rw [k3, if_neg z, k5 i z, k7 i z]
  · have key : rv m' = rv m - (if decide (m.1 133 0 (f id) ≠ -1) then 1 else 0) + (if decide (m'.1 133 0 (f id) ≠ -1) then 1 else 0) := cn_up (p := fun s => decide (m.1 133 0 s ≠ -1)) (p' := fun s => decide (m'.1 133 0 s ≠ -1)) hfr.1 (by omega) (fun i a b d => by simp only [k3, if_neg d])
    rw [kv, hr.2.1, key, k3, if_pos rfl, hs]
    simp
theorem a_new {h h' : Int} {L : Int → Prop} (R : r_a f B (h, L) c m) {id : Int} (hh : h' = h + 1 ∧ h' ≤ 72) (h72 : c.1 11 0 11 < 72) (hi : c.2.2 40 0 (c.1 11 0 11) = some id) (k9 : ∀ n, c'.1 0 n 9 = if n = id then 0 else c.1 0 n 9) (k40 : ∀ j, c'.2.2 40 0 j = c.2.2 40 0 j) (k11 : c'.1 11 0 11 = c.1 11 0 11 + 1) (k12 : c'.1 11 0 12 = c.1 11 0 12 + 1) (m1 : ∀ j, m'.1 134 0 j = if j = f id then m.1 12 0 32 else m.1 134 0 j) (m2 : m'.1 12 0 32 = m.1 12 0 32 + 1) (hf : f_ok f) :
    r_a f (B + 1) (h', fun a => L a ∨ a = id) c' m' := by
  obtain ⟨h1, h2, h3, h4, h5, h6, h7, h8, h9⟩ := R
  have hidx : ∀ j a, 0 ≤ j → j < c.1 11 0 11 → c.2.2 40 0 j = some a → a ≠ id := fun j a j0 j1 e z => by
    have := h3 j (c.1 11 0 11) j0 (by omega) h1.1 h72 (by rw [e, hi, z])
    omega
  have hdead : c.1 0 id 9 = -1 := h4 _ id (Int.le_refl _) h72 hi
  have lvo : ∀ a, lv c' a → a ≠ id → lv c a := fun a la z => ⟨la.1, la.2.1, by have := la.2.2; rw [k9, if_neg z] at this; exact this⟩
  have ser : ∀ a, a ≠ id → m'.1 134 0 (f a) = m.1 134 0 (f a) := fun a z => by rw [m1, if_neg (fun w => z (hf.1 _ _ w))]
  refine ⟨⟨by rw [k11]; have := h1.1; omega, by rw [k11, hh.1]; have := h1.2.1; dsimp only at this ⊢; omega, hh.2⟩, ?_, ?_, ?_, ?_, ?_, ?_, ?_, ?_⟩
  · intro i a b; rw [k40]; exact h2 i a b
  · intro i j a b d e; rw [k40, k40]; exact h3 i j a b d e
  · intro i x a b e
    rw [k11] at a
    rw [k40] at e
    have hx : x ≠ id := fun z => by
      have := h3 i (c.1 11 0 11) (by have := h1.1; omega) b h1.1 h72 (by rw [e, hi, z])
      omega
    rw [k9, if_neg hx]
    exact h4 i x (by omega) b e
  · intro x la
    by_cases z : x = id
    · exact ⟨c.1 11 0 11, h1.1, by rw [k11]; omega, by rw [k40, z]; exact hi⟩
    · obtain ⟨i, i0, i1, i2⟩ := h5 x (lvo x la z)
      exact ⟨i, i0, by rw [k11]; omega, by rw [k40]; exact i2⟩
  · intro i j a b i0 ij jh e1 e2 la lb
    rw [k11] at jh
    rw [k40] at e1 e2
    have ha : a ≠ id := hidx i a i0 (by omega) e1
    have la' := lvo a la ha
    rw [ser a ha]
    by_cases z : b = id
    · rw [z, m1, if_pos rfl]
      exact (h7 a la').2
    · rw [ser b z]
      have : j < c.1 11 0 11 := by
        by_cases w : j = c.1 11 0 11
        · rw [w, hi] at e2; cases e2; exact absurd rfl z
        · omega
      exact h6 i j a b i0 ij this e1 e2 la' (lvo b lb z)
  · intro a la
    rw [m2]
    by_cases z : a = id
    · rw [z, m1, if_pos rfl]; omega
    · rw [ser a z]
      have := h7 a (lvo a la z)
      omega
  · rw [m2, k12]; omega
  · intro a la
    by_cases z : a = id
    · exact Or.inr z
    · exact Or.inl (h9 a (lvo a la z))
end SB
