/-! ===== a call is made ===== -/
section SG
variable {f : Int → Int} {N z1 z2 X : Int} {sec : Option Int} {Y zd : Int} {c m c' m' : JM} {B B' : Int} {H : HT}
/-- a new call's first values in class and reference -/
def n_c (c c' : JM) (id e w nw : Int) (A T : Option Int) : Prop :=
  (c'.1 0 id 6 = -1 ∧ c'.1 0 id 9 = 0 ∧ c'.1 0 id 10 = nw ∧ c'.1 0 id 11 = 0 ∧ c'.1 0 id 12 = w ∧ c'.1 0 id 13 = 0 ∧ c'.1 0 id 15 = 0) ∧
  (c'.2.2 0 id 0 = some e ∧ c'.2.2 0 id 1 = A ∧ c'.2.2 0 id 2 = T ∧ c'.2.2 0 id 3 = none ∧ c'.2.2 0 id 4 = none ∧ c'.2.2 0 id 5 = none) ∧
  (∀ i, i ≠ id → ∀ j, c'.1 0 i j = c.1 0 i j ∧ c'.2.1 0 i j = c.2.1 0 i j ∧ c'.2.2 0 i j = c.2.2 0 i j) ∧
  (∀ x, c'.1 4 x 6 = c.1 4 x 6 ∧ c'.2.2 4 x 12 = c.2.2 4 x 12 ∧ c'.2.2 4 x 13 = c.2.2 4 x 13 ∧ (A = some x → c'.2.2 4 x 11 = some id) ∧ (A ≠ some x → c'.2.2 4 x 11 = c.2.2 4 x 11)) ∧
  (∀ t, (T = some t → c'.1 8 t 2 = 2 ∧ c'.2.2 8 t 3 = some id) ∧ (T ≠ some t → c'.1 8 t 2 = c.1 8 t 2 ∧ c'.2.2 8 t 3 = c.2.2 8 t 3)) ∧
  (∀ r j, c'.1 6 r j = c.1 6 r j)
def n_m (f : Int → Int) (m m' : JM) (id e w nw sd : Int) (A T : Option Int) : Prop :=
  (m'.1 133 0 (f id) = 0 ∧ m'.1 135 0 (f id) = e ∧ m'.1 136 0 (f id) = sd ∧ m'.1 137 0 (f id) = -1 ∧ m'.1 138 0 (f id) = -1 ∧ m'.1 143 0 (f id) = -1 ∧ m'.1 144 0 (f id) = w ∧ m'.1 145 0 (f id) = nw ∧ m'.1 147 0 (f id) = 0 ∧ m'.1 148 0 (f id) = 0) ∧
  (∀ k, 133 ≤ k → k ≤ 148 → k ≠ 139 → ∀ j, j ≠ f id → m'.1 k 0 j = m.1 k 0 j) ∧
  (∀ s, s ≠ f id → ∀ j : Nat, j < 12 → m'.1 139 0 (12 * s + j) = m.1 139 0 (12 * s + j)) ∧
  (∀ j, m'.1 105 0 j = m.1 105 0 j ∧ m'.1 120 0 j = m.1 120 0 j ∧ m'.1 121 0 j = m.1 121 0 j) ∧
  (∀ x, (A = some x → m'.1 119 0 x = f id) ∧ (A ≠ some x → m'.1 119 0 x = m.1 119 0 x)) ∧
  (∀ t, (T = some t → m'.1 154 0 t = 2 ∧ m'.1 155 0 t = f id) ∧ (T ≠ some t → m'.1 154 0 t = m.1 154 0 t ∧ m'.1 155 0 t = m.1 155 0 t))

theorem t_new (hf : f_ok f) {id e w nw sd : Int} {A T : Option Int} (hi : 0 ≤ id ∧ id < 72) (hd : c.1 0 id 9 = -1) (he : e = 0 ∨ e = 1) (hw : 0 ≤ w ∧ w ≤ 5)
    (nc : n_c c c' id e w nw A T) (nm : n_m f m m' id e w nw sd A T)
    (hA : (A = some sd ∧ T = none ∧ 8 * e ≤ sd ∧ sd < 8 * e + 8 ∧ c.1 4 sd 6 ≠ 0 ∧ c.2.2 4 sd 11 = none ∧ c.2.2 4 sd 12 = none) ∨ (A = none ∧ T = some (16 * e + sd - 100) ∧ 100 ≤ sd ∧ sd < 100 + N ∧ N ≤ 16 ∧ c.2.2 8 (16 * e + sd - 100) 3 = none))
    (hY : Y = -1 ∨ T = some Y)
    (hky : id ≠ zd → k_R (c'.2.1 0 id 8) (m'.1 140 0 (f id)) (fun j => m'.1 139 0 (12 * f id + j)) ∧ m'.1 140 0 (f id) ≤ 11 ∧ w ≤ 5)
    (HH : r_h f N (-1) (-1) (-1) none Y (-1) c m) : r_h f N (-1) (-1) (-1) none (-1) zd c' m' := by
  obtain ⟨⟨a6, a9, a10, a11, a12, a13, a15⟩, ⟨a0r, a1r, a2r, a3r, a4r, a5r⟩, off, l4, t8, k6⟩ := nc
  obtain ⟨⟨b133, b135, b136, b137, b138, b143, b144, b145, b147, b148⟩, moff, m139, mo, m119, m15⟩ := nm
  have vd : ¬ lv c id := fun v => v.2.2 hd
  have vn : lv c' id := ⟨hi.1, hi.2, by rw [a9]; decide⟩
  have lvo : ∀ i, i ≠ id → (lv c' i ↔ lv c i) := fun i z => by unfold lv; rw [(off i z 9).1]
  obtain ⟨h_st, h_sx, h_hm, h_sa, h_sb, h_gp, h_ky, h_k1, h_fw, h_fr, h_ce, h_an, h_zn, h_rw, h_la, h_lo, h_lr, h_wa, h_wo, h_wx, h_wr, h_w3, h_w4, h_w8, h_w9, h_w5, h_t1, h_t2, h_t3, h_t6, h_t9, h_ty, h_xx, h_zr⟩ := HH
  refine ⟨?_, ?_, ?_, ?_, ?_, ?_, ?_, ?_, ?_, ?_, ?_, ?_, ?_, ?_, ?_, ?_, ?_, ?_, ?_, ?_, ?_, ?_, ?_, ?_, ?_, ?_, ?_, ?_, ?_, ?_, ?_, ?_, ?_, ?_⟩
  · -- st
    intro i a b
    by_cases z : i = id
    · subst z; rw [a9, b133]; omega
    · have hn : f i ≠ f id := fun w => z (hf.1 _ _ w)
      rw [(off i z 9).1, moff 133 (by decide) (by decide) (by decide) _ hn]; exact h_st i a b
  · -- sx
    intro i a b
    have z : i ≠ id := by omega
    rw [moff 133 (by decide) (by decide) (by decide) _ (fun w => z (hf.1 _ _ w))]; exact h_sx i a b
  · -- hm
    intro i v
    by_cases z : i = id
    · subst z
      rw [a0r, b135]; exact ⟨rfl, he⟩
    · have v0 : lv c i := (lvo i z).1 v
      have hn : f i ≠ f id := fun w => z (hf.1 _ _ w)
      have o1 := fun j => (off i z j).1
      have o2 := fun j => (off i z j).2.1
      have o3 := fun j => (off i z j).2.2
      have om := fun k a b d => moff k a b d (f i) hn
      simp only [o1, o3, om 135 (by decide) (by decide) (by decide)]
      exact h_hm i v0
  · -- sa
    intro i v
    by_cases z : i = id
    · subst z
      rw [a1r, a2r, b135, b136]
      rcases hA with ⟨p1, p2, p3, p4, _⟩ | ⟨p1, p2, p3, p4, _⟩
      · exact Or.inl ⟨p1, p2, p3, p4⟩
      · exact Or.inr ⟨p1, p2, p3, p4⟩
    · have v0 : lv c i := (lvo i z).1 v
      have hn : f i ≠ f id := fun w => z (hf.1 _ _ w)
      have o1 := fun j => (off i z j).1
      have o2 := fun j => (off i z j).2.1
      have o3 := fun j => (off i z j).2.2
      have om := fun k a b d => moff k a b d (f i) hn
      simp only [o1, o3, om 135 (by decide) (by decide) (by decide), om 136 (by decide) (by decide) (by decide)]
      exact h_sa i v0
  · -- sb
    intro i v
    by_cases z : i = id
    · subst z
      exact Or.inl ⟨b137, a3r, a4r, a6, by omega⟩
    · have v0 : lv c i := (lvo i z).1 v
      have hn : f i ≠ f id := fun w => z (hf.1 _ _ w)
      have o1 := fun j => (off i z j).1
      have o2 := fun j => (off i z j).2.1
      have o3 := fun j => (off i z j).2.2
      have om := fun k a b d => moff k a b d (f i) hn
      simp only [o1, o3, om 135 (by decide) (by decide) (by decide), om 137 (by decide) (by decide) (by decide)]
      exact h_sb i v0
  · -- gp
    intro i v
    by_cases z : i = id
    · subst z
      exact Or.inl ⟨b138, fun _ _ => a5r⟩
    · have v0 : lv c i := (lvo i z).1 v
      have hn : f i ≠ f id := fun w => z (hf.1 _ _ w)
      have o1 := fun j => (off i z j).1
      have o2 := fun j => (off i z j).2.1
      have o3 := fun j => (off i z j).2.2
      have om := fun k a b d => moff k a b d (f i) hn
      simp only [o1, o3, om 135 (by decide) (by decide) (by decide), om 138 (by decide) (by decide) (by decide)]
      rcases h_gp i v0 with ⟨g1, g2⟩ | g
      · exact Or.inl ⟨g1, fun a _ => g2 a (by have := v0.1; omega)⟩
      · exact Or.inr g
  · -- ky
    intro i v y
    by_cases z : i = id
    · subst z; exact (hky y).1
    · have v0 : lv c i := (lvo i z).1 v
      have hn : f i ≠ f id := fun w => z (hf.1 _ _ w)
      have o1 := fun j => (off i z j).1
      have o2 := fun j => (off i z j).2.1
      have o3 := fun j => (off i z j).2.2
      have om := fun k a b d => moff k a b d (f i) hn
      obtain ⟨K, hK, k1, k2, k3⟩ := h_ky i v0 (by have := v0.1; omega)
      refine ⟨K, hK, by rw [o2]; exact k1, by rw [om 140 (by decide) (by decide) (by decide)]; exact k2, fun j hj => ?_⟩
      show m'.1 139 0 (12 * f i + j) = _
      rw [m139 (f i) hn j (by have := hK.1; omega)]; exact k3 j hj
  · -- k1
    intro i v y
    by_cases z : i = id
    · subst z
      exact ⟨fun _ => (hky y).2.1, by rw [a12]; exact (hky y).2.2⟩
    · have v0 : lv c i := (lvo i z).1 v
      have hn : f i ≠ f id := fun w => z (hf.1 _ _ w)
      have o1 := fun j => (off i z j).1
      have o2 := fun j => (off i z j).2.1
      have o3 := fun j => (off i z j).2.2
      have om := fun k a b d => moff k a b d (f i) hn
      simp only [o1, o3, om 140 (by decide) (by decide) (by decide)]
      exact h_k1 i v0 (by have := v0.1; omega)
  · -- fw
    intro i v
    by_cases z : i = id
    · subst z
      rw [b144, a12]; exact ⟨rfl, hw.1, by omega⟩
    · have v0 : lv c i := (lvo i z).1 v
      have hn : f i ≠ f id := fun w => z (hf.1 _ _ w)
      have o1 := fun j => (off i z j).1
      have o2 := fun j => (off i z j).2.1
      have o3 := fun j => (off i z j).2.2
      have om := fun k a b d => moff k a b d (f i) hn
      simp only [o1, o3, om 144 (by decide) (by decide) (by decide)]
      exact h_fw i v0
  · -- fr
    intro i v
    by_cases z : i = id
    · subst z
      rw [b145, a10]; exact ⟨rfl, fun w => by omega⟩
    · have v0 : lv c i := (lvo i z).1 v
      have hn : f i ≠ f id := fun w => z (hf.1 _ _ w)
      have o1 := fun j => (off i z j).1
      have o2 := fun j => (off i z j).2.1
      have o3 := fun j => (off i z j).2.2
      have om := fun k a b d => moff k a b d (f i) hn
      simp only [o1, o3, om 145 (by decide) (by decide) (by decide), om 146 (by decide) (by decide) (by decide)]
      exact h_fr i v0
  · -- ce
    intro i v
    by_cases z : i = id
    · subst z
      rw [b147, a13]
    · have v0 : lv c i := (lvo i z).1 v
      have hn : f i ≠ f id := fun w => z (hf.1 _ _ w)
      have o1 := fun j => (off i z j).1
      have o2 := fun j => (off i z j).2.1
      have o3 := fun j => (off i z j).2.2
      have om := fun k a b d => moff k a b d (f i) hn
      simp only [o1, o3, om 147 (by decide) (by decide) (by decide)]
      exact h_ce i v0
  · -- an
    intro i v
    by_cases z : i = id
    · subst z
      rw [b148, a15]; exact ⟨rfl, Or.inl rfl, fun w => by omega⟩
    · have v0 : lv c i := (lvo i z).1 v
      have hn : f i ≠ f id := fun w => z (hf.1 _ _ w)
      have o1 := fun j => (off i z j).1
      have o2 := fun j => (off i z j).2.1
      have o3 := fun j => (off i z j).2.2
      have om := fun k a b d => moff k a b d (f i) hn
      simp only [o1, o3, om 148 (by decide) (by decide) (by decide)]
      obtain ⟨g1, g2, g3⟩ := h_an i v0
      exact ⟨g1, g2, fun a _ => g3 a (by have := v0.1; omega)⟩
  · -- zn
    intro i v y
    by_cases z : i = id
    · subst z
      exact Or.inl ⟨b143, a9⟩
    · have v0 : lv c i := (lvo i z).1 v
      have hn : f i ≠ f id := fun w => z (hf.1 _ _ w)
      have o1 := fun j => (off i z j).1
      have o2 := fun j => (off i z j).2.1
      have o3 := fun j => (off i z j).2.2
      have om := fun k a b d => moff k a b d (f i) hn
      simp only [o1, o3, om 143 (by decide) (by decide) (by decide)]
      rw [o3] at y
      rcases h_zn i v0 y with g | ⟨g1, g2, g3, g4⟩
      · exact Or.inl g
      · exact Or.inr ⟨g1, g2, g3, fun a => absurd (g4 a) (by have := v0.1; omega)⟩
  · -- rw
    intro i v y
    by_cases z : i = id
    · subst z
      omega
    · have v0 : lv c i := (lvo i z).1 v
      have hn : f i ≠ f id := fun w => z (hf.1 _ _ w)
      have o1 := fun j => (off i z j).1
      have o2 := fun j => (off i z j).2.1
      have o3 := fun j => (off i z j).2.2
      have om := fun k a b d => moff k a b d (f i) hn
      simp only [o1, o3, om 135 (by decide) (by decide) (by decide), om 140 (by decide) (by decide) (by decide), om 141 (by decide) (by decide) (by decide), om 142 (by decide) (by decide) (by decide), k6, fun j => (mo j).1]
      rw [o1] at y
      exact h_rw i v0 y
  · -- la
    intro x a b
    by_cases z : A = some x
    · rw [((m119 x).1 z), ((l4 x).2.2.2.1 z)]; rfl
    · rw [((m119 x).2 z), ((l4 x).2.2.2.2 z)]; exact h_la x a b
  · -- lo
    intro x a b d
    rw [(mo x).2.1, (l4 x).2.1]; exact h_lo x a b d
  · -- lr
    intro x a b
    rw [(mo x).2.2, (l4 x).2.2.1]; exact h_lr x a b
  · -- wa
    intro x i q
    by_cases z : A = some x
    · rw [(l4 x).2.2.2.1 z] at q
      cases q
      rcases hA with ⟨p1, p2, p3, p4, _⟩ | ⟨p1, p2, p3, p4, _⟩
      · rw [z] at p1; cases p1; exact ⟨by omega, by omega, vn, Or.inl (by rw [a1r, z])⟩
      · rw [z] at p1; cases p1
    · rw [(l4 x).2.2.2.2 z] at q
      obtain ⟨g1, g2, g3, g4⟩ := h_wa x i q
      have zi : i ≠ id := fun w => vd (w ▸ g3)
      exact ⟨g1, g2, (lvo i zi).2 g3, by rw [(off i zi 1).2.2, (off i zi 3).2.2, (off i zi 9).1]; exact g4⟩
  · -- wo
    intro x i q
    rw [(l4 x).2.1] at q
    obtain ⟨g1, g2, g3, g4⟩ := h_wo x i q
    have zi : i ≠ id := fun w => vd (w ▸ g3)
    exact ⟨g1, g2, (lvo i zi).2 g3, by rw [(off i zi 1).2.2, (off i zi 3).2.2, (off i zi 9).1]; exact g4⟩
  · -- wx
    intro x i j q1 q2
    rw [(l4 x).2.1] at q1
    by_cases z : A = some x
    · rcases hA with ⟨p1, p2, p3, p4, p5, p6, p7⟩ | ⟨p1, _⟩
      · rw [z] at p1; cases p1; rw [p7] at q1; cases q1
      · rw [z] at p1; cases p1
    · rw [(l4 x).2.2.2.2 z] at q2
      have g3 := (h_wa x j q2).2.2.1
      have zj : j ≠ id := fun w => vd (w ▸ g3)
      rw [(off j zj 9).1]
      exact h_wx x i j q1 q2
  · -- wr
    intro x i q
    rw [(l4 x).2.2.1] at q
    obtain ⟨g1, g2, g3, g4, g5, g6⟩ := h_wr x i q
    have zi : i ≠ id := fun w => vd (w ▸ g3)
    exact ⟨g1, g2, (lvo i zi).2 g3, by rw [(off i zi 3).2.2]; exact g4, by rw [(off i zi 9).1]; exact g5, by rw [(l4 x).1]; exact g6⟩
  · -- w3
    intro x q
    rw [(l4 x).1] at q
    have zx : A ≠ some x := fun z => by
      rcases hA with ⟨p1, p2, p3, p4, p5, p6, p7⟩ | ⟨p1, _⟩
      · rw [z] at p1; cases p1; exact p5 q
      · rw [z] at p1; cases p1
    rw [(l4 x).2.2.2.2 zx, (l4 x).2.1]
    exact h_w3 x q
  · -- w4
    intro i x v _ _ q
    by_cases z : i = id
    · subst z
      rw [a1r] at q
      exact Or.inl ((l4 x).2.2.2.1 q)
    · have v0 : lv c i := (lvo i z).1 v
      rw [(off i z 1).2.2] at q
      have g := h_w4 i x v0 (by have := v0.1; omega) (by have := v0.1; omega) q
      have zx : A ≠ some x := fun y => by
        rcases hA with ⟨p1, p2, p3, p4, p5, p6, p7⟩ | ⟨p1, _⟩
        · rw [y] at p1; cases p1; rw [p6, p7] at g; rcases g with g | g <;> cases g
        · rw [y] at p1; cases p1
      rw [(l4 x).2.2.2.2 zx, (l4 x).2.1]; exact g
  · -- w8
    intro i j x vi vj q1 q2
    have key : ∀ k, k ≠ id → lv c' k → c'.2.2 0 k 1 = some x → A ≠ some x := fun k z v q y => by
      have v0 : lv c k := (lvo k z).1 v
      rw [(off k z 1).2.2] at q
      have g := h_w4 k x v0 (by have := v0.1; omega) (by have := v0.1; omega) q
      rcases hA with ⟨p1, p2, p3, p4, p5, p6, p7⟩ | ⟨p1, _⟩
      · rw [y] at p1; cases p1; rw [p6, p7] at g; rcases g with g | g <;> cases g
      · rw [y] at p1; cases p1
    by_cases zi : i = id
    · by_cases zj : j = id
      · omega
      · subst zi
        rw [a1r] at q1
        exact absurd q1 (key j zj vj q2)
    · by_cases zj : j = id
      · subst zj
        rw [a1r] at q2
        exact absurd q2 (key i zi vi q1)
      · rw [(off i zi 1).2.2] at q1
        rw [(off j zj 1).2.2] at q2
        exact h_w8 i j x ((lvo i zi).1 vi) ((lvo j zj).1 vj) q1 q2
  · -- w9
    intro i x v q
    by_cases z : i = id
    · subst z; rw [a3r]; simp
    · rw [(off i z 1).2.2] at q; rw [(off i z 3).2.2]; exact h_w9 i x ((lvo i z).1 v) q
  · -- w5
    intro i x v _ _ q1 q2 q3
    by_cases z : i = id
    · subst z; omega
    · have v0 : lv c i := (lvo i z).1 v
      rw [(off i z 9).1] at q1; rw [(off i z 5).2.2] at q2; rw [(off i z 3).2.2] at q3
      rw [(l4 x).2.2.1]; exact h_w5 i x v0 (by have := v0.1; omega) (by have := v0.1; omega) q1 q2 q3
  · -- t1
    intro t a b _
    by_cases z : T = some t
    · rw [((m15 t).1 z).1, ((t8 t).1 z).1]
    · rw [((m15 t).2 z).1, ((t8 t).2 z).1]
      refine h_t1 t a b (fun w => ?_)
      rcases hY with y | y
      · omega
      · exact z (by rw [y, w])
  · -- t2
    intro t a b
    by_cases z : T = some t
    · rw [((m15 t).1 z).2, ((t8 t).1 z).2]; rfl
    · rw [((m15 t).2 z).2, ((t8 t).2 z).2]; exact h_t2 t a b
  · -- t3
    intro t a b _
    by_cases z : T = some t
    · rw [((t8 t).1 z).1, ((t8 t).1 z).2]
      exact Or.inr ⟨id, rfl, vn, Or.inr ⟨rfl, by rw [a2r, z]⟩⟩
    · rw [((t8 t).2 z).1, ((t8 t).2 z).2]
      rcases h_t3 t a b (fun w => by
        rcases hY with y | y
        · omega
        · exact z (by rw [y, w])) with g | ⟨i, g1, g2, g3⟩
      · exact Or.inl g
      · have zi : i ≠ id := fun w => vd (w ▸ g2)
        exact Or.inr ⟨i, g1, (lvo i zi).2 g2, by rw [(off i zi 4).2.2, (off i zi 2).2.2]; exact g3⟩
  · -- t6
    intro i t v _ _ q
    by_cases z : i = id
    · subst z
      rw [a2r, a4r] at q
      rcases q with q | q
      · exact ((t8 t).1 q).2
      · cases q
    · have v0 : lv c i := (lvo i z).1 v
      rw [(off i z 2).2.2, (off i z 4).2.2] at q
      have g := h_t6 i t v0 (by have := v0.1; omega) (by have := v0.1; omega) q
      have zt : T ≠ some t := fun y => by
        rcases hA with ⟨_, p2, _⟩ | ⟨_, p2, _, _, _, p6⟩
        · rw [y] at p2; cases p2
        · rw [y] at p2; cases p2; rw [p6] at g; cases g
      rw [((t8 t).2 zt).2]; exact g
  · -- t9
    intro i t v q
    by_cases z : i = id
    · subst z; rw [a4r]; simp
    · rw [(off i z 2).2.2] at q; rw [(off i z 4).2.2]; exact h_t9 i t ((lvo i z).1 v) q
  · -- ty
    intro w; omega
  · -- xx
    intro w; omega
  · -- zr
    intro i v
    by_cases z : i = id
    · subst z
      omega
    · have v0 : lv c i := (lvo i z).1 v
      have hn : f i ≠ f id := fun w => z (hf.1 _ _ w)
      have o1 := fun j => (off i z j).1
      have o2 := fun j => (off i z j).2.1
      have o3 := fun j => (off i z j).2.2
      have om := fun k a b d => moff k a b d (f i) hn
      simp only [o1, o3]
      exact h_zr i v0


/-- what the making of a call writes -/
def w_n (k : Nat) (j : Int) : Bool := k == 0 || (k == 4 && j != 0 && j != 1 && j != 2 && j != 3) || (k == 8 && (j == 2 || j == 3)) || (k == 11 && (j == 11 || j == 12 || j == 13))
def w_nm (k : Nat) (j : Int) : Bool := (decide (112 ≤ k) && decide (k ≤ 126)) || (decide (130 ≤ k) && decide (k ≤ 148)) || k == 154 || k == 155 || (k == 12 && j == 32)
theorem w_i1 : ∀ k j, rkC k j = true → w_n k j = false := by intro k j; simp [rkC, w_n]; omega
theorem w_i2 : ∀ k j, rkM k j = true → w_nm k j = false := by intro k j; simp [rkM, w_nm]; omega
theorem w_i3 : ∀ k j, rpC k j = true → w_n k j = false := by intro k j; simp [rpC, w_n]; omega
theorem w_i4 : ∀ k (j : Int), rpM k = true → w_nm k j = false := by intro k j; simp [rpM, w_nm]; omega
theorem rel_new {h : Int} {L : Int → Prop} {z1' z2' X' : Int} {sec' : Option Int} {Y' zd' : Int} (hf : f_ok f) {id e w nw sd : Int} {A T : Option Int} (R : rel f N z1 z2 X sec Y zd B (h, L) c m) (hh : h + 1 ≤ 72) (hi : 0 ≤ id ∧ id < 72) (hd : c.1 0 id 9 = -1) (hm : m.1 133 0 (f id) = -1) (h40 : c.2.2 40 0 (c.1 11 0 11) = some id)
    (nc : n_c c c' id e w nw A T) (nm : n_m f m m' id e w nw sd A T)
    (c11 : c'.1 11 0 11 = c.1 11 0 11 + 1 ∧ c'.1 11 0 12 = c.1 11 0 12 + 1 ∧ c'.1 11 0 13 = c.1 11 0 13 + 1) (m32 : m'.1 12 0 32 = m.1 12 0 32 + 1) (m134 : m'.1 134 0 (f id) = m.1 12 0 32)
    (hh2 : r_h f N z1' z2' X' sec' Y' zd' c' m') (R2 : r_l X' c' m') (sc : so w_n c c') (sm : so w_nm m m') :
    rel f N z1' z2' X' sec' Y' zd' (B + 1) (h + 1, fun a => L a ∨ a = id) c' m' := by
  obtain ⟨R1, _, R3, R4, R5, R6, R7, R8, R9, R10⟩ := R
  have off := nc.2.2.1
  have a9 := nc.1.2.1
  have moff := nm.2.1
  have b133 := nm.1.1
  have hb : B ≤ B + 1 := by omega
  have k9 : ∀ n, c'.1 0 n 9 = if n = id then 0 else c.1 0 n 9 := fun n => by
    by_cases z : n = id
    · rw [if_pos z, z, a9]
    · rw [if_neg z, (off n z 9).1]
  have k3 : ∀ j, m'.1 133 0 j = if j = f id then 0 else m.1 133 0 j := fun j => by
    by_cases z : j = f id
    · rw [if_pos z, z, b133]
    · rw [if_neg z, moff 133 (by decide) (by decide) (by decide) j z]
  refine ⟨?_, R2, hh2, ?_, ?_, ?_, ?_, ?_, ?_, ?_⟩
  · exact r_k_cg (fun k n j q => ⟨(sc k n j (w_i1 k j q)).1, (sc k n j (w_i1 k j q)).2.2⟩) (fun k n j q => (sm k n j (w_i2 k j q)).1) R1
  · exact r_m_mono hb (fun e he => r_m_cg (fun k n j q => by rcases q with rfl | rfl <;> exact ⟨(sc _ n j rfl).1, (sc _ n j rfl).2.1⟩) (fun k n j a b => (sm k n j (by simp [w_nm]; omega)).1) (R4 e he))
  · refine r_q_mono hb (q_cg R5 (fun n => ?_) hf (fun n j => (sc 2 n j rfl).1) (fun n j => (sc 25 n j rfl).2.2) (fun k j a b => (sm k 0 j (by simp [w_nm]; omega)).1))
    by_cases z : n = id
    · subst z; rw [a9, hd]; exact ⟨by omega, fun q => by omega⟩
    · rw [(off n z 9).1, (off n z 5).2.2, (off n z 14).1]; exact ⟨Iff.rfl, fun _ => ⟨rfl, rfl⟩⟩
  · exact rr_new hf R6 hi hm k3 (fun j z => moff 135 (by decide) (by decide) (by decide) j z) (fun j z => moff 137 (by decide) (by decide) (by decide) j z) (fun e r => (sc 23 e r rfl).1) c11.2.2
  · have r1 := R7.1
    refine a_new R7 ⟨rfl, hh⟩ (by have := r1.2.1; dsimp only at this; omega) h40 k9 (fun j => (sc 40 0 j rfl).2.2) c11.1 c11.2.1 (fun j => ?_) m32 hf
    by_cases z : j = f id
    · rw [if_pos z, z, m134]
    · rw [if_neg z, moff 134 (by decide) (by decide) (by decide) j z]
  · exact r_g_mono hb (g_cg R8 (fun j => (sc 26 0 j rfl).1) (fun j => (sc 27 0 j rfl).1) (sc 3 0 2 rfl).1 (fun k j a b => (sm k 0 j (by simp [w_nm]; omega)).1) (sm 12 0 90 rfl).1)
  · exact r_p_cg (fun k n j q => sc k n j (w_i3 k j q)) (fun k n j q => (sm k n j (w_i4 k j q)).1) R9
  · exact r_f_cg (fun k n j q => sc k n j (w_i3 k j q)) (fun k n j q => (sm k n j (w_i4 k j q)).1) R10
/-- a slot and a renaming for the call that is made next -/
theorem p_new (hf : f_ok f) {h : Int} {L : Int → Prop} (R : rel f N z1 z2 X sec Y zd B (h, L) c m) (hh : h + 1 ≤ 72) (hB : B < 2000000000) (e side : Int) (m1 : JM) (h133 : ∀ j, m1.1 133 0 j = m.1 133 0 j) (h32 : m1.1 12 0 32 = m.1 12 0 32) :
    ∃ id f', f_ok f' ∧ 0 ≤ id ∧ id < 72 ∧ c.2.2 40 0 (c.1 11 0 11) = some id ∧ c.1 0 id 9 = -1 ∧ m.1 133 0 (f' id) = -1 ∧ rel f' N z1 z2 X sec Y zd B (h, L) c m ∧ F12_makes e side m1 = some (f' id, m_new m1 e side (f' id)) ∧ (0 ≤ c.1 11 0 11 ∧ c.1 11 0 11 < 72) ∧ (0 ≤ c.1 11 0 12 ∧ c.1 11 0 12 < 2000000000) ∧ (0 ≤ c.1 11 0 13 ∧ c.1 11 0 13 ≤ 80) := by
  have R7 := R.2.2.2.2.2.2.1
  have R6 := R.2.2.2.2.2.1
  obtain ⟨r1, r2, r3, r4, r5, r6, r7, r8, r9⟩ := R7
  have c11 : c.1 11 0 11 < 72 := by have := r1.2.1; dsimp only at this; omega
  obtain ⟨id, d1, d2, d3⟩ := r2 (c.1 11 0 11) r1.1 c11
  have d4 := r4 _ id (Int.le_refl _) c11 d1
  have s72 := R.2.2.1.2.1 72 (by omega) (by omega)
  have f72 := hf.2.2.1 72 (by omega) (by omega)
  obtain ⟨s, s0, s1, s2, s3⟩ := m_slot (m := m1) (e := e) (side := side) 80 j_fu 0 (by omega) (by unfold j_fu; omega) ⟨f 72, f72.1, f72.2, by omega, by rw [h133]; exact s72⟩
  obtain ⟨a, a0, a1, a2⟩ := hf.2.2.2 s s0 s1
  have e1 : sw f id a id = s := by unfold sw; rw [if_pos rfl, a2]
  have ag : ∀ i, lv c i → sw f id a i = f i := fun i v => by
    unfold sw
    have hne : i ≠ id := fun z => v.2.2 (by rw [z]; exact d4)
    rw [if_neg hne]
    by_cases z : i = a
    · exfalso
      subst z
      have h := (R.2.2.1.1 i v.1 v.2.1).1
      rw [a2, ← h133, s2] at h
      exact v.2.2 h.symm
    · rw [if_neg z]
  have hdead : ∀ i, 0 ≤ i → i < 80 → ¬ lv c i → m.1 133 0 (f i) = -1 := fun i i0 i1 v => by
    by_cases z : i < 72
    · have h := (R.2.2.1.1 i i0 z).1
      rw [h]
      by_cases w : c.1 0 i 9 = -1
      · exact w
      · exact absurd ⟨i0, z, w⟩ v
    · exact R.2.2.1.2.1 i (by omega) i1
  have dd : ∀ i, 0 ≤ i → i < 80 → ¬ lv c i → m.1 133 0 (sw f id a i) = -1 := fun i i0 i1 v => by
    unfold sw
    split
    · rw [a2, ← h133]; exact s2
    · split
      · exact hdead id d2 (by omega) (fun v => v.2.2 d4)
      · exact hdead i i0 i1 v
  have hf' := sw_ok hf (id := id) (a := a) ⟨d2, by omega⟩ ⟨a0, a1⟩
  have hcn := cn_b (fun s => decide (m.1 133 0 s ≠ -1)) 80
  have h13 := R6.2.1
  unfold rv at h13
  refine ⟨id, sw f id a, hf', d2, d3, d1, d4, ?_, rel_phi hf hf' ag dd R, ?_, ⟨r1.1, c11⟩, ⟨by omega, by omega⟩, by omega⟩
  · rw [e1, ← h133]; exact s2
  · rw [e1]
    unfold F12_makes
    rw [s3]
    exact f_makes ⟨s0, s1⟩ s2 (by omega)
end SG
