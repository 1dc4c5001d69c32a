/-! ===== the relation: calls, lines, circuits ===== -/
def rf (f : Int → Int) (o : Option Int) : Int := match o with | none => -1 | some i => f i
/-- the number x holds the n keys of g -/
def k_R (x n : Int) (g : Int → Int) : Prop := ∃ K : List Nat, k_ok K ∧ x = (k_P K : Int) ∧ n = (K.length : Int) ∧ ∀ j : Nat, j < K.length → g j = (K.getD j 0 : Int)
def f_ok (f : Int → Int) : Prop := (∀ a b, f a = f b → a = b) ∧ (∀ a, f a ≠ -1) ∧ (∀ a, 0 ≤ a → a < 80 → 0 ≤ f a ∧ f a < 80) ∧ (∀ s, 0 ≤ s → s < 80 → ∃ a, 0 ≤ a ∧ a < 80 ∧ f a = s)
theorem rf_eq {f : Int → Int} (hf : f_ok f) (o : Option Int) (i : Int) : rf f o = f i ↔ o = some i := by
  cases o with
  | none => exact ⟨fun z => absurd z.symm (hf.2.1 i), fun z => by cases z⟩
  | some a => exact ⟨fun z => by rw [hf.1 a i z], fun z => by cases z; rfl⟩
theorem rf_no {f : Int → Int} (hf : f_ok f) (o : Option Int) : rf f o = -1 ↔ o = none := by
  cases o with
  | none => exact ⟨fun _ => rfl, fun _ => rfl⟩
  | some a => exact ⟨fun z => absurd z (hf.2.1 a), fun z => by cases z⟩
/-- a call that lives -/
def lv (c : JM) (i : Int) : Prop := 0 ≤ i ∧ i < 72 ∧ c.1 0 i 9 ≠ -1

def d_st (f : Int → Int) (c : JM) (m : JM) : Prop := ∀ i, 0 ≤ i → i < 72 → m.1 133 0 (f i) = c.1 0 i 9 ∧ -1 ≤ c.1 0 i 9 ∧ c.1 0 i 9 ≤ 4
def d_sx (f : Int → Int) (m : JM) : Prop := ∀ i, 72 ≤ i → i < 80 → m.1 133 0 (f i) = -1
def d_hm (f : Int → Int) (c : JM) (m : JM) : Prop := ∀ i, lv c i → c.2.2 0 i 0 = some (m.1 135 0 (f i)) ∧ (m.1 135 0 (f i) = 0 ∨ m.1 135 0 (f i) = 1)
def d_sa (f : Int → Int) (N : Int) (c : JM) (m : JM) : Prop := ∀ i, lv c i → (c.2.2 0 i 1 = some (m.1 136 0 (f i)) ∧ c.2.2 0 i 2 = none ∧ 8 * m.1 135 0 (f i) ≤ m.1 136 0 (f i) ∧ m.1 136 0 (f i) < 8 * m.1 135 0 (f i) + 8) ∨ (c.2.2 0 i 1 = none ∧ c.2.2 0 i 2 = some (16 * m.1 135 0 (f i) + m.1 136 0 (f i) - 100) ∧ 100 ≤ m.1 136 0 (f i) ∧ m.1 136 0 (f i) < 100 + N)
def d_sb (f : Int → Int) (N : Int) (c : JM) (m : JM) : Prop := ∀ i, lv c i → (m.1 137 0 (f i) = -1 ∧ c.2.2 0 i 3 = none ∧ c.2.2 0 i 4 = none ∧ c.1 0 i 6 = -1 ∧ c.1 0 i 9 ≤ 2) ∨ (8 * m.1 135 0 (f i) ≤ m.1 137 0 (f i) ∧ m.1 137 0 (f i) < 8 * m.1 135 0 (f i) + 8 ∧ c.2.2 0 i 3 = some (m.1 137 0 (f i)) ∧ c.2.2 0 i 4 = none ∧ c.1 0 i 6 = -1 ∧ (c.1 0 i 9 = 2 ∨ c.1 0 i 9 = 3)) ∨ (100 ≤ m.1 137 0 (f i) ∧ m.1 137 0 (f i) < 100 + N ∧ c.2.2 0 i 3 = none ∧ c.2.2 0 i 4 = some (16 * m.1 135 0 (f i) + m.1 137 0 (f i) - 100) ∧ c.1 0 i 6 = -1 ∧ (c.1 0 i 9 = 1 ∨ c.1 0 i 9 = 2 ∨ c.1 0 i 9 = 3)) ∨ (200 ≤ m.1 137 0 (f i) ∧ m.1 137 0 (f i) ≤ 201 ∧ c.2.2 0 i 3 = none ∧ c.2.2 0 i 4 = none ∧ c.1 0 i 6 = m.1 137 0 (f i) - 200 ∧ c.1 0 i 9 = 3) ∨ (300 ≤ m.1 137 0 (f i) ∧ m.1 137 0 (f i) ≤ 302 ∧ c.2.2 0 i 3 = none ∧ c.2.2 0 i 4 = none ∧ c.1 0 i 6 = -1 ∧ c.1 0 i 9 = 4 ∧ c.2.2 0 i 5 = some (3 * m.1 135 0 (f i) + m.1 137 0 (f i) - 300))
def d_gp (f : Int → Int) (zd : Int) (c : JM) (m : JM) : Prop := ∀ i, lv c i → (m.1 138 0 (f i) = -1 ∧ (c.1 0 i 9 ≤ 2 → i ≠ zd → c.2.2 0 i 5 = none)) ∨ (0 ≤ m.1 138 0 (f i) ∧ m.1 138 0 (f i) ≤ 2 ∧ c.1 0 i 9 = 2 ∧ c.2.2 0 i 5 = some (3 * m.1 135 0 (f i) + m.1 138 0 (f i)))
def d_ky (f : Int → Int) (zd : Int) (c : JM) (m : JM) : Prop := ∀ i, lv c i → i ≠ zd → k_R (c.2.1 0 i 8) (m.1 140 0 (f i)) (fun j => m.1 139 0 (12 * f i + j))
def d_k1 (f : Int → Int) (zd : Int) (c : JM) (m : JM) : Prop := ∀ i, lv c i → i ≠ zd → (c.1 0 i 9 = 0 → m.1 140 0 (f i) ≤ 11) ∧ c.1 0 i 12 ≤ 5
def d_fw (f : Int → Int) (c : JM) (m : JM) : Prop := ∀ i, lv c i → m.1 144 0 (f i) = c.1 0 i 12 ∧ 0 ≤ c.1 0 i 12 ∧ c.1 0 i 12 ≤ 6
def d_fr (f : Int → Int) (c : JM) (m : JM) : Prop := ∀ i, lv c i → m.1 145 0 (f i) = c.1 0 i 10 ∧ (c.1 0 i 9 = 3 → m.1 146 0 (f i) = c.1 0 i 10)
def d_ce (f : Int → Int) (c : JM) (m : JM) : Prop := ∀ i, lv c i → m.1 147 0 (f i) = c.1 0 i 13
def d_an (f : Int → Int) (zd : Int) (c : JM) (m : JM) : Prop := ∀ i, lv c i → m.1 148 0 (f i) = c.1 0 i 15 ∧ (c.1 0 i 15 = 0 ∨ c.1 0 i 15 = 1) ∧ (c.1 0 i 9 = 2 ∨ c.1 0 i 9 = 4 → i ≠ zd → c.2.2 0 i 2 ≠ none → c.1 0 i 15 = 1)
def d_zn (f : Int → Int) (zd : Int) (c : JM) (m : JM) : Prop := ∀ i, lv c i → c.2.2 0 i 1 ≠ none → (m.1 143 0 (f i) = -1 ∧ c.1 0 i 9 = 0) ∨ (m.1 143 0 (f i) = c.1 0 i 11 ∧ 0 ≤ c.1 0 i 11 ∧ c.1 0 i 11 ≤ 3 ∧ (c.1 0 i 9 = 0 → i = zd))
def d_rw (f : Int → Int) (c : JM) (m : JM) : Prop := ∀ i, lv c i → c.1 0 i 9 = 1 → ∃ r, c.2.2 0 i 7 = some r ∧ 24 * m.1 135 0 (f i) ≤ r ∧ r < 24 * m.1 135 0 (f i) + m.1 105 0 (m.1 135 0 (f i)) ∧ c.1 6 r 2 = m.1 142 0 (f i) ∧ (m.1 142 0 (f i) = 1 ∨ m.1 142 0 (f i) = 2) ∧ c.1 6 r 3 = m.1 141 0 (f i) ∧ 0 ≤ m.1 141 0 (f i) ∧ m.1 141 0 (f i) ≤ m.1 140 0 (f i)
def d_la (f : Int → Int) (c : JM) (m : JM) : Prop := ∀ l, 0 ≤ l → l < 16 → m.1 119 0 l = rf f (c.2.2 4 l 11)
def d_lo (f : Int → Int) (X : Int) (c : JM) (m : JM) : Prop := ∀ l, 0 ≤ l → l < 16 → l ≠ X → m.1 120 0 l = rf f (c.2.2 4 l 12)
def d_lr (f : Int → Int) (c : JM) (m : JM) : Prop := ∀ l, 0 ≤ l → l < 16 → m.1 121 0 l = rf f (c.2.2 4 l 13)
def d_wa (c : JM) : Prop := ∀ l i, c.2.2 4 l 11 = some i → 0 ≤ l ∧ l < 16 ∧ lv c i ∧ (c.2.2 0 i 1 = some l ∨ (c.2.2 0 i 3 = some l ∧ c.1 0 i 9 = 3))
def d_wo (c : JM) : Prop := ∀ l i, c.2.2 4 l 12 = some i → 0 ≤ l ∧ l < 16 ∧ lv c i ∧ ((c.2.2 0 i 1 = some l ∧ c.1 0 i 9 = 3) ∨ (c.2.2 0 i 3 = some l ∧ (c.1 0 i 9 = 2 ∨ c.1 0 i 9 = 3)))
def d_wx (c : JM) : Prop := ∀ l i j, c.2.2 4 l 12 = some i → c.2.2 4 l 11 = some j → c.1 0 j 9 = 3 ∧ i ≠ j
def d_wr (c : JM) : Prop := ∀ l i, c.2.2 4 l 13 = some i → 0 ≤ l ∧ l < 16 ∧ lv c i ∧ c.2.2 0 i 3 = some l ∧ c.1 0 i 9 = 2 ∧ c.1 4 l 6 = 0
def d_w3 (c : JM) : Prop := ∀ l, c.1 4 l 6 = 0 → c.2.2 4 l 11 = none ∧ c.2.2 4 l 12 = none
def d_w4 (z1 : Int) (z2 : Int) (c : JM) : Prop := ∀ i l, lv c i → i ≠ z1 → i ≠ z2 → c.2.2 0 i 1 = some l → c.2.2 4 l 11 = some i ∨ c.2.2 4 l 12 = some i
def d_w8 (c : JM) : Prop := ∀ i j l, lv c i → lv c j → c.2.2 0 i 1 = some l → c.2.2 0 j 1 = some l → i = j
def d_w9 (c : JM) : Prop := ∀ i l, lv c i → c.2.2 0 i 1 = some l → c.2.2 0 i 3 ≠ some l
def d_w5 (z1 : Int) (z2 : Int) (c : JM) : Prop := ∀ i l, lv c i → i ≠ z1 → i ≠ z2 → c.1 0 i 9 = 2 → c.2.2 0 i 5 ≠ none → c.2.2 0 i 3 = some l → c.2.2 4 l 13 = some i
def d_t1 (Y : Int) (c : JM) (m : JM) : Prop := ∀ t, 0 ≤ t → t < 32 → t ≠ Y → m.1 154 0 t = c.1 8 t 2
def d_t2 (f : Int → Int) (c : JM) (m : JM) : Prop := ∀ t, 0 ≤ t → t < 32 → m.1 155 0 t = rf f (c.2.2 8 t 3)
def d_t3 (Y : Int) (c : JM) : Prop := ∀ t, 0 ≤ t → t < 32 → t ≠ Y → ((c.1 8 t 2 = 0 ∨ c.1 8 t 2 = 3) ∧ c.2.2 8 t 3 = none) ∨ (∃ i, c.2.2 8 t 3 = some i ∧ lv c i ∧ ((c.1 8 t 2 = 1 ∧ c.2.2 0 i 4 = some t) ∨ (c.1 8 t 2 = 2 ∧ c.2.2 0 i 2 = some t)))
def d_t6 (z1 : Int) (z2 : Int) (c : JM) : Prop := ∀ i t, lv c i → i ≠ z1 → i ≠ z2 → c.2.2 0 i 2 = some t ∨ c.2.2 0 i 4 = some t → c.2.2 8 t 3 = some i
def d_t9 (c : JM) : Prop := ∀ i t, lv c i → c.2.2 0 i 2 = some t → c.2.2 0 i 4 ≠ some t
def d_ty (Y : Int) (c : JM) (m : JM) : Prop := 0 ≤ Y → Y < 32 ∧ c.1 8 Y 2 = 1 ∧ c.2.2 8 Y 3 = none ∧ m.1 154 0 Y = 2
def d_xx (f : Int → Int) (X : Int) (sec : Option Int) (c : JM) (m : JM) : Prop := 0 ≤ X → X < 16 ∧ c.2.2 4 X 12 = none ∧ m.1 120 0 X = rf f sec ∧ ∀ i, sec = some i → lv c i ∧ ((c.2.2 0 i 1 = some X ∧ c.1 0 i 9 = 3) ∨ (c.2.2 0 i 3 = some X ∧ (c.1 0 i 9 = 2 ∨ c.1 0 i 9 = 3)))
def d_zr (c : JM) : Prop := ∀ i, lv c i → 0 ≤ c.1 0 i 11 ∧ c.1 0 i 11 ≤ 3
/-- calls, their lines and circuits, in class and reference -/
def r_h (f : Int → Int) (N z1 z2 X : Int) (sec : Option Int) (Y zd : Int) (c m : JM) : Prop :=
  d_st f c m ∧ d_sx f m ∧ d_hm f c m ∧ d_sa f N c m ∧ d_sb f N c m ∧ d_gp f zd c m ∧ d_ky f zd c m ∧ d_k1 f zd c m ∧ d_fw f c m ∧ d_fr f c m ∧ d_ce f c m ∧ d_an f zd c m ∧ d_zn f zd c m ∧ d_rw f c m ∧ d_la f c m ∧ d_lo f X c m ∧ d_lr f c m ∧ d_wa c ∧ d_wo c ∧ d_wx c ∧ d_wr c ∧ d_w3 c ∧ d_w4 z1 z2 c ∧ d_w8 c ∧ d_w9 c ∧ d_w5 z1 z2 c ∧ d_t1 Y c m ∧ d_t2 f c m ∧ d_t3 Y c ∧ d_t6 z1 z2 c ∧ d_t9 c ∧ d_ty Y c m ∧ d_xx f X sec c m ∧ d_zr c

/-- what lines show, in class and reference -/
def r_l (X : Int) (c m : JM) : Prop := ∀ l, m.1 112 0 l = c.1 4 l 6 ∧ m.1 113 0 l = c.1 4 l 5 ∧ m.1 114 0 l = c.1 4 l 8 ∧ m.1 115 0 l = c.1 4 l 10 ∧ m.1 116 0 l = c.1 4 l 9 ∧ m.1 118 0 l = c.1 4 l 4 ∧ m.1 122 0 l = c.1 4 l 14 ∧ m.1 123 0 l = c.1 4 l 15 ∧ m.1 124 0 l = c.1 4 l 7 ∧ (0 ≤ l → l ≠ X → m.1 125 0 l = c.1 4 l 16) ∧ m.1 126 0 l = c.1 4 l 17 ∧ m.1 130 0 l = c.1 4 l 18 ∧ m.1 131 0 l = c.1 4 l 19
theorem f_tellL (c : JM) (id l why : Int) : ∃ c', F11_tellEnd (some id) (some l) none why c = some c' ∧ c'.2.1 = c.2.1 ∧ (∀ k n j, c'.2.2 k n j = if k = 4 ∧ n = l ∧ (j = 11 ∨ j = 12 ∨ j = 13) ∧ c.2.2 k n j = some id then none else c.2.2 k n j) ∧
    (∀ k n j, c'.1 k n j = if k = 4 ∧ n = l ∧ j = 16 ∧ c.2.2 4 l 13 = some id then c.1 11 0 10 else if k = 4 ∧ n = l ∧ j = 14 ∧ c.2.2 4 l 11 = some id then why else if k = 4 ∧ n = l ∧ j = 15 ∧ c.2.2 4 l 11 = some id then (if why = 1 then 4 else 3) else c.1 k n j) := by
  by_cases a : c.2.2 4 l 13 = some id <;> by_cases b : c.2.2 4 l 12 = some id <;> by_cases d : c.2.2 4 l 11 = some id <;> by_cases e : why = 1
  all_goals
    refine ⟨_, by (conv => lhs; simp [F11_tellEnd, F11_ringNoMore, F11_ringNoMore_21, F11_tellEnd_41, F11_tellEnd_44, lt_, a, b, d, e, rI_I, rI_R, rR_I, rR_R]), ?_, fun k n j => ?_, fun k n j => ?_⟩
    · rfl
    all_goals
      try simp only [rI_I, rI_R, rR_I, rR_R]
      grind
theorem m_tellL (m : JM) (s l why : Int) (hl : 0 ≤ l ∧ l < 16) (hr : m.1 121 0 l = s → m.1 112 0 l = 0) : ∃ m', F12_tells s l why m = some m' ∧ m'.2 = m.2 ∧ (∀ k n j, m'.1 k n j = if (k = 119 ∨ k = 120 ∨ k = 121) ∧ n = 0 ∧ j = l ∧ m.1 k 0 l = s then -1 else if k = 125 ∧ n = 0 ∧ j = l ∧ m.1 121 0 l = s then m.1 12 0 2 else if k = 122 ∧ n = 0 ∧ j = l ∧ m.1 119 0 l = s then why else if k = 123 ∧ n = 0 ∧ j = l ∧ m.1 119 0 l = s then (if why = 1 then 4 else 3) else m.1 k n j) := by
  have q1 : l < 100 := by omega
  have q2 : ¬ l < 0 := by omega
  have q3 : ¬ 16 ≤ l := by omega
  by_cases a : m.1 121 0 l = s <;> by_cases b : m.1 120 0 l = s <;> by_cases d : m.1 119 0 l = s <;> by_cases e : why = 1
  all_goals
    have hr2 := hr
    simp [a] at hr2
    refine ⟨_, by (conv => lhs; simp [F12_tells, F12_tells_100, F12_tells_140, F12_unring, F12_tells_139, F12_isCircuit, F12_isLineSide, F12_isCircuit_17, lt_, g_, q1, q2, q3, hl, a, b, d, e, hr2, rI_I]), ?_, fun k n j => ?_⟩
    · rfl
    try simp only [rI_I]
    grind (splits := 20)
