/-! ===== speech: all calls ===== -/
def sa (c c' : JM) : Prop := c'.2 = c.2 ∧ ∀ k n j, (k = 4 → j ≠ 19) → (k = 8 → j ≠ 4) → c'.1 k n j = c.1 k n j
theorem sa_0 {c c' : JM} (h : sa c c') (n j : Int) : c'.1 0 n j = c.1 0 n j := h.2 0 n j (fun z => absurd z (by decide)) (fun z => absurd z (by decide))
theorem sa_24 {c c' : JM} (h : sa c c') (n j : Int) : c'.1 24 n j = c.1 24 n j := h.2 24 n j (fun z => absurd z (by decide)) (fun z => absurd z (by decide))
theorem sa_g {c c' : JM} (h : sa c c') (i : Int) (o1 o2 : Option Int) : g_c c' i o1 o2 = g_c c i o1 o2 := g_c_cg h.1 (fun k n j _ a b => h.2 k n j a b) i o1 o2
theorem sa_gA {c c' : JM} (h : sa c c') (i : Int) : gA c' i = gA c i := by unfold gA; rw [sa_g h, h.1]
theorem sa_gB {c c' : JM} (h : sa c c') (i : Int) : gB c' i = gB c i := by unfold gB; rw [sa_g h, h.1]
theorem sa_rS {c c' : JM} (h : sa c c') (i : Int) : rS c' i = rS c i := by
  unfold rS
  rw [h.1, sa_0 h]
  cases c.2.2 0 i 0 with
  | none => rfl
  | some e => exact sa_24 h e _
theorem sa_vA {c c' : JM} (h : sa c c') (i : Int) : vA c' i = vA c i := by unfold vA; rw [sa_gA h, sa_gB h, sa_rS h, sa_0 h]
theorem sa_oL {c c' : JM} (h : sa c c') (i n : Int) : oL c' i n = oL c i n := by
  unfold oL; rw [sa_gA h, sa_vA h, h.1, h.2 4 n 0 (fun _ => by decide) (fun z => absurd z (by decide))]
theorem sa_oT {c c' : JM} (h : sa c c') (i n : Int) : oT c' i n = oT c i n := by unfold oT; rw [sa_gA h, sa_vA h, h.1]
abbrev hT (c : JM) (i n : Int) : Prop := c.2.2 0 i 2 = some n ∨ c.2.2 0 i 4 = some n
def pd (c : JM) (l : Nat) (i : Int) : Prop := ∃ k : Int, 0 ≤ k ∧ k < l ∧ c.2.2 40 0 k = some i
/-- what talking calls keep to -/
def tw (c : JM) (i : Int) : Prop := (c.1 0 i 6 ≠ -1 → -1000000 ≤ rS c i ∧ rS c i ≤ 1000000) ∧ (∀ n, c.2.2 4 n 11 = some i → c.2.2 0 i 1 = some n ∨ c.2.2 0 i 3 = some n) ∧ (∀ n, c.2.2 0 i 1 = some n → c.2.2 0 i 3 ≠ some n) ∧ (∀ n, c.2.2 0 i 2 = some n → c.2.2 0 i 4 ≠ some n) ∧ (c.1 0 i 6 ≠ -1 → c.2.2 0 i 3 = none ∧ c.2.2 0 i 4 = none)
def ivc (c : JM) (l : Nat) (c1 : JM) : Prop := (∀ n i, c.2.2 4 n 11 = some i → c.1 0 i 9 = 3 → pd c l i → c1.1 4 n 19 = oL c i n) ∧ (∀ n, (∀ i, c.2.2 4 n 11 = some i → c.1 0 i 9 = 3 → ¬ pd c l i) → c1.1 4 n 19 = c.1 4 n 19) ∧ (∀ n i, hT c i n → c.1 0 i 9 = 3 → pd c l i → c1.1 8 n 4 = oT c i n) ∧ (∀ n, (∀ i, hT c i n → c.1 0 i 9 = 3 → ¬ pd c l i) → c1.1 8 n 4 = c.1 8 n 4)
theorem pd_up {c : JM} {l : Nat} {i i' : Int} (e : c.2.2 40 0 (l : Int) = some i) : pd c (l + 1) i' ↔ pd c l i' ∨ i' = i := by
  constructor
  · rintro ⟨k, k0, k1, k2⟩
    by_cases q : k = l
    · right; rw [q, e] at k2; exact (Option.some.inj k2).symm
    · left; exact ⟨k, k0, by omega, k2⟩
  · rintro (⟨k, k0, k1, k2⟩ | q)
    · exact ⟨k, k0, by omega, k2⟩
    · exact ⟨l, by omega, by omega, by rw [e, q]⟩
theorem ivc_skip {c c1 : JM} {l : Nat} {i : Int} (e : c.2.2 40 0 (l : Int) = some i) (h3 : c.1 0 i 9 ≠ 3) (I : ivc c l c1) : ivc c (l + 1) c1 := by
  obtain ⟨I1, I2, I3, I4⟩ := I
  have up : ∀ i', c.1 0 i' 9 = 3 → (pd c (l + 1) i' ↔ pd c l i') := fun i' z => by
    rw [pd_up e]
    exact ⟨fun y => y.elim id (fun x => absurd (by rw [← x]; exact z) h3), Or.inl⟩
  exact ⟨fun n i' a b d => I1 n i' a b ((up i' b).mp d), fun n h => I2 n (fun i' a b d => h i' a b ((up i' b).mpr d)), fun n i' a b d => I3 n i' a b ((up i' b).mp d), fun n h => I4 n (fun i' a b d => h i' a b ((up i' b).mpr d))⟩
theorem ivc_step {c c1 c2 : JM} {l : Nat} {i : Int} (e : c.2.2 40 0 (l : Int) = some i) (h3 : c.1 0 i 9 = 3) (U : ∀ i i' n, 0 ≤ i ∧ i < 72 → 0 ≤ i' ∧ i' < 72 → c.1 0 i 9 = 3 → c.1 0 i' 9 = 3 → hT c i n → hT c i' n → i = i') (hu : ∀ i', pd c (l + 1) i' → 0 ≤ i' ∧ i' < 72) (k : ∀ k n j, c2.1 k n j = if k = 4 ∧ j = 19 ∧ c.2.2 4 n 11 = some i then oL c i n else if k = 8 ∧ j = 4 ∧ hT c i n then oT c i n else c1.1 k n j) (I : ivc c l c1) : ivc c (l + 1) c2 := by
  obtain ⟨I1, I2, I3, I4⟩ := I
  have pi : pd c (l + 1) i := (pd_up e).mpr (Or.inr rfl)
  have kL : ∀ n, c.2.2 4 n 11 ≠ some i → c2.1 4 n 19 = c1.1 4 n 19 := fun n z => by rw [k, if_neg (fun y => z y.2.2), if_neg (fun y => absurd y.1 (by decide))]
  have kT : ∀ n, ¬ hT c i n → c2.1 8 n 4 = c1.1 8 n 4 := fun n z => by rw [k, if_neg (fun y => absurd y.1 (by decide)), if_neg (fun y => z y.2.2)]
  refine ⟨fun n i' a b d => ?_, fun n h => ?_, fun n i' a b d => ?_, fun n h => ?_⟩
  · by_cases q : i' = i
    · rw [k, if_pos ⟨rfl, rfl, by rw [a, q]⟩, q]
    · rw [kL n (by rw [a]; exact fun z => q (Option.some.inj z))]
      exact I1 n i' a b (((pd_up e).mp d).elim id (fun z => absurd z q))
  · rw [kL n (fun z => h i z h3 pi)]
    exact I2 n (fun i' a b d => h i' a b ((pd_up e).mpr (Or.inl d)))
  · by_cases q : i' = i
    · rw [k, if_neg (fun y => absurd y.1 (by decide)), if_pos ⟨rfl, rfl, by rw [← q]; exact a⟩, q]
    · rw [kT n (fun z => q (U i' i n (hu i' d) (hu i pi) b h3 a z))]
      exact I3 n i' a b (((pd_up e).mp d).elim id (fun z => absurd z q))
  · rw [kT n (fun z => h i z h3 pi)]
    exact I4 n (fun i' a b d => h i' a b ((pd_up e).mpr (Or.inl d)))
theorem f_s114 {c : JM} (S : sp c) (W : ∀ i, 0 ≤ i → i < 72 → c.1 0 i 9 = 3 → tw c i) (U : ∀ i i' n, 0 ≤ i ∧ i < 72 → 0 ≤ i' ∧ i' < 72 → c.1 0 i 9 = 3 → c.1 0 i' 9 = 3 → hT c i n → hT c i' n → i = i') : ∀ (d : Nat) (fu : Nat) (l : Nat) (c1 : JM), sa c c1 → ivc c l c1 → (l : Int) + d = c.1 11 0 11 → d < fu → ∃ c', F11_carrySpeech_114 fu l c1 = some c' ∧ sa c c' ∧ ivc c (c.1 11 0 11).toNat c'
  | _, 0, _, _, _, _, _, h => by omega
  | 0, fu + 1, l, c1, k1, k2, h1, h2 => by
    refine ⟨c1, ?_, k1, ?_⟩
    · show F11_carrySpeech_114b (F11_carrySpeech_114 fu) l c1 = _
      unfold F11_carrySpeech_114b
      rw [if_pos (by rw [k1.2 11 0 11 (fun z => absurd z (by decide)) (fun z => absurd z (by decide))]; omega)]
    · rw [show (c.1 11 0 11).toNat = l by omega]; exact k2
  | d + 1, fu + 1, l, c1, k1, k2, h1, h2 => by
    have hn := S.1
    obtain ⟨i, ei, i0, i1⟩ := S.2.1 l (by omega) (by omega)
    have hw : w32 ((l : Int) + 1) = ((l + 1 : Nat) : Int) := by rw [w32_1 (by omega) (by omega)]; rfl
    have b : F11_carrySpeech_114 (fu + 1) l c1 = if c.1 0 i 9 = 3 then ((F11_carryBetweenSides (some i) c1).bind (fun h2 => F11_carrySpeech_114 fu ((l + 1 : Nat) : Int) h2)) else F11_carrySpeech_114 fu ((l + 1 : Nat) : Int) c1 := by
      show F11_carrySpeech_114b (F11_carrySpeech_114 fu) l c1 = _
      unfold F11_carrySpeech_114b F11_carrySpeech_144
      rw [if_neg (by rw [k1.2 11 0 11 (fun z => absurd z (by decide)) (fun z => absurd z (by decide))]; omega), g_t (by omega), k1.1, ei, Option.bind_some, sa_0 k1, g_t (by omega), hw]
    by_cases s3 : c.1 0 i 9 = 3
    · rw [if_pos s3] at b
      have hg := S.2.2.2 i i0 i1 s3
      have hr := S.2.2.1 i i0 i1 s3
      obtain ⟨w1, w2, w3, w4, w5⟩ := W i i0 i1 s3
      obtain ⟨c2, e1, e2, e3⟩ := f_carry (c := c1) (i := i) ⟨fun l' z => by
          rw [k1.2 4 l' 18 (fun _ => by decide) (fun z => absurd z (by decide))]; rw [k1.1] at z; exact hg.1 l' z, by rw [sa_gA k1]; exact hg.2.1, by rw [sa_gB k1]; exact hg.2.2⟩ (by rw [sa_0 k1, k1.1]; exact hr) (by rw [sa_rS k1, sa_0 k1]; exact w1) (by rw [k1.1]; exact w2) (by rw [k1.1]; exact w3) (by rw [k1.1]; exact w4) (by rw [sa_0 k1, k1.1]; exact w5)
      have e3' : ∀ k n j, c2.1 k n j = if k = 4 ∧ j = 19 ∧ c.2.2 4 n 11 = some i then oL c i n else if k = 8 ∧ j = 4 ∧ hT c i n then oT c i n else c1.1 k n j := fun k n j => by
        rw [e3, sa_oL k1, sa_oT k1, k1.1]
      have s2 : sa c c2 := ⟨e2.trans k1.1, fun k n j a b' => by rw [e3', if_neg (fun z => a z.1 z.2.1), if_neg (fun z => b' z.1 z.2.1)]; exact k1.2 k n j a b'⟩
      have hu : ∀ i', pd c (l + 1) i' → 0 ≤ i' ∧ i' < 72 := fun i' ⟨k, z0, z1, z2⟩ => by
        obtain ⟨x, x1, x2⟩ := S.2.1 k z0 (by omega)
        rw [z2] at x1; rw [Option.some.inj x1]; exact x2
      obtain ⟨c', q1, q2⟩ := f_s114 S W U d fu (l + 1) c2 s2 (ivc_step ei s3 U hu e3' k2) (by omega) (by omega)
      exact ⟨c', by rw [b, e1, Option.bind_some]; exact q1, q2⟩
    · rw [if_neg s3] at b
      obtain ⟨c', q1, q2⟩ := f_s114 S W U d fu (l + 1) c1 k1 (ivc_skip ei s3 k2) (by omega) (by omega)
      exact ⟨c', by rw [b]; exact q1, q2⟩
