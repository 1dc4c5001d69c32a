/-! ===== speech: rooms ===== -/
theorem g_c_cg {c c' : JM} (h2 : c'.2 = c.2) (h1 : ∀ k n j, k ≠ 24 → (k = 4 → j ≠ 19) → (k = 8 → j ≠ 4) → c'.1 k n j = c.1 k n j) (i : Int) (o1 o2 : Option Int) : g_c c' i o1 o2 = g_c c i o1 o2 := by
  unfold g_c
  cases o1 with
  | none =>
    cases o2 with
    | none => rfl
    | some t => exact congrArg s_b0 (h1 8 _ 5 (by decide) (fun z => absurd z (by decide)) (fun _ => by decide))
  | some l =>
    show (if c'.2.2 4 l 11 = some i then s_h (j_div (c'.1 4 l 0) 8) (c'.1 4 l 18) else 0) = (if c.2.2 4 l 11 = some i then s_h (j_div (c.1 4 l 0) 8) (c.1 4 l 18) else 0)
    rw [h2, h1 4 l 0 (by decide) (fun _ => by decide) (fun z => absurd z (by decide)), h1 4 l 18 (by decide) (fun _ => by decide) (fun z => absurd z (by decide))]
/-- what a call's side A gives to the room r of exchange e -/
def tA (c : JM) (e r i : Int) : Int := if c.1 0 i 9 = 3 ∧ c.1 0 i 6 = r ∧ c.2.2 0 i 0 = some e then g_c c i (c.2.2 0 i 1) (c.2.2 0 i 2) else 0
def tC (c : JM) (e r k : Int) : Int := match c.2.2 40 0 k with
  | none => 0
  | some i => tA c e r i
def sp (c : JM) : Prop := (0 ≤ c.1 11 0 11 ∧ c.1 11 0 11 ≤ 72) ∧ (∀ k, 0 ≤ k → k < 72 → ∃ i, c.2.2 40 0 k = some i ∧ 0 ≤ i ∧ i < 72) ∧ (∀ i, 0 ≤ i → i < 72 → c.1 0 i 9 = 3 → c.1 0 i 6 = -1 ∨ ((c.1 0 i 6 = 0 ∨ c.1 0 i 6 = 1) ∧ ∃ e, (e = 0 ∨ e = 1) ∧ c.2.2 0 i 0 = some e)) ∧ (∀ i, 0 ≤ i → i < 72 → c.1 0 i 9 = 3 → (∀ l, c.2.2 0 i 1 = some l ∨ c.2.2 0 i 3 = some l → -8191 ≤ c.1 4 l 18 ∧ c.1 4 l 18 ≤ 8191) ∧ (-8191 ≤ g_c c i (c.2.2 0 i 1) (c.2.2 0 i 2) ∧ g_c c i (c.2.2 0 i 1) (c.2.2 0 i 2) ≤ 8191) ∧ (-8191 ≤ g_c c i (c.2.2 0 i 3) (c.2.2 0 i 4) ∧ g_c c i (c.2.2 0 i 3) (c.2.2 0 i 4) ≤ 8191))
theorem tC_b {c : JM} (S : sp c) (e r k : Int) (h0 : 0 ≤ k) (h1 : k < 72) : -8191 ≤ tC c e r k ∧ tC c e r k ≤ 8191 := by
  obtain ⟨i, e1, i0, i1⟩ := S.2.1 k h0 h1
  unfold tC
  rw [e1]
  show -8191 ≤ tA c e r i ∧ tA c e r i ≤ 8191
  unfold tA
  by_cases q : c.1 0 i 9 = 3 ∧ c.1 0 i 6 = r ∧ c.2.2 0 i 0 = some e
  · rw [if_pos q]; exact (S.2.2.2 i i0 i1 q.1).2.1
  · rw [if_neg q]; exact ⟨by decide, by decide⟩
theorem n_sum {a b : Int} {n : Nat} (hn : n < 80) (h1 : -8191 * (n : Int) ≤ a ∧ a ≤ 8191 * (n : Int)) (h2 : -8191 ≤ b ∧ b ≤ 8191) : w32 (a + b) = a + b := w32_of (by omega) (by omega)
theorem f_s48 {c : JM} (S : sp c) : ∀ (d : Nat) (fu : Nat) (l : Nat) (c1 : JM), c1.2 = c.2 → (∀ k n j, k ≠ 24 → c1.1 k n j = c.1 k n j) → (∀ e r, e = 0 ∨ e = 1 → r = 0 ∨ r = 1 → c1.1 24 e r = sm (tC c e r) l) → (l : Int) + d = c.1 11 0 11 → d < fu → ∃ c', F11_carrySpeech_48 fu l c1 = F11_carrySpeech_114 j_fu 0 c' ∧ c'.2 = c.2 ∧ (∀ k n j, k ≠ 24 → c'.1 k n j = c.1 k n j) ∧ (∀ e r, e = 0 ∨ e = 1 → r = 0 ∨ r = 1 → c'.1 24 e r = sm (tC c e r) (c.1 11 0 11).toNat)
  | _, 0, _, _, _, _, _, _, h => by omega
  | 0, fu + 1, l, c1, k1, k2, k3, h1, h2 => by
    refine ⟨c1, ?_, k1, k2, fun e r he hr => ?_⟩
    · show F11_carrySpeech_48b (F11_carrySpeech_48 fu) l c1 = _
      unfold F11_carrySpeech_48b
      rw [if_pos (by rw [k2 11 0 11 (by decide)]; omega)]
    · rw [k3 e r he hr, show (c.1 11 0 11).toNat = l by omega]
  | d + 1, fu + 1, l, c1, k1, k2, k3, h1, h2 => by
    have hn := S.1
    obtain ⟨i, ei, i0, i1⟩ := S.2.1 l (by omega) (by omega)
    have hw : w32 ((l : Int) + 1) = ((l + 1 : Nat) : Int) := by rw [w32_1 (by omega) (by omega)]; rfl
    have ks : ∀ n j, c1.1 0 n j = c.1 0 n j := fun n j => k2 0 n j (by decide)
    have go : ∀ c2 : JM, c2.2 = c.2 → (∀ k n j, k ≠ 24 → c2.1 k n j = c.1 k n j) → (∀ e r, e = 0 ∨ e = 1 → r = 0 ∨ r = 1 → c2.1 24 e r = c1.1 24 e r + tA c e r i) → F11_carrySpeech_48 (fu + 1) l c1 = F11_carrySpeech_106 (F11_carrySpeech_48 fu) l c2 → ∃ c', F11_carrySpeech_48 (fu + 1) l c1 = F11_carrySpeech_114 j_fu 0 c' ∧ c'.2 = c.2 ∧ (∀ k n j, k ≠ 24 → c'.1 k n j = c.1 k n j) ∧ (∀ e r, e = 0 ∨ e = 1 → r = 0 ∨ r = 1 → c'.1 24 e r = sm (tC c e r) (c.1 11 0 11).toNat) := fun c2 q1 q2 q3 q4 => by
      obtain ⟨c', e1, e2⟩ := f_s48 S d fu (l + 1) c2 q1 q2 (fun e r he hr => by
        rw [q3 e r he hr, k3 e r he hr]
        show _ = sm (tC c e r) l + tC c e r l
        have : tC c e r l = tA c e r i := by unfold tC; rw [ei]
        rw [this]) (by omega) (by omega)
      refine ⟨c', ?_, e2⟩
      rw [q4]
      unfold F11_carrySpeech_106
      rw [hw]; exact e1
    have b48 : F11_carrySpeech_48 (fu + 1) l c1 = (if c.1 0 i 9 = 3 then (if c.1 0 i 6 = (-1) then F11_carrySpeech_106 (F11_carrySpeech_48 fu) l c1 else (c.2.2 0 i 0).bind (fun a4 => g_ ((0 : Int) ≤ c.1 0 i 6 ∧ c.1 0 i 6 < (2 : Int)) ((F11_given (some i) (c.2.2 0 i 1) (c.2.2 0 i 2) c1).bind (fun q5 => g_ ((0 : Int) ≤ c.1 0 i 6 ∧ c.1 0 i 6 < (2 : Int)) (lt_ (sI q5.2 24 a4 (c.1 0 i 6) (w32 ((c1.1 24 a4 (c.1 0 i 6)) + q5.1))) (fun h6 => F11_carrySpeech_106 (F11_carrySpeech_48 fu) l h6)))))) else F11_carrySpeech_106 (F11_carrySpeech_48 fu) l c1) := by
      show F11_carrySpeech_48b (F11_carrySpeech_48 fu) l c1 = _
      unfold F11_carrySpeech_48b
      rw [if_neg (by rw [k2 11 0 11 (by decide)]; omega), g_t (by omega), k1, ei, Option.bind_some, ks, ks]
    by_cases s3 : c.1 0 i 9 = 3
    · rw [if_pos s3] at b48
      rcases S.2.2.1 i i0 i1 s3 with r1 | ⟨r1, e, he, eh⟩
      · rw [if_pos r1] at b48
        refine go c1 k1 k2 (fun e r he hr => ?_) b48
        have : tA c e r i = 0 := if_neg (fun z => by omega)
        omega
      · have hg := S.2.2.2 i i0 i1 s3
        have G : F11_given (some i) (c.2.2 0 i 1) (c.2.2 0 i 2) c1 = some (g_c c i (c.2.2 0 i 1) (c.2.2 0 i 2), c1) := by
          rw [f_given (fun l' z => by rw [k2 4 l' 18 (by decide)]; exact hg.1 l' (Or.inl z)), g_c_cg k1 (fun k n j z _ _ => k2 k n j z)]
        rw [if_neg (by omega), eh, Option.bind_some, g_t (by omega), G, Option.bind_some, g_t (by omega), lt_d] at b48
        have hb := sm_b (g := tC c e (c.1 0 i 6)) (n := l) (fun k z1 z2 => tC_b S e _ k z1 (by omega))
        have hk := k3 e (c.1 0 i 6) he r1
        have hA : tA c e (c.1 0 i 6) i = g_c c i (c.2.2 0 i 1) (c.2.2 0 i 2) := if_pos ⟨s3, rfl, eh⟩
        have hW : w32 (c1.1 24 e (c.1 0 i 6) + g_c c i (c.2.2 0 i 1) (c.2.2 0 i 2)) = c1.1 24 e (c.1 0 i 6) + g_c c i (c.2.2 0 i 1) (c.2.2 0 i 2) := by
          rw [hk]; exact n_sum (by omega) hb hg.2.1
        refine go _ ?_ ?_ ?_ b48
        · exact k1
        · intro k n j z
          show (sI c1 24 e _ _).1 k n j = _
          rw [rI_I, if_neg (fun y => z y.1)]; exact k2 k n j z
        · intro e' r' he' hr'
          show (sI c1 24 e (c.1 0 i 6) (w32 (c1.1 24 e (c.1 0 i 6) + g_c c i (c.2.2 0 i 1) (c.2.2 0 i 2)))).1 24 e' r' = _
          rw [rI_I]
          by_cases y : e' = e ∧ r' = c.1 0 i 6
          · rw [if_pos ⟨rfl, y⟩, hW, y.1, y.2, hA]
          · have : tA c e' r' i = 0 := if_neg (fun z => y ⟨by have := z.2.2; rw [eh] at this; exact (Option.some.inj this).symm, z.2.1.symm⟩)
            rw [if_neg (fun z => y z.2), this]; omega
    · rw [if_neg s3] at b48
      refine go c1 k1 k2 (fun e r he hr => ?_) b48
      have : tA c e r i = 0 := if_neg (fun z => s3 z.1)
      omega
/-- the others in the room, in the reference -/
def oM (m : JM) (x s : Int) : Int := if s = x then 0 else if m.1 133 0 s = 3 ∧ m.1 135 0 s = m.1 135 0 x ∧ m.1 137 0 s = m.1 137 0 x then g_m m s (m.1 136 0 s) else 0
def cl8 (v : Int) : Int := if v ≤ 8000 then (if -8000 ≤ v then v else -8000) else 8000
def spm (m : JM) : Prop := ∀ s, 0 ≤ s → s < 80 → m.1 133 0 s = 3 → F12_given s (m.1 136 0 s) m = some (g_m m s (m.1 136 0 s), m) ∧ -8191 ≤ g_m m s (m.1 136 0 s) ∧ g_m m s (m.1 136 0 s) ≤ 8191
theorem oM_b {m : JM} (S : spm m) (x s : Int) (h0 : 0 ≤ s) (h1 : s < 80) : -8191 ≤ oM m x s ∧ oM m x s ≤ 8191 := by
  unfold oM
  by_cases q : s = x
  · rw [if_pos q]; exact ⟨by decide, by decide⟩
  · rw [if_neg q]
    by_cases q2 : m.1 133 0 s = 3 ∧ m.1 135 0 s = m.1 135 0 x ∧ m.1 137 0 s = m.1 137 0 x
    · rw [if_pos q2]; exact (S s h0 h1 q2.1).2
    · rw [if_neg q2]; exact ⟨by decide, by decide⟩
theorem m_oth {m : JM} (S : spm m) {x : Int} (hx : 0 ≤ x ∧ x < 80) : ∀ (d : Nat) (fu : Nat) (l : Nat), l + d = 80 → d < fu → F12_inRoomOthers_4 fu x (sm (oM m x) l) l m = some (cl8 (sm (oM m x) 80), m)
  | _, 0, _, _, h => by omega
  | 0, fu + 1, l, h1, h2 => by
    have e : l = 80 := by omega
    subst e
    show F12_inRoomOthers_4b (F12_inRoomOthers_4 fu) x _ _ m = _
    unfold F12_inRoomOthers_4b cl8
    rw [if_pos (by decide)]
    split
    · split <;> rfl
    · rfl
  | d + 1, fu + 1, l, h1, h2 => by
    have hi := m_oth S hx d fu (l + 1) (by omega) (by omega)
    have hw : w32 ((l : Int) + 1) = ((l + 1 : Nat) : Int) := by rw [w32_1 (by omega) (by omega)]; rfl
    have hl : (0 : Int) ≤ l ∧ (l : Int) < 80 := by omega
    have hb := sm_b (g := oM m x) (n := l) (fun k z1 z2 => oM_b S x k z1 (by omega))
    have hs : sm (oM m x) (l + 1) = sm (oM m x) l + oM m x l := rfl
    show F12_inRoomOthers_4b (F12_inRoomOthers_4 fu) x _ _ m = _
    unfold F12_inRoomOthers_4b F12_inRoomOthers_69
    rw [if_neg (by omega), hw]
    rw [hs] at hi
    have skip : oM m x l = 0 → F12_inRoomOthers_4 fu x (sm (oM m x) l) ((l + 1 : Nat) : Int) m = some (cl8 (sm (oM m x) 80), m) := fun z => by
      rw [z, Int.add_zero] at hi; exact hi
    by_cases q : (l : Int) = x
    · rw [if_pos q]; exact skip (if_pos q)
    · rw [if_neg q, g_t hl]
      by_cases q1 : m.1 133 0 (l : Int) = 3
      · rw [if_pos q1, g_t hl, g_t hx]
        by_cases q2 : m.1 135 0 (l : Int) = m.1 135 0 x
        · rw [if_pos q2, g_t hl, g_t hx]
          by_cases q3 : m.1 137 0 (l : Int) = m.1 137 0 x
          · have hA : oM m x l = g_m m l (m.1 136 0 l) := by unfold oM; rw [if_neg q, if_pos ⟨q1, q2, q3⟩]
            have hg := S l hl.1 hl.2 q1
            rw [if_pos q3, g_t hl, hg.1, Option.bind_some, lt_d, n_sum (by omega) hb hg.2, ← hA]
            exact hi
          · rw [if_neg q3]; exact skip (by unfold oM; rw [if_neg q, if_neg (fun z => q3 z.2.2)])
        · rw [if_neg q2]; exact skip (by unfold oM; rw [if_neg q, if_neg (fun z => q2 z.2.1)])
      · rw [if_neg q1]; exact skip (by unfold oM; rw [if_neg q, if_neg (fun z => q1 z.1)])
theorem m_others {m : JM} (S : spm m) {x : Int} (hx : 0 ≤ x ∧ x < 80) : F12_inRoomOthers x m = some (cl8 (sm (oM m x) 80), m) := by
  have h100 := so_fu
  exact m_oth S hx 80 j_fu 0 (by omega) (by omega)
