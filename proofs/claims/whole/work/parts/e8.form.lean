/-! ===== every method, in one form ===== -/
def r_t1 (f : Int → Int) (N B : Int) (A M : JM → Option (Int × JM)) : Prop := ∀ c m, r_x f N B c m → ∃ f' B' v c' m', f_ok f' ∧ B' ≤ B + 686000 ∧ A c = some (v, c') ∧ M m = some (v, m') ∧ r_y f' N B' c m c' m'
section RU1
variable {f f' : Int → Int} {N : Int} {c m c' m' : JM} {B B' : Int}
theorem x_keep (R : r_x f N B c m) (R' : r_all f' N B' c' m') (h1 : c'.2.1 11 0 9 = c.2.1 11 0 9) (h2 : m'.1 12 0 4 = m.1 12 0 4) (h3 : ∀ j, m'.1 103 0 j = m.1 103 0 j) (h4 : ∀ e, c'.1 1 e 4 = c.1 1 e 4) (h5 : ∀ n, c'.1 1006 n 0 = c.1 1006 n 0) : r_x f' N B' c' m' :=
  ⟨R', by rw [h1, h2]; exact k_R_cg h3 R.2.1, fun e r he a b => by rw [h5]; rw [h4] at a; exact R.2.2 e r he a b⟩
theorem t_put {A M : JM → Option (Int × JM)} (hf : f_ok f) (h : ∀ c m, r_x f N B c m → ∃ v c' m', A c = some (v, c') ∧ M m = some (v, m') ∧ r_y f N B c m c' m') : r_t1 f N B A M := fun c m R => by
  obtain ⟨v, c', m', h1, h2, h3⟩ := h c m R
  exact ⟨f, B, v, c', m', hf, by omega, h1, h2, h3⟩
theorem t_ask {A M : JM → Option (Int × JM)} (hf : f_ok f) (h : ∀ c m, r_all f N B c m → ∃ v, A c = some (v, c) ∧ M m = some (v, m)) : r_t1 f N B A M := fun c m R => by
  obtain ⟨v, h1, h2⟩ := h c m R.1
  exact ⟨f, B, v, c, m, hf, by omega, h1, h2, r_y0 R⟩
theorem t_say (hf : f_ok f) (l x : Int) : r_t1 f N B (F11_say l x) (F12_say l x) := t_put hf (fun c m R => by
  obtain ⟨v, c', m', h1, h2, h3, h4, h5⟩ := a_say hf R.1 l x
  exact ⟨v, c', m', h1, h2, x_keep R h3 (h4 11 0 9 rfl).2.1 (h5 12 0 4 rfl).1 (fun j => (h5 103 0 j rfl).1) (fun e => (h4 1 e 4 rfl).1) (fun n => (h4 1006 n 0 rfl).1), so_mono (fun k j h => by simp [wC] at h; simp [w_ln]; omega) h4, so_mono (fun k j h => by simp [wR] at h; simp [w_lnm]; omega) h5⟩)
theorem t_hook (hf : f_ok f) (l x : Int) (hx : x = 0 ∨ x = 1) : r_t1 f N B (F11_hook l x) (F12_hook l x) := t_put hf (fun c m R => by
  obtain ⟨v, c', m', h1, h2, h3, h4, h5⟩ := a_hook hf R.1 l x hx
  exact ⟨v, c', m', h1, h2, x_keep R h3 (h4 11 0 9 rfl).2.1 (h5 12 0 4 rfl).1 (fun j => (h5 103 0 j rfl).1) (fun e => (h4 1 e 4 rfl).1) (fun n => (h4 1006 n 0 rfl).1), so_mono (fun k j h => by simp [wC] at h; simp [w_ln]; omega) h4, so_mono (fun k j h => by simp [wR] at h; simp [w_lnm]; omega) h5⟩)
theorem wk_C : ∀ k j, wC k j = false → wTk k j = false := fun k j h => by
  simp [wC] at h
  have n : k ≠ 0 ∧ k ≠ 2 ∧ k ≠ 3 ∧ k ≠ 4 ∧ k ≠ 5 ∧ k ≠ 8 ∧ k ≠ 11 ∧ k ≠ 23 ∧ k ≠ 27 ∧ k ≠ 31 ∧ k ≠ 30 ∧ k ≠ 24 ∧ k ≠ 9 ∧ k ≠ 10 ∧ k ≠ 36 ∧ k ≠ 37 ∧ k ≠ 7 ∧ k ≠ 34 ∧ k ≠ 35 ∧ k ≠ 40 := by omega
  simp [wTk, w_D, w_W, w_C, w_S, w_o, w_sw, n]
theorem wk_R : ∀ k j, wR k j = false → wTm k j = false := fun k j h => by
  simp [wR] at h
  have n : k ≠ 12 ∧ (k < 100 ∨ 1000 ≤ k) := by omega
  simp [wTm, w_T, w_V, w_DM, w_M, w_Sm, w_om]; omega
theorem t_tick (hf : f_ok f) (hB : B + 700000 < 1000000000) (x : Int) : r_t1 f N B (F11_tick x) (F12_tick x) := fun c m R => by
  obtain ⟨f', B', c', m', v, g1, g2, h1, h2, h3, h4, h5⟩ := p_tick hf hB R.1 x
  exact ⟨f', B', v, c', m', g1, g2, h1, h2, x_keep R h3 (h4 11 0 9 rfl).2.1 (h5 12 0 4 rfl).1 (fun j => (h5 103 0 j rfl).1) (fun e => (h4 1 e 4 rfl).1) (fun n => (h4 1006 n 0 rfl).1), so_mono wk_C h4, so_mono wk_R h5⟩
/-- the class first, then the reference, in one memory -/
theorem two {A M : JM → Option (Int × JM)} {h : JM} (T : r_t1 f N B A M) (hf : f_ok f) (R : r_x f N B h h) : ∃ f' B' v h1 h2, f_ok f' ∧ B' ≤ B + 686000 ∧ A h = some (v, h1) ∧ M h1 = some (v, h2) ∧ r_x f' N B' h2 h2 ∧ (∀ k n j, k = 99 ∨ k = 1099 → h1.1 k n j = h.1 k n j ∧ h2.1 k n j = h.1 k n j) := by
  obtain ⟨f0, B0, v0, c0, m0, _, _, a0, _, _, k1, _⟩ := T h h R
  have R1 : r_x f N B h c0 := x_own hf R (so_rfl h) (so_mono (fun k j q => by simp [w_ownm] at q; simp [wC]; omega) k1)
  obtain ⟨f', B', v, c', m', g1, g2, a1, a2, ⟨r, k2, k3⟩⟩ := T h c0 R1
  rw [a0] at a1
  have e0 := Option.some.inj a1
  have ev : v0 = v := congrArg Prod.fst e0
  have ec : c0 = c' := congrArg Prod.snd e0
  subst ev
  subst ec
  refine ⟨f', B', v0, c0, m', g1, g2, a0, a2, x_own g1 r (so_mono (fun k j q => by simp [w_own] at q; simp [wR]; omega) k3) (so_rfl m'), fun k n j q => ?_⟩
  have q1 : c0.1 k n j = h.1 k n j := (k1 k n j (by rcases q with rfl | rfl <;> rfl)).1
  exact ⟨q1, by rw [(k3 k n j (by rcases q with rfl | rfl <;> rfl)).1, q1]⟩
end RU1
