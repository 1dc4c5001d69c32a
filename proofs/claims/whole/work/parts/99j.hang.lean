/-! ===== what holds after, whatever the way ===== -/
def iv (P : JM → Prop) (o : Option JM) : Prop := ∀ r, o = some r → P r
def iv2 {α : Type} (P : JM → Prop) (o : Option (α × JM)) : Prop := ∀ r, o = some r → P r.2
section IV
variable {P S : JM → Prop} {α β : Type}
theorem iv_s {a : JM} (h : P a) : iv P (some a) := fun r q => by cases q; exact h
theorem iv_g {c : Prop} [Decidable c] {x : Option JM} (h : iv P x) : iv P (g_ c x) := fun r q => h r (g_e q).2
theorem iv_l {x : α} {g : α → Option JM} (h : iv P (g x)) : iv P (lt_ x g) := h
theorem iv_i {c : Prop} [Decidable c] {x y : Option JM} (h1 : iv P x) (h2 : iv P y) : iv P (if c then x else y) := by by_cases z : c <;> simp only [z, if_true, if_false] <;> assumption
theorem iv_b {o : Option JM} {g : JM → Option JM} (h1 : iv S o) (h2 : ∀ r, S r → iv P (g r)) : iv P (o.bind g) := fun r q => by
  obtain ⟨y, y1, y2⟩ := bd_e q
  exact h2 y (h1 y y1) r y2
theorem iv_bo {o : Option Int} {g : Int → Option JM} (h2 : ∀ r, iv P (g r)) : iv P (o.bind g) := fun r q => by
  obtain ⟨y, y1, y2⟩ := bd_e q
  exact h2 y r y2
theorem iv_b2 {o : Option (α × JM)} {g : α × JM → Option JM} (h1 : iv2 S o) (h2 : ∀ r, S r.2 → iv P (g r)) : iv P (o.bind g) := fun r q => by
  obtain ⟨y, y1, y2⟩ := bd_e q
  exact h2 y (h1 y y1) r y2
theorem iw_s {v : α} {a : JM} (h : P a) : iv2 P (some (v, a)) := fun r q => by cases q; exact h
theorem iw_g {c : Prop} [Decidable c] {x : Option (α × JM)} (h : iv2 P x) : iv2 P (g_ c x) := fun r q => h r (g_e q).2
theorem iw_l {x : β} {g : β → Option (α × JM)} (h : iv2 P (g x)) : iv2 P (lt_ x g) := h
theorem iw_i {c : Prop} [Decidable c] {x y : Option (α × JM)} (h1 : iv2 P x) (h2 : iv2 P y) : iv2 P (if c then x else y) := by by_cases z : c <;> simp only [z, if_true, if_false] <;> assumption
theorem iw_b {o : Option JM} {g : JM → Option (α × JM)} (h1 : iv S o) (h2 : ∀ r, S r → iv2 P (g r)) : iv2 P (o.bind g) := fun r q => by
  obtain ⟨y, y1, y2⟩ := bd_e q
  exact h2 y (h1 y y1) r y2
theorem iw_bo {o : Option Int} {g : Int → Option (α × JM)} (h2 : ∀ r, iv2 P (g r)) : iv2 P (o.bind g) := fun r q => by
  obtain ⟨y, y1, y2⟩ := bd_e q
  exact h2 y r y2
theorem iw_b2 {o : Option (β × JM)} {g : β × JM → Option (α × JM)} (h1 : iv2 S o) (h2 : ∀ r, S r.2 → iv2 P (g r)) : iv2 P (o.bind g) := fun r q => by
  obtain ⟨y, y1, y2⟩ := bd_e q
  exact h2 y (h1 y y1) r y2
end IV
/-- the reference's line l was let alone since now -/
def pS (l : Int) (m : JM) : Prop := m.1 125 0 l = m.1 12 0 2
theorem pS_I {l : Int} {m : JM} (h : pS l m) {k : Nat} (n j v : Int) (h1 : k ≠ 125) (h2 : k ≠ 12 ∨ j ≠ 2) : pS l (sI m k n j v) := by
  unfold pS at h ⊢
  rw [rI_o (by omega), rI_o (by omega)]; exact h
theorem pS_J {l : Int} {m : JM} (h : pS l m) (j : Int) : pS l (sI m 125 0 j (m.1 12 0 2)) := by
  unfold pS at h ⊢
  rw [rI_I, rI_o (by omega), h]
  split <;> rfl
theorem nS_goes39 {l : Int} : ∀ (fu : Nat) (a b i : Int) (m : JM), pS l m → iv (pS l) (F12_goes_39 fu a b i m)
  | 0, _, _, _, _, _ => fun r q => by cases q
  | fu + 1, a, b, i, m, h => by
    show iv (pS l) (F12_goes_39b (F12_goes_39 fu) a b i m)
    unfold F12_goes_39b
    refine iv_i (iv_g (iv_l (iv_g (iv_g (iv_l (iv_s ?_)))))) (iv_g (iv_g (iv_l (nS_goes39 fu _ _ _ _ ?_))))
    · exact pS_I (pS_I h _ _ _ (by decide) (by simp)) _ _ _ (by decide) (by simp)
    · exact pS_I h _ _ _ (by decide) (by simp)
theorem nS_goes {l e : Int} {m : JM} (h : pS l m) : iv (pS l) (F12_goes e m) := by
  unfold F12_goes
  exact iv_g (iv_g (iv_i (iv_g (iv_l (nS_goes39 _ _ _ _ _ h))) (iv_s h)))
theorem nS_leaves25 {l : Int} : ∀ (fu : Nat) (a b d i : Int) (m : JM), pS l m → iv (pS l) (F12_leaves_25 fu a b d i m)
  | 0, _, _, _, _, _, _ => fun r q => by cases q
  | fu + 1, a, b, d, i, m, h => by
    show iv (pS l) (F12_leaves_25b (F12_leaves_25 fu) a b d i m)
    unfold F12_leaves_25b F12_leaves_78
    refine iv_g (iv_i (iv_g (iv_l (iv_s ?_))) (iv_g (iv_i (nS_leaves25 fu _ _ _ _ _ h) (iv_g (iv_g (iv_l (nS_leaves25 fu _ _ _ _ _ ?_)))))))
    · exact pS_I h _ _ _ (by decide) (by simp)
    · exact pS_I h _ _ _ (by decide) (by simp)
theorem nS_tells {l s x why : Int} {m : JM} (h : pS l m) : iv (pS l) (F12_tells s x why m) := by
  have h140 : ∀ (m : JM), pS l m → iv (pS l) (F12_tells_140 s x m) := fun m h => by
    unfold F12_tells_140
    exact iv_g (iv_i (iv_g (iv_l (iv_s (pS_I h _ _ _ (by decide) (by simp))))) (iv_s h))
  have h139 : ∀ (m : JM) (a : Option Int) (b d : Int), pS l m → iv (pS l) (F12_tells_139 s x a b d m) := fun m a b d h => by
    unfold F12_tells_139
    exact iv_bo fun r => iv_g (iv_l (h140 _ (pS_I h _ _ _ (by decide) (by simp))))
  have h100 : ∀ (m : JM), pS l m → iv (pS l) (F12_tells_100 s x why m) := fun m h => by
    unfold F12_tells_100
    have := pS_I (pS_I h (k := 119) 0 x (-1) (by decide) (by simp)) (k := 122) 0 x why (by decide) (by simp)
    exact iv_g (iv_i (iv_g (iv_l (iv_g (iv_l (iv_i (h139 _ _ _ _ this) (h139 _ _ _ _ this)))))) (h140 _ h))
  have hun : iv (pS l) (F12_unring x m) := by
    unfold F12_unring
    have := pS_I h (k := 121) 0 x (-1) (by decide) (by simp)
    exact iv_g (iv_l (iv_g (iv_i (iv_g (iv_l (iv_s (pS_J this _)))) (iv_s this))))
  unfold F12_tells
  refine iv_b2 (S := fun r => r = m) ?_ ?_
  · unfold F12_isCircuit F12_isCircuit_17
    exact iw_i (iw_s rfl) (iw_i (iw_s rfl) (iw_s rfl))
  · rintro ⟨v, r⟩ (rfl : r = m)
    refine iv_i (iv_b2 (S := fun q => q = r) ?_ ?_) (iv_g (iv_l (iv_b (S := pS l) ?_ fun q hq => iv_l (iv_g (iv_l (iv_g (iv_b (S := pS l) (nS_goes (pS_I (pS_I hq _ _ _ (by decide) (by simp)) _ _ _ (by decide) (by simp))) fun q2 hq2 => iv_g (iv_l (iv_g (iv_l (iv_s (pS_I (pS_I hq2 _ _ _ (by decide) (by simp)) _ _ _ (by decide) (by simp)))))))))))))
    · unfold F12_isLineSide F12_isLineSide_14
      exact iw_i (iw_s rfl) (iw_i (iw_s rfl) (iw_s rfl))
    · rintro ⟨v2, r2⟩ (rfl : r2 = r)
      exact iv_i (iv_s h) (iv_g (iv_i (iv_b (S := pS l) hun fun q hq => h100 _ hq) (h100 _ h)))
    · rw [f_begins]
      exact iv_s (pS_I (pS_I (pS_I h _ _ _ (by decide) (by simp)) _ _ _ (by decide) (by simp)) _ _ _ (by decide) (by simp))
theorem nS_over {l s why x : Int} {m : JM} (h : pS l m) : iv (pS l) (F12_over s why x m) := by
  have h92 : ∀ (m : JM), pS l m → iv (pS l) (F12_over_92 s m) := fun m h => by
    unfold F12_over_92
    exact iv_g (iv_l (iv_s (pS_I h _ _ _ (by decide) (by simp))))
  have h72 : ∀ (m : JM) (y : Int), pS l m → iv (pS l) (F12_over_72 s why x y m) := fun m y h => by
    unfold F12_over_72
    exact iv_i (h92 _ h) (iv_i (h92 _ h) (iv_b (S := pS l) (nS_tells h) fun q hq => h92 _ hq))
  have h42 : ∀ (m : JM), pS l m → iv (pS l) (F12_over_42 s why x m) := fun m h => by
    unfold F12_over_42
    exact iv_g (iv_l (iv_g (iv_l (iv_i (h72 _ _ h) (iv_b (S := pS l) (nS_tells h) fun q hq => h72 _ _ hq)))))
  have h27 : ∀ (m : JM), pS l m → iv (pS l) (F12_over_27 s why x m) := fun m h => by
    unfold F12_over_27
    refine iv_g (iv_i (iv_b (S := pS l) ?_ fun q hq => h42 _ hq) (h42 _ h))
    unfold F12_leaves
    exact iv_g (iv_g (iv_l (nS_leaves25 _ _ _ _ _ _ h)))
  have hrec : iv (pS l) (F12_records s m) := by
    unfold F12_records
    repeat (first | with_reducible apply iv_g | with_reducible apply iv_l)
    refine iv_s ?_
    repeat (refine pS_I ?_ _ _ _ (by decide) (by simp))
    exact h
  unfold F12_over
  refine iv_g (iv_i (iv_g (iv_b2 (S := fun r => r = m) ?_ ?_)) (h27 _ h))
  · unfold F12_isLineSide F12_isLineSide_14
    exact iw_i (iw_s rfl) (iw_i (iw_s rfl) (iw_s rfl))
  · rintro ⟨v, r⟩ (rfl : r = m)
    exact iv_i (h27 _ h) (iv_b (S := pS l) hrec fun q hq => h27 _ hq)
/-- no line of the class is rung anew by an end, and no other call's circuit is let go -/
def pV (l b : Int) (Q : Int → Prop) (R0 : Int → Int → Option Int) (c : JM) : Prop := c.2.2 4 l 13 = none ∧ (∀ t, Q t → c.2.2 8 t 3 = some b) ∧ ∀ n j, c.2.2 0 n j = R0 n j
section NV
variable {l b : Int} {Q : Int → Prop} {R0 : Int → Int → Option Int}
theorem pV_4 {c : JM} (h : pV l b Q R0 c) (n j : Int) : pV l b Q R0 (sR c 4 n j none) := by
  refine ⟨?_, fun t q => ?_, fun x y => ?_⟩
  · rw [rR_R]; split
    · rfl
    · exact h.1
  · rw [rR_R, if_neg (by omega)]; exact h.2.1 t q
  · rw [rR_R, if_neg (by omega)]; exact h.2.2 x y
theorem pV_8 {c : JM} (h : pV l b Q R0 c) {x : Int} (hx : ¬ Q x) : pV l b Q R0 (sR c 8 x 3 none) := by
  refine ⟨?_, fun t q => ?_, fun x y => ?_⟩
  · rw [rR_R, if_neg (by omega)]; exact h.1
  · have hne : t ≠ x := fun z => hx (z ▸ q)
    rw [rR_R, if_neg (by omega)]; exact h.2.1 t q
  · rw [rR_R, if_neg (by omega)]; exact h.2.2 x y
theorem nV_post {a x : Int} {c : JM} (h : pV l b Q R0 c) : iv (pV l b Q R0) (F5_post a x c) := by
  unfold F5_post
  exact iv_i (iv_s h) (iv_g (iv_l (iv_l (iv_s h))))
theorem nV_tell {why : Int} {i L T : Option Int} {c : JM} (h : pV l b Q R0 c) (hT : ∀ x, T = some x → ¬ Q x) : iv (pV l b Q R0) (F11_tellEnd i L T why c) := by
  have h44 : ∀ (c : JM), pV l b Q R0 c → iv (pV l b Q R0) (F11_tellEnd_44 i T why c) := fun c h => by
    unfold F11_tellEnd_44 F9_pack
    refine iv_i (iv_s h) ?_
    cases hh : T with
    | none => exact fun r q => by cases q
    | some x =>
      rw [Option.bind_some]
      exact iv_l (iv_l (iv_bo fun b => iv_bo fun d => iv_b2 (S := pV l _ Q R0) (iw_s (pV_8 (c := sI c 8 x 2 3) h (hT x hh))) fun q hq => iv_b (S := pV l _ Q R0) (nV_post hq) fun q2 hq2 => iv_s hq2))
  have h41 : ∀ (c : JM) (a : Option Int) (d : Int), pV l b Q R0 c → iv (pV l b Q R0) (F11_tellEnd_41 i T why a d c) := fun c a d h => by
    unfold F11_tellEnd_41
    exact iv_bo fun a => iv_l (h44 _ h)
  have h21 : ∀ (c : JM) (L : Option Int), pV l b Q R0 c → iv (pV l b Q R0) (F11_ringNoMore_21 i L c) := fun c L h => by
    unfold F11_ringNoMore_21
    exact iv_bo fun a => iv_i (iv_l (iv_s (pV_4 h _ _))) (iv_s h)
  have hr : iv (pV l b Q R0) (F11_ringNoMore i L c) := by
    unfold F11_ringNoMore
    exact iv_bo fun a => iv_i (iv_l (iv_l (h21 _ _ (pV_4 (n := a) (j := 13) h)))) (h21 _ _ h)
  unfold F11_tellEnd
  exact iv_i (h44 _ h) (iv_b (S := pV l b Q R0) hr fun q hq => iv_bo fun a => iv_i (iv_l (iv_l (iv_i (h41 _ _ _ (pV_4 (n := a) (j := 11) hq)) (h41 _ _ _ (pV_4 (n := a) (j := 11) hq))))) (h44 _ hq))
theorem nV_end {why w a : Int} {c : JM} (h : pV l b Q R0 c) (hT : ∀ x, R0 a 2 = some x ∨ R0 a 4 = some x → ¬ Q x) : iv (pV l b Q R0) (F11_end (some a) why w c) := by
  have h117 : ∀ (c : JM) (i : Option Int), pV l b Q R0 c → iv (pV l b Q R0) (F11_end_117 i c) := fun c i h => by
    unfold F11_end_117
    exact iv_bo fun a => iv_l (iv_l (iv_s h))
  have hw34 : ∀ (c : JM) (a d : Option Int) (x y z u : Int), pV l b Q R0 c → iv (pV l b Q R0) (F3_write_34 a x y d z u c) := fun c a d x y z u h => by
    unfold F3_write_34
    refine iv_bo fun a => iv_g (iv_l (iv_bo fun a => ?_))
    repeat (first | with_reducible apply iv_g | with_reducible apply iv_l)
    exact iv_s h
  have hw : ∀ (c : JM) (i : Option Int) (x : Int), pV l b Q R0 c → iv (pV l b Q R0) (F3_write i x c) := fun c i x h => by
    unfold F3_write
    exact iv_l (iv_bo fun a => iv_i (hw34 _ _ _ _ _ _ _ h) (iv_bo fun b => hw34 _ _ _ _ _ _ _ h))
  have h90 : ∀ (c : JM) (i : Option Int), pV l b Q R0 c → iv (pV l b Q R0) (F11_end_90 i c) := fun c i h => by
    unfold F11_end_90
    exact iv_bo fun a => iv_i (iv_i (h117 _ _ h) (iv_b (S := pV l b Q R0) (hw _ _ _ h) fun q hq => h117 _ _ hq)) (h117 _ _ h)
  have h66 : ∀ (c : JM) (i : Option Int), pV l b Q R0 c → iv (pV l b Q R0) (F11_end_66 i c) := fun c i h => by
    unfold F11_end_66
    exact iv_bo fun a => iv_i (h90 _ _ h) (iv_bo fun b => iv_g (iv_g (iv_l (h90 _ _ h))))
  have h38 : ∀ (c : JM) (i : Option Int), pV l b Q R0 c → iv (pV l b Q R0) (F11_end_38 i c) := fun c i h => by
    unfold F11_end_38
    exact iv_bo fun a => iv_i (iv_i (h66 _ _ h) (iv_bo fun b => iv_l (h66 _ _ h))) (h66 _ _ h)
  have h19 : ∀ (c : JM), pV l b Q R0 c → iv (pV l b Q R0) (F11_end_19 (some a) why w c) := fun c h => by
    unfold F11_end_19
    rw [Option.bind_some]
    exact iv_i (h38 _ _ h) (iv_b (S := pV l b Q R0) (nV_tell h (fun x q => hT x (Or.inr (by rw [← h.2.2]; exact q)))) fun q hq => h38 _ _ hq)
  unfold F11_end
  rw [Option.bind_some]
  exact iv_i (h19 _ h) (iv_b (S := pV l b Q R0) (nV_tell h (fun x q => hT x (Or.inl (by rw [← h.2.2]; exact q)))) fun q hq => h19 _ hq)
end NV
section SD
variable {f : Int → Int} {N z1 z2 X : Int} {sec : Option Int} {Y zd : Int} {c m c' m' : JM} {B B' : Int} {H : HT}

theorem t_hang (hf : f_ok f) {l : Int} (hl : 0 ≤ l ∧ l < 16 ∧ c.1 4 l 6 ≠ 0) (h1 : ∀ i, c.2.2 4 l 11 = some i → i = z1) (h2 : ∀ i, c.2.2 4 l 12 = some i → i = z2) (HH : r_h f N (-1) (-1) (-1) none Y (-1) c m) :
    r_h f N z1 z2 l (c.2.2 4 l 12) Y (-1) (sR (sR (sI c 4 l 6 0) 4 l 11 none) 4 l 12 none) (sI m 119 0 l (-1)) := by
  have inj := hf.1
  have hlv : ∀ i, lv (sR (sR (sI c 4 l 6 0) 4 l 11 none) 4 l 12 none) i ↔ lv c i := fun i => by simp [lv, rI_I, rR_I]
  obtain ⟨h_st, h_sx, h_hm, h_sa, h_sb, h_gp, h_ky, h_k1, h_fw, h_fr, h_ce, h_an, h_zn, h_rw, h_la, h_lo, h_lr, h_wa, h_wo, h_wx, h_wr, h_w3, h_w4, h_w8, h_w9, h_w5, h_t1, h_t2, h_t3, h_t6, h_t9, h_ty, h_xx, h_zr⟩ := HH
  refine ⟨?_, ?_, ?_, ?_, ?_, ?_, ?_, ?_, ?_, ?_, ?_, ?_, ?_, ?_, ?_, ?_, ?_, ?_, ?_, ?_, ?_, ?_, ?_, ?_, ?_, ?_, ?_, ?_, ?_, ?_, ?_, ?_, ?_, ?_⟩
  · -- st
    simpa [d_st, hlv, rI_I, rI_L, rI_R, rL_I, rL_L, rL_R, rR_I, rR_L, rR_R] using h_st
  · -- sx
    simpa [d_sx, hlv, rI_I, rI_L, rI_R, rL_I, rL_L, rL_R, rR_I, rR_L, rR_R] using h_sx
  · -- hm
    simpa [d_hm, hlv, rI_I, rI_L, rI_R, rL_I, rL_L, rL_R, rR_I, rR_L, rR_R] using h_hm
  · -- sa
    simpa [d_sa, hlv, rI_I, rI_L, rI_R, rL_I, rL_L, rL_R, rR_I, rR_L, rR_R] using h_sa
  · -- sb
    simpa [d_sb, hlv, rI_I, rI_L, rI_R, rL_I, rL_L, rL_R, rR_I, rR_L, rR_R] using h_sb
  · -- gp
    simpa [d_gp, hlv, rI_I, rI_L, rI_R, rL_I, rL_L, rL_R, rR_I, rR_L, rR_R] using h_gp
  · -- ky
    simpa [d_ky, hlv, rI_I, rI_L, rI_R, rL_I, rL_L, rL_R, rR_I, rR_L, rR_R] using h_ky
  · -- k1
    simpa [d_k1, hlv, rI_I, rI_L, rI_R, rL_I, rL_L, rL_R, rR_I, rR_L, rR_R] using h_k1
  · -- fw
    simpa [d_fw, hlv, rI_I, rI_L, rI_R, rL_I, rL_L, rL_R, rR_I, rR_L, rR_R] using h_fw
  · -- fr
    simpa [d_fr, hlv, rI_I, rI_L, rI_R, rL_I, rL_L, rL_R, rR_I, rR_L, rR_R] using h_fr
  · -- ce
    simpa [d_ce, hlv, rI_I, rI_L, rI_R, rL_I, rL_L, rL_R, rR_I, rR_L, rR_R] using h_ce
  · -- an
    simpa [d_an, hlv, rI_I, rI_L, rI_R, rL_I, rL_L, rL_R, rR_I, rR_L, rR_R] using h_an
  · -- zn
    simpa [d_zn, hlv, rI_I, rI_L, rI_R, rL_I, rL_L, rL_R, rR_I, rR_L, rR_R] using h_zn
  · -- rw
    simpa [d_rw, hlv, rI_I, rI_L, rI_R, rL_I, rL_L, rL_R, rR_I, rR_L, rR_R] using h_rw
  · -- la
    simp only [d_la, hlv, rI_I, rI_L, rI_R, rL_I, rL_L, rL_R, rR_I, rR_L, rR_R] at h_la ⊢; grind [rf, lv]
  · -- lo
    simp only [d_lo, hlv, rI_I, rI_L, rI_R, rL_I, rL_L, rL_R, rR_I, rR_L, rR_R] at h_lo ⊢; grind [rf, lv]
  · -- lr
    simpa [d_lr, hlv, rI_I, rI_L, rI_R, rL_I, rL_L, rL_R, rR_I, rR_L, rR_R] using h_lr
  · -- wa
    simp only [d_wa, hlv, rI_I, rI_L, rI_R, rL_I, rL_L, rL_R, rR_I, rR_L, rR_R] at h_wa ⊢; grind [rf, lv]
  · -- wo
    simp only [d_wo, hlv, rI_I, rI_L, rI_R, rL_I, rL_L, rL_R, rR_I, rR_L, rR_R] at h_wo ⊢; grind [rf, lv]
  · -- wx
    simp only [d_wx, hlv, rI_I, rI_L, rI_R, rL_I, rL_L, rL_R, rR_I, rR_L, rR_R] at h_wx ⊢; grind [rf, lv]
  · -- wr
    simp only [d_wr, hlv, rI_I, rI_L, rI_R, rL_I, rL_L, rL_R, rR_I, rR_L, rR_R] at h_wr ⊢; grind [rf, lv]
  · -- w3
    simp only [d_w3, hlv, rI_I, rI_L, rI_R, rL_I, rL_L, rL_R, rR_I, rR_L, rR_R] at h_w3 ⊢; grind [rf, lv]
  · -- w4
    simp only [d_w4, hlv, rI_I, rI_L, rI_R, rL_I, rL_L, rL_R, rR_I, rR_L, rR_R] at h_w4 ⊢; grind [rf, lv]
  · -- w8
    simpa [d_w8, hlv, rI_I, rI_L, rI_R, rL_I, rL_L, rL_R, rR_I, rR_L, rR_R] using h_w8
  · -- w9
    simpa [d_w9, hlv, rI_I, rI_L, rI_R, rL_I, rL_L, rL_R, rR_I, rR_L, rR_R] using h_w9
  · -- w5
    simp only [d_w5, hlv, rI_I, rI_L, rI_R, rL_I, rL_L, rL_R, rR_I, rR_L, rR_R] at h_w5 ⊢; grind [rf, lv]
  · -- t1
    simpa [d_t1, hlv, rI_I, rI_L, rI_R, rL_I, rL_L, rL_R, rR_I, rR_L, rR_R] using h_t1
  · -- t2
    simpa [d_t2, hlv, rI_I, rI_L, rI_R, rL_I, rL_L, rL_R, rR_I, rR_L, rR_R] using h_t2
  · -- t3
    simpa [d_t3, hlv, rI_I, rI_L, rI_R, rL_I, rL_L, rL_R, rR_I, rR_L, rR_R] using h_t3
  · -- t6
    simp only [d_t6, hlv, rI_I, rI_L, rI_R, rL_I, rL_L, rL_R, rR_I, rR_L, rR_R] at h_t6 ⊢; grind [rf, lv]
  · -- t9
    simpa [d_t9, hlv, rI_I, rI_L, rI_R, rL_I, rL_L, rL_R, rR_I, rR_L, rR_R] using h_t9
  · -- ty
    simpa [d_ty, hlv, rI_I, rI_L, rI_R, rL_I, rL_L, rL_R, rR_I, rR_L, rR_R] using h_ty
  · -- xx
    intro _
    refine ⟨hl.2.1, by simp [rR_R], ?_, fun i q => ?_⟩
    · simp [rI_I]; exact h_lo l hl.1 hl.2.1 (by omega)
    · have := (h_wo l i q).2.2; simpa [hlv, rI_I, rI_R, rR_I, rR_R] using this
  · -- zr
    simpa [d_zr, hlv, rI_I, rI_L, rI_R, rL_I, rL_L, rL_R, rR_I, rR_L, rR_R] using h_zr

theorem t_hang2 (hf : f_ok f) {l : Int} (HH : r_h f N z1 z2 l sec Y zd c m) :
    r_h f N z1 z2 l none Y zd (c) (sI m 120 0 l (-1)) := by
  have inj := hf.1
  have hlv : ∀ i, lv (c) i ↔ lv c i := fun i => Iff.rfl
  obtain ⟨h_st, h_sx, h_hm, h_sa, h_sb, h_gp, h_ky, h_k1, h_fw, h_fr, h_ce, h_an, h_zn, h_rw, h_la, h_lo, h_lr, h_wa, h_wo, h_wx, h_wr, h_w3, h_w4, h_w8, h_w9, h_w5, h_t1, h_t2, h_t3, h_t6, h_t9, h_ty, h_xx, h_zr⟩ := HH
  refine ⟨?_, ?_, ?_, ?_, ?_, ?_, ?_, ?_, ?_, ?_, ?_, ?_, ?_, ?_, ?_, ?_, ?_, ?_, ?_, ?_, ?_, ?_, ?_, ?_, ?_, ?_, ?_, ?_, ?_, ?_, ?_, ?_, ?_, ?_⟩
  · -- st
    simpa [d_st, hlv, rI_I, rI_L, rI_R, rL_I, rL_L, rL_R, rR_I, rR_L, rR_R] using h_st
  · -- sx
    simpa [d_sx, hlv, rI_I, rI_L, rI_R, rL_I, rL_L, rL_R, rR_I, rR_L, rR_R] using h_sx
  · -- hm
    simpa [d_hm, hlv, rI_I, rI_L, rI_R, rL_I, rL_L, rL_R, rR_I, rR_L, rR_R] using h_hm
  · -- sa
    simpa [d_sa, hlv, rI_I, rI_L, rI_R, rL_I, rL_L, rL_R, rR_I, rR_L, rR_R] using h_sa
  · -- sb
    simpa [d_sb, hlv, rI_I, rI_L, rI_R, rL_I, rL_L, rL_R, rR_I, rR_L, rR_R] using h_sb
  · -- gp
    simpa [d_gp, hlv, rI_I, rI_L, rI_R, rL_I, rL_L, rL_R, rR_I, rR_L, rR_R] using h_gp
  · -- ky
    simpa [d_ky, hlv, rI_I, rI_L, rI_R, rL_I, rL_L, rL_R, rR_I, rR_L, rR_R] using h_ky
  · -- k1
    simpa [d_k1, hlv, rI_I, rI_L, rI_R, rL_I, rL_L, rL_R, rR_I, rR_L, rR_R] using h_k1
  · -- fw
    simpa [d_fw, hlv, rI_I, rI_L, rI_R, rL_I, rL_L, rL_R, rR_I, rR_L, rR_R] using h_fw
  · -- fr
    simpa [d_fr, hlv, rI_I, rI_L, rI_R, rL_I, rL_L, rL_R, rR_I, rR_L, rR_R] using h_fr
  · -- ce
    simpa [d_ce, hlv, rI_I, rI_L, rI_R, rL_I, rL_L, rL_R, rR_I, rR_L, rR_R] using h_ce
  · -- an
    simpa [d_an, hlv, rI_I, rI_L, rI_R, rL_I, rL_L, rL_R, rR_I, rR_L, rR_R] using h_an
  · -- zn
    simpa [d_zn, hlv, rI_I, rI_L, rI_R, rL_I, rL_L, rL_R, rR_I, rR_L, rR_R] using h_zn
  · -- rw
    simpa [d_rw, hlv, rI_I, rI_L, rI_R, rL_I, rL_L, rL_R, rR_I, rR_L, rR_R] using h_rw
  · -- la
    simpa [d_la, hlv, rI_I, rI_L, rI_R, rL_I, rL_L, rL_R, rR_I, rR_L, rR_R] using h_la
  · -- lo
    simp only [d_lo, hlv, rI_I, rI_L, rI_R, rL_I, rL_L, rL_R, rR_I, rR_L, rR_R] at h_lo ⊢; grind [rf, lv]
  · -- lr
    simpa [d_lr, hlv, rI_I, rI_L, rI_R, rL_I, rL_L, rL_R, rR_I, rR_L, rR_R] using h_lr
  · -- wa
    simpa [d_wa, hlv, rI_I, rI_L, rI_R, rL_I, rL_L, rL_R, rR_I, rR_L, rR_R] using h_wa
  · -- wo
    simpa [d_wo, hlv, rI_I, rI_L, rI_R, rL_I, rL_L, rL_R, rR_I, rR_L, rR_R] using h_wo
  · -- wx
    simpa [d_wx, hlv, rI_I, rI_L, rI_R, rL_I, rL_L, rL_R, rR_I, rR_L, rR_R] using h_wx
  · -- wr
    simpa [d_wr, hlv, rI_I, rI_L, rI_R, rL_I, rL_L, rL_R, rR_I, rR_L, rR_R] using h_wr
  · -- w3
    simpa [d_w3, hlv, rI_I, rI_L, rI_R, rL_I, rL_L, rL_R, rR_I, rR_L, rR_R] using h_w3
  · -- w4
    simpa [d_w4, hlv, rI_I, rI_L, rI_R, rL_I, rL_L, rL_R, rR_I, rR_L, rR_R] using h_w4
  · -- w8
    simpa [d_w8, hlv, rI_I, rI_L, rI_R, rL_I, rL_L, rL_R, rR_I, rR_L, rR_R] using h_w8
  · -- w9
    simpa [d_w9, hlv, rI_I, rI_L, rI_R, rL_I, rL_L, rL_R, rR_I, rR_L, rR_R] using h_w9
  · -- w5
    simpa [d_w5, hlv, rI_I, rI_L, rI_R, rL_I, rL_L, rL_R, rR_I, rR_L, rR_R] using h_w5
  · -- t1
    simpa [d_t1, hlv, rI_I, rI_L, rI_R, rL_I, rL_L, rL_R, rR_I, rR_L, rR_R] using h_t1
  · -- t2
    simpa [d_t2, hlv, rI_I, rI_L, rI_R, rL_I, rL_L, rL_R, rR_I, rR_L, rR_R] using h_t2
  · -- t3
    simpa [d_t3, hlv, rI_I, rI_L, rI_R, rL_I, rL_L, rL_R, rR_I, rR_L, rR_R] using h_t3
  · -- t6
    simpa [d_t6, hlv, rI_I, rI_L, rI_R, rL_I, rL_L, rL_R, rR_I, rR_L, rR_R] using h_t6
  · -- t9
    simpa [d_t9, hlv, rI_I, rI_L, rI_R, rL_I, rL_L, rL_R, rR_I, rR_L, rR_R] using h_t9
  · -- ty
    simpa [d_ty, hlv, rI_I, rI_L, rI_R, rL_I, rL_L, rL_R, rR_I, rR_L, rR_R] using h_ty
  · -- xx
    intro w
    obtain ⟨x1, x2, x3, x4⟩ := h_xx w
    exact ⟨x1, x2, by simp [rI_I, rf], fun i q => by cases q⟩
  · -- zr
    simpa [d_zr, hlv, rI_I, rI_L, rI_R, rL_I, rL_L, rL_R, rR_I, rR_L, rR_R] using h_zr

theorem r_h_sw {z : Int} (HH : r_h f N (-1) z X sec Y zd c m) : r_h f N z (-1) X sec Y zd c m := by
  obtain ⟨h_st, h_sx, h_hm, h_sa, h_sb, h_gp, h_ky, h_k1, h_fw, h_fr, h_ce, h_an, h_zn, h_rw, h_la, h_lo, h_lr, h_wa, h_wo, h_wx, h_wr, h_w3, h_w4, h_w8, h_w9, h_w5, h_t1, h_t2, h_t3, h_t6, h_t9, h_ty, h_xx, h_zr⟩ := HH
  refine ⟨?_, ?_, ?_, ?_, ?_, ?_, ?_, ?_, ?_, ?_, ?_, ?_, ?_, ?_, ?_, ?_, ?_, ?_, ?_, ?_, ?_, ?_, ?_, ?_, ?_, ?_, ?_, ?_, ?_, ?_, ?_, ?_, ?_, ?_⟩
  · -- st
    exact h_st
  · -- sx
    exact h_sx
  · -- hm
    exact h_hm
  · -- sa
    exact h_sa
  · -- sb
    exact h_sb
  · -- gp
    exact h_gp
  · -- ky
    exact h_ky
  · -- k1
    exact h_k1
  · -- fw
    exact h_fw
  · -- fr
    exact h_fr
  · -- ce
    exact h_ce
  · -- an
    exact h_an
  · -- zn
    exact h_zn
  · -- rw
    exact h_rw
  · -- la
    exact h_la
  · -- lo
    exact h_lo
  · -- lr
    exact h_lr
  · -- wa
    exact h_wa
  · -- wo
    exact h_wo
  · -- wx
    exact h_wx
  · -- wr
    exact h_wr
  · -- w3
    exact h_w3
  · -- w4
    intro i x a b d; exact h_w4 i x a d b
  · -- w8
    exact h_w8
  · -- w9
    exact h_w9
  · -- w5
    intro i x a b d; exact h_w5 i x a d b
  · -- t1
    exact h_t1
  · -- t2
    exact h_t2
  · -- t3
    exact h_t3
  · -- t6
    intro i x a b d; exact h_t6 i x a d b
  · -- t9
    exact h_t9
  · -- ty
    exact h_ty
  · -- xx
    exact h_xx
  · -- zr
    exact h_zr

theorem r_h_cl {l : Int} (hl : 0 ≤ l) (HH : r_h f N z1 z2 l none Y zd c m) : r_h f N z1 z2 (-1) none Y zd c m := by
  obtain ⟨h_st, h_sx, h_hm, h_sa, h_sb, h_gp, h_ky, h_k1, h_fw, h_fr, h_ce, h_an, h_zn, h_rw, h_la, h_lo, h_lr, h_wa, h_wo, h_wx, h_wr, h_w3, h_w4, h_w8, h_w9, h_w5, h_t1, h_t2, h_t3, h_t6, h_t9, h_ty, h_xx, h_zr⟩ := HH
  refine ⟨?_, ?_, ?_, ?_, ?_, ?_, ?_, ?_, ?_, ?_, ?_, ?_, ?_, ?_, ?_, ?_, ?_, ?_, ?_, ?_, ?_, ?_, ?_, ?_, ?_, ?_, ?_, ?_, ?_, ?_, ?_, ?_, ?_, ?_⟩
  · -- st
    exact h_st
  · -- sx
    exact h_sx
  · -- hm
    exact h_hm
  · -- sa
    exact h_sa
  · -- sb
    exact h_sb
  · -- gp
    exact h_gp
  · -- ky
    exact h_ky
  · -- k1
    exact h_k1
  · -- fw
    exact h_fw
  · -- fr
    exact h_fr
  · -- ce
    exact h_ce
  · -- an
    exact h_an
  · -- zn
    exact h_zn
  · -- rw
    exact h_rw
  · -- la
    exact h_la
  · -- lo
    intro x a b _
    by_cases w : x = l
    · obtain ⟨x1, x2, x3, x4⟩ := h_xx hl
      rw [w, x2]; exact x3
    · exact h_lo x a b w
  · -- lr
    exact h_lr
  · -- wa
    exact h_wa
  · -- wo
    exact h_wo
  · -- wx
    exact h_wx
  · -- wr
    exact h_wr
  · -- w3
    exact h_w3
  · -- w4
    exact h_w4
  · -- w8
    exact h_w8
  · -- w9
    exact h_w9
  · -- w5
    exact h_w5
  · -- t1
    exact h_t1
  · -- t2
    exact h_t2
  · -- t3
    exact h_t3
  · -- t6
    exact h_t6
  · -- t9
    exact h_t9
  · -- ty
    exact h_ty
  · -- xx
    intro w; omega
  · -- zr
    exact h_zr


/-- one of the line's calls is over, by the line -/
theorem p_hg1 (hf : f_ok f) (hB : B + 10 < 2000000000) {a l w b : Int} {Q : Int → Prop} (hv : lv c a) (R : rel f N a z2 l sec (-1) (-1) B H c m) (hsec : sec ≠ some a) (hs : c.2.2 0 a 1 = some l ∨ c.2.2 0 a 3 = some l) (ht6 : ∀ t, c.2.2 0 a 2 = some t ∨ c.2.2 0 a 4 = some t → c.2.2 8 t 3 = some a) (hl : 0 ≤ l ∧ l < 16) (h6 : c.1 4 l 6 = 0) (h13 : c.2.2 4 l 13 = none) (hw : w = if c.2.2 0 a 1 = some l then 1 else 2) (hQ : ∀ t, Q t → c.2.2 8 t 3 = some b) (hab : b ≠ a) (hS : pS l m) :
    ∃ c' m', F11_end (some a) 7 w c = some c' ∧ F12_over (f a) 7 l m = some m' ∧ rel f N (-1) z2 l sec (-1) (-1) (B + 3) H c' m' ∧ so w_end c c' ∧ so w_ends m m' ∧ (∀ n j, c'.1 0 n j = if n = a ∧ j = 9 then -1 else c.1 0 n j) ∧ c'.2.2 4 l 13 = none ∧ (∀ t, Q t → c'.2.2 8 t 3 = some b) ∧ pS l m' := by
  have b_sa := R.2.2.1.2.2.2.1 a hv
  have b_sb := R.2.2.1.2.2.2.2.1 a hv
  have b_w9 := R.2.2.1.2.2.2.2.2.2.2.2.2.2.2.2.2.2.2.2.2.2.2.2.2.2.2.2.1 a l hv
  have b_w3 := R.2.2.1.2.2.2.2.2.2.2.2.2.2.2.2.2.2.2.2.2.2.2.2.2.1 l h6
  have b_A : c.2.2 0 a 1 = some l → m.1 136 0 (f a) = l ∧ c.2.2 0 a 2 = none := fun q => by
    rcases b_sa with ⟨a1, a2, _⟩ | ⟨a1, _⟩
    · rw [q] at a1; cases a1; exact ⟨rfl, a2⟩
    · rw [q] at a1; cases a1
  have b_B : c.2.2 0 a 3 = some l → m.1 137 0 (f a) = l ∧ c.2.2 0 a 4 = none := fun q => by
    rcases b_sb with ⟨_, a1, _⟩ | ⟨_, _, a1, a2, _⟩ | ⟨_, _, a1, _⟩ | ⟨_, _, a1, _⟩ | ⟨_, _, a1, _⟩
    · rw [q] at a1; cases a1
    · rw [q] at a1; cases a1; exact ⟨rfl, a2⟩
    · rw [q] at a1; cases a1
    · rw [q] at a1; cases a1
    · rw [q] at a1; cases a1
  have hno : ∀ j, j = 11 ∨ j = 12 ∨ j = 13 → c.2.2 4 l j ≠ some a := fun j q => by
    rcases q with rfl | rfl | rfl
    · rw [b_w3.1]; simp
    · rw [b_w3.2]; simp
    · rw [h13]; simp
  have h1n : (1 : Int) ≠ 2 := by decide
  obtain ⟨c', m', e1, e2, e3, e4, e5, e6⟩ := p_end (why := 7) (w := w) (w' := l) hf hB (-1) (by omega) hv R hsec
    (by
      by_cases z : c.2.2 0 a 1 = some l
      · rw [if_pos z] at hw; exact Or.inr (Or.inl ⟨hw, (b_A z).1.symm⟩)
      · rw [if_neg z] at hw; exact Or.inr (Or.inr ⟨hw, (b_B (hs.resolve_left z)).1.symm⟩))
    (fun q z => q (by rw [hw, if_pos z])) (fun q z => by
      by_cases y : c.2.2 0 a 1 = some l
      · exact b_w9 y z
      · exact q (by rw [hw, if_neg y]))
    (fun _ t q => ht6 t (Or.inl q)) (fun _ t q => ht6 t (Or.inr q))
    (fun q => by
      by_cases y : c.2.2 0 a 1 = some l
      · refine ⟨fun x j z => ?_, fun t z => ?_⟩
        · rw [y] at z; cases z; exact hno j
        · rw [(b_A y).2] at z; cases z
      · rw [if_neg y] at hw; omega)
    (fun q => by
      by_cases y : c.2.2 0 a 1 = some l
      · rw [if_pos y] at hw; omega
      · have y2 := hs.resolve_left y
        refine ⟨fun x j z => ?_, fun t z => ?_⟩
        · rw [y2] at z; cases z; exact hno j
        · rw [(b_B y2).2] at z; cases z)
  have v := nV_end (l := l) (b := b) (Q := Q) (R0 := c.2.2 0) (why := 7) (w := w) (a := a) (c := c) ⟨h13, hQ, fun _ _ => rfl⟩ (fun x q z => by
    have h1 := ht6 x q
    have h2 := hQ x z
    rw [h1] at h2
    cases h2
    exact hab rfl) c' e1
  exact ⟨c', m', e1, e2, e3, e4, e5, e6, v.1, v.2.1, nS_over hS m' e2⟩
/-- what lines' changes write -/
def w_W (k : Nat) (j : Int) : Bool := w_C k j || (k == 4 && (j == 4 || j == 6 || j == 8 || j == 9 || j == 10)) || k == 30 || (k == 11 && (j == 11 || j == 12))
def w_V (k : Nat) (j : Int) : Bool := w_M k j || (decide (112 ≤ k) && decide (k ≤ 118)) || k == 134 || (k == 12 && j == 32)
theorem w_h1 : ∀ k j, w_W k j = false → w_end k j = false := by intro k j; simp [w_W, w_C, w_end]; omega
theorem w_h2 : ∀ k j, w_V k j = false → w_ends k j = false := by intro k j; simp [w_V, w_M, w_ends]; omega
theorem w_h3 : ∀ k j, w_W k j = false → w_C k j = false := by
  intro k j h
  cases hh : w_C k j
  · rfl
  · unfold w_W at h; rw [hh] at h; simp at h
theorem w_h4 : ∀ k j, w_V k j = false → w_M k j = false := by
  intro k j h
  cases hh : w_M k j
  · rfl
  · unfold w_V at h; rw [hh] at h; simp at h
/-- the loop's counters begin anew -/
def c_chg (c : JM) (l v : Int) : JM := sI (sI (sI (sI (sI c 4 l 6 v) 4 l 8 0) 4 l 9 0) 4 l 10 0) 4 l 4 0
def m_chg (m : JM) (l v : Int) : JM := sI (sI (sI (sI (sI m 112 0 l v) 114 0 l 0) 116 0 l 0) 115 0 l 0) 118 0 l 0
theorem f_clears {l v : Int} (hl : 0 ≤ l ∧ l < 16) : F12_clears l (sI m 112 0 l v) = some (m_chg m l v) := by
  unfold F12_clears m_chg
  simp only [g_t hl, lt_d]
theorem c_chg_R (c : JM) (l v : Int) : (c_chg c l v).2 = c.2 := rfl
theorem m_chg_R (m : JM) (l v : Int) : (m_chg m l v).2 = m.2 := rfl
theorem c_chg_I (c : JM) (l v : Int) (k : Nat) (n j : Int) : (c_chg c l v).1 k n j = if k = 4 ∧ n = l ∧ (j = 4 ∨ j = 8 ∨ j = 9 ∨ j = 10) then 0 else if k = 4 ∧ n = l ∧ j = 6 then v else c.1 k n j := by
  unfold c_chg
  simp only [rI_I]
  grind (splits := 30)
theorem m_chg_I (m : JM) (l v : Int) (k : Nat) (n j : Int) : (m_chg m l v).1 k n j = if n = 0 ∧ j = l ∧ (k = 114 ∨ k = 115 ∨ k = 116 ∨ k = 118) then 0 else if k = 112 ∧ n = 0 ∧ j = l then v else m.1 k n j := by
  unfold m_chg
  simp only [rI_I]
  grind (splits := 30)
end SD
