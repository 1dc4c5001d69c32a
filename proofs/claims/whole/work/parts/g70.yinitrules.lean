/-! ===== more room than is needed; new arrays by their sort ===== -/
section EVY
variable {w : JW} {d mc ms mc' ms' : Nat} {M : JT} {pc : Nat} {lv : List (Nat × JV)} {st : List JV} {h h1 h' : JM} {r : Option JV}
theorem ev_mono (q1 : mc ≤ mc') (q2 : ms ≤ ms') (k : Ev w d mc ms M pc lv st h r h') : Ev w d mc' ms' M pc lv st h r h' := by
  intro hlv hst p l e R s m args below meth c H locs cells slots ls G al al0 h0 F S hl
  have F2 : j_F d mc ms M p R s m args meth c (cells + (mc' - mc)) (slots + (ms' - ms)) G := by
    obtain ⟨f1, f2, f3, f4, f5, f6, f7, f8, f9, f10, f11, f12, f13, f14⟩ := F
    exact ⟨f1, f2, f3, f4, f5, f6, f7, f8, f9, f10, by omega, by omega, f13, f14⟩
  refine W.widen (k := cells + (mc' - mc)) (n := slots + (ms' - ms)) (by omega) (by omega) ?_
  have hK := k hlv hst p l e R s m args below meth c H locs (cells + (mc' - mc)) (slots + (ms' - ms)) ls G al al0 h0 F2 S hl
  rw [show cells + (mc' - mc) + mc = cells + mc' by omega, show slots + (ms' - ms) + ms = slots + ms' by omega] at hK
  exact hK
theorem ev_newI {k : Nat} {len : Int} (n : Int) (hN : j_WN w h k n len) (e1 : h1 = j_nw h k n len) (h0 : 0 ≤ len) (h9 : len ≤ 60000) (hdg : decode M.2.1 pc = .ok (.newarray .int, 2)) (hk : decide (13 ≤ k ∧ k < 1000 ∧ k ≠ 99) = true := by rfl) (hc : j_code k 0 = 0 := by rfl) (K : Ev w d mc ms M (pc + 2) lv (.inr (.inr (some (k, n))) :: st) h1 r h') : Ev w d (1 + mc) (len.toNat + ms) M pc lv (.inl len :: st) h r h' :=
  ev_newa (t0 := 0) n hN e1 h0 h9 ar_int rfl (fun _ => rfl) hc (by decide) rfl (fun _ _ q => q) (by decide) hdg hk K
theorem ev_newZ {k : Nat} {len : Int} (n : Int) (hN : j_WN w h k n len) (e1 : h1 = j_nw h k n len) (h0 : 0 ≤ len) (h9 : len ≤ 60000) (hdg : decode M.2.1 pc = .ok (.newarray .boolean, 2)) (hk : decide (13 ≤ k ∧ k < 1000 ∧ k ≠ 99) = true := by rfl) (hc : j_code k 0 = 1 := by rfl) (K : Ev w d mc ms M (pc + 2) lv (.inr (.inr (some (k, n))) :: st) h1 r h') : Ev w d (1 + mc) (len.toNat + ms) M pc lv (.inl len :: st) h r h' :=
  ev_newa (t0 := 1) n hN e1 h0 h9 ar_boolean rfl (fun _ => rfl) hc (by decide) rfl (fun _ _ q => q) (by decide) hdg hk K
theorem ev_newB {k : Nat} {len : Int} (n : Int) (hN : j_WN w h k n len) (e1 : h1 = j_nw h k n len) (h0 : 0 ≤ len) (h9 : len ≤ 60000) (hdg : decode M.2.1 pc = .ok (.newarray .byte, 2)) (hk : decide (13 ≤ k ∧ k < 1000 ∧ k ≠ 99) = true := by rfl) (hc : j_code k 0 = 2 := by rfl) (K : Ev w d mc ms M (pc + 2) lv (.inr (.inr (some (k, n))) :: st) h1 r h') : Ev w d (1 + mc) (len.toNat + ms) M pc lv (.inl len :: st) h r h' :=
  ev_newa (t0 := 2) n hN e1 h0 h9 ar_byte rfl (fun _ => rfl) hc (by decide) rfl (fun _ _ q => q) (by decide) hdg hk K
theorem ev_newJ {k : Nat} {len : Int} (n : Int) (hN : j_WN w h k n len) (e1 : h1 = j_nw h k n len) (h0 : 0 ≤ len) (h9 : len ≤ 60000) (hdg : decode M.2.1 pc = .ok (.newarray .long, 2)) (hk : decide (13 ≤ k ∧ k < 1000 ∧ k ≠ 99) = true := by rfl) (hc : j_code k 0 = 3 := by rfl) (K : Ev w d mc ms M (pc + 2) lv (.inr (.inr (some (k, n))) :: st) h1 r h') : Ev w d (1 + mc) (len.toNat + ms) M pc lv (.inl len :: st) h r h' :=
  ev_newa (t0 := 3) n hN e1 h0 h9 ar_long rfl (fun _ => rfl) hc (by decide) rfl (fun _ _ q => q) (by decide) hdg hk K
end EVY
