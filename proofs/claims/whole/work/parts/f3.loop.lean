/-! ===== the law's loop ===== -/
section RW1
variable {N : Int}
theorem law_step {f : Int → Int} {B : Int} {h : JM} {a i n : Int} {k : Option Int → Option Int → Option Int → Int → JM → Option (Int × JM)} (hf : f_ok f) (R : r_x f N B h h) (hB : B + 700000 < 1000000000) (hl : h.1 1099 a 1 = n) (hi : 2 ≤ i ∧ i ≤ n - 6) (hn : n ≤ 386) :
    ∃ f' B' h', f_ok f' ∧ B' ≤ B + 686000 ∧ r_x f' N B' h' h' ∧ h'.1 1099 a 1 = n ∧ FL_law_38b k (some a) (some 0) (some 0) i h = k (some a) (some 0) (some 0) (w32 (i + 6)) h' := by
  have w6 : w32 (h.1 1099 a 1 - 6) = n - 6 := by rw [hl]; exact w32_of (by omega) (by omega)
  unfold FL_law_38b
  rw [Option.bind_some, g_t (by rw [hl]; omega), w6, if_neg (show ¬ n - 6 < i by omega), g_t (by rw [hl]; omega)]
  by_cases e0 : j_and (h.1 99 a i) 31 = 0
  · rw [if_pos e0]
    exact s_1 F11_key F12_key (fun x1 => t_put hf (fun c m R => a_key hf R x1)) hf R hl hi hn
  rw [if_neg e0]
  by_cases e1 : j_and (h.1 99 a i) 31 = 1
  · rw [if_pos e1]
    exact s_0 F11_keyless F12_keyless (t_put hf (fun c m R => a_keyless hf R)) hf R hl hi hn
  rw [if_neg e1]
  by_cases e2 : j_and (h.1 99 a i) 31 = 2
  · rw [if_pos e2]
    exact s_5 F11_plan F12_plan (fun x1 x2 x3 x4 x5 => t_put hf (fun c m R => a_plan hf R x1 x2 x3 x4 x5)) hf R hl hi hn
  rw [if_neg e2]
  by_cases e3 : j_and (h.1 99 a i) 31 = 3
  · rw [if_pos e3]
    exact s_2 F11_member F12_member (fun x1 x2 => t_put hf (fun c m R => a_member hf R x1 x2)) hf R hl hi hn
  rw [if_neg e3]
  by_cases e4 : j_and (h.1 99 a i) 31 = 4
  · rw [if_pos e4]
    exact s_3 F11_waiting F12_waiting (fun x1 x2 x3 => t_put hf (fun c m R => a_waiting hf R x1 x2 x3)) hf R hl hi hn
  rw [if_neg e4]
  by_cases e5 : j_and (h.1 99 a i) 31 = 5
  · rw [if_pos e5]
    exact s_ft hf R hl hi hn
  rw [if_neg e5]
  by_cases e6 : j_and (h.1 99 a i) 31 = 6
  · rw [if_pos e6]
    exact s_2 F11_forward F12_forward (fun x1 x2 => t_put hf (fun c m R => a_forward hf R x1 x2)) hf R hl hi hn
  rw [if_neg e6]
  by_cases e7 : j_and (h.1 99 a i) 31 = 7
  · rw [if_pos e7]
    exact s_5 F11_tariff F12_tariff (fun x1 x2 x3 x4 x5 => t_put hf (fun c m R => a_tariff hf R x1 x2 x3 x4 x5)) hf R hl hi hn
  rw [if_neg e7]
  by_cases e8 : j_and (h.1 99 a i) 31 = 8
  · rw [if_pos e8]
    exact s_2 F11_credit F12_credit (fun x1 x2 => t_put hf (fun c m R => a_credit hf R x1 x2)) hf R hl hi hn
  rw [if_neg e8]
  by_cases e9 : j_and (h.1 99 a i) 31 = 9
  · rw [if_pos e9]
    exact s_hk hf R hl hi hn
  rw [if_neg e9]
  by_cases e10 : j_and (h.1 99 a i) 31 = 10
  · rw [if_pos e10]
    exact s_2 F11_dial F12_dial (fun x1 x2 => t_put hf (fun c m R => a_dial hf R x1 x2)) hf R hl hi hn
  rw [if_neg e10]
  by_cases e11 : j_and (h.1 99 a i) 31 = 11
  · rw [if_pos e11]
    exact s_2 F11_say F12_say (fun x1 x2 => t_say hf x1 x2) hf R hl hi hn
  rw [if_neg e11]
  by_cases e12 : j_and (h.1 99 a i) 31 = 12
  · rw [if_pos e12]
    exact s_3 F11_spoil F12_spoil (fun x1 x2 x3 => t_put hf (fun c m R => a_spoil hf R x1 x2 x3)) hf R hl hi hn
  rw [if_neg e12]
  by_cases e13 : j_and (h.1 99 a i) 31 = 13
  · rw [if_pos e13]
    exact s_2 F11_lose F12_lose (fun x1 x2 => t_put hf (fun c m R => a_lose hf R x1 x2)) hf R hl hi hn
  rw [if_neg e13]
  by_cases e14 : j_and (h.1 99 a i) 31 = 14
  · rw [if_pos e14]
    exact s_1 F11_tick F12_tick (fun x1 => t_tick hf hB x1) hf R hl hi hn
  rw [if_neg e14]
  by_cases e15 : j_and (h.1 99 a i) 31 = 15
  · rw [if_pos e15]
    exact s_2 F11_line F12_line (fun x1 x2 => t_put hf (fun c m R => a_line hf R x1 x2)) hf R hl hi hn
  rw [if_neg e15]
  by_cases e16 : j_and (h.1 99 a i) 31 = 16
  · rw [if_pos e16]
    exact s_1 F11_partner F12_partner (fun x1 => t_ask hf (fun c m R => a_partner hf R x1)) hf R hl hi hn
  rw [if_neg e16]
  by_cases e17 : j_and (h.1 99 a i) 31 = 17
  · rw [if_pos e17]
    exact s_1 F11_heard F12_heard (fun x1 => t_ask hf (fun c m R => p_heard R x1)) hf R hl hi hn
  rw [if_neg e17]
  by_cases e18 : j_and (h.1 99 a i) 31 = 18
  · rw [if_pos e18]
    exact s_2 F11_circuit F12_circuit (fun x1 x2 => t_ask hf (fun c m R => a_circuit R x1 x2)) hf R hl hi hn
  rw [if_neg e18]
  by_cases e19 : j_and (h.1 99 a i) 31 = 19
  · rw [if_pos e19]
    exact s_2 F11_speech F12_speech (fun x1 x2 => t_ask hf (fun c m R => a_speech R x1 x2)) hf R hl hi hn
  rw [if_neg e19]
  by_cases e20 : j_and (h.1 99 a i) 31 = 20
  · rw [if_pos e20]
    exact s_3 F11_group F12_group (fun x1 x2 x3 => t_ask hf (fun c m R => a_group R x1 x2 x3)) hf R hl hi hn
  rw [if_neg e20]
  by_cases e21 : j_and (h.1 99 a i) 31 = 21
  · rw [if_pos e21]
    exact s_2 F11_room F12_room (fun x1 x2 => t_ask hf (fun c m R => a_room R x1 x2)) hf R hl hi hn
  rw [if_neg e21]
  by_cases e22 : j_and (h.1 99 a i) 31 = 22
  · rw [if_pos e22]
    exact s_2 F11_link F12_link (fun x1 x2 => t_ask hf (fun c m R => a_link R x1 x2)) hf R hl hi hn
  rw [if_neg e22]
  by_cases e23 : j_and (h.1 99 a i) 31 = 23
  · rw [if_pos e23]
    exact s_3 F11_bit F12_bit (fun x1 x2 x3 => t_put hf (fun c m R => a_bit hf R x1 x2 x3)) hf R hl hi hn
  rw [if_neg e23]
  by_cases e24 : j_and (h.1 99 a i) 31 = 24
  · rw [if_pos e24]
    exact s_2 F11_record F12_record (fun x1 x2 => t_put hf (fun c m R => a_record hf R x1 x2 (by omega))) hf R hl hi hn
  rw [if_neg e24]
  by_cases e25 : j_and (h.1 99 a i) 31 = 25
  · rw [if_pos e25]
    exact s_1 F11_told F12_told (fun x1 => t_put hf (fun c m R => a_told hf R x1)) hf R hl hi hn
  rw [if_neg e25]
  exact ⟨f, B, h, hf, by omega, R, hl, rfl⟩
theorem law_loop {a n : Int} (hn : 0 ≤ n ∧ n ≤ 386) : ∀ (d fu : Nat) (f : Int → Int) (B : Int) (i : Int) (h : JM), f_ok f → r_x f N B h h → h.1 1099 a 1 = n → 2 ≤ i → i ≤ n ∨ i = 2 → n - 6 < i + 6 * d → d < fu → B + 686000 * d ≤ 500000000 → ∃ h', FL_law_38 fu (some a) (some 0) (some 0) i h = some (1, h')
  | _, 0, _, _, _, _, _, _, _, _, _, _, q, _ => by omega
  | d, fu + 1, f, B, i, h, hf, R, hl, i2, i3, hd, hfu, hB => by
    show ∃ h', FL_law_38b (FL_law_38 fu) (some a) (some 0) (some 0) i h = some (1, h')
    by_cases z : n - 6 < i
    · have w6 : w32 (h.1 1099 a 1 - 6) = n - 6 := by rw [hl]; exact w32_of (by omega) (by omega)
      refine ⟨h, ?_⟩
      unfold FL_law_38b
      rw [Option.bind_some, g_t (by rw [hl]; omega), w6, if_pos z]
    · cases d with
      | zero => exact absurd hd (by omega)
      | succ d =>
        obtain ⟨f', B', h', g1, g2, r, hl', e⟩ := law_step (k := FL_law_38 fu) hf R (by omega) hl ⟨i2, by omega⟩ hn.2
        obtain ⟨h2, e2⟩ := law_loop hn d fu f' B' (i + 6) h' g1 r hl' (by omega) (Or.inl (by omega)) (by omega) (by omega) (by omega)
        exact ⟨h2, by rw [e, w32_of (by omega) (by omega)]; exact e2⟩
end RW1
