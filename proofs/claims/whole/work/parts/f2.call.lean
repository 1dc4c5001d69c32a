/-! ===== one call of the law ===== -/
section RV1
variable {f : Int → Int} {N B : Int} {h : JM} {a i n : Int} {k : Option Int → Option Int → Option Int → Int → JM → Option (Int × JM)}
theorem s_0 (A M : JM → Option (Int × JM)) (T : r_t1 f N B (A ) (M )) (hf : f_ok f) (R : r_x f N B h h) (hl : h.1 1099 a 1 = n) (hi : 2 ≤ i ∧ i ≤ n - 6) (hn : n ≤ 386) :
    ∃ f' B' h', f_ok f' ∧ B' ≤ B + 686000 ∧ r_x f' N B' h' h' ∧ h'.1 1099 a 1 = n ∧ (some (0 : Int)).bind (fun a1 => g_ (a1 = 0) ((A  h).bind (fun q => (some (0 : Int)).bind (fun a2 => g_ (a2 = 0) ((M  q.2).bind (fun q2 => if q.1 = q2.1 then (FL_law_1102 k (some a) (some 0) (some 0) i q2.2) else (some (0, q2.2)))))))) = k (some a) (some 0) (some 0) (w32 (i + 6)) h' := by

  obtain ⟨f', B', v, h1, h2, g1, g2, a1, a2, r, kp⟩ := two T hf R
  have e1 : h1.1 1099 a 1 = n := by rw [(kp 1099 a 1 (Or.inr rfl)).1, hl]
  refine ⟨f', B', h2, g1, g2, r, by rw [(kp 1099 a 1 (Or.inr rfl)).2, hl], ?_⟩
  rw [Option.bind_some, g_t rfl, a1, Option.bind_some]
  dsimp only
  rw [Option.bind_some, g_t rfl, a2, Option.bind_some]
  dsimp only
  rw [if_pos rfl]
  rfl
theorem s_1 (A M : Int → JM → Option (Int × JM)) (T : ∀ x1, r_t1 f N B (A x1) (M x1)) (hf : f_ok f) (R : r_x f N B h h) (hl : h.1 1099 a 1 = n) (hi : 2 ≤ i ∧ i ≤ n - 6) (hn : n ≤ 386) :
    ∃ f' B' h', f_ok f' ∧ B' ≤ B + 686000 ∧ r_x f' N B' h' h' ∧ h'.1 1099 a 1 = n ∧ g_ ((0 : Int) ≤ w32 (i + 1) ∧ w32 (i + 1) < (h.1 1099 a 1 : Int)) ((some (0 : Int)).bind (fun a1 => g_ (a1 = 0) ((A (h.1 99 a (w32 (i + 1))) h).bind (fun q => g_ ((0 : Int) ≤ w32 (i + 1) ∧ w32 (i + 1) < (q.2.1 1099 a 1 : Int)) ((some (0 : Int)).bind (fun a2 => g_ (a2 = 0) ((M (q.2.1 99 a (w32 (i + 1))) q.2).bind (fun q2 => if q.1 = q2.1 then (FL_law_1102 k (some a) (some 0) (some 0) i q2.2) else (some (0, q2.2)))))))))) = k (some a) (some 0) (some 0) (w32 (i + 6)) h' := by
  have w1 : w32 (i + 1) = i + 1 := w32_of (by omega) (by omega)
  obtain ⟨f', B', v, h1, h2, g1, g2, a1, a2, r, kp⟩ := two (T (h.1 99 a (i + 1))) hf R
  have e1 : h1.1 1099 a 1 = n := by rw [(kp 1099 a 1 (Or.inr rfl)).1, hl]
  refine ⟨f', B', h2, g1, g2, r, by rw [(kp 1099 a 1 (Or.inr rfl)).2, hl], ?_⟩
  rw [w1, hl, g_t (show 0 ≤ i + 1 ∧ i + 1 < n by omega), Option.bind_some, g_t rfl, a1, Option.bind_some]
  dsimp only
  rw [e1, g_t (show 0 ≤ i + 1 ∧ i + 1 < n by omega), Option.bind_some, g_t rfl, (kp 99 a (i + 1) (Or.inl rfl)).1, a2, Option.bind_some]
  dsimp only
  rw [if_pos rfl]
  rfl
theorem s_2 (A M : Int → Int → JM → Option (Int × JM)) (T : ∀ x1 x2, r_t1 f N B (A x1 x2) (M x1 x2)) (hf : f_ok f) (R : r_x f N B h h) (hl : h.1 1099 a 1 = n) (hi : 2 ≤ i ∧ i ≤ n - 6) (hn : n ≤ 386) :
    ∃ f' B' h', f_ok f' ∧ B' ≤ B + 686000 ∧ r_x f' N B' h' h' ∧ h'.1 1099 a 1 = n ∧ g_ ((0 : Int) ≤ w32 (i + 1) ∧ w32 (i + 1) < (h.1 1099 a 1 : Int)) (g_ ((0 : Int) ≤ w32 (i + 2) ∧ w32 (i + 2) < (h.1 1099 a 1 : Int)) ((some (0 : Int)).bind (fun a1 => g_ (a1 = 0) ((A (h.1 99 a (w32 (i + 1))) (h.1 99 a (w32 (i + 2))) h).bind (fun q => g_ ((0 : Int) ≤ w32 (i + 1) ∧ w32 (i + 1) < (q.2.1 1099 a 1 : Int)) (g_ ((0 : Int) ≤ w32 (i + 2) ∧ w32 (i + 2) < (q.2.1 1099 a 1 : Int)) ((some (0 : Int)).bind (fun a2 => g_ (a2 = 0) ((M (q.2.1 99 a (w32 (i + 1))) (q.2.1 99 a (w32 (i + 2))) q.2).bind (fun q2 => if q.1 = q2.1 then (FL_law_1102 k (some a) (some 0) (some 0) i q2.2) else (some (0, q2.2)))))))))))) = k (some a) (some 0) (some 0) (w32 (i + 6)) h' := by
  have w1 : w32 (i + 1) = i + 1 := w32_of (by omega) (by omega)
  have w2 : w32 (i + 2) = i + 2 := w32_of (by omega) (by omega)
  obtain ⟨f', B', v, h1, h2, g1, g2, a1, a2, r, kp⟩ := two (T (h.1 99 a (i + 1)) (h.1 99 a (i + 2))) hf R
  have e1 : h1.1 1099 a 1 = n := by rw [(kp 1099 a 1 (Or.inr rfl)).1, hl]
  refine ⟨f', B', h2, g1, g2, r, by rw [(kp 1099 a 1 (Or.inr rfl)).2, hl], ?_⟩
  rw [w1, w2, hl, g_t (show 0 ≤ i + 1 ∧ i + 1 < n by omega), g_t (show 0 ≤ i + 2 ∧ i + 2 < n by omega), Option.bind_some, g_t rfl, a1, Option.bind_some]
  dsimp only
  rw [e1, g_t (show 0 ≤ i + 1 ∧ i + 1 < n by omega), g_t (show 0 ≤ i + 2 ∧ i + 2 < n by omega), Option.bind_some, g_t rfl, (kp 99 a (i + 1) (Or.inl rfl)).1, (kp 99 a (i + 2) (Or.inl rfl)).1, a2, Option.bind_some]
  dsimp only
  rw [if_pos rfl]
  rfl
theorem s_3 (A M : Int → Int → Int → JM → Option (Int × JM)) (T : ∀ x1 x2 x3, r_t1 f N B (A x1 x2 x3) (M x1 x2 x3)) (hf : f_ok f) (R : r_x f N B h h) (hl : h.1 1099 a 1 = n) (hi : 2 ≤ i ∧ i ≤ n - 6) (hn : n ≤ 386) :
    ∃ f' B' h', f_ok f' ∧ B' ≤ B + 686000 ∧ r_x f' N B' h' h' ∧ h'.1 1099 a 1 = n ∧ g_ ((0 : Int) ≤ w32 (i + 1) ∧ w32 (i + 1) < (h.1 1099 a 1 : Int)) (g_ ((0 : Int) ≤ w32 (i + 2) ∧ w32 (i + 2) < (h.1 1099 a 1 : Int)) (g_ ((0 : Int) ≤ w32 (i + 3) ∧ w32 (i + 3) < (h.1 1099 a 1 : Int)) ((some (0 : Int)).bind (fun a1 => g_ (a1 = 0) ((A (h.1 99 a (w32 (i + 1))) (h.1 99 a (w32 (i + 2))) (h.1 99 a (w32 (i + 3))) h).bind (fun q => g_ ((0 : Int) ≤ w32 (i + 1) ∧ w32 (i + 1) < (q.2.1 1099 a 1 : Int)) (g_ ((0 : Int) ≤ w32 (i + 2) ∧ w32 (i + 2) < (q.2.1 1099 a 1 : Int)) (g_ ((0 : Int) ≤ w32 (i + 3) ∧ w32 (i + 3) < (q.2.1 1099 a 1 : Int)) ((some (0 : Int)).bind (fun a2 => g_ (a2 = 0) ((M (q.2.1 99 a (w32 (i + 1))) (q.2.1 99 a (w32 (i + 2))) (q.2.1 99 a (w32 (i + 3))) q.2).bind (fun q2 => if q.1 = q2.1 then (FL_law_1102 k (some a) (some 0) (some 0) i q2.2) else (some (0, q2.2)))))))))))))) = k (some a) (some 0) (some 0) (w32 (i + 6)) h' := by
  have w1 : w32 (i + 1) = i + 1 := w32_of (by omega) (by omega)
  have w2 : w32 (i + 2) = i + 2 := w32_of (by omega) (by omega)
  have w3 : w32 (i + 3) = i + 3 := w32_of (by omega) (by omega)
  obtain ⟨f', B', v, h1, h2, g1, g2, a1, a2, r, kp⟩ := two (T (h.1 99 a (i + 1)) (h.1 99 a (i + 2)) (h.1 99 a (i + 3))) hf R
  have e1 : h1.1 1099 a 1 = n := by rw [(kp 1099 a 1 (Or.inr rfl)).1, hl]
  refine ⟨f', B', h2, g1, g2, r, by rw [(kp 1099 a 1 (Or.inr rfl)).2, hl], ?_⟩
  rw [w1, w2, w3, hl, g_t (show 0 ≤ i + 1 ∧ i + 1 < n by omega), g_t (show 0 ≤ i + 2 ∧ i + 2 < n by omega), g_t (show 0 ≤ i + 3 ∧ i + 3 < n by omega), Option.bind_some, g_t rfl, a1, Option.bind_some]
  dsimp only
  rw [e1, g_t (show 0 ≤ i + 1 ∧ i + 1 < n by omega), g_t (show 0 ≤ i + 2 ∧ i + 2 < n by omega), g_t (show 0 ≤ i + 3 ∧ i + 3 < n by omega), Option.bind_some, g_t rfl, (kp 99 a (i + 1) (Or.inl rfl)).1, (kp 99 a (i + 2) (Or.inl rfl)).1, (kp 99 a (i + 3) (Or.inl rfl)).1, a2, Option.bind_some]
  dsimp only
  rw [if_pos rfl]
  rfl
theorem s_4 (A M : Int → Int → Int → Int → JM → Option (Int × JM)) (T : ∀ x1 x2 x3 x4, r_t1 f N B (A x1 x2 x3 x4) (M x1 x2 x3 x4)) (hf : f_ok f) (R : r_x f N B h h) (hl : h.1 1099 a 1 = n) (hi : 2 ≤ i ∧ i ≤ n - 6) (hn : n ≤ 386) :
    ∃ f' B' h', f_ok f' ∧ B' ≤ B + 686000 ∧ r_x f' N B' h' h' ∧ h'.1 1099 a 1 = n ∧ g_ ((0 : Int) ≤ w32 (i + 1) ∧ w32 (i + 1) < (h.1 1099 a 1 : Int)) (g_ ((0 : Int) ≤ w32 (i + 2) ∧ w32 (i + 2) < (h.1 1099 a 1 : Int)) (g_ ((0 : Int) ≤ w32 (i + 3) ∧ w32 (i + 3) < (h.1 1099 a 1 : Int)) (g_ ((0 : Int) ≤ w32 (i + 4) ∧ w32 (i + 4) < (h.1 1099 a 1 : Int)) ((some (0 : Int)).bind (fun a1 => g_ (a1 = 0) ((A (h.1 99 a (w32 (i + 1))) (h.1 99 a (w32 (i + 2))) (h.1 99 a (w32 (i + 3))) (h.1 99 a (w32 (i + 4))) h).bind (fun q => g_ ((0 : Int) ≤ w32 (i + 1) ∧ w32 (i + 1) < (q.2.1 1099 a 1 : Int)) (g_ ((0 : Int) ≤ w32 (i + 2) ∧ w32 (i + 2) < (q.2.1 1099 a 1 : Int)) (g_ ((0 : Int) ≤ w32 (i + 3) ∧ w32 (i + 3) < (q.2.1 1099 a 1 : Int)) (g_ ((0 : Int) ≤ w32 (i + 4) ∧ w32 (i + 4) < (q.2.1 1099 a 1 : Int)) ((some (0 : Int)).bind (fun a2 => g_ (a2 = 0) ((M (q.2.1 99 a (w32 (i + 1))) (q.2.1 99 a (w32 (i + 2))) (q.2.1 99 a (w32 (i + 3))) (q.2.1 99 a (w32 (i + 4))) q.2).bind (fun q2 => if q.1 = q2.1 then (FL_law_1102 k (some a) (some 0) (some 0) i q2.2) else (some (0, q2.2)))))))))))))))) = k (some a) (some 0) (some 0) (w32 (i + 6)) h' := by
  have w1 : w32 (i + 1) = i + 1 := w32_of (by omega) (by omega)
  have w2 : w32 (i + 2) = i + 2 := w32_of (by omega) (by omega)
  have w3 : w32 (i + 3) = i + 3 := w32_of (by omega) (by omega)
  have w4 : w32 (i + 4) = i + 4 := w32_of (by omega) (by omega)
  obtain ⟨f', B', v, h1, h2, g1, g2, a1, a2, r, kp⟩ := two (T (h.1 99 a (i + 1)) (h.1 99 a (i + 2)) (h.1 99 a (i + 3)) (h.1 99 a (i + 4))) hf R
  have e1 : h1.1 1099 a 1 = n := by rw [(kp 1099 a 1 (Or.inr rfl)).1, hl]
  refine ⟨f', B', h2, g1, g2, r, by rw [(kp 1099 a 1 (Or.inr rfl)).2, hl], ?_⟩
  rw [w1, w2, w3, w4, hl, g_t (show 0 ≤ i + 1 ∧ i + 1 < n by omega), g_t (show 0 ≤ i + 2 ∧ i + 2 < n by omega), g_t (show 0 ≤ i + 3 ∧ i + 3 < n by omega), g_t (show 0 ≤ i + 4 ∧ i + 4 < n by omega), Option.bind_some, g_t rfl, a1, Option.bind_some]
  dsimp only
  rw [e1, g_t (show 0 ≤ i + 1 ∧ i + 1 < n by omega), g_t (show 0 ≤ i + 2 ∧ i + 2 < n by omega), g_t (show 0 ≤ i + 3 ∧ i + 3 < n by omega), g_t (show 0 ≤ i + 4 ∧ i + 4 < n by omega), Option.bind_some, g_t rfl, (kp 99 a (i + 1) (Or.inl rfl)).1, (kp 99 a (i + 2) (Or.inl rfl)).1, (kp 99 a (i + 3) (Or.inl rfl)).1, (kp 99 a (i + 4) (Or.inl rfl)).1, a2, Option.bind_some]
  dsimp only
  rw [if_pos rfl]
  rfl
theorem s_5 (A M : Int → Int → Int → Int → Int → JM → Option (Int × JM)) (T : ∀ x1 x2 x3 x4 x5, r_t1 f N B (A x1 x2 x3 x4 x5) (M x1 x2 x3 x4 x5)) (hf : f_ok f) (R : r_x f N B h h) (hl : h.1 1099 a 1 = n) (hi : 2 ≤ i ∧ i ≤ n - 6) (hn : n ≤ 386) :
    ∃ f' B' h', f_ok f' ∧ B' ≤ B + 686000 ∧ r_x f' N B' h' h' ∧ h'.1 1099 a 1 = n ∧ g_ ((0 : Int) ≤ w32 (i + 1) ∧ w32 (i + 1) < (h.1 1099 a 1 : Int)) (g_ ((0 : Int) ≤ w32 (i + 2) ∧ w32 (i + 2) < (h.1 1099 a 1 : Int)) (g_ ((0 : Int) ≤ w32 (i + 3) ∧ w32 (i + 3) < (h.1 1099 a 1 : Int)) (g_ ((0 : Int) ≤ w32 (i + 4) ∧ w32 (i + 4) < (h.1 1099 a 1 : Int)) (g_ ((0 : Int) ≤ w32 (i + 5) ∧ w32 (i + 5) < (h.1 1099 a 1 : Int)) ((some (0 : Int)).bind (fun a1 => g_ (a1 = 0) ((A (h.1 99 a (w32 (i + 1))) (h.1 99 a (w32 (i + 2))) (h.1 99 a (w32 (i + 3))) (h.1 99 a (w32 (i + 4))) (h.1 99 a (w32 (i + 5))) h).bind (fun q => g_ ((0 : Int) ≤ w32 (i + 1) ∧ w32 (i + 1) < (q.2.1 1099 a 1 : Int)) (g_ ((0 : Int) ≤ w32 (i + 2) ∧ w32 (i + 2) < (q.2.1 1099 a 1 : Int)) (g_ ((0 : Int) ≤ w32 (i + 3) ∧ w32 (i + 3) < (q.2.1 1099 a 1 : Int)) (g_ ((0 : Int) ≤ w32 (i + 4) ∧ w32 (i + 4) < (q.2.1 1099 a 1 : Int)) (g_ ((0 : Int) ≤ w32 (i + 5) ∧ w32 (i + 5) < (q.2.1 1099 a 1 : Int)) ((some (0 : Int)).bind (fun a2 => g_ (a2 = 0) ((M (q.2.1 99 a (w32 (i + 1))) (q.2.1 99 a (w32 (i + 2))) (q.2.1 99 a (w32 (i + 3))) (q.2.1 99 a (w32 (i + 4))) (q.2.1 99 a (w32 (i + 5))) q.2).bind (fun q2 => if q.1 = q2.1 then (FL_law_1102 k (some a) (some 0) (some 0) i q2.2) else (some (0, q2.2)))))))))))))))))) = k (some a) (some 0) (some 0) (w32 (i + 6)) h' := by
  have w1 : w32 (i + 1) = i + 1 := w32_of (by omega) (by omega)
  have w2 : w32 (i + 2) = i + 2 := w32_of (by omega) (by omega)
  have w3 : w32 (i + 3) = i + 3 := w32_of (by omega) (by omega)
  have w4 : w32 (i + 4) = i + 4 := w32_of (by omega) (by omega)
  have w5 : w32 (i + 5) = i + 5 := w32_of (by omega) (by omega)
  obtain ⟨f', B', v, h1, h2, g1, g2, a1, a2, r, kp⟩ := two (T (h.1 99 a (i + 1)) (h.1 99 a (i + 2)) (h.1 99 a (i + 3)) (h.1 99 a (i + 4)) (h.1 99 a (i + 5))) hf R
  have e1 : h1.1 1099 a 1 = n := by rw [(kp 1099 a 1 (Or.inr rfl)).1, hl]
  refine ⟨f', B', h2, g1, g2, r, by rw [(kp 1099 a 1 (Or.inr rfl)).2, hl], ?_⟩
  rw [w1, w2, w3, w4, w5, hl, g_t (show 0 ≤ i + 1 ∧ i + 1 < n by omega), g_t (show 0 ≤ i + 2 ∧ i + 2 < n by omega), g_t (show 0 ≤ i + 3 ∧ i + 3 < n by omega), g_t (show 0 ≤ i + 4 ∧ i + 4 < n by omega), g_t (show 0 ≤ i + 5 ∧ i + 5 < n by omega), Option.bind_some, g_t rfl, a1, Option.bind_some]
  dsimp only
  rw [e1, g_t (show 0 ≤ i + 1 ∧ i + 1 < n by omega), g_t (show 0 ≤ i + 2 ∧ i + 2 < n by omega), g_t (show 0 ≤ i + 3 ∧ i + 3 < n by omega), g_t (show 0 ≤ i + 4 ∧ i + 4 < n by omega), g_t (show 0 ≤ i + 5 ∧ i + 5 < n by omega), Option.bind_some, g_t rfl, (kp 99 a (i + 1) (Or.inl rfl)).1, (kp 99 a (i + 2) (Or.inl rfl)).1, (kp 99 a (i + 3) (Or.inl rfl)).1, (kp 99 a (i + 4) (Or.inl rfl)).1, (kp 99 a (i + 5) (Or.inl rfl)).1, a2, Option.bind_some]
  dsimp only
  rw [if_pos rfl]
  rfl
theorem s_ft (hf : f_ok f) (R : r_x f N B h h) (hl : h.1 1099 a 1 = n) (hi : 2 ≤ i ∧ i ≤ n - 6) (hn : n ≤ 386) :
    ∃ f' B' h', f_ok f' ∧ B' ≤ B + 686000 ∧ r_x f' N B' h' h' ∧ h'.1 1099 a 1 = n ∧ g_ ((0 : Int) ≤ w32 (i + 1) ∧ w32 (i + 1) < (h.1 1099 a 1 : Int)) (g_ ((0 : Int) ≤ w32 (i + 2) ∧ w32 (i + 2) < (h.1 1099 a 1 : Int)) (g_ ((0 : Int) ≤ w32 (i + 3) ∧ w32 (i + 3) < (h.1 1099 a 1 : Int)) (if h.1 99 a (w32 (i + 3)) = 0 then (FL_law_371 k (some a) (some 0) (some 0) i (some 0) (h.1 99 a (w32 (i + 1))) (h.1 99 a (w32 (i + 2))) 0 h) else (FL_law_371 k (some a) (some 0) (some 0) i (some 0) (h.1 99 a (w32 (i + 1))) (h.1 99 a (w32 (i + 2))) 1 h)))) = k (some a) (some 0) (some 0) (w32 (i + 6)) h' := by
  have w1 : w32 (i + 1) = i + 1 := w32_of (by omega) (by omega)
  have w2 : w32 (i + 2) = i + 2 := w32_of (by omega) (by omega)
  have w3 : w32 (i + 3) = i + 3 := w32_of (by omega) (by omega)
  rw [w1, w2, w3, hl, g_t (show 0 ≤ i + 1 ∧ i + 1 < n by omega), g_t (show 0 ≤ i + 2 ∧ i + 2 < n by omega), g_t (show 0 ≤ i + 3 ∧ i + 3 < n by omega)]
  by_cases z : h.1 99 a (i + 3) = 0
  · obtain ⟨f', B', v, h1, h2, g1, g2, a1, a2, r, kp⟩ := two (t_put hf (fun c m R => a_feature hf R (h.1 99 a (i + 1)) (h.1 99 a (i + 2)) 0 (Or.inl rfl))) hf R
    have e1 : h1.1 1099 a 1 = n := by rw [(kp 1099 a 1 (Or.inr rfl)).1, hl]
    refine ⟨f', B', h2, g1, g2, r, by rw [(kp 1099 a 1 (Or.inr rfl)).2, hl], ?_⟩
    rw [if_pos z]
    unfold FL_law_371
    rw [Option.bind_some, g_t rfl, a1, Option.bind_some, Option.bind_some]
    dsimp only
    rw [w1, w2, w3, e1, g_t (show 0 ≤ i + 1 ∧ i + 1 < n by omega), g_t (show 0 ≤ i + 2 ∧ i + 2 < n by omega), g_t (show 0 ≤ i + 3 ∧ i + 3 < n by omega), (kp 99 a (i + 1) (Or.inl rfl)).1, (kp 99 a (i + 2) (Or.inl rfl)).1, (kp 99 a (i + 3) (Or.inl rfl)).1, if_pos z]
    unfold FL_law_398
    rw [Option.bind_some, g_t rfl, a2, Option.bind_some]
    dsimp only
    rw [if_pos rfl]
    rfl
  · obtain ⟨f', B', v, h1, h2, g1, g2, a1, a2, r, kp⟩ := two (t_put hf (fun c m R => a_feature hf R (h.1 99 a (i + 1)) (h.1 99 a (i + 2)) 1 (Or.inr rfl))) hf R
    have e1 : h1.1 1099 a 1 = n := by rw [(kp 1099 a 1 (Or.inr rfl)).1, hl]
    refine ⟨f', B', h2, g1, g2, r, by rw [(kp 1099 a 1 (Or.inr rfl)).2, hl], ?_⟩
    rw [if_neg z]
    unfold FL_law_371
    rw [Option.bind_some, g_t rfl, a1, Option.bind_some, Option.bind_some]
    dsimp only
    rw [w1, w2, w3, e1, g_t (show 0 ≤ i + 1 ∧ i + 1 < n by omega), g_t (show 0 ≤ i + 2 ∧ i + 2 < n by omega), g_t (show 0 ≤ i + 3 ∧ i + 3 < n by omega), (kp 99 a (i + 1) (Or.inl rfl)).1, (kp 99 a (i + 2) (Or.inl rfl)).1, (kp 99 a (i + 3) (Or.inl rfl)).1, if_neg z]
    unfold FL_law_398
    rw [Option.bind_some, g_t rfl, a2, Option.bind_some]
    dsimp only
    rw [if_pos rfl]
    rfl
theorem s_hk (hf : f_ok f) (R : r_x f N B h h) (hl : h.1 1099 a 1 = n) (hi : 2 ≤ i ∧ i ≤ n - 6) (hn : n ≤ 386) :
    ∃ f' B' h', f_ok f' ∧ B' ≤ B + 686000 ∧ r_x f' N B' h' h' ∧ h'.1 1099 a 1 = n ∧ g_ ((0 : Int) ≤ w32 (i + 1) ∧ w32 (i + 1) < (h.1 1099 a 1 : Int)) (g_ ((0 : Int) ≤ w32 (i + 2) ∧ w32 (i + 2) < (h.1 1099 a 1 : Int)) (if h.1 99 a (w32 (i + 2)) = 0 then (FL_law_554 k (some a) (some 0) (some 0) i (some 0) (h.1 99 a (w32 (i + 1))) 0 h) else (FL_law_554 k (some a) (some 0) (some 0) i (some 0) (h.1 99 a (w32 (i + 1))) 1 h))) = k (some a) (some 0) (some 0) (w32 (i + 6)) h' := by
  have w1 : w32 (i + 1) = i + 1 := w32_of (by omega) (by omega)
  have w2 : w32 (i + 2) = i + 2 := w32_of (by omega) (by omega)
  rw [w1, w2, hl, g_t (show 0 ≤ i + 1 ∧ i + 1 < n by omega), g_t (show 0 ≤ i + 2 ∧ i + 2 < n by omega)]
  by_cases z : h.1 99 a (i + 2) = 0
  · obtain ⟨f', B', v, h1, h2, g1, g2, a1, a2, r, kp⟩ := two (t_hook hf (h.1 99 a (i + 1)) 0 (Or.inl rfl)) hf R
    have e1 : h1.1 1099 a 1 = n := by rw [(kp 1099 a 1 (Or.inr rfl)).1, hl]
    refine ⟨f', B', h2, g1, g2, r, by rw [(kp 1099 a 1 (Or.inr rfl)).2, hl], ?_⟩
    rw [if_pos z]
    unfold FL_law_554
    rw [Option.bind_some, g_t rfl, a1, Option.bind_some, Option.bind_some]
    dsimp only
    rw [w1, w2, e1, g_t (show 0 ≤ i + 1 ∧ i + 1 < n by omega), g_t (show 0 ≤ i + 2 ∧ i + 2 < n by omega), (kp 99 a (i + 1) (Or.inl rfl)).1, (kp 99 a (i + 2) (Or.inl rfl)).1, if_pos z]
    unfold FL_law_576
    rw [Option.bind_some, g_t rfl, a2, Option.bind_some]
    dsimp only
    rw [if_pos rfl]
    rfl
  · obtain ⟨f', B', v, h1, h2, g1, g2, a1, a2, r, kp⟩ := two (t_hook hf (h.1 99 a (i + 1)) 1 (Or.inr rfl)) hf R
    have e1 : h1.1 1099 a 1 = n := by rw [(kp 1099 a 1 (Or.inr rfl)).1, hl]
    refine ⟨f', B', h2, g1, g2, r, by rw [(kp 1099 a 1 (Or.inr rfl)).2, hl], ?_⟩
    rw [if_neg z]
    unfold FL_law_554
    rw [Option.bind_some, g_t rfl, a1, Option.bind_some, Option.bind_some]
    dsimp only
    rw [w1, w2, e1, g_t (show 0 ≤ i + 1 ∧ i + 1 < n by omega), g_t (show 0 ≤ i + 2 ∧ i + 2 < n by omega), (kp 99 a (i + 1) (Or.inl rfl)).1, (kp 99 a (i + 2) (Or.inl rfl)).1, if_neg z]
    unfold FL_law_576
    rw [Option.bind_some, g_t rfl, a2, Option.bind_some]
    dsimp only
    rw [if_pos rfl]
    rfl
end RV1
