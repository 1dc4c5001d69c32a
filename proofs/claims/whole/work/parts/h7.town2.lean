/-! ===== what constructors make: the town, whole ===== -/
def CF (N r : Int) (h : JM) : Prop := CM N r h ∧ E1 0 N h ∧ E1 1 N h ∧ (h.2.2 38 0 0 = some 0 ∧ h.2.2 38 0 1 = some 1) ∧ (∀ j, 0 ≤ j → j < N → h.2.2 8 j 1 = some (16 + j) ∧ h.2.2 8 (16 + j) 1 = some j) ∧ (∀ j, 0 ≤ j → j < 16 → QL j h) ∧ (∀ j, 0 ≤ j → j < 72 → h.1 0 j 9 = -1 ∧ h.2.2 40 0 j = some j)
section IG
variable {N r : Int} {h h0 a b : JM}
theorem cm_fr {P : Nat → Int → Prop} (F : fr P a b) (hd : ∀ k n, PM k n ∨ P3 k n → k ≠ 38 → k ≠ 39 → k ≠ 40 → ¬ P k n) (q : CM N r a) : CM N r b := by
  obtain ⟨⟨q1, q2, q3, q4⟩, ⟨r2, r3, r4, r5, r6, r7, r8⟩, ⟨l1, l2, l3, l4, l5, l6, l7⟩, ⟨s1, s2, s3, s4⟩, t, u1, u2, u3⟩ := q
  have o : ∀ k n, PM k n ∨ P3 k n → k ≠ 38 → k ≠ 39 → k ≠ 40 → ∀ j, b.1 k n j = a.1 k n j ∧ b.2.1 k n j = a.2.1 k n j ∧ b.2.2 k n j = a.2.2 k n j := fun k n p k1 k2 k3 j => F k n (hd k n p k1 k2 k3) j
  have m : ∀ k, k = 11 ∨ k = 1038 ∨ k = 1039 ∨ k = 1040 ∨ k = 1036 ∨ k = 1037 ∨ k = 10 → ∀ j, b.1 k 0 j = a.1 k 0 j ∧ b.2.1 k 0 j = a.2.1 k 0 j ∧ b.2.2 k 0 j = a.2.2 k 0 j := fun k hk j => o k 0 (Or.inl (by unfold PM; omega)) (by omega) (by omega) (by omega) j
  have p : ∀ k, k = 3 ∨ k = 26 ∨ k = 27 ∨ k = 1026 ∨ k = 1027 → ∀ j, b.1 k 0 j = a.1 k 0 j ∧ b.2.1 k 0 j = a.2.1 k 0 j ∧ b.2.2 k 0 j = a.2.2 k 0 j := fun k hk j => o k 0 (Or.inr (by unfold P3; omega)) (by omega) (by omega) (by omega) j
  refine ⟨⟨?_, ?_, ?_, ?_⟩, ⟨?_, ?_, ?_, ?_, ?_, ?_, ?_⟩, ⟨?_, ?_, ?_, ?_, ?_, ?_, ?_⟩, ⟨?_, ?_, ?_, ?_⟩, ?_, ?_, ?_, ?_⟩
  · rw [(m 11 (by omega) 0).1]; exact q1
  · rw [(m 11 (by omega) 1).1]; exact q2
  · intro j hj; rw [(m 11 (by omega) j).1]; exact q3 j hj
  · rw [(m 11 (by omega) 9).2.1]; exact q4
  · rw [(m 11 (by omega) 2).2.2]; exact r2
  · rw [(m 11 (by omega) 3).2.2]; exact r3
  · rw [(m 11 (by omega) 4).2.2]; exact r4
  · rw [(m 11 (by omega) 5).2.2]; exact r5
  · rw [(m 11 (by omega) 6).2.2]; exact r6
  · rw [(m 11 (by omega) 7).2.2]; exact r7
  · rw [(m 11 (by omega) 8).2.2]; exact r8
  · rw [(m 1038 (by omega) 1).1]; exact l1
  · rw [(m 1039 (by omega) 1).1]; exact l2
  · rw [(m 1040 (by omega) 1).1]; exact l3
  · rw [(m 1036 (by omega) 1).1]; exact l4
  · rw [(m 1037 (by omega) 1).1]; exact l5
  · rw [(p 1026 (by omega) 1).1]; exact l6
  · rw [(p 1027 (by omega) 1).1]; exact l7
  · rw [(m 10 (by omega) 0).2.2]; exact s1
  · rw [(m 10 (by omega) 4).2.2]; exact s2
  · rw [(p 3 (by omega) 0).2.2]; exact s3
  · rw [(p 3 (by omega) 1).2.2]; exact s4
  · intro x hx
    obtain ⟨t1, t2, t3, t4, t5⟩ := t x hx
    have w : ∀ k, k = 7 ∨ k = 1034 ∨ k = 1035 → ∀ j, b.1 k x j = a.1 k x j ∧ b.2.1 k x j = a.2.1 k x j ∧ b.2.2 k x j = a.2.2 k x j := fun k hk j => o k x (Or.inl (by unfold PM; omega)) (by omega) (by omega) (by omega) j
    refine ⟨fun j => ?_, ?_, ?_, ?_, ?_⟩
    · rw [(w 7 (by omega) j).1]; exact t1 j
    · rw [(w 7 (by omega) 0).2.2]; exact t2
    · rw [(w 7 (by omega) 1).2.2]; exact t3
    · rw [(w 1034 (by omega) 1).1]; exact t4
    · rw [(w 1035 (by omega) 1).1]; exact t5
  · intro j; rw [(p 3 (by omega) j).1]; exact u1 j
  · intro j; rw [(p 26 (by omega) j).1]; exact u2 j
  · intro j; rw [(p 27 (by omega) j).1]; exact u3 j
theorem e1_far {e : Int} (a1 : b.1 = a.1) (a3 : ∀ k n j, k ≠ 8 ∨ j ≠ 1 → b.2.2 k n j = a.2.2 k n j) (q : E1 e N a) : E1 e N b := by
  have k8 : ∀ k n j, k ≠ 8 → b.2.2 k n j = a.2.2 k n j := fun k n j p => a3 k n j (Or.inl p)
  unfold E1 Q8 Q2 at q ⊢
  rw [a1, k8 1 e 1 (by decide), k8 1 e 2 (by decide), k8 1 e 3 (by decide), k8 1 e 5 (by decide), k8 1 e 6 (by decide), k8 1 e 7 (by decide), k8 5 e 8 (by decide), k8 5 e 9 (by decide), k8 5 e 10 (by decide)]
  obtain ⟨q1, q2, q3, q4, q5, q6, q7, q8, q9, q10⟩ := q
  refine ⟨q1, q2, q3, q4, q5, q6, fun j j0 j1 => ?_, fun j j0 j1 => ?_, fun j j0 j1 => ?_, fun j j0 j1 => ?_⟩
  · rw [k8 32 e j (by decide)]; exact q7 j j0 j1
  · rw [k8 33 e j (by decide)]; exact q8 j j0 j1
  · rw [a3 8 _ 3 (Or.inr (by decide)), k8 20 e j (by decide)]; exact q9 j j0 j1
  · rw [k8 2 _ 0 (by decide), k8 21 e j (by decide)]; exact q10 j j0 j1
theorem pm_k {k : Nat} {n : Int} (q : PM k n ∨ P3 k n) : k = 3 ∨ k = 7 ∨ k = 10 ∨ k = 11 ∨ k = 26 ∨ k = 27 ∨ (34 ≤ k ∧ k ≤ 40) ∨ k = 1003 ∨ k = 1007 ∨ k = 1010 ∨ k = 1011 ∨ k = 1026 ∨ k = 1027 ∨ (1034 ≤ k ∧ k ≤ 1040) := by
  rcases q with q | q
  · unfold PM at q; omega
  · unfold P3 at q; omega
theorem px_k {e : Int} {k : Nat} {n : Int} (q : PX e N k n) : k = 1 ∨ k = 2 ∨ k = 5 ∨ k = 8 ∨ k = 9 ∨ (20 ≤ k ∧ k ≤ 25) ∨ (31 ≤ k ∧ k ≤ 33) ∨ k = 38 ∨ k = 1001 ∨ k = 1002 ∨ k = 1005 ∨ k = 1008 ∨ k = 1009 ∨ (1020 ≤ k ∧ k ≤ 1025) ∨ (1031 ≤ k ∧ k ≤ 1033) := by
  rcases q with q | q | q
  · have := p1_kind q; omega
  · omega
  · omega
theorem i11 (a b : Int) (e0 : em h0) : ∃ c, F11_init a b (j_nw h0 11 0 0) = some c ∧ fr (PC (cN a)) h0 c ∧ CF (cN a) (cR a b) c := by
  obtain ⟨h, eh⟩ : ∃ h, h = j_nw h0 11 0 0 := ⟨_, rfl⟩
  obtain ⟨hD, y1, y2, y3⟩ := i11a a b e0 eh
  have hN := cN_r a
  obtain ⟨N, eN⟩ : ∃ N, N = cN a := ⟨_, rfl⟩
  rw [← eN] at y3 hN
  have hz : ∀ k n j, k ≠ 99 → k ≠ 1099 → k ≠ 1011 → h.1 k n j = 0 := fun k n j a1 a2 a3 => by
    rw [eh, nN_I]
    by_cases q : k = 11 ∧ n = 0
    · rw [if_pos q]
    · rw [if_neg q, if_neg (fun y => a3 y.1)]; exact e0.2 k n j a1 a2
  have gD : ∀ k n, ¬ (PM k n ∨ P3 k n) → k ≠ 99 → k ≠ 1099 → k ≠ 1011 → hD.1 k n 0 ≠ 1 := fun k n p a1 a2 a3 => by rw [(y2 k n p 0).1, hz k n 0 a1 a2 a3]; decide
  have np : ∀ k n, (k = 1 ∨ k = 2 ∨ k = 5 ∨ k = 8 ∨ k = 9 ∨ (20 ≤ k ∧ k ≤ 25) ∨ (28 ≤ k ∧ k ≤ 33) ∨ k = 1000 ∨ k = 1001 ∨ k = 1002 ∨ k = 1004 ∨ k = 1005 ∨ k = 1008 ∨ k = 1009 ∨ (1020 ≤ k ∧ k ≤ 1025) ∨ (1028 ≤ k ∧ k ≤ 1033)) → ¬ (PM k n ∨ P3 k n) := fun k n hk p => by have := pm_k p; omega
  obtain ⟨M1, M2, M3, M4, M5, M6, M7, M8⟩ := id y3
  obtain ⟨hE, z1, z2, z3, z4, z5, z6⟩ := i134 (hs := hD) hN (fun e he k n p q => by
    have kk := p1_kind p
    exact gD k n (np k n (by omega)) (by omega) (by omega) (by omega)) ⟨gD 1001 0 (np _ _ (by omega)) (by omega) (by omega) (by omega), gD 1001 1 (np _ _ (by omega)) (by omega) (by omega) (by omega)⟩ M1.1 M2.1 M3.1
  have nE : ∀ k n, ¬ (k = 1 ∨ k = 2 ∨ k = 5 ∨ k = 8 ∨ k = 9 ∨ (20 ≤ k ∧ k ≤ 25) ∨ (31 ≤ k ∧ k ≤ 33) ∨ k = 38 ∨ k = 1001 ∨ k = 1002 ∨ k = 1005 ∨ k = 1008 ∨ k = 1009 ∨ (1020 ≤ k ∧ k ≤ 1025) ∨ (1031 ≤ k ∧ k ≤ 1033)) → ¬ (PX 0 N k n ∨ PX 1 N k n) := fun k n q p => by
    rcases p with p | p
    · exact q (px_k p)
    · exact q (px_k p)
  have CE : CM N (cR a b) hE := cm_fr z2 (fun k n p k1 k2 k3 => nE k n (by have := pm_k p; omega)) y3
  obtain ⟨hF, u1, u2, u3, u4, u5⟩ := i165 (hs := hE) hN CE.1.1 CE.2.1.1 CE.2.2.1.1 ⟨z5, z6⟩ ⟨z3.2.1.1, z4.2.1.1⟩ ⟨z3.2.2.1.1, z4.2.2.1.1⟩ (fun j j0 j1 => ⟨(z3.2.2.2.2.2.2.2.2.1 j j0 j1).2.2.2.2, (z4.2.2.2.2.2.2.2.2.1 j j0 j1).2.2.2.2⟩)
  have FF : fr (fun k n => k = 8 ∧ ((0 ≤ n ∧ n < N) ∨ (16 ≤ n ∧ n < 16 + N))) hE hF := fun k n p j => ⟨by rw [u2], by rw [u3], u4 k n j (by by_cases w : k = 8; exact Or.inr (Or.inr (fun y => p ⟨w, y⟩)); exact Or.inl w)⟩
  have CFF : CM N (cR a b) hF := cm_fr FF (fun k n p k1 k2 k3 w => by have := pm_k p; omega) CE
  have E0F : E1 0 N hF := e1_far u2 (fun k n j q => u4 k n j (by rcases q with q | q; exact Or.inl q; exact Or.inr (Or.inl q))) z3
  have E1F : E1 1 N hF := e1_far u2 (fun k n j q => u4 k n j (by rcases q with q | q; exact Or.inl q; exact Or.inr (Or.inl q))) z4
  obtain ⟨hG, v1, v2, v3⟩ := i231 (hs := hF) (fun k n hk n0 n1 => by rw [u2, (z2 k n (nE k n (by omega)) 0).1]; exact gD k n (np k n (by omega)) (by omega) (by omega) (by omega)) CFF.2.1.2.1 CFF.2.2.1.2.1
  have k231 : ∀ k n, P231 16 k n → k = 4 ∨ k = 39 ∨ (28 ≤ k ∧ k ≤ 30) ∨ k = 1004 ∨ (1028 ≤ k ∧ k ≤ 1030) := fun k n p => by unfold P231 at p; omega
  have k259 : ∀ k n, P259 72 k n → k = 0 ∨ k = 40 ∨ k = 1000 := fun k n p => by unfold P259 at p; omega
  have CG : CM N (cR a b) hG := cm_fr v2 (fun k n p k1 k2 k3 w => by have := pm_k p; have := k231 k n w; omega) CFF
  obtain ⟨hH, w1, w2, w3⟩ := i259 (hs := hG) (fun n n0 n1 => by rw [(v2 1000 n (fun w => by have := k231 _ _ w; omega) 0).1, u2, (z2 1000 n (nE _ _ (by omega)) 0).1]; exact gD 1000 n (np _ _ (by omega)) (by omega) (by omega) (by omega)) CG.2.1.2.2.1 CG.2.2.1.2.2.1
  have n231 : ∀ k n, ¬ (k = 4 ∨ k = 39 ∨ (28 ≤ k ∧ k ≤ 30) ∨ k = 1004 ∨ (1028 ≤ k ∧ k ≤ 1030)) → ¬ P231 16 k n := fun k n q p => q (k231 k n p)
  have n259 : ∀ k n, ¬ (k = 0 ∨ k = 40 ∨ k = 1000) → ¬ P259 72 k n := fun k n q p => q (k259 k n p)
  refine ⟨hH, ?_, ?_, ?_⟩
  · rw [← eh, y1, z1, u1, v1, w1]
  · rw [← eN]
    have F0 : fr (PC N) h0 h := by rw [eh]; exact fr_N (fr_rfl h0) (Or.inl (by unfold PM; omega)) (Or.inl (by unfold PM; omega)) _
    refine fr_tr F0 (fr_tr (fr_mono (fun k n q => ?_) y2) (fr_tr (fr_mono (fun k n q => ?_) z2) (fr_tr (fr_mono (fun k n q => ?_) FF) (fr_tr (fr_mono (fun k n q => ?_) v2) (fr_mono (fun k n q => ?_) w2)))))
    · rcases q with q | q; exact Or.inl q; exact Or.inr (Or.inl q)
    · rcases q with q | q; exact Or.inr (Or.inr (Or.inl q)); exact Or.inr (Or.inr (Or.inr (Or.inl q)))
    · rcases q.2 with y | y
      · exact Or.inr (Or.inr (Or.inl (Or.inl (Or.inr (Or.inl (by unfold P61; omega))))))
      · exact Or.inr (Or.inr (Or.inr (Or.inl (Or.inl (Or.inr (Or.inl (by unfold P61; omega)))))))
    · exact Or.inr (Or.inr (Or.inr (Or.inr (Or.inl q))))
    · exact Or.inr (Or.inr (Or.inr (Or.inr (Or.inr q))))
  · rw [← eN]
    refine ⟨cm_fr w2 (fun k n p k1 k2 k3 => n259 k n (by have := pm_k p; omega)) CG, ?_, ?_, ?_, ?_, ?_, w3⟩
    · exact e1_fr w2 (fun k n p => n259 k n (by have := p1_kind p; omega)) (e1_fr v2 (fun k n p => n231 k n (by have := p1_kind p; omega)) E0F)
    · exact e1_fr w2 (fun k n p => n259 k n (by have := p1_kind p; omega)) (e1_fr v2 (fun k n p => n231 k n (by have := p1_kind p; omega)) E1F)
    · have t : ∀ j, hH.2.2 38 0 j = hE.2.2 38 0 j := fun j => by rw [(w2 38 0 (n259 _ _ (by omega)) j).2.2, (v2 38 0 (n231 _ _ (by omega)) j).2.2, u4 38 0 j (Or.inl (by decide))]
      rw [t, t]; exact ⟨z5, z6⟩
    · intro j j0 j1
      rw [(w2 8 j (n259 _ _ (by omega)) 1).2.2, (v2 8 j (n231 _ _ (by omega)) 1).2.2, (w2 8 (16 + j) (n259 _ _ (by omega)) 1).2.2, (v2 8 (16 + j) (n231 _ _ (by omega)) 1).2.2]
      exact u5 j j0 j1
    · intro j j0 j1
      exact ql_fr w2 (v3 j j0 j1) (fun k hk => n259 k j (by omega)) (w2 39 0 (n259 _ _ (by omega)) j).2.2
end IG
