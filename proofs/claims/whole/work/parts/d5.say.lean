/-! ===== hooks and sayings ===== -/
def w_ln (k : Nat) (j : Int) : Bool := k == 4 && (j == 5 || j == 18)
def w_lnm (k : Nat) (_ : Int) : Bool := k == 113 || k == 130
section RI
variable {f : Int → Int} {N : Int} {c m c' m' : JM} {B : Int} {H : HT}
theorem rel_ln (hf : f_ok f) (R : relN f N B H c m) (sc : so w_ln c c') (sm : so w_lnm m m') (h2 : r_l (-1) c' m') : relN f N B H c' m' := by
  obtain ⟨R1, R2, R3, R4, R5, R6, R7, R8, R9, R10⟩ := R
  refine ⟨?_, h2, ?_, ?_, ?_, ?_, ?_, ?_, ?_, ?_⟩
  · exact r_k_cg (fun k n j q => by have := sc k n j (by simp [rkC] at q; simp [w_ln]; omega); exact ⟨this.1, this.2.2⟩) (fun k n j q => (sm k n j (by simp [rkM] at q; simp [w_lnm]; omega)).1) R1
  · exact r_h_cg (fun k n j q => sc k n j (by simp [rdC] at q; simp [w_ln]; omega)) (fun k n j q => (sm k n j (by simp [rdM] at q; simp [w_lnm]; omega)).1) R3
  · exact fun e he => r_m_cg (fun k n j q => by rcases q with rfl | rfl <;> exact ⟨(sc _ n j rfl).1, (sc _ n j rfl).2.1⟩) (fun k n j a b => (sm k n j (by simp [w_lnm]; omega)).1) (R4 e he)
  · exact q_cg R5 (fun n => by rw [(sc 0 n 9 rfl).1, (sc 0 n 5 rfl).2.2, (sc 0 n 14 rfl).1]; exact ⟨Iff.rfl, fun _ => ⟨rfl, rfl⟩⟩) hf (fun n j => (sc 2 n j rfl).1) (fun n j => (sc 25 n j rfl).2.2) (fun k j a b => (sm k 0 j (by simp [w_lnm]; omega)).1)
  · exact rr_cg R6 (fun s _ _ => by rw [(sm 133 0 s rfl).1, (sm 135 0 s rfl).1, (sm 137 0 s rfl).1]; exact ⟨Iff.rfl, fun _ _ _ _ => Iff.rfl⟩) (fun e r => (sc 23 e r rfl).1) (sc 11 0 13 rfl).1
  · exact a_cg R7 (fun n => by rw [(sc 0 n 9 rfl).1]) (fun j => (sc 40 0 j rfl).2.2) (sc 11 0 11 rfl).1 (sc 11 0 12 rfl).1 (fun j => (sm 134 0 j rfl).1) (sm 12 0 32 rfl).1
  · exact g_cg R8 (fun j => (sc 26 0 j rfl).1) (fun j => (sc 27 0 j rfl).1) (sc 3 0 2 rfl).1 (fun k j a b => (sm k 0 j (by simp [w_lnm]; omega)).1) (sm 12 0 90 rfl).1
  · exact r_p_cg (fun k n j q => sc k n j (by simp [rpC] at q; simp [w_ln]; omega)) (fun k n j q => (sm k n j (by simp [rpM] at q; simp [w_lnm]; omega)).1) R9
  · exact r_f_cg (fun k n j q => sc k n j (by simp [rpC] at q; simp [w_ln]; omega)) (fun k n j q => (sm k n j (by simp [rpM] at q; simp [w_lnm]; omega)).1) R10
end RI
