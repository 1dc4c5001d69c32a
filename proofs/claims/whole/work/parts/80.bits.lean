theorem nx_and (a b : Nat) : nI a &&& nI b = nI (a &&& b) := by
  apply Int32.toBitVec_inj.1
  show BitVec.ofNat 32 a &&& BitVec.ofNat 32 b = BitVec.ofNat 32 (a &&& b)
  apply BitVec.eq_of_getLsbD_eq
  intro i hi
  simp [hi]
theorem nx_xor (a b : Nat) : nI a ^^^ nI b = nI (a ^^^ b) := by
  apply Int32.toBitVec_inj.1
  show BitVec.ofNat 32 a ^^^ BitVec.ofNat 32 b = BitVec.ofNat 32 (a ^^^ b)
  apply BitVec.eq_of_getLsbD_eq
  intro i hi
  simp [hi]
theorem wb_tb (n : Nat) : (lN n).toBitVec = BitVec.ofNat 64 n := rfl
theorem wb_inj {a b : Int64} (h : a.toBitVec = b.toBitVec) : a = b := Int64.toBitVec_inj.mp h
theorem wb_c : ∀ k, k < 64 → ((nI k).toInt64 &&& 63) = lN k := by decide +kernel
theorem wb_sm : ∀ k, k < 64 → (BitVec.ofNat 64 k).smod 64 = BitVec.ofNat 64 k := by decide +kernel
theorem wb_lt2 {a b : Nat} (h : a < b) : 2 ^ a < 2 ^ b := Nat.pow_lt_pow_right (by decide) h
theorem wb_shl (n : Nat) {k : Nat} (hk : k < 64) : lN n <<< ((nI k).toInt64 &&& 63) = lN (n * 2 ^ k) := by
  rw [wb_c k hk]
  apply wb_inj
  rw [Int64.toBitVec_shiftLeft, wb_tb, wb_tb, wb_tb, wb_sm k hk]
  apply BitVec.eq_of_toNat_eq
  rw [BitVec.shiftLeft_eq', BitVec.toNat_shiftLeft, BitVec.toNat_ofNat, BitVec.toNat_ofNat, BitVec.toNat_ofNat, Nat.mod_eq_of_lt (show k < 2 ^ 64 by omega), Nat.shiftLeft_eq, Nat.mul_mod, Nat.mod_mod, ← Nat.mul_mod]
theorem wb_and {a b : Nat} (ha : a < 2 ^ 64) (hb : b < 2 ^ 64) : lN a &&& lN b = lN (a &&& b) := by
  apply wb_inj
  rw [Int64.toBitVec_and, wb_tb, wb_tb, wb_tb]
  apply BitVec.eq_of_toNat_eq
  rw [BitVec.toNat_and, BitVec.toNat_ofNat, BitVec.toNat_ofNat, BitVec.toNat_ofNat, Nat.mod_eq_of_lt ha, Nat.mod_eq_of_lt hb, Nat.mod_eq_of_lt (Nat.and_lt_two_pow _ hb)]
theorem wb_or {a b : Nat} (ha : a < 2 ^ 64) (hb : b < 2 ^ 64) : lN a ||| lN b = lN (a ||| b) := by
  apply wb_inj
  rw [Int64.toBitVec_or, wb_tb, wb_tb, wb_tb]
  apply BitVec.eq_of_toNat_eq
  rw [BitVec.toNat_or, BitVec.toNat_ofNat, BitVec.toNat_ofNat, BitVec.toNat_ofNat, Nat.mod_eq_of_lt ha, Nat.mod_eq_of_lt hb, Nat.mod_eq_of_lt (Nat.or_lt_two_pow ha hb)]
theorem wb_mask {n k : Nat} (hn : n < 2 ^ 64) (hk : k < 64) : lN n &&& lN (2 ^ k - 1) = lN (n % 2 ^ k) := by
  rw [wb_and hn (by have := wb_lt2 hk; omega), Nat.and_two_pow_sub_one_eq_mod]
theorem pf_lI {a : Nat} (h : a < 2 ^ 63) : (lN a).toInt = (a : Int) := lg_ofNat_toInt h
theorem pf_shr {a d : Nat} {D : Int64} (hD : (D.toBitVec.smod 64).toNat = d) (h : a < 2 ^ 62) : lN a >>> D = lN (a / 2 ^ d) := by
  have hd : a / 2 ^ d ≤ a := Nat.div_le_self _ _
  apply Int64.toInt_inj.mp
  have e : (lN a >>> D).toInt = (lN a).toInt >>> d := by
    rw [← hD]
    exact BitVec.toInt_sshiftRight ..
  rw [e, Int.shiftRight_eq_div_pow, pf_lI (by omega), pf_lI (by omega)]
  rfl
theorem lN_bv (n : Nat) : (lN n).toBitVec = BitVec.ofNat 64 n := rfl
theorem lN_xor (a b : Nat) : lN a ^^^ lN b = lN (a ^^^ b) := by
  apply Int64.toBitVec_inj.mp; rw [Int64.toBitVec_xor, lN_bv, lN_bv, lN_bv]; apply BitVec.eq_of_getLsbD_eq; intro i hi; simp [BitVec.getLsbD_ofNat, Nat.testBit_xor, hi]
/-! ===== numbers in my words ===== -/
theorem g_t {β : Type} {c : Prop} [Decidable c] (hc : c) (x : Option β) : g_ c x = x := if_pos hc
theorem lt_d {α β : Type} (x : α) (f : α → Option β) : lt_ x f = f x := rfl
theorem n_oi (n : Nat) : Int32.ofInt (n : Int) = nI n := Int32.ofInt_eq_ofNat
theorem n_ol (n : Nat) : Int64.ofInt (n : Int) = lN n := Int64.ofInt_eq_ofNat
theorem n_div {a d : Nat} (ha : a < 2 ^ 31) (h0 : 0 < d) (hd : d < 2 ^ 31) : j_div a d = ((a / d : Nat) : Int) := by
  unfold j_div
  rw [n_oi, n_oi, pk_div ha h0 hd, nI_toInt (Nat.lt_of_le_of_lt (Nat.div_le_self _ _) ha)]
theorem n_rem {a d : Nat} (ha : a < 2 ^ 31) (h0 : 0 < d) (hd : d < 2 ^ 31) : j_rem a d = ((a % d : Nat) : Int) := by
  unfold j_rem
  rw [n_oi, n_oi, pk_rem ha h0 hd, nI_toInt (Nat.lt_of_le_of_lt (Nat.mod_le _ _) ha)]
theorem n_and {a b : Nat} (ha : a < 2 ^ 31) : j_and a b = ((a &&& b : Nat) : Int) := by
  unfold j_and
  rw [n_oi, n_oi, nx_and, nI_toInt (Nat.lt_of_le_of_lt Nat.and_le_left ha)]
theorem n_xor {a b : Nat} (ha : a < 2 ^ 31) (hb : b < 2 ^ 31) : j_xor a b = ((a ^^^ b : Nat) : Int) := by
  unfold j_xor
  rw [n_oi, n_oi, nx_xor, nI_toInt (Nat.xor_lt_two_pow ha hb)]
theorem n_amt : ∀ k, k < 32 → ((nI k &&& 31).toBitVec.smod 32).toNat = k := by decide +kernel
theorem n_shr {a k : Nat} (ha : a < 2 ^ 31) (hk : k < 32) : j_shr a k = ((a / 2 ^ k : Nat) : Int) := by
  unfold j_shr
  rw [n_oi, n_oi, pk_shrN ha _ k (n_amt k hk), nI_toInt (Nat.lt_of_le_of_lt (Nat.div_le_self _ _) ha)]
theorem n_shl {a k : Nat} (hk : k < 32) (h : a * 2 ^ k < 2 ^ 31) : j_shl a k = ((a * 2 ^ k : Nat) : Int) := by
  unfold j_shl
  rw [n_oi, n_oi, pk_shlN _ k (n_amt k hk) (by omega), nI_toInt h]
theorem n_lshr {a k : Nat} (ha : a < 2 ^ 62) (hk : k < 64) : j_lshr a k = ((a / 2 ^ k : Nat) : Int) := by
  unfold j_lshr
  rw [n_ol, n_oi, wb_c k hk, pf_shr (d := k) ?_ ha, pf_lI (Nat.lt_of_le_of_lt (Nat.div_le_self _ _) (by omega))]
  rw [wb_tb, wb_sm k hk, BitVec.toNat_ofNat, Nat.mod_eq_of_lt (by omega)]
theorem n_lshl {a k : Nat} (hk : k < 64) (h : a * 2 ^ k < 2 ^ 63) : j_lshl a k = ((a * 2 ^ k : Nat) : Int) := by
  unfold j_lshl
  rw [n_ol, n_oi, wb_shl a hk, pf_lI h]
theorem n_land {a b : Nat} (ha : a < 2 ^ 63) (hb : b < 2 ^ 63) : j_land a b = ((a &&& b : Nat) : Int) := by
  unfold j_land
  rw [n_ol, n_ol, wb_and (by omega) (by omega), pf_lI (Nat.lt_of_le_of_lt Nat.and_le_left ha)]
theorem n_lor {a b : Nat} (ha : a < 2 ^ 63) (hb : b < 2 ^ 63) : j_lor a b = ((a ||| b : Nat) : Int) := by
  unfold j_lor
  rw [n_ol, n_ol, wb_or (by omega) (by omega), pf_lI (Nat.or_lt_two_pow ha hb)]
theorem n_lxor {a b : Nat} (ha : a < 2 ^ 63) (hb : b < 2 ^ 63) : j_lxor a b = ((a ^^^ b : Nat) : Int) := by
  unfold j_lxor
  rw [n_ol, n_ol, lN_xor, pf_lI (Nat.xor_lt_two_pow ha hb)]
/-- the same, of ints that aren't negative -/
theorem i_div {x k : Int} (h0 : 0 ≤ x) (h1 : x < 2147483648) (k0 : 0 < k) (k1 : k < 2147483648) : j_div x k = x / k := by
  obtain ⟨a, rfl⟩ := Int.eq_ofNat_of_zero_le h0
  obtain ⟨d, rfl⟩ := Int.eq_ofNat_of_zero_le (Int.le_of_lt k0)
  rw [n_div (by omega) (by omega) (by omega)]; rfl
theorem i_rem {x k : Int} (h0 : 0 ≤ x) (h1 : x < 2147483648) (k0 : 0 < k) (k1 : k < 2147483648) : j_rem x k = x % k := by
  obtain ⟨a, rfl⟩ := Int.eq_ofNat_of_zero_le h0
  obtain ⟨d, rfl⟩ := Int.eq_ofNat_of_zero_le (Int.le_of_lt k0)
  rw [n_rem (by omega) (by omega) (by omega)]; rfl
theorem i_and {x : Int} (h0 : 0 ≤ x) (h1 : x < 2147483648) (k : Nat) {b : Int} (hb : b = ((2 ^ k - 1 : Nat) : Int)) : j_and x b = x % ((2 ^ k : Nat) : Int) := by
  obtain ⟨a, rfl⟩ := Int.eq_ofNat_of_zero_le h0
  subst hb
  rw [n_and (by omega), Nat.and_two_pow_sub_one_eq_mod]; rfl
theorem i_shr {x y : Int} (k : Nat) (h0 : 0 ≤ x) (h1 : x < 2147483648) (hy : y = (k : Int)) (hk : k < 32) : j_shr x y = x / ((2 ^ k : Nat) : Int) := by
  obtain ⟨a, rfl⟩ := Int.eq_ofNat_of_zero_le h0
  subst hy
  rw [n_shr (by omega) hk]; rfl
/-- lcmp -/
theorem lc_lt {x y : Int} : j_lcmp x y < 0 ↔ x < y := by unfold j_lcmp; (repeat' split) <;> omega
theorem lc_gt {x y : Int} : 0 < j_lcmp x y ↔ y < x := by unfold j_lcmp; (repeat' split) <;> omega
theorem lc_eq {x y : Int} : j_lcmp x y = 0 ↔ x = y := by unfold j_lcmp; (repeat' split) <;> omega
theorem lc_ge {x y : Int} : 0 ≤ j_lcmp x y ↔ y ≤ x := by unfold j_lcmp; (repeat' split) <;> omega
theorem lc_le {x y : Int} : j_lcmp x y ≤ 0 ↔ x ≤ y := by unfold j_lcmp; (repeat' split) <;> omega
/-- reading behind writing -/
theorem rI_I (h : JM) (k : Nat) (n j v : Int) (k' : Nat) (n' j' : Int) : (sI h k n j v).1 k' n' j' = if k' = k ∧ n' = n ∧ j' = j then v else h.1 k' n' j' := rfl
theorem rI_L (h : JM) (k : Nat) (n j v : Int) : (sI h k n j v).2.1 = h.2.1 := rfl
theorem rI_R (h : JM) (k : Nat) (n j v : Int) : (sI h k n j v).2.2 = h.2.2 := rfl
theorem rL_I (h : JM) (k : Nat) (n j v : Int) : (sL h k n j v).1 = h.1 := rfl
theorem rL_L (h : JM) (k : Nat) (n j v : Int) (k' : Nat) (n' j' : Int) : (sL h k n j v).2.1 k' n' j' = if k' = k ∧ n' = n ∧ j' = j then v else h.2.1 k' n' j' := rfl
theorem rL_R (h : JM) (k : Nat) (n j v : Int) : (sL h k n j v).2.2 = h.2.2 := rfl
theorem rR_I (h : JM) (k : Nat) (n j : Int) (v : Option Int) : (sR h k n j v).1 = h.1 := rfl
theorem rR_L (h : JM) (k : Nat) (n j : Int) (v : Option Int) : (sR h k n j v).2.1 = h.2.1 := rfl
theorem rR_R (h : JM) (k : Nat) (n j : Int) (v : Option Int) (k' : Nat) (n' j' : Int) : (sR h k n j v).2.2 k' n' j' = if k' = k ∧ n' = n ∧ j' = j then v else h.2.2 k' n' j' := rfl
