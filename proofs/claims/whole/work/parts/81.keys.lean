/-! ===== keys in one number ===== -/
def k_pk : List Nat → Nat
  | [] => 0
  | k :: K => k + 16 * k_pk K
/-- the number of a list of keys -/
def k_P (K : List Nat) : Nat := k_pk K + K.length * 2 ^ 48
def k_ok (K : List Nat) : Prop := K.length ≤ 12 ∧ ∀ k ∈ K, k < 12
theorem k_lt : ∀ {K : List Nat}, (∀ k ∈ K, k < 12) → k_pk K < 16 ^ K.length
  | [], _ => by decide
  | k :: K, h => by
    have h1 := k_lt (K := K) (fun q hq => h q (List.mem_cons_of_mem _ hq))
    have h2 := h k List.mem_cons_self
    show k + 16 * k_pk K < 16 ^ (K.length + 1)
    rw [Nat.pow_succ]; omega
theorem k_lt48 {K : List Nat} (h : k_ok K) : k_pk K < 2 ^ 48 := by
  have h1 := k_lt h.2
  have h2 : 16 ^ K.length ≤ 16 ^ 12 := Nat.pow_le_pow_right (by decide) h.1
  have h3 : (16 : Nat) ^ 12 = 2 ^ 48 := by decide
  omega
theorem k_P_lt {K : List Nat} (h : k_ok K) : k_P K < 2 ^ 52 := by
  have h1 := k_lt48 h
  have h2 := h.1
  unfold k_P
  have : K.length * 2 ^ 48 ≤ 12 * 2 ^ 48 := Nat.mul_le_mul_right _ h2
  omega
theorem k_app : ∀ (K : List Nat) (k : Nat), k_pk (K ++ [k]) = k_pk K + k * 16 ^ K.length
  | [], k => by simp [k_pk]
  | a :: K, k => by
    show a + 16 * k_pk (K ++ [k]) = a + 16 * k_pk K + k * 16 ^ (K.length + 1)
    rw [k_app K k, Nat.pow_succ, Nat.mul_add]
    have : 16 * (k * 16 ^ K.length) = k * (16 ^ K.length * 16) := by rw [Nat.mul_comm (16 ^ K.length) 16, ← Nat.mul_assoc, ← Nat.mul_assoc, Nat.mul_comm 16 k]
    omega
theorem k_drop1 {k : Nat} {K : List Nat} (h : k < 16) : k_pk (k :: K) / 16 = k_pk K := by
  show (k + 16 * k_pk K) / 16 = _
  omega
theorem k_drop : ∀ (a : Nat) {K : List Nat}, (∀ k ∈ K, k < 12) → k_pk K / 16 ^ a = k_pk (K.drop a)
  | 0, K, _ => by simp
  | a + 1, [], _ => by simp [k_pk]
  | a + 1, k :: K, h => by
    rw [Nat.pow_succ, Nat.mul_comm, ← Nat.div_div_eq_div_mul, k_drop1 (by have := h k List.mem_cons_self; omega)]
    exact k_drop a (fun q hq => h q (List.mem_cons_of_mem _ hq))
theorem k_take : ∀ (a : Nat) {K : List Nat}, (∀ k ∈ K, k < 12) → k_pk K % 16 ^ a = k_pk (K.take a)
  | 0, K, _ => by simp [k_pk, Nat.mod_one]
  | a + 1, [], _ => by simp [k_pk]
  | a + 1, k :: K, h => by
    have h1 := k_take a (K := K) (fun q hq => h q (List.mem_cons_of_mem _ hq))
    have h2 := h k List.mem_cons_self
    show (k + 16 * k_pk K) % 16 ^ (a + 1) = k + 16 * k_pk (K.take a)
    rw [← h1, Nat.pow_succ, Nat.mul_comm (16 ^ a) 16, Nat.mod_mul]
    have e1 : (k + 16 * k_pk K) % 16 = k := by omega
    have e2 : (k + 16 * k_pk K) / 16 = k_pk K := by omega
    rw [e1, e2]
theorem k_inj : ∀ {K L : List Nat}, (∀ k ∈ K, k < 12) → (∀ k ∈ L, k < 12) → K.length = L.length → k_pk K = k_pk L → K = L
  | [], [], _, _, _, _ => rfl
  | [], _ :: _, _, _, h, _ => by cases h
  | _ :: _, [], _, _, h, _ => by cases h
  | k :: K, l :: L, hK, hL, h, e => by
    have h1 := hK k List.mem_cons_self
    have h2 := hL l List.mem_cons_self
    have e : k + 16 * k_pk K = l + 16 * k_pk L := e
    have ek : k = l := by omega
    have e2 : k_pk K = k_pk L := by omega
    rw [ek, k_inj (fun q hq => hK q (List.mem_cons_of_mem _ hq)) (fun q hq => hL q (List.mem_cons_of_mem _ hq)) (by simpa using h) e2]
theorem k_P_inj {K L : List Nat} (hK : k_ok K) (hL : k_ok L) : k_P K = k_P L ↔ K = L := by
  constructor
  · intro e
    have h1 := k_lt48 hK
    have h2 := k_lt48 hL
    unfold k_P at e
    have el : K.length = L.length := by omega
    exact k_inj hK.2 hL.2 el (by rw [el] at e; omega)
  · intro e; rw [e]
theorem k_P0 {K : List Nat} (hK : k_ok K) : k_P K = 0 ↔ K = [] := k_P_inj (L := []) hK ⟨by simp, fun _ q => by cases q⟩
theorem f_countOf {K : List Nat} (hK : k_ok K) (h : JM) : F11_countOf (k_P K) h = some ((K.length : Int), h) := by
  have h1 := k_lt48 hK
  have h2 := hK.1
  have h3 := k_P_lt hK
  unfold F11_countOf
  rw [show ((48 : Int)) = ((48 : Nat) : Int) from rfl, n_lshr (by omega) (by decide)]
  have e : k_P K / 2 ^ 48 = K.length := by
    unfold k_P
    rw [Nat.add_mul_div_right _ _ (by decide), Nat.div_eq_of_lt h1, Nat.zero_add]
  rw [e, w32_of (by omega) (by omega)]
theorem k_or {a b k : Nat} (ha : a < 2 ^ k) : a ||| (b * 2 ^ k) = a + b * 2 ^ k := by
  rw [Nat.or_comm, ← Nat.shiftLeft_eq, ← Nat.shiftLeft_add_eq_or_of_lt ha, Nat.add_comm]
theorem k_mask {K : List Nat} (hK : k_ok K) : (k_P K &&& 281474976710655) = k_pk K := by
  have h1 := k_lt48 hK
  rw [show (281474976710655 : Nat) = 2 ^ 48 - 1 by decide, Nat.and_two_pow_sub_one_eq_mod]
  unfold k_P
  rw [Nat.add_mul_mod_self_right, Nat.mod_eq_of_lt h1]
theorem k_land {K : List Nat} (hK : k_ok K) : j_land (k_P K) 281474976710655 = ((k_pk K : Nat) : Int) := by
  have h3 := k_P_lt hK
  rw [show (281474976710655 : Int) = ((281474976710655 : Nat) : Int) from rfl, n_land (by omega) (by decide), k_mask hK]
theorem k16 (n : Nat) : (16 : Nat) ^ n = 2 ^ (4 * n) := by rw [Nat.pow_mul]
theorem f_withKey {K : List Nat} (hK : k_ok K) (hl : K.length < 12) {k : Nat} (hk : k < 12) (h : JM) : F11_withKey (k_P K) k h = some ((k_P (K ++ [k]) : Int), h) := by
  have h1 := k_lt hK.2
  have h48 := k_lt48 hK
  unfold F11_withKey
  rw [f_countOf hK]
  show some (_, h) = _
  have e4 : w32 (4 * (K.length : Int)) = ((4 * K.length : Nat) : Int) := by rw [w32_of (by omega) (by omega)]; rfl
  have e5 : w32 ((K.length : Int) + 1) = ((K.length + 1 : Nat) : Int) := by rw [w32_of (by omega) (by omega)]; rfl
  have p1 : 2 ^ (4 * K.length) ≤ 2 ^ 44 := Nat.pow_le_pow_right (by decide) (by omega)
  have hb : k * 2 ^ (4 * K.length) ≤ 11 * 2 ^ 44 := Nat.mul_le_mul (by omega) p1
  have hc : (K.length + 1) * 2 ^ 48 ≤ 12 * 2 ^ 48 := Nat.mul_le_mul_right _ (by omega)
  rw [k16] at h1
  dsimp only
  rw [e4, e5, k_land hK, n_lshl (by omega) (by omega), show (48 : Int) = ((48 : Nat) : Int) from rfl, n_lshl (by decide) (by omega), n_lor (by omega) (by omega), k_or h1]
  rw [n_lor (by omega) (by omega), k_or (by omega)]
  have e9 : k_pk K + k * 2 ^ (4 * K.length) + (K.length + 1) * 2 ^ 48 = k_P (K ++ [k]) := by
    unfold k_P
    rw [k_app, k16, List.length_append, List.length_singleton]
  rw [e9]
theorem k_okd {K : List Nat} (hK : k_ok K) (a : Nat) : k_ok (K.drop a) := ⟨by have := hK.1; simp; omega, fun k hk => hK.2 k (List.mem_of_mem_drop hk)⟩
theorem k_oka {K : List Nat} (hK : k_ok K) (hl : K.length < 12) {k : Nat} (hk : k < 12) : k_ok (K ++ [k]) := ⟨by simp; omega, fun q hq => by
  rcases List.mem_append.mp hq with z | z
  · exact hK.2 q z
  · rw [List.mem_singleton.mp z]; exact hk⟩
theorem f_withoutFirst {K : List Nat} (hK : k_ok K) (a : Nat) (ha : a ≤ 12) (h : JM) : F11_withoutFirst (k_P K) a h = some ((k_P (K.drop a) : Int), h) := by
  unfold F11_withoutFirst
  rw [f_countOf hK]
  show (if (a : Int) < (K.length : Int) then _ else _) = _
  have h2 := hK.1
  by_cases c : (a : Int) < (K.length : Int)
  · rw [if_pos c]
    dsimp only
    have h48 := k_lt48 hK
    have e4 : w32 (4 * (a : Int)) = ((4 * a : Nat) : Int) := by rw [w32_of (by omega) (by omega)]; rfl
    have e5 : w32 ((K.length : Int) - (a : Int)) = ((K.length - a : Nat) : Int) := by rw [w32_of (by omega) (by omega)]; omega
    have hc : (K.length - a) * 2 ^ 48 ≤ 12 * 2 ^ 48 := Nat.mul_le_mul_right _ (by omega)
    have e6 : k_pk K / 2 ^ (4 * a) = k_pk (K.drop a) := by rw [← k16]; exact k_drop a hK.2
    have h7 := k_lt48 (k_okd hK a)
    rw [e4, e5, k_land hK, n_lshr (by omega) (by omega), show (48 : Int) = ((48 : Nat) : Int) from rfl, n_lshl (by decide) (by omega), e6, n_lor (by omega) (by omega), k_or h7]
    have e9 : k_pk (K.drop a) + (K.length - a) * 2 ^ 48 = k_P (K.drop a) := by
      unfold k_P
      rw [List.length_drop]
    rw [e9]
  · rw [if_neg c]
    have : K.drop a = [] := List.drop_eq_nil_of_le (by omega)
    rw [this]
    rfl
theorem k_xor {a b n : Nat} : (a ^^^ b) % 2 ^ n = 0 ↔ a % 2 ^ n = b % 2 ^ n := by
  rw [Nat.xor_mod_two_pow]
  constructor
  · intro e
    have h : (a % 2 ^ n ^^^ b % 2 ^ n) ^^^ b % 2 ^ n = b % 2 ^ n := by rw [e, Nat.zero_xor]
    rw [Nat.xor_assoc, Nat.xor_self, Nat.xor_zero] at h
    exact h
  · intro e; rw [e, Nat.xor_self]
/-- K begins with S -/
theorem f_beginsWith {K S : List Nat} (hK : k_ok K) (hS : k_ok S) (h : JM) : F11_beginsWith (k_P K) (k_P S) h = some (if S.length ≤ K.length ∧ K.take S.length = S then 1 else 0, h) := by
  have k1 := k_lt48 hK
  have s1 := k_lt48 hS
  have k2 := k_P_lt hK
  have s2 := k_P_lt hS
  have k3 := hK.1
  have s3 := hS.1
  unfold F11_beginsWith F11_beginsWith_39
  have eS : j_lshr (k_P S) 48 = (S.length : Int) := by
    rw [show (48 : Int) = ((48 : Nat) : Int) from rfl, n_lshr (by omega) (by decide)]
    unfold k_P
    rw [Nat.add_mul_div_right _ _ (by decide), Nat.div_eq_of_lt s1, Nat.zero_add]
  have eK : j_lshr (k_P K) 48 = (K.length : Int) := by
    rw [show (48 : Int) = ((48 : Nat) : Int) from rfl, n_lshr (by omega) (by decide)]
    unfold k_P
    rw [Nat.add_mul_div_right _ _ (by decide), Nat.div_eq_of_lt k1, Nat.zero_add]
  rw [eS, eK, lt_d, w32_of (by omega) (by omega)]
  by_cases c : (K.length : Int) < (S.length : Int)
  · rw [if_pos (lc_lt.mpr c), if_neg (fun z => by omega)]
  · rw [if_neg (fun z => c (lc_lt.mp z))]
    have e4 : w32 (4 * (S.length : Int)) = ((4 * S.length : Nat) : Int) := by rw [w32_of (by omega) (by omega)]; rfl
    have p1 : 2 ^ (4 * S.length) ≤ 2 ^ 48 := Nat.pow_le_pow_right (by decide) (by omega)
    have p0 : 0 < 2 ^ (4 * S.length) := Nat.pow_pos (by decide)
    have e5 : w64 (j_lshl 1 ((4 * S.length : Nat) : Int) - 1) = ((2 ^ (4 * S.length) - 1 : Nat) : Int) := by
      rw [show (1 : Int) = ((1 : Nat) : Int) from rfl, n_lshl (by omega) (by omega), Nat.one_mul, w64_of (by omega) (by omega)]
      omega
    have hx : k_P K ^^^ k_P S < 2 ^ 63 := Nat.xor_lt_two_pow (by omega) (by omega)
    rw [e4, e5, n_lxor (by omega) (by omega), n_land hx (by omega), Nat.and_two_pow_sub_one_eq_mod]
    have m1 : k_P K % 2 ^ (4 * S.length) = k_pk (K.take S.length) := by
      rw [← k_take S.length hK.2, k16]
      unfold k_P
      have : (2 : Nat) ^ 48 = 2 ^ (4 * S.length) * 2 ^ (48 - 4 * S.length) := by rw [← Nat.pow_add, show 4 * S.length + (48 - 4 * S.length) = 48 by omega]
      rw [this, Nat.mul_comm K.length, Nat.mul_assoc, Nat.add_mul_mod_self_left]
    have m2 : k_P S % 2 ^ (4 * S.length) = k_pk S := by
      have hs := k_lt hS.2
      rw [k16] at hs
      unfold k_P
      have : (2 : Nat) ^ 48 = 2 ^ (4 * S.length) * 2 ^ (48 - 4 * S.length) := by rw [← Nat.pow_add, show 4 * S.length + (48 - 4 * S.length) = 48 by omega]
      rw [this, Nat.mul_comm S.length, Nat.mul_assoc, Nat.add_mul_mod_self_left, Nat.mod_eq_of_lt hs]
    have iff1 : j_lcmp (((k_P K ^^^ k_P S) % 2 ^ (4 * S.length) : Nat) : Int) 0 = 0 ↔ K.take S.length = S := by
      rw [lc_eq, show ((((k_P K ^^^ k_P S) % 2 ^ (4 * S.length) : Nat) : Int) = 0) ↔ ((k_P K ^^^ k_P S) % 2 ^ (4 * S.length) = 0) by omega, k_xor, m1, m2]
      constructor
      · intro e
        exact k_inj (fun k hk => hK.2 k (List.mem_of_mem_take hk)) hS.2 (by rw [List.length_take]; omega) e
      · intro e; rw [e]
    by_cases c2 : K.take S.length = S
    · rw [if_pos (iff1.mpr c2), if_pos ⟨by omega, c2⟩]
    · rw [if_neg (fun z => c2 (iff1.mp z)), if_neg (fun z => c2 z.2)]
