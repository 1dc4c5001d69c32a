/-! ===== the memory in my words: ints, longs, references, each by kind, number and place ===== -/
abbrev JM : Type := (Nat → Int → Int → Int) × (Nat → Int → Int → Int) × (Nat → Int → Int → Option Int)
/-- a value on the stack or in a local: an int, a long, a reference (kind, number) or null -/
abbrev JV : Type := Int ⊕ (Int ⊕ Option (Nat × Int))
/-- a world: which cells are there, how long arrays are, which references never change -/
abbrev JW : Type := (JM → Nat → Int → Prop) × (JM → Nat → Int → Int) × (Nat → Int → Int → Option (Option Int))
/-- the machine's side: class numbers and slots, array classes, the first address -/
abbrev JG : Type := va_G × ((Nat → ClassId) × Cell) × Nat
abbrev JA : Type := Nat → Int → Nat
/-- a method: its class, its bytes, its locals, what it returns, whether it is a constructor -/
abbrev JT : Type := String × ByteArray × Nat × Option FieldType × Bool
def sI (h : JM) (k : Nat) (n j v : Int) : JM := (fun k' n' j' => if k' = k ∧ n' = n ∧ j' = j then v else h.1 k' n' j', h.2)
def sL (h : JM) (k : Nat) (n j v : Int) : JM := (h.1, fun k' n' j' => if k' = k ∧ n' = n ∧ j' = j then v else h.2.1 k' n' j', h.2.2)
def sR (h : JM) (k : Nat) (n j : Int) (v : Option Int) : JM := (h.1, h.2.1, fun k' n' j' => if k' = k ∧ n' = n ∧ j' = j then v else h.2.2 k' n' j')
def j_r32 (x : Int) : Prop := -2147483648 ≤ x ∧ x < 2147483648
def j_r64 (x : Int) : Prop := -9223372036854775808 ≤ x ∧ x < 9223372036854775808
def w32 (x : Int) : Int := x.bmod 4294967296
def w64 (x : Int) : Int := x.bmod 18446744073709551616
theorem w32_of {x : Int} (h1 : -2147483648 ≤ x) (h2 : x < 2147483648) : w32 x = x := by
  unfold w32; rw [Int.bmod_def]; split <;> omega
theorem w64_of {x : Int} (h1 : -9223372036854775808 ≤ x) (h2 : x < 9223372036854775808) : w64 x = x := by
  unfold w64; rw [Int.bmod_def]; split <;> omega
theorem w32_r (x : Int) : j_r32 (w32 x) := by
  unfold w32 j_r32; rw [Int.bmod_def]; split <;> omega
theorem w64_r (x : Int) : j_r64 (w64 x) := by
  unfold w64 j_r64; rw [Int.bmod_def]; split <;> omega
theorem w32_i (x : Int) : Int32.ofInt (w32 x) = Int32.ofInt x := by
  rw [← Int32.toInt_inj, Int32.toInt_ofInt, Int32.toInt_ofInt]
  show Int.bmod (Int.bmod x 4294967296) 4294967296 = Int.bmod x 4294967296
  exact Int.bmod_bmod
theorem w64_i (x : Int) : Int64.ofInt (w64 x) = Int64.ofInt x := by
  rw [← Int64.toInt_inj, Int64.toInt_ofInt, Int64.toInt_ofInt]
  show Int.bmod (Int.bmod x 18446744073709551616) 18446744073709551616 = Int.bmod x 18446744073709551616
  exact Int.bmod_bmod
theorem j_t32 {x : Int} (h : j_r32 x) : (Int32.ofInt x).toInt = x := Int32.toInt_ofInt_of_le h.1 h.2
theorem j_t64 {x : Int} (h : j_r64 x) : (Int64.ofInt x).toInt = x := Int64.toInt_ofInt_of_le h.1 h.2
theorem j_b32 (z : Int32) : j_r32 z.toInt := ⟨z.le_toInt, z.toInt_lt⟩
theorem j_b64 (z : Int64) : j_r64 z.toInt := ⟨z.le_toInt, z.toInt_lt⟩
theorem j_eq32 {x y : Int} (hx : j_r32 x) (hy : j_r32 y) : Int32.ofInt x = Int32.ofInt y ↔ x = y := by
  rw [← Int32.toInt_inj, j_t32 hx, j_t32 hy]
theorem j_lt32 {x y : Int} (hx : j_r32 x) (hy : j_r32 y) : Int32.ofInt x < Int32.ofInt y ↔ x < y := by
  rw [Int32.lt_iff_toInt_lt, j_t32 hx, j_t32 hy]
theorem j_le32 {x y : Int} (hx : j_r32 x) (hy : j_r32 y) : Int32.ofInt x ≤ Int32.ofInt y ↔ x ≤ y := by
  rw [Int32.le_iff_toInt_le, j_t32 hx, j_t32 hy]
/-- arithmetic -/
def j_div (x y : Int) : Int := (Int32.ofInt x / Int32.ofInt y).toInt
def j_rem (x y : Int) : Int := (Int32.ofInt x - Int32.ofInt x / Int32.ofInt y * Int32.ofInt y).toInt
def j_and (x y : Int) : Int := (Int32.ofInt x &&& Int32.ofInt y).toInt
def j_or (x y : Int) : Int := (Int32.ofInt x ||| Int32.ofInt y).toInt
def j_xor (x y : Int) : Int := (Int32.ofInt x ^^^ Int32.ofInt y).toInt
def j_shl (x y : Int) : Int := (Int32.ofInt x <<< (Int32.ofInt y &&& 31)).toInt
def j_shr (x y : Int) : Int := (Int32.ofInt x >>> (Int32.ofInt y &&& 31)).toInt
def j_i2b (x : Int) : Int := (Int32.ofInt x).toInt8.toInt32.toInt
def j_land (x y : Int) : Int := (Int64.ofInt x &&& Int64.ofInt y).toInt
def j_lor (x y : Int) : Int := (Int64.ofInt x ||| Int64.ofInt y).toInt
def j_lxor (x y : Int) : Int := (Int64.ofInt x ^^^ Int64.ofInt y).toInt
def j_lshl (x y : Int) : Int := (Int64.ofInt x <<< ((Int32.ofInt y).toInt64 &&& 63)).toInt
def j_lshr (x y : Int) : Int := (Int64.ofInt x >>> ((Int32.ofInt y).toInt64 &&& 63)).toInt
def j_lcmp (x y : Int) : Int := if y < x then 1 else if x = y then 0 else -1
def j_nw (h : JM) (k : Nat) (n len : Int) : JM := (fun k' n' j' => if k' = k ∧ n' = n then 0 else if k' = k + 1000 ∧ n' = n then (if j' = 0 then 1 else if j' = 1 then len else h.1 k' n' j') else h.1 k' n' j', fun k' n' j' => if k' = k ∧ n' = n then 0 else h.2.1 k' n' j', fun k' n' j' => if k' = k ∧ n' = n then none else h.2.2 k' n' j')
def g_ {β : Type} (c : Prop) [Decidable c] (x : Option β) : Option β := if c then x else none
def lt_ {α β : Type} (x : α) (f : α → Option β) : Option β := f x
def j_fu : Nat := 100000
theorem g_e {β : Type} {c : Prop} [Decidable c] {x : Option β} {r : β} (H : g_ c x = some r) : c ∧ x = some r := by
  unfold g_ at H
  by_cases hc : c
  · rw [if_pos hc] at H; exact ⟨hc, H⟩
  · rw [if_neg hc] at H; cases H
theorem lt_e {α β : Type} {x : α} {f : α → Option β} {r : β} (H : lt_ x f = some r) : ∃ y, y = x ∧ f y = some r := ⟨x, rfl, H⟩
theorem bd_e {α β : Type} {x : Option α} {f : α → Option β} {r : β} (H : x.bind f = some r) : ∃ y, x = some y ∧ f y = some r := by
  cases x with
  | none => cases H
  | some y => exact ⟨y, rfl, H⟩
theorem if_pe {β : Type} {c : Prop} [Decidable c] (hc : c) {x y : Option β} {r : β} (H : (if c then x else y) = some r) : x = some r := by rw [if_pos hc] at H; exact H
theorem if_ne {β : Type} {c : Prop} [Decidable c] (hc : ¬ c) {x y : Option β} {r : β} (H : (if c then x else y) = some r) : y = some r := by rw [if_neg hc] at H; exact H
