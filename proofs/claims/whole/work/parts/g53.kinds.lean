/-! ===== kinds: an object of class k (k < 13), or the array that a field of a class holds ===== -/
def j_fc0 : List Nat := [11, 14, 18, 14, 18, 12, 0, 16, 3, 0, 0, 0, 0, 0, 0, 1]
def j_fc1 : List Nat := [0, 30, 31, 32, 0, 33, 34, 15]
def j_fc2 : List Nat := [35, 0, 0, 0, 0, 0]
def j_fc3 : List Nat := [36, 37, 0]
def j_fc4 : List Nat := [0, 38, 39, 40, 0, 1, 1, 1, 0, 0, 0, 10, 10, 10, 0, 0, 0, 0, 0, 0]
def j_fc5 : List Nat := [0, 0, 0, 0, 0, 0, 0, 0, 41, 42, 43]
def j_fc6 : List Nat := [3, 0, 0, 0, 0]
def j_fc7 : List Nat := [44, 45, 0, 0]
def j_fc8 : List Nat := [0, 18, 0, 10, 0, 0]
def j_fc9 : List Nat := [0, 0, 0, 0, 3, 0]
def j_fc10 : List Nat := [46, 0, 0, 0, 47, 0]
def j_fc11 : List Nat := [0, 0, 48, 49, 50, 13, 17, 17, 20, 3, 0, 0, 0, 0]
def j_fc12 : List Nat := [0, 0, 0, 113, 0, 115, 116, 117, 118, 119, 120, 121, 122, 123, 124, 125, 126, 127, 128, 129, 130, 131, 132, 133, 134, 135, 136, 137, 138, 139, 140, 141, 0, 143, 144, 145, 146, 147, 148, 149, 150, 151, 152, 153, 154, 155, 156, 157, 158, 159, 160, 161, 162, 163, 164, 165, 166, 0, 168, 169, 170, 171, 172, 173, 174, 175, 176, 177, 178, 179, 0, 181, 182, 183, 184, 0, 186, 187, 188, 0, 190, 191, 192, 0, 194, 195, 196, 197, 198, 199, 0, 201]
def j_fcs : List (List Nat) := [j_fc0, j_fc1, j_fc2, j_fc3, j_fc4, j_fc5, j_fc6, j_fc7, j_fc8, j_fc9, j_fc10, j_fc11, j_fc12]
/-- the code of what an array of this kind holds: 0 int, 1 boolean, 2 byte, 3 long, 10 + k a reference to kind k -/
def j_ac : Nat → Nat
  | 20 => 18
  | 21 => 12
  | 22 => 16
  | 25 => 14
  | 28 => 1
  | 29 => 3
  | 30 => 2
  | 31 => 3
  | 32 => 19
  | 33 => 19
  | 36 => 2
  | 37 => 2
  | 38 => 11
  | 39 => 14
  | 40 => 10
  | 112 => 1
  | 113 => 1
  | 124 => 1
  | 127 => 1
  | 148 => 1
  | _ => 0
def j_code (k j : Nat) : Nat := if k < 13 then (j_fcs.getD k []).getD j 0 else j_ac k
def j_ty : Nat → Nat → FieldType
  | 0 => tyX0
  | 1 => tyX1
  | 2 => tyX2
  | 3 => tyX3
  | 4 => tyX4
  | 5 => tyX5
  | 6 => tyX6
  | 7 => tyX7
  | 8 => tyX8
  | 9 => tyX9
  | 10 => tyX10
  | 11 => tyX11
  | 12 => tyX12
  | _ => fun _ => .int
def j_cl (k : Nat) : vw_C := vwCl.getD k ("", fun _ => ("", "", "", false), 0)
abbrev j_N (k : Nat) : Nat := (j_cl k).2.2
def lwg : List Cond := lw_tbl.filter goodWord
theorem lwg_good : ∀ w ∈ lwg, goodWord w = true := fun w h => (List.mem_filter.mp h).2
theorem lwg_in : ∀ w ∈ lwg, w ∈ lw_tbl := fun w h => (List.mem_filter.mp h).1
theorem lwg_of {w : Cond} (i : Nat) (h : lw_tbl[i]? = some w) (g : goodWord w = true) : w ∈ lwg := List.mem_filter.mpr ⟨List.mem_of_getElem? h, g⟩
theorem lw_len : lw_tbl.length = lw_tbl.length := rfl
set_option maxRecDepth 100000 in
theorem j_in0 : ∀ w ∈ wsX00, w ∈ lwg := by
  have h : (wsX00.all fun w => decide (w ∈ lwg)) = true := by decide +kernel
  exact fun w hw => of_decide_eq_true (List.all_eq_true.mp h w hw)
set_option maxRecDepth 100000 in
theorem j_in1 : ∀ w ∈ wsX10, w ∈ lwg := by
  have h : (wsX10.all fun w => decide (w ∈ lwg)) = true := by decide +kernel
  exact fun w hw => of_decide_eq_true (List.all_eq_true.mp h w hw)
set_option maxRecDepth 100000 in
theorem j_in2 : ∀ w ∈ wsX20, w ∈ lwg := by
  have h : (wsX20.all fun w => decide (w ∈ lwg)) = true := by decide +kernel
  exact fun w hw => of_decide_eq_true (List.all_eq_true.mp h w hw)
set_option maxRecDepth 100000 in
theorem j_in3 : ∀ w ∈ wsX30, w ∈ lwg := by
  have h : (wsX30.all fun w => decide (w ∈ lwg)) = true := by decide +kernel
  exact fun w hw => of_decide_eq_true (List.all_eq_true.mp h w hw)
set_option maxRecDepth 100000 in
theorem j_in4 : ∀ w ∈ wsX40, w ∈ lwg := by
  have h : (wsX40.all fun w => decide (w ∈ lwg)) = true := by decide +kernel
  exact fun w hw => of_decide_eq_true (List.all_eq_true.mp h w hw)
set_option maxRecDepth 100000 in
theorem j_in5 : ∀ w ∈ wsX50, w ∈ lwg := by
  have h : (wsX50.all fun w => decide (w ∈ lwg)) = true := by decide +kernel
  exact fun w hw => of_decide_eq_true (List.all_eq_true.mp h w hw)
set_option maxRecDepth 100000 in
theorem j_in6 : ∀ w ∈ wsX60, w ∈ lwg := by
  have h : (wsX60.all fun w => decide (w ∈ lwg)) = true := by decide +kernel
  exact fun w hw => of_decide_eq_true (List.all_eq_true.mp h w hw)
set_option maxRecDepth 100000 in
theorem j_in7 : ∀ w ∈ wsX70, w ∈ lwg := by
  have h : (wsX70.all fun w => decide (w ∈ lwg)) = true := by decide +kernel
  exact fun w hw => of_decide_eq_true (List.all_eq_true.mp h w hw)
set_option maxRecDepth 100000 in
theorem j_in8 : ∀ w ∈ wsX80, w ∈ lwg := by
  have h : (wsX80.all fun w => decide (w ∈ lwg)) = true := by decide +kernel
  exact fun w hw => of_decide_eq_true (List.all_eq_true.mp h w hw)
set_option maxRecDepth 100000 in
theorem j_in9 : ∀ w ∈ wsX90, w ∈ lwg := by
  have h : (wsX90.all fun w => decide (w ∈ lwg)) = true := by decide +kernel
  exact fun w hw => of_decide_eq_true (List.all_eq_true.mp h w hw)
set_option maxRecDepth 100000 in
theorem j_in10 : ∀ w ∈ wsX100, w ∈ lwg := by
  have h : (wsX100.all fun w => decide (w ∈ lwg)) = true := by decide +kernel
  exact fun w hw => of_decide_eq_true (List.all_eq_true.mp h w hw)
set_option maxRecDepth 100000 in
theorem j_in11 : ∀ w ∈ wsX110, w ∈ lwg := by
  have h : (wsX110.all fun w => decide (w ∈ lwg)) = true := by decide +kernel
  exact fun w hw => of_decide_eq_true (List.all_eq_true.mp h w hw)
set_option maxRecDepth 100000 in
theorem j_in12 : ∀ w ∈ wsX120, w ∈ lwg := by
  have h : (wsX120.all fun w => decide (w ∈ lwg)) = true := by decide +kernel
  exact fun w hw => of_decide_eq_true (List.all_eq_true.mp h w hw)
/-- the sort of a code -/
def j_cty (c : Nat) : FieldType → Bool
  | .int => c == 0
  | .boolean => c == 1
  | .byte => c == 2
  | .long => c == 3
  | .object _ => decide (10 ≤ c)
  | .array _ => decide (10 ≤ c)
  | _ => false
def j_CD (k : Nat) : Prop := vwCl[k]? = some (j_cl k) ∧ (∀ w ∈ u_ws (j_cl k).1 (j_cl k).2.1 (j_cl k).2.2, w ∈ lwg) ∧ (∀ j, j < j_N k → parseFieldDescriptor ((j_cl k).2.1 j).2.2.1 = some (j_ty k j)) ∧ (∀ a, a < j_N k → ∀ b, b < j_N k → a ≠ b → ((j_cl k).2.1 a).2.1 ≠ ((j_cl k).2.1 b).2.1) ∧ (∀ j, j < j_N k → j_cty (j_code k j) (j_ty k j) = true)
theorem j_cd0 : j_CD 0 := ⟨rfl, j_in0, tyX0_ok, nmX0, by decide +kernel⟩
theorem j_cd1 : j_CD 1 := ⟨rfl, j_in1, tyX1_ok, nmX1, by decide +kernel⟩
theorem j_cd2 : j_CD 2 := ⟨rfl, j_in2, tyX2_ok, nmX2, by decide +kernel⟩
theorem j_cd3 : j_CD 3 := ⟨rfl, j_in3, tyX3_ok, nmX3, by decide +kernel⟩
theorem j_cd4 : j_CD 4 := ⟨rfl, j_in4, tyX4_ok, nmX4, by decide +kernel⟩
theorem j_cd5 : j_CD 5 := ⟨rfl, j_in5, tyX5_ok, nmX5, by decide +kernel⟩
theorem j_cd6 : j_CD 6 := ⟨rfl, j_in6, tyX6_ok, nmX6, by decide +kernel⟩
theorem j_cd7 : j_CD 7 := ⟨rfl, j_in7, tyX7_ok, nmX7, by decide +kernel⟩
theorem j_cd8 : j_CD 8 := ⟨rfl, j_in8, tyX8_ok, nmX8, by decide +kernel⟩
theorem j_cd9 : j_CD 9 := ⟨rfl, j_in9, tyX9_ok, nmX9, by decide +kernel⟩
theorem j_cd10 : j_CD 10 := ⟨rfl, j_in10, tyX10_ok, nmX10, by decide +kernel⟩
theorem j_cd11 : j_CD 11 := ⟨rfl, j_in11, tyX11_ok, nmX11, by decide +kernel⟩
theorem j_cd12 : j_CD 12 := ⟨rfl, j_in12, tyX12_ok, nmX12, by decide +kernel⟩
theorem j_cd : ∀ k, k < 13 → j_CD k
  | 0, _ => j_cd0
  | 1, _ => j_cd1
  | 2, _ => j_cd2
  | 3, _ => j_cd3
  | 4, _ => j_cd4
  | 5, _ => j_cd5
  | 6, _ => j_cd6
  | 7, _ => j_cd7
  | 8, _ => j_cd8
  | 9, _ => j_cd9
  | 10, _ => j_cd10
  | 11, _ => j_cd11
  | 12, _ => j_cd12
  | k + 13, h => absurd h (by omega)
