def j_ln (h : JM) (k : Nat) (n : Int) : Int := match k with
  | 20 => h.1 1020 n 1
  | 21 => 3
  | 22 => 24
  | 23 => 2
  | 24 => 2
  | 25 => 8
  | 26 => 16
  | 27 => 1500
  | 28 => 3
  | 29 => 3
  | 30 => 20
  | 31 => 200
  | 32 => 64
  | 33 => 2
  | 34 => 300
  | 35 => 300
  | 36 => 256
  | 37 => 256
  | 38 => 2
  | 39 => 16
  | 40 => 72
  | 103 => 12
  | 105 => 2
  | 106 => 576
  | 107 => 48
  | 108 => 48
  | 109 => 48
  | 110 => 48
  | 111 => 48
  | 112 => 16
  | 113 => 16
  | 114 => 16
  | 115 => 16
  | 116 => 16
  | 117 => 320
  | 118 => 16
  | 119 => 16
  | 120 => 16
  | 121 => 16
  | 122 => 16
  | 123 => 16
  | 124 => 16
  | 125 => 16
  | 126 => 16
  | 127 => 48
  | 128 => 576
  | 129 => 48
  | 130 => 16
  | 131 => 16
  | 133 => 80
  | 134 => 80
  | 135 => 80
  | 136 => 80
  | 137 => 80
  | 138 => 80
  | 139 => 960
  | 140 => 80
  | 141 => 80
  | 142 => 80
  | 143 => 80
  | 144 => 80
  | 145 => 80
  | 146 => 80
  | 147 => 80
  | 148 => 80
  | 149 => 48
  | 150 => 6
  | 151 => 6
  | 152 => 480
  | 153 => 6
  | 154 => 32
  | 155 => 32
  | 156 => 20
  | 158 => 8192
  | 159 => 512
  | 160 => 2
  | 161 => 2
  | 162 => 2
  | 163 => 2
  | 164 => 2
  | 165 => 2
  | 166 => 2
  | 167 => 2
  | 168 => 64
  | 169 => 320
  | 171 => 40960
  | 172 => 128
  | 173 => 2560
  | 174 => 8
  | 176 => 300
  | 177 => 300
  | 178 => 300
  | 180 => 300
  | 181 => 300
  | 182 => 320
  | 184 => 32
  | 185 => 32
  | 186 => 4
  | 187 => 4
  | 188 => 4
  | 189 => 4
  | 191 => 1500
  | 99 => h.1 1099 n 1
  | _ => 0
def j_ly (k : Nat) (n j : Int) : Option (Option Int) := match k with
  | 11 => some (some (if j = 7 then 1 else 0))
  | 12 => some (some n)
  | 1 => some (some n)
  | 2 => some (some n)
  | 3 => some (some n)
  | 5 => some (some n)
  | 7 => some (some n)
  | 10 => some (some n)
  | 4 => if j = 1 then some (some n) else if j = 2 then some (some n) else if j = 3 then some (some n) else none
  | 8 => if j = 1 then some (some (if n < 16 then n + 16 else n - 16)) else none
  | 38 => some (some j)
  | 39 => some (some j)
  | 20 => some (some (16 * n + j))
  | 21 => some (some (3 * n + j))
  | 32 => some (some (64 * n + j))
  | 33 => some (some (128 + 2 * n + j))
  | _ => none
def j_W1 : JW := (fun h k n => k < 1000 ∧ h.1 (k + 1000) n 0 = 1, j_ln, j_ly)
def j_W0 : JW := (fun h k n => k < 1000 ∧ h.1 (k + 1000) n 0 = 1, fun h k n => h.1 (k + 1000) n 1, fun _ _ _ => none)
theorem j_gI (h : JM) (k : Nat) (n j v : Int) (hk : k < 1000) (k' : Nat) (n' j' : Int) : (sI h k n j v).1 (k' + 1000) n' j' = h.1 (k' + 1000) n' j' := if_neg (fun z => by omega)
theorem j_ok0 : j_WOK j_W0 := by
  refine ⟨fun h k n j v hk => ⟨?_, ?_⟩, fun h k n j v => ⟨rfl, rfl⟩, fun h k n j v => ⟨rfl, rfl⟩⟩
  · funext k' n'; show (k' < 1000 ∧ (sI h k n j v).1 (k' + 1000) n' 0 = 1) = _; rw [j_gI h k n j v hk]; rfl
  · funext k' n'; show (sI h k n j v).1 (k' + 1000) n' 1 = _; rw [j_gI h k n j v hk]; rfl
theorem j_ok1 : j_WOK j_W1 := by
  refine ⟨fun h k n j v hk => ⟨?_, ?_⟩, fun h k n j v => ⟨rfl, rfl⟩, fun h k n j v => ⟨rfl, rfl⟩⟩
  · funext k' n'; show (k' < 1000 ∧ (sI h k n j v).1 (k' + 1000) n' 0 = 1) = _; rw [j_gI h k n j v hk]; rfl
  · funext k' n'
    show j_ln (sI h k n j v) k' n' = j_ln h k' n'
    unfold j_ln
    rw [j_gI h k n j v hk 20, j_gI h k n j v hk 99]
theorem j_nwg (h : JM) (k : Nat) (n len : Int) (k' : Nat) (n' : Int) (hk : k < 1000) : (j_nw h k n len).1 (k' + 1000) n' 0 = if k' = k ∧ n' = n then 1 else h.1 (k' + 1000) n' 0 := by
  show (if k' + 1000 = k ∧ n' = n then 0 else if k' + 1000 = k + 1000 ∧ n' = n then (if (0 : Int) = 0 then 1 else if (0 : Int) = 1 then len else h.1 (k' + 1000) n' 0) else h.1 (k' + 1000) n' 0) = _
  rw [if_neg (fun z => by omega)]
  by_cases c : k' = k ∧ n' = n
  · rw [if_pos c, if_pos ⟨by omega, c.2⟩, if_pos rfl]
  · rw [if_neg c, if_neg (fun z => c ⟨by omega, z.2⟩)]
theorem j_nwl (h : JM) (k : Nat) (n len : Int) (k' : Nat) (n' : Int) (hk : k < 1000) : (j_nw h k n len).1 (k' + 1000) n' 1 = if k' = k ∧ n' = n then len else h.1 (k' + 1000) n' 1 := by
  show (if k' + 1000 = k ∧ n' = n then 0 else if k' + 1000 = k + 1000 ∧ n' = n then (if (1 : Int) = 0 then 1 else if (1 : Int) = 1 then len else h.1 (k' + 1000) n' 1) else h.1 (k' + 1000) n' 1) = _
  rw [if_neg (fun z => by omega)]
  by_cases c : k' = k ∧ n' = n
  · rw [if_pos c, if_pos ⟨by omega, c.2⟩, if_neg (by decide), if_pos rfl]
  · rw [if_neg c, if_neg (fun z => c ⟨by omega, z.2⟩)]
theorem j_wn0 {h : JM} {k : Nat} {n : Int} (len : Int) (hk : k < 1000) (q : ¬ h.1 (k + 1000) n 0 = 1) : j_WN j_W0 h k n len := by
  refine ⟨fun k' n' => ?_, fun k' n' z => ?_, ?_, fun z => q z.2, fun j => rfl, fun k' n' z => z.1⟩
  · show (k' < 1000 ∧ _ = 1) ↔ ((k' < 1000 ∧ _ = 1) ∨ _)
    rw [j_nwg h k n len k' n' hk]
    by_cases c : k' = k ∧ n' = n
    · rw [if_pos c]; constructor
      · intro _; exact Or.inr c
      · intro _; exact ⟨by omega, rfl⟩
    · rw [if_neg c]; constructor
      · intro z; exact Or.inl z
      · intro z; exact z.resolve_right c
  · show (j_nw h k n len).1 (k' + 1000) n' 1 = h.1 (k' + 1000) n' 1
    rw [j_nwl h k n len k' n' hk, if_neg z]
  · show (j_nw h k n len).1 (k + 1000) n 1 = len
    rw [j_nwl h k n len k n hk, if_pos ⟨rfl, rfl⟩]
theorem j_wn6 {h : JM} {n : Int} (q : ¬ h.1 1006 n 0 = 1) : j_WN j_W1 h 6 n 0 := by
  refine ⟨(j_wn0 0 (by decide) q).1, fun k' n' z => ?_, rfl, fun z => q z.2, fun j => rfl, fun k' n' z => z.1⟩
  show j_ln (j_nw h 6 n 0) k' n' = j_ln h k' n'
  unfold j_ln
  rw [show (j_nw h 6 n 0).1 1020 n' 1 = h.1 1020 n' 1 from by rw [show (1020 : Nat) = 20 + 1000 from rfl, j_nwl h 6 n 0 20 n' (by decide), if_neg (fun z => absurd z.1 (by decide))], show (j_nw h 6 n 0).1 1099 n' 1 = h.1 1099 n' 1 from by rw [show (1099 : Nat) = 99 + 1000 from rfl, j_nwl h 6 n 0 99 n' (by decide), if_neg (fun z => absurd z.1 (by decide))]]
theorem ln_20 (h : JM) (n : Int) : j_W1.2.1 h 20 n = h.1 1020 n 1 := rfl
theorem ac_20 : j_code 20 0 = 8 + 10 := rfl
theorem rz_20 (h : JM) (n i : Int) : Option.map (Prod.mk 8) (j_R j_W1 h 20 n i) = some (8, (16 * n + i)) := rfl
theorem ln_21 (h : JM) (n : Int) : j_W1.2.1 h 21 n = 3 := rfl
theorem ac_21 : j_code 21 0 = 2 + 10 := rfl
theorem rz_21 (h : JM) (n i : Int) : Option.map (Prod.mk 2) (j_R j_W1 h 21 n i) = some (2, (3 * n + i)) := rfl
theorem ln_22 (h : JM) (n : Int) : j_W1.2.1 h 22 n = 24 := rfl
theorem ac_22 : j_code 22 0 = 6 + 10 := rfl
theorem rz_22 (h : JM) (n i : Int) : Option.map (Prod.mk 6) (j_R j_W1 h 22 n i) = Option.map (Prod.mk 6) (h.2.2 22 n i) := rfl
theorem rm_22 (n i : Int) : j_W1.2.2 22 n i = none := rfl
theorem ln_23 (h : JM) (n : Int) : j_W1.2.1 h 23 n = 2 := rfl
theorem ac_23 : j_code 23 0 = 0 := rfl
theorem ln_24 (h : JM) (n : Int) : j_W1.2.1 h 24 n = 2 := rfl
theorem ac_24 : j_code 24 0 = 0 := rfl
theorem ln_25 (h : JM) (n : Int) : j_W1.2.1 h 25 n = 8 := rfl
theorem ac_25 : j_code 25 0 = 4 + 10 := rfl
theorem rz_25 (h : JM) (n i : Int) : Option.map (Prod.mk 4) (j_R j_W1 h 25 n i) = Option.map (Prod.mk 4) (h.2.2 25 n i) := rfl
theorem rm_25 (n i : Int) : j_W1.2.2 25 n i = none := rfl
theorem ln_26 (h : JM) (n : Int) : j_W1.2.1 h 26 n = 16 := rfl
theorem ac_26 : j_code 26 0 = 0 := rfl
theorem ln_27 (h : JM) (n : Int) : j_W1.2.1 h 27 n = 1500 := rfl
theorem ac_27 : j_code 27 0 = 0 := rfl
theorem ln_28 (h : JM) (n : Int) : j_W1.2.1 h 28 n = 3 := rfl
theorem ac_28 : j_code 28 0 = 1 := rfl
theorem ln_29 (h : JM) (n : Int) : j_W1.2.1 h 29 n = 3 := rfl
theorem ac_29 : j_code 29 0 = 3 := rfl
theorem ln_30 (h : JM) (n : Int) : j_W1.2.1 h 30 n = 20 := rfl
theorem ac_30 : j_code 30 0 = 2 := rfl
theorem ln_31 (h : JM) (n : Int) : j_W1.2.1 h 31 n = 200 := rfl
theorem ac_31 : j_code 31 0 = 3 := rfl
theorem ln_32 (h : JM) (n : Int) : j_W1.2.1 h 32 n = 64 := rfl
theorem ac_32 : j_code 32 0 = 9 + 10 := rfl
theorem rz_32 (h : JM) (n i : Int) : Option.map (Prod.mk 9) (j_R j_W1 h 32 n i) = some (9, (64 * n + i)) := rfl
theorem ln_33 (h : JM) (n : Int) : j_W1.2.1 h 33 n = 2 := rfl
theorem ac_33 : j_code 33 0 = 9 + 10 := rfl
theorem rz_33 (h : JM) (n i : Int) : Option.map (Prod.mk 9) (j_R j_W1 h 33 n i) = some (9, (128 + 2 * n + i)) := rfl
theorem ln_34 (h : JM) (n : Int) : j_W1.2.1 h 34 n = 300 := rfl
theorem ac_34 : j_code 34 0 = 0 := rfl
theorem ln_35 (h : JM) (n : Int) : j_W1.2.1 h 35 n = 300 := rfl
theorem ac_35 : j_code 35 0 = 0 := rfl
theorem ln_36 (h : JM) (n : Int) : j_W1.2.1 h 36 n = 256 := rfl
theorem ac_36 : j_code 36 0 = 2 := rfl
theorem ln_37 (h : JM) (n : Int) : j_W1.2.1 h 37 n = 256 := rfl
theorem ac_37 : j_code 37 0 = 2 := rfl
theorem ln_38 (h : JM) (n : Int) : j_W1.2.1 h 38 n = 2 := rfl
theorem ac_38 : j_code 38 0 = 1 + 10 := rfl
theorem rz_38 (h : JM) (n i : Int) : Option.map (Prod.mk 1) (j_R j_W1 h 38 n i) = some (1, i) := rfl
theorem ln_39 (h : JM) (n : Int) : j_W1.2.1 h 39 n = 16 := rfl
theorem ac_39 : j_code 39 0 = 4 + 10 := rfl
theorem rz_39 (h : JM) (n i : Int) : Option.map (Prod.mk 4) (j_R j_W1 h 39 n i) = some (4, i) := rfl
theorem ln_40 (h : JM) (n : Int) : j_W1.2.1 h 40 n = 72 := rfl
theorem ac_40 : j_code 40 0 = 0 + 10 := rfl
theorem rz_40 (h : JM) (n i : Int) : Option.map (Prod.mk 0) (j_R j_W1 h 40 n i) = Option.map (Prod.mk 0) (h.2.2 40 n i) := rfl
theorem rm_40 (n i : Int) : j_W1.2.2 40 n i = none := rfl
theorem ln_103 (h : JM) (n : Int) : j_W1.2.1 h 103 n = 12 := rfl
theorem ac_103 : j_code 103 0 = 0 := rfl
theorem ln_105 (h : JM) (n : Int) : j_W1.2.1 h 105 n = 2 := rfl
theorem ac_105 : j_code 105 0 = 0 := rfl
theorem ln_106 (h : JM) (n : Int) : j_W1.2.1 h 106 n = 576 := rfl
theorem ac_106 : j_code 106 0 = 0 := rfl
theorem ln_107 (h : JM) (n : Int) : j_W1.2.1 h 107 n = 48 := rfl
theorem ac_107 : j_code 107 0 = 0 := rfl
theorem ln_108 (h : JM) (n : Int) : j_W1.2.1 h 108 n = 48 := rfl
theorem ac_108 : j_code 108 0 = 0 := rfl
theorem ln_109 (h : JM) (n : Int) : j_W1.2.1 h 109 n = 48 := rfl
theorem ac_109 : j_code 109 0 = 0 := rfl
theorem ln_110 (h : JM) (n : Int) : j_W1.2.1 h 110 n = 48 := rfl
theorem ac_110 : j_code 110 0 = 0 := rfl
theorem ln_111 (h : JM) (n : Int) : j_W1.2.1 h 111 n = 48 := rfl
theorem ac_111 : j_code 111 0 = 0 := rfl
theorem ln_112 (h : JM) (n : Int) : j_W1.2.1 h 112 n = 16 := rfl
theorem ac_112 : j_code 112 0 = 1 := rfl
theorem ln_113 (h : JM) (n : Int) : j_W1.2.1 h 113 n = 16 := rfl
theorem ac_113 : j_code 113 0 = 1 := rfl
theorem ln_114 (h : JM) (n : Int) : j_W1.2.1 h 114 n = 16 := rfl
theorem ac_114 : j_code 114 0 = 0 := rfl
theorem ln_115 (h : JM) (n : Int) : j_W1.2.1 h 115 n = 16 := rfl
theorem ac_115 : j_code 115 0 = 0 := rfl
theorem ln_116 (h : JM) (n : Int) : j_W1.2.1 h 116 n = 16 := rfl
theorem ac_116 : j_code 116 0 = 0 := rfl
theorem ln_117 (h : JM) (n : Int) : j_W1.2.1 h 117 n = 320 := rfl
theorem ac_117 : j_code 117 0 = 0 := rfl
theorem ln_118 (h : JM) (n : Int) : j_W1.2.1 h 118 n = 16 := rfl
theorem ac_118 : j_code 118 0 = 0 := rfl
theorem ln_119 (h : JM) (n : Int) : j_W1.2.1 h 119 n = 16 := rfl
theorem ac_119 : j_code 119 0 = 0 := rfl
theorem ln_120 (h : JM) (n : Int) : j_W1.2.1 h 120 n = 16 := rfl
theorem ac_120 : j_code 120 0 = 0 := rfl
theorem ln_121 (h : JM) (n : Int) : j_W1.2.1 h 121 n = 16 := rfl
theorem ac_121 : j_code 121 0 = 0 := rfl
theorem ln_122 (h : JM) (n : Int) : j_W1.2.1 h 122 n = 16 := rfl
theorem ac_122 : j_code 122 0 = 0 := rfl
theorem ln_123 (h : JM) (n : Int) : j_W1.2.1 h 123 n = 16 := rfl
theorem ac_123 : j_code 123 0 = 0 := rfl
theorem ln_124 (h : JM) (n : Int) : j_W1.2.1 h 124 n = 16 := rfl
theorem ac_124 : j_code 124 0 = 1 := rfl
theorem ln_125 (h : JM) (n : Int) : j_W1.2.1 h 125 n = 16 := rfl
theorem ac_125 : j_code 125 0 = 0 := rfl
theorem ln_126 (h : JM) (n : Int) : j_W1.2.1 h 126 n = 16 := rfl
theorem ac_126 : j_code 126 0 = 0 := rfl
theorem ln_127 (h : JM) (n : Int) : j_W1.2.1 h 127 n = 48 := rfl
theorem ac_127 : j_code 127 0 = 1 := rfl
theorem ln_128 (h : JM) (n : Int) : j_W1.2.1 h 128 n = 576 := rfl
theorem ac_128 : j_code 128 0 = 0 := rfl
theorem ln_129 (h : JM) (n : Int) : j_W1.2.1 h 129 n = 48 := rfl
theorem ac_129 : j_code 129 0 = 0 := rfl
theorem ln_130 (h : JM) (n : Int) : j_W1.2.1 h 130 n = 16 := rfl
theorem ac_130 : j_code 130 0 = 0 := rfl
theorem ln_131 (h : JM) (n : Int) : j_W1.2.1 h 131 n = 16 := rfl
theorem ac_131 : j_code 131 0 = 0 := rfl
theorem ln_133 (h : JM) (n : Int) : j_W1.2.1 h 133 n = 80 := rfl
theorem ac_133 : j_code 133 0 = 0 := rfl
theorem ln_134 (h : JM) (n : Int) : j_W1.2.1 h 134 n = 80 := rfl
theorem ac_134 : j_code 134 0 = 0 := rfl
theorem ln_135 (h : JM) (n : Int) : j_W1.2.1 h 135 n = 80 := rfl
theorem ac_135 : j_code 135 0 = 0 := rfl
theorem ln_136 (h : JM) (n : Int) : j_W1.2.1 h 136 n = 80 := rfl
theorem ac_136 : j_code 136 0 = 0 := rfl
theorem ln_137 (h : JM) (n : Int) : j_W1.2.1 h 137 n = 80 := rfl
theorem ac_137 : j_code 137 0 = 0 := rfl
theorem ln_138 (h : JM) (n : Int) : j_W1.2.1 h 138 n = 80 := rfl
theorem ac_138 : j_code 138 0 = 0 := rfl
theorem ln_139 (h : JM) (n : Int) : j_W1.2.1 h 139 n = 960 := rfl
theorem ac_139 : j_code 139 0 = 0 := rfl
theorem ln_140 (h : JM) (n : Int) : j_W1.2.1 h 140 n = 80 := rfl
theorem ac_140 : j_code 140 0 = 0 := rfl
theorem ln_141 (h : JM) (n : Int) : j_W1.2.1 h 141 n = 80 := rfl
theorem ac_141 : j_code 141 0 = 0 := rfl
theorem ln_142 (h : JM) (n : Int) : j_W1.2.1 h 142 n = 80 := rfl
theorem ac_142 : j_code 142 0 = 0 := rfl
theorem ln_143 (h : JM) (n : Int) : j_W1.2.1 h 143 n = 80 := rfl
theorem ac_143 : j_code 143 0 = 0 := rfl
theorem ln_144 (h : JM) (n : Int) : j_W1.2.1 h 144 n = 80 := rfl
theorem ac_144 : j_code 144 0 = 0 := rfl
theorem ln_145 (h : JM) (n : Int) : j_W1.2.1 h 145 n = 80 := rfl
theorem ac_145 : j_code 145 0 = 0 := rfl
theorem ln_146 (h : JM) (n : Int) : j_W1.2.1 h 146 n = 80 := rfl
theorem ac_146 : j_code 146 0 = 0 := rfl
theorem ln_147 (h : JM) (n : Int) : j_W1.2.1 h 147 n = 80 := rfl
theorem ac_147 : j_code 147 0 = 0 := rfl
theorem ln_148 (h : JM) (n : Int) : j_W1.2.1 h 148 n = 80 := rfl
theorem ac_148 : j_code 148 0 = 1 := rfl
theorem ln_149 (h : JM) (n : Int) : j_W1.2.1 h 149 n = 48 := rfl
theorem ac_149 : j_code 149 0 = 0 := rfl
theorem ln_150 (h : JM) (n : Int) : j_W1.2.1 h 150 n = 6 := rfl
theorem ac_150 : j_code 150 0 = 0 := rfl
theorem ln_151 (h : JM) (n : Int) : j_W1.2.1 h 151 n = 6 := rfl
theorem ac_151 : j_code 151 0 = 0 := rfl
theorem ln_152 (h : JM) (n : Int) : j_W1.2.1 h 152 n = 480 := rfl
theorem ac_152 : j_code 152 0 = 0 := rfl
theorem ln_153 (h : JM) (n : Int) : j_W1.2.1 h 153 n = 6 := rfl
theorem ac_153 : j_code 153 0 = 0 := rfl
theorem ln_154 (h : JM) (n : Int) : j_W1.2.1 h 154 n = 32 := rfl
theorem ac_154 : j_code 154 0 = 0 := rfl
theorem ln_155 (h : JM) (n : Int) : j_W1.2.1 h 155 n = 32 := rfl
theorem ac_155 : j_code 155 0 = 0 := rfl
theorem ln_156 (h : JM) (n : Int) : j_W1.2.1 h 156 n = 20 := rfl
theorem ac_156 : j_code 156 0 = 0 := rfl
theorem ln_158 (h : JM) (n : Int) : j_W1.2.1 h 158 n = 8192 := rfl
theorem ac_158 : j_code 158 0 = 0 := rfl
theorem ln_159 (h : JM) (n : Int) : j_W1.2.1 h 159 n = 512 := rfl
theorem ac_159 : j_code 159 0 = 0 := rfl
theorem ln_160 (h : JM) (n : Int) : j_W1.2.1 h 160 n = 2 := rfl
theorem ac_160 : j_code 160 0 = 0 := rfl
theorem ln_161 (h : JM) (n : Int) : j_W1.2.1 h 161 n = 2 := rfl
theorem ac_161 : j_code 161 0 = 0 := rfl
theorem ln_162 (h : JM) (n : Int) : j_W1.2.1 h 162 n = 2 := rfl
theorem ac_162 : j_code 162 0 = 0 := rfl
theorem ln_163 (h : JM) (n : Int) : j_W1.2.1 h 163 n = 2 := rfl
theorem ac_163 : j_code 163 0 = 0 := rfl
theorem ln_164 (h : JM) (n : Int) : j_W1.2.1 h 164 n = 2 := rfl
theorem ac_164 : j_code 164 0 = 0 := rfl
theorem ln_165 (h : JM) (n : Int) : j_W1.2.1 h 165 n = 2 := rfl
theorem ac_165 : j_code 165 0 = 0 := rfl
theorem ln_166 (h : JM) (n : Int) : j_W1.2.1 h 166 n = 2 := rfl
theorem ac_166 : j_code 166 0 = 0 := rfl
theorem ln_167 (h : JM) (n : Int) : j_W1.2.1 h 167 n = 2 := rfl
theorem ac_167 : j_code 167 0 = 0 := rfl
theorem ln_168 (h : JM) (n : Int) : j_W1.2.1 h 168 n = 64 := rfl
theorem ac_168 : j_code 168 0 = 0 := rfl
theorem ln_169 (h : JM) (n : Int) : j_W1.2.1 h 169 n = 320 := rfl
theorem ac_169 : j_code 169 0 = 0 := rfl
theorem ln_171 (h : JM) (n : Int) : j_W1.2.1 h 171 n = 40960 := rfl
theorem ac_171 : j_code 171 0 = 0 := rfl
theorem ln_172 (h : JM) (n : Int) : j_W1.2.1 h 172 n = 128 := rfl
theorem ac_172 : j_code 172 0 = 0 := rfl
theorem ln_173 (h : JM) (n : Int) : j_W1.2.1 h 173 n = 2560 := rfl
theorem ac_173 : j_code 173 0 = 0 := rfl
theorem ln_174 (h : JM) (n : Int) : j_W1.2.1 h 174 n = 8 := rfl
theorem ac_174 : j_code 174 0 = 0 := rfl
theorem ln_176 (h : JM) (n : Int) : j_W1.2.1 h 176 n = 300 := rfl
theorem ac_176 : j_code 176 0 = 0 := rfl
theorem ln_177 (h : JM) (n : Int) : j_W1.2.1 h 177 n = 300 := rfl
theorem ac_177 : j_code 177 0 = 0 := rfl
theorem ln_178 (h : JM) (n : Int) : j_W1.2.1 h 178 n = 300 := rfl
theorem ac_178 : j_code 178 0 = 0 := rfl
theorem ln_180 (h : JM) (n : Int) : j_W1.2.1 h 180 n = 300 := rfl
theorem ac_180 : j_code 180 0 = 0 := rfl
theorem ln_181 (h : JM) (n : Int) : j_W1.2.1 h 181 n = 300 := rfl
theorem ac_181 : j_code 181 0 = 0 := rfl
theorem ln_182 (h : JM) (n : Int) : j_W1.2.1 h 182 n = 320 := rfl
theorem ac_182 : j_code 182 0 = 0 := rfl
theorem ln_184 (h : JM) (n : Int) : j_W1.2.1 h 184 n = 32 := rfl
theorem ac_184 : j_code 184 0 = 0 := rfl
theorem ln_185 (h : JM) (n : Int) : j_W1.2.1 h 185 n = 32 := rfl
theorem ac_185 : j_code 185 0 = 0 := rfl
theorem ln_186 (h : JM) (n : Int) : j_W1.2.1 h 186 n = 4 := rfl
theorem ac_186 : j_code 186 0 = 0 := rfl
theorem ln_187 (h : JM) (n : Int) : j_W1.2.1 h 187 n = 4 := rfl
theorem ac_187 : j_code 187 0 = 0 := rfl
theorem ln_188 (h : JM) (n : Int) : j_W1.2.1 h 188 n = 4 := rfl
theorem ac_188 : j_code 188 0 = 0 := rfl
theorem ln_189 (h : JM) (n : Int) : j_W1.2.1 h 189 n = 4 := rfl
theorem ac_189 : j_code 189 0 = 0 := rfl
theorem ln_191 (h : JM) (n : Int) : j_W1.2.1 h 191 n = 1500 := rfl
theorem ac_191 : j_code 191 0 = 0 := rfl
theorem ln_99 (h : JM) (n : Int) : j_W1.2.1 h 99 n = h.1 1099 n 1 := rfl
theorem ac_99 : j_code 99 0 = 0 := rfl
theorem ry_0_0 (h : JM) (n : Int) : Option.map (Prod.mk 1) (j_R j_W1 h 0 n ((0 : Nat) : Int)) = Option.map (Prod.mk 1) (h.2.2 0 n 0) := rfl
theorem rl_0_0 (n : Int) : j_W1.2.2 0 n ((0 : Nat) : Int) = none := rfl
theorem ry_0_1 (h : JM) (n : Int) : Option.map (Prod.mk 4) (j_R j_W1 h 0 n ((1 : Nat) : Int)) = Option.map (Prod.mk 4) (h.2.2 0 n 1) := rfl
theorem rl_0_1 (n : Int) : j_W1.2.2 0 n ((1 : Nat) : Int) = none := rfl
theorem ry_0_2 (h : JM) (n : Int) : Option.map (Prod.mk 8) (j_R j_W1 h 0 n ((2 : Nat) : Int)) = Option.map (Prod.mk 8) (h.2.2 0 n 2) := rfl
theorem rl_0_2 (n : Int) : j_W1.2.2 0 n ((2 : Nat) : Int) = none := rfl
theorem ry_0_3 (h : JM) (n : Int) : Option.map (Prod.mk 4) (j_R j_W1 h 0 n ((3 : Nat) : Int)) = Option.map (Prod.mk 4) (h.2.2 0 n 3) := rfl
theorem rl_0_3 (n : Int) : j_W1.2.2 0 n ((3 : Nat) : Int) = none := rfl
theorem ry_0_4 (h : JM) (n : Int) : Option.map (Prod.mk 8) (j_R j_W1 h 0 n ((4 : Nat) : Int)) = Option.map (Prod.mk 8) (h.2.2 0 n 4) := rfl
theorem rl_0_4 (n : Int) : j_W1.2.2 0 n ((4 : Nat) : Int) = none := rfl
theorem ry_0_5 (h : JM) (n : Int) : Option.map (Prod.mk 2) (j_R j_W1 h 0 n ((5 : Nat) : Int)) = Option.map (Prod.mk 2) (h.2.2 0 n 5) := rfl
theorem rl_0_5 (n : Int) : j_W1.2.2 0 n ((5 : Nat) : Int) = none := rfl
theorem ry_0_7 (h : JM) (n : Int) : Option.map (Prod.mk 6) (j_R j_W1 h 0 n ((7 : Nat) : Int)) = Option.map (Prod.mk 6) (h.2.2 0 n 7) := rfl
theorem rl_0_7 (n : Int) : j_W1.2.2 0 n ((7 : Nat) : Int) = none := rfl
theorem ry_1_1 (h : JM) (n : Int) : Option.map (Prod.mk 20) (j_R j_W1 h 1 n ((1 : Nat) : Int)) = some (20, n) := rfl
theorem ry_1_2 (h : JM) (n : Int) : Option.map (Prod.mk 21) (j_R j_W1 h 1 n ((2 : Nat) : Int)) = some (21, n) := rfl
theorem ry_1_3 (h : JM) (n : Int) : Option.map (Prod.mk 22) (j_R j_W1 h 1 n ((3 : Nat) : Int)) = some (22, n) := rfl
theorem ry_1_5 (h : JM) (n : Int) : Option.map (Prod.mk 23) (j_R j_W1 h 1 n ((5 : Nat) : Int)) = some (23, n) := rfl
theorem ry_1_6 (h : JM) (n : Int) : Option.map (Prod.mk 24) (j_R j_W1 h 1 n ((6 : Nat) : Int)) = some (24, n) := rfl
theorem ry_1_7 (h : JM) (n : Int) : Option.map (Prod.mk 5) (j_R j_W1 h 1 n ((7 : Nat) : Int)) = some (5, n) := rfl
theorem ry_2_0 (h : JM) (n : Int) : Option.map (Prod.mk 25) (j_R j_W1 h 2 n ((0 : Nat) : Int)) = some (25, n) := rfl
theorem ry_3_0 (h : JM) (n : Int) : Option.map (Prod.mk 26) (j_R j_W1 h 3 n ((0 : Nat) : Int)) = some (26, n) := rfl
theorem ry_3_1 (h : JM) (n : Int) : Option.map (Prod.mk 27) (j_R j_W1 h 3 n ((1 : Nat) : Int)) = some (27, n) := rfl
theorem ry_4_1 (h : JM) (n : Int) : Option.map (Prod.mk 28) (j_R j_W1 h 4 n ((1 : Nat) : Int)) = some (28, n) := rfl
theorem ry_4_2 (h : JM) (n : Int) : Option.map (Prod.mk 29) (j_R j_W1 h 4 n ((2 : Nat) : Int)) = some (29, n) := rfl
theorem ry_4_3 (h : JM) (n : Int) : Option.map (Prod.mk 30) (j_R j_W1 h 4 n ((3 : Nat) : Int)) = some (30, n) := rfl
theorem ry_4_11 (h : JM) (n : Int) : Option.map (Prod.mk 0) (j_R j_W1 h 4 n ((11 : Nat) : Int)) = Option.map (Prod.mk 0) (h.2.2 4 n 11) := rfl
theorem rl_4_11 (n : Int) : j_W1.2.2 4 n ((11 : Nat) : Int) = none := rfl
theorem ry_4_12 (h : JM) (n : Int) : Option.map (Prod.mk 0) (j_R j_W1 h 4 n ((12 : Nat) : Int)) = Option.map (Prod.mk 0) (h.2.2 4 n 12) := rfl
theorem rl_4_12 (n : Int) : j_W1.2.2 4 n ((12 : Nat) : Int) = none := rfl
theorem ry_4_13 (h : JM) (n : Int) : Option.map (Prod.mk 0) (j_R j_W1 h 4 n ((13 : Nat) : Int)) = Option.map (Prod.mk 0) (h.2.2 4 n 13) := rfl
theorem rl_4_13 (n : Int) : j_W1.2.2 4 n ((13 : Nat) : Int) = none := rfl
theorem ry_5_8 (h : JM) (n : Int) : Option.map (Prod.mk 31) (j_R j_W1 h 5 n ((8 : Nat) : Int)) = some (31, n) := rfl
theorem ry_5_9 (h : JM) (n : Int) : Option.map (Prod.mk 32) (j_R j_W1 h 5 n ((9 : Nat) : Int)) = some (32, n) := rfl
theorem ry_5_10 (h : JM) (n : Int) : Option.map (Prod.mk 33) (j_R j_W1 h 5 n ((10 : Nat) : Int)) = some (33, n) := rfl
theorem ry_7_0 (h : JM) (n : Int) : Option.map (Prod.mk 34) (j_R j_W1 h 7 n ((0 : Nat) : Int)) = some (34, n) := rfl
theorem ry_7_1 (h : JM) (n : Int) : Option.map (Prod.mk 35) (j_R j_W1 h 7 n ((1 : Nat) : Int)) = some (35, n) := rfl
theorem ry_8_1 (h : JM) (n : Int) : Option.map (Prod.mk 8) (j_R j_W1 h 8 n ((1 : Nat) : Int)) = some (8, (if n < 16 then n + 16 else n - 16)) := rfl
theorem ry_8_3 (h : JM) (n : Int) : Option.map (Prod.mk 0) (j_R j_W1 h 8 n ((3 : Nat) : Int)) = Option.map (Prod.mk 0) (h.2.2 8 n 3) := rfl
theorem rl_8_3 (n : Int) : j_W1.2.2 8 n ((3 : Nat) : Int) = none := rfl
theorem ry_10_0 (h : JM) (n : Int) : Option.map (Prod.mk 36) (j_R j_W1 h 10 n ((0 : Nat) : Int)) = some (36, n) := rfl
theorem ry_10_4 (h : JM) (n : Int) : Option.map (Prod.mk 37) (j_R j_W1 h 10 n ((4 : Nat) : Int)) = some (37, n) := rfl
theorem ry_11_2 (h : JM) (n : Int) : Option.map (Prod.mk 38) (j_R j_W1 h 11 n ((2 : Nat) : Int)) = some (38, 0) := rfl
theorem ry_11_3 (h : JM) (n : Int) : Option.map (Prod.mk 39) (j_R j_W1 h 11 n ((3 : Nat) : Int)) = some (39, 0) := rfl
theorem ry_11_4 (h : JM) (n : Int) : Option.map (Prod.mk 40) (j_R j_W1 h 11 n ((4 : Nat) : Int)) = some (40, 0) := rfl
theorem ry_11_5 (h : JM) (n : Int) : Option.map (Prod.mk 3) (j_R j_W1 h 11 n ((5 : Nat) : Int)) = some (3, 0) := rfl
theorem ry_11_6 (h : JM) (n : Int) : Option.map (Prod.mk 7) (j_R j_W1 h 11 n ((6 : Nat) : Int)) = some (7, 0) := rfl
theorem ry_11_7 (h : JM) (n : Int) : Option.map (Prod.mk 7) (j_R j_W1 h 11 n ((7 : Nat) : Int)) = some (7, 1) := rfl
theorem ry_11_8 (h : JM) (n : Int) : Option.map (Prod.mk 10) (j_R j_W1 h 11 n ((8 : Nat) : Int)) = some (10, 0) := rfl
theorem ry_12_3 (h : JM) (n : Int) : Option.map (Prod.mk 103) (j_R j_W1 h 12 n ((3 : Nat) : Int)) = some (103, n) := rfl
theorem ry_12_5 (h : JM) (n : Int) : Option.map (Prod.mk 105) (j_R j_W1 h 12 n ((5 : Nat) : Int)) = some (105, n) := rfl
theorem ry_12_6 (h : JM) (n : Int) : Option.map (Prod.mk 106) (j_R j_W1 h 12 n ((6 : Nat) : Int)) = some (106, n) := rfl
theorem ry_12_7 (h : JM) (n : Int) : Option.map (Prod.mk 107) (j_R j_W1 h 12 n ((7 : Nat) : Int)) = some (107, n) := rfl
theorem ry_12_8 (h : JM) (n : Int) : Option.map (Prod.mk 108) (j_R j_W1 h 12 n ((8 : Nat) : Int)) = some (108, n) := rfl
theorem ry_12_9 (h : JM) (n : Int) : Option.map (Prod.mk 109) (j_R j_W1 h 12 n ((9 : Nat) : Int)) = some (109, n) := rfl
theorem ry_12_10 (h : JM) (n : Int) : Option.map (Prod.mk 110) (j_R j_W1 h 12 n ((10 : Nat) : Int)) = some (110, n) := rfl
theorem ry_12_11 (h : JM) (n : Int) : Option.map (Prod.mk 111) (j_R j_W1 h 12 n ((11 : Nat) : Int)) = some (111, n) := rfl
theorem ry_12_12 (h : JM) (n : Int) : Option.map (Prod.mk 112) (j_R j_W1 h 12 n ((12 : Nat) : Int)) = some (112, n) := rfl
theorem ry_12_13 (h : JM) (n : Int) : Option.map (Prod.mk 113) (j_R j_W1 h 12 n ((13 : Nat) : Int)) = some (113, n) := rfl
theorem ry_12_14 (h : JM) (n : Int) : Option.map (Prod.mk 114) (j_R j_W1 h 12 n ((14 : Nat) : Int)) = some (114, n) := rfl
theorem ry_12_15 (h : JM) (n : Int) : Option.map (Prod.mk 115) (j_R j_W1 h 12 n ((15 : Nat) : Int)) = some (115, n) := rfl
theorem ry_12_16 (h : JM) (n : Int) : Option.map (Prod.mk 116) (j_R j_W1 h 12 n ((16 : Nat) : Int)) = some (116, n) := rfl
theorem ry_12_17 (h : JM) (n : Int) : Option.map (Prod.mk 117) (j_R j_W1 h 12 n ((17 : Nat) : Int)) = some (117, n) := rfl
theorem ry_12_18 (h : JM) (n : Int) : Option.map (Prod.mk 118) (j_R j_W1 h 12 n ((18 : Nat) : Int)) = some (118, n) := rfl
theorem ry_12_19 (h : JM) (n : Int) : Option.map (Prod.mk 119) (j_R j_W1 h 12 n ((19 : Nat) : Int)) = some (119, n) := rfl
theorem ry_12_20 (h : JM) (n : Int) : Option.map (Prod.mk 120) (j_R j_W1 h 12 n ((20 : Nat) : Int)) = some (120, n) := rfl
theorem ry_12_21 (h : JM) (n : Int) : Option.map (Prod.mk 121) (j_R j_W1 h 12 n ((21 : Nat) : Int)) = some (121, n) := rfl
theorem ry_12_22 (h : JM) (n : Int) : Option.map (Prod.mk 122) (j_R j_W1 h 12 n ((22 : Nat) : Int)) = some (122, n) := rfl
theorem ry_12_23 (h : JM) (n : Int) : Option.map (Prod.mk 123) (j_R j_W1 h 12 n ((23 : Nat) : Int)) = some (123, n) := rfl
theorem ry_12_24 (h : JM) (n : Int) : Option.map (Prod.mk 124) (j_R j_W1 h 12 n ((24 : Nat) : Int)) = some (124, n) := rfl
theorem ry_12_25 (h : JM) (n : Int) : Option.map (Prod.mk 125) (j_R j_W1 h 12 n ((25 : Nat) : Int)) = some (125, n) := rfl
theorem ry_12_26 (h : JM) (n : Int) : Option.map (Prod.mk 126) (j_R j_W1 h 12 n ((26 : Nat) : Int)) = some (126, n) := rfl
theorem ry_12_27 (h : JM) (n : Int) : Option.map (Prod.mk 127) (j_R j_W1 h 12 n ((27 : Nat) : Int)) = some (127, n) := rfl
theorem ry_12_28 (h : JM) (n : Int) : Option.map (Prod.mk 128) (j_R j_W1 h 12 n ((28 : Nat) : Int)) = some (128, n) := rfl
theorem ry_12_29 (h : JM) (n : Int) : Option.map (Prod.mk 129) (j_R j_W1 h 12 n ((29 : Nat) : Int)) = some (129, n) := rfl
theorem ry_12_30 (h : JM) (n : Int) : Option.map (Prod.mk 130) (j_R j_W1 h 12 n ((30 : Nat) : Int)) = some (130, n) := rfl
theorem ry_12_31 (h : JM) (n : Int) : Option.map (Prod.mk 131) (j_R j_W1 h 12 n ((31 : Nat) : Int)) = some (131, n) := rfl
theorem ry_12_33 (h : JM) (n : Int) : Option.map (Prod.mk 133) (j_R j_W1 h 12 n ((33 : Nat) : Int)) = some (133, n) := rfl
theorem ry_12_34 (h : JM) (n : Int) : Option.map (Prod.mk 134) (j_R j_W1 h 12 n ((34 : Nat) : Int)) = some (134, n) := rfl
theorem ry_12_35 (h : JM) (n : Int) : Option.map (Prod.mk 135) (j_R j_W1 h 12 n ((35 : Nat) : Int)) = some (135, n) := rfl
theorem ry_12_36 (h : JM) (n : Int) : Option.map (Prod.mk 136) (j_R j_W1 h 12 n ((36 : Nat) : Int)) = some (136, n) := rfl
theorem ry_12_37 (h : JM) (n : Int) : Option.map (Prod.mk 137) (j_R j_W1 h 12 n ((37 : Nat) : Int)) = some (137, n) := rfl
theorem ry_12_38 (h : JM) (n : Int) : Option.map (Prod.mk 138) (j_R j_W1 h 12 n ((38 : Nat) : Int)) = some (138, n) := rfl
theorem ry_12_39 (h : JM) (n : Int) : Option.map (Prod.mk 139) (j_R j_W1 h 12 n ((39 : Nat) : Int)) = some (139, n) := rfl
theorem ry_12_40 (h : JM) (n : Int) : Option.map (Prod.mk 140) (j_R j_W1 h 12 n ((40 : Nat) : Int)) = some (140, n) := rfl
theorem ry_12_41 (h : JM) (n : Int) : Option.map (Prod.mk 141) (j_R j_W1 h 12 n ((41 : Nat) : Int)) = some (141, n) := rfl
theorem ry_12_42 (h : JM) (n : Int) : Option.map (Prod.mk 142) (j_R j_W1 h 12 n ((42 : Nat) : Int)) = some (142, n) := rfl
theorem ry_12_43 (h : JM) (n : Int) : Option.map (Prod.mk 143) (j_R j_W1 h 12 n ((43 : Nat) : Int)) = some (143, n) := rfl
theorem ry_12_44 (h : JM) (n : Int) : Option.map (Prod.mk 144) (j_R j_W1 h 12 n ((44 : Nat) : Int)) = some (144, n) := rfl
theorem ry_12_45 (h : JM) (n : Int) : Option.map (Prod.mk 145) (j_R j_W1 h 12 n ((45 : Nat) : Int)) = some (145, n) := rfl
theorem ry_12_46 (h : JM) (n : Int) : Option.map (Prod.mk 146) (j_R j_W1 h 12 n ((46 : Nat) : Int)) = some (146, n) := rfl
theorem ry_12_47 (h : JM) (n : Int) : Option.map (Prod.mk 147) (j_R j_W1 h 12 n ((47 : Nat) : Int)) = some (147, n) := rfl
theorem ry_12_48 (h : JM) (n : Int) : Option.map (Prod.mk 148) (j_R j_W1 h 12 n ((48 : Nat) : Int)) = some (148, n) := rfl
theorem ry_12_49 (h : JM) (n : Int) : Option.map (Prod.mk 149) (j_R j_W1 h 12 n ((49 : Nat) : Int)) = some (149, n) := rfl
theorem ry_12_50 (h : JM) (n : Int) : Option.map (Prod.mk 150) (j_R j_W1 h 12 n ((50 : Nat) : Int)) = some (150, n) := rfl
theorem ry_12_51 (h : JM) (n : Int) : Option.map (Prod.mk 151) (j_R j_W1 h 12 n ((51 : Nat) : Int)) = some (151, n) := rfl
theorem ry_12_52 (h : JM) (n : Int) : Option.map (Prod.mk 152) (j_R j_W1 h 12 n ((52 : Nat) : Int)) = some (152, n) := rfl
theorem ry_12_53 (h : JM) (n : Int) : Option.map (Prod.mk 153) (j_R j_W1 h 12 n ((53 : Nat) : Int)) = some (153, n) := rfl
theorem ry_12_54 (h : JM) (n : Int) : Option.map (Prod.mk 154) (j_R j_W1 h 12 n ((54 : Nat) : Int)) = some (154, n) := rfl
theorem ry_12_55 (h : JM) (n : Int) : Option.map (Prod.mk 155) (j_R j_W1 h 12 n ((55 : Nat) : Int)) = some (155, n) := rfl
theorem ry_12_56 (h : JM) (n : Int) : Option.map (Prod.mk 156) (j_R j_W1 h 12 n ((56 : Nat) : Int)) = some (156, n) := rfl
theorem ry_12_58 (h : JM) (n : Int) : Option.map (Prod.mk 158) (j_R j_W1 h 12 n ((58 : Nat) : Int)) = some (158, n) := rfl
theorem ry_12_59 (h : JM) (n : Int) : Option.map (Prod.mk 159) (j_R j_W1 h 12 n ((59 : Nat) : Int)) = some (159, n) := rfl
theorem ry_12_60 (h : JM) (n : Int) : Option.map (Prod.mk 160) (j_R j_W1 h 12 n ((60 : Nat) : Int)) = some (160, n) := rfl
theorem ry_12_61 (h : JM) (n : Int) : Option.map (Prod.mk 161) (j_R j_W1 h 12 n ((61 : Nat) : Int)) = some (161, n) := rfl
theorem ry_12_62 (h : JM) (n : Int) : Option.map (Prod.mk 162) (j_R j_W1 h 12 n ((62 : Nat) : Int)) = some (162, n) := rfl
theorem ry_12_63 (h : JM) (n : Int) : Option.map (Prod.mk 163) (j_R j_W1 h 12 n ((63 : Nat) : Int)) = some (163, n) := rfl
theorem ry_12_64 (h : JM) (n : Int) : Option.map (Prod.mk 164) (j_R j_W1 h 12 n ((64 : Nat) : Int)) = some (164, n) := rfl
theorem ry_12_65 (h : JM) (n : Int) : Option.map (Prod.mk 165) (j_R j_W1 h 12 n ((65 : Nat) : Int)) = some (165, n) := rfl
theorem ry_12_66 (h : JM) (n : Int) : Option.map (Prod.mk 166) (j_R j_W1 h 12 n ((66 : Nat) : Int)) = some (166, n) := rfl
theorem ry_12_67 (h : JM) (n : Int) : Option.map (Prod.mk 167) (j_R j_W1 h 12 n ((67 : Nat) : Int)) = some (167, n) := rfl
theorem ry_12_68 (h : JM) (n : Int) : Option.map (Prod.mk 168) (j_R j_W1 h 12 n ((68 : Nat) : Int)) = some (168, n) := rfl
theorem ry_12_69 (h : JM) (n : Int) : Option.map (Prod.mk 169) (j_R j_W1 h 12 n ((69 : Nat) : Int)) = some (169, n) := rfl
theorem ry_12_71 (h : JM) (n : Int) : Option.map (Prod.mk 171) (j_R j_W1 h 12 n ((71 : Nat) : Int)) = some (171, n) := rfl
theorem ry_12_72 (h : JM) (n : Int) : Option.map (Prod.mk 172) (j_R j_W1 h 12 n ((72 : Nat) : Int)) = some (172, n) := rfl
theorem ry_12_73 (h : JM) (n : Int) : Option.map (Prod.mk 173) (j_R j_W1 h 12 n ((73 : Nat) : Int)) = some (173, n) := rfl
theorem ry_12_74 (h : JM) (n : Int) : Option.map (Prod.mk 174) (j_R j_W1 h 12 n ((74 : Nat) : Int)) = some (174, n) := rfl
theorem ry_12_76 (h : JM) (n : Int) : Option.map (Prod.mk 176) (j_R j_W1 h 12 n ((76 : Nat) : Int)) = some (176, n) := rfl
theorem ry_12_77 (h : JM) (n : Int) : Option.map (Prod.mk 177) (j_R j_W1 h 12 n ((77 : Nat) : Int)) = some (177, n) := rfl
theorem ry_12_78 (h : JM) (n : Int) : Option.map (Prod.mk 178) (j_R j_W1 h 12 n ((78 : Nat) : Int)) = some (178, n) := rfl
theorem ry_12_80 (h : JM) (n : Int) : Option.map (Prod.mk 180) (j_R j_W1 h 12 n ((80 : Nat) : Int)) = some (180, n) := rfl
theorem ry_12_81 (h : JM) (n : Int) : Option.map (Prod.mk 181) (j_R j_W1 h 12 n ((81 : Nat) : Int)) = some (181, n) := rfl
theorem ry_12_82 (h : JM) (n : Int) : Option.map (Prod.mk 182) (j_R j_W1 h 12 n ((82 : Nat) : Int)) = some (182, n) := rfl
theorem ry_12_84 (h : JM) (n : Int) : Option.map (Prod.mk 184) (j_R j_W1 h 12 n ((84 : Nat) : Int)) = some (184, n) := rfl
theorem ry_12_85 (h : JM) (n : Int) : Option.map (Prod.mk 185) (j_R j_W1 h 12 n ((85 : Nat) : Int)) = some (185, n) := rfl
theorem ry_12_86 (h : JM) (n : Int) : Option.map (Prod.mk 186) (j_R j_W1 h 12 n ((86 : Nat) : Int)) = some (186, n) := rfl
theorem ry_12_87 (h : JM) (n : Int) : Option.map (Prod.mk 187) (j_R j_W1 h 12 n ((87 : Nat) : Int)) = some (187, n) := rfl
theorem ry_12_88 (h : JM) (n : Int) : Option.map (Prod.mk 188) (j_R j_W1 h 12 n ((88 : Nat) : Int)) = some (188, n) := rfl
theorem ry_12_89 (h : JM) (n : Int) : Option.map (Prod.mk 189) (j_R j_W1 h 12 n ((89 : Nat) : Int)) = some (189, n) := rfl
theorem ry_12_91 (h : JM) (n : Int) : Option.map (Prod.mk 191) (j_R j_W1 h 12 n ((91 : Nat) : Int)) = some (191, n) := rfl
theorem cw_X10_89 : ((-1) : Int64).toInt = (-1) := by decide +kernel
theorem cw_X11_321 : (281474976710655 : Int64).toInt = 281474976710655 := by decide +kernel
theorem cw_X11_330 : ((-1) : Int64).toInt = (-1) := by decide +kernel
theorem cw_X12_266 : (11 : Int64).toInt = 11 := by decide +kernel
theorem cw_X12_275 : (12 : Int64).toInt = 12 := by decide +kernel
theorem cw_X12_277 : (4 : Int64).toInt = 4 := by decide +kernel
theorem cw_X12_279 : (3 : Int64).toInt = 3 := by decide +kernel
theorem cw_X12_281 : (2 : Int64).toInt = 2 := by decide +kernel
theorem cw_X12_283 : (15 : Int64).toInt = 15 := by decide +kernel
theorem cw_X12_292 : ((-1) : Int64).toInt = (-1) := by decide +kernel
theorem cw_X12_294 : (1000000 : Int64).toInt = 1000000 := by decide +kernel
theorem cw_X12_296 : ((-8000) : Int64).toInt = (-8000) := by decide +kernel
theorem cw_X12_298 : (8000 : Int64).toInt = 8000 := by decide +kernel
theorem cw_X12_405 : (10 : Int64).toInt = 10 := by decide +kernel
theorem cw_X12_410 : (5 : Int64).toInt = 5 := by decide +kernel
theorem cw_X12_418 : (100000 : Int64).toInt = 100000 := by decide +kernel
theorem cw_X12_420 : (255 : Int64).toInt = 255 := by decide +kernel
theorem cw_X12_480 : (10000 : Int64).toInt = 10000 := by decide +kernel
theorem cw_X12_482 : (1000 : Int64).toInt = 1000 := by decide +kernel
theorem cw_X12_484 : (200 : Int64).toInt = 200 := by decide +kernel
theorem cw_X12_508 : (8 : Int64).toInt = 8 := by decide +kernel
theorem cw_X12_513 : (6 : Int64).toInt = 6 := by decide +kernel
theorem cw_X5_38 : ((-1) : Int64).toInt = (-1) := by decide +kernel
theorem cw_X9_9 : ((-1) : Int64).toInt = (-1) := by decide +kernel
theorem cw_X9_33 : (4503599627370495 : Int64).toInt = 4503599627370495 := by decide +kernel
theorem cv_X10_28 : (65535 : Int32).toInt = 65535 := by decide +kernel
theorem cv_X10_70 : (33800 : Int32).toInt = 33800 := by decide +kernel
theorem cv_X11_149 : (1000000 : Int32).toInt = 1000000 := by decide +kernel
theorem cv_X11_180 : (10000000 : Int32).toInt = 10000000 := by decide +kernel
theorem cv_X11_316 : (100000 : Int32).toInt = 100000 := by decide +kernel
theorem cv_X12_203 : (40960 : Int32).toInt = 40960 := by decide +kernel
theorem cv_X12_431 : (65535 : Int32).toInt = 65535 := by decide +kernel
theorem cv_X12_432 : (33800 : Int32).toInt = 33800 := by decide +kernel
theorem cv_X12_489 : (10000000 : Int32).toInt = 10000000 := by decide +kernel
