/-! ===== bits of a unit ===== -/
def bt : Nat → Nat → List Nat
  | _, 0 => []
  | v, w + 1 => v % 2 :: bt (v / 2) w
def pv : List Nat → Nat → Nat
  | _, 0 => 0
  | [], _ + 1 => 0
  | b :: l, w + 1 => b + 2 * pv l w
def vr (l : List Nat) (a w : Nat) : Nat := pv (l.drop a) w
def cst (r b : Nat) : Nat := if (r + b) % 2 = 1 then (r / 2) ^^^ 33800 else r / 2
def crc (l : List Nat) : Nat := l.foldl cst 65535
def stf : Nat → List Nat → List Nat
  | _, [] => []
  | o, b :: l => if b = 1 then (if o = 4 then 1 :: 0 :: stf 0 l else 1 :: stf (o + 1) l) else b :: stf 0 l
def onn : Nat → List Nat → Nat
  | o, [] => o
  | o, b :: l => if b = 1 then (if o = 4 then onn 0 l else onn (o + 1) l) else onn 0 l
def flg : List Nat := [0, 1, 1, 1, 1, 1, 1, 0]
def uf : Nat → List Nat → Option (List Nat)
  | _, [] => none
  | r, b :: t => if flg.isPrefixOf (b :: t) = true then some [] else if r = 5 then (if b = 1 then none else uf 0 t) else (uf (if b = 1 then r + 1 else 0) t).map (b :: ·)
def bl (l : List Nat) : Prop := ∀ b ∈ l, b < 2
theorem bl_nil : bl [] := fun _ h => by cases h
theorem bl_app {a b : List Nat} (h1 : bl a) (h2 : bl b) : bl (a ++ b) := fun x h => (List.mem_append.1 h).elim (h1 x) (h2 x)
theorem bl_cons {a : Nat} {b : List Nat} (h1 : a < 2) (h2 : bl b) : bl (a :: b) := fun x h => by
  rcases List.mem_cons.1 h with rfl | h
  · exact h1
  · exact h2 x h
theorem bl_tl {a : Nat} {b : List Nat} (h : bl (a :: b)) : a < 2 ∧ bl b := ⟨h a (List.mem_cons_self), fun x q => h x (List.mem_cons_of_mem _ q)⟩
theorem bt_len : ∀ (w v : Nat), (bt v w).length = w
  | 0, _ => rfl
  | w + 1, v => by simp [bt, bt_len w]
theorem bt_bl : ∀ (w v : Nat), bl (bt v w)
  | 0, _ => bl_nil
  | w + 1, v => by
    unfold bt
    exact bl_cons (by omega) (bt_bl w _)
theorem pv_bt : ∀ (w v : Nat) (C : List Nat), pv (bt v w ++ C) w = v % 2 ^ w
  | 0, v, C => by simp [pv, Nat.mod_one]
  | w + 1, v, C => by
    show v % 2 + 2 * pv (bt (v / 2) w ++ C) w = _
    rw [pv_bt w, Nat.pow_succ, Nat.mul_comm (2 ^ w) 2, Nat.mod_mul]
theorem bt_app : ∀ (a b v : Nat), bt v (a + b) = bt v a ++ bt (v / 2 ^ a) b
  | 0, b, v => by simp [bt]
  | a + 1, b, v => by
    rw [show a + 1 + b = (a + b) + 1 by omega]
    show v % 2 :: bt (v / 2) (a + b) = v % 2 :: (bt (v / 2) a ++ bt (v / 2 ^ (a + 1)) b)
    rw [bt_app a b, Nat.div_div_eq_div_mul, Nat.pow_succ, Nat.mul_comm]
theorem bt_z : ∀ w, bt 0 w = List.replicate w 0
  | 0 => rfl
  | w + 1 => by
    show 0 % 2 :: bt (0 / 2) w = _
    rw [Nat.zero_div, bt_z w]; rfl
theorem stf_app : ∀ (a b : List Nat) (o : Nat), stf o (a ++ b) = stf o a ++ stf (onn o a) b
  | [], b, o => rfl
  | x :: a, b, o => by
    rw [List.cons_append]
    by_cases z : x = 1
    · by_cases y : o = 4
      · simp [stf, onn, z, y, stf_app a]
      · simp [stf, onn, z, y, stf_app a]
    · simp [stf, onn, z, stf_app a]
theorem onn_app : ∀ (a b : List Nat) (o : Nat), onn o (a ++ b) = onn (onn o a) b
  | [], b, o => rfl
  | x :: a, b, o => by
    rw [List.cons_append]
    by_cases z : x = 1
    · by_cases y : o = 4
      · simp [onn, z, y, onn_app a]
      · simp [onn, z, y, onn_app a]
    · simp [onn, z, onn_app a]
theorem onn_le : ∀ (a : List Nat) (o : Nat), o ≤ 4 → onn o a ≤ 4
  | [], o, h => h
  | x :: a, o, h => by
    by_cases z : x = 1
    · by_cases y : o = 4
      · simp [onn, z, y]; exact onn_le a 0 (by omega)
      · simp [onn, z, y]; exact onn_le a _ (by omega)
    · simp [onn, z]; exact onn_le a 0 (by omega)
theorem stf_len : ∀ (a : List Nat) (o : Nat), o ≤ 4 → 5 * (stf o a).length ≤ 6 * a.length + o ∧ a.length ≤ (stf o a).length
  | [], o, h => by simp [stf]
  | x :: a, o, h => by
    by_cases z : x = 1
    · by_cases y : o = 4
      · have := stf_len a 0 (by omega)
        simp [stf, z, y]; omega
      · have := stf_len a (o + 1) (by omega)
        simp [stf, z, y]; omega
    · have := stf_len a 0 (by omega)
      simp [stf, z]; omega
theorem stf_bl : ∀ (a : List Nat) (o : Nat), bl a → bl (stf o a)
  | [], o, h => bl_nil
  | x :: a, o, h => by
    have h2 := bl_tl h
    by_cases z : x = 1
    · by_cases y : o = 4
      · simp [stf, z, y]; exact bl_cons (by omega) (bl_cons (by omega) (stf_bl a 0 h2.2))
      · simp [stf, z, y]; exact bl_cons (by omega) (stf_bl a _ h2.2)
    · simp [stf, z]; exact bl_cons h2.1 (stf_bl a 0 h2.2)
theorem flg_bl : bl flg := fun x h => by simp [flg] at h; omega
theorem six : ∀ (a : List Nat) (o k : Nat), o ≤ 4 → k = 6 - o → (List.replicate k 1 ++ [0]).isPrefixOf (stf o a ++ flg) = false
  | [], o, k, h, e => by
    obtain ⟨j, rfl⟩ : ∃ j, k = j + 1 := ⟨k - 1, by omega⟩
    simp [stf, flg, List.replicate_succ, List.isPrefixOf]
  | x :: a, o, k, h, e => by
    obtain ⟨j, rfl⟩ : ∃ j, k = j + 1 := ⟨k - 1, by omega⟩
    by_cases z : x = 1
    · by_cases y : o = 4
      · have : j = 1 := by omega
        subst this
        simp [stf, z, y, List.replicate, List.isPrefixOf]
      · have q := six a (o + 1) j (by omega) (by omega)
        simp [stf, z, y, List.replicate_succ, List.isPrefixOf, q]
    · have : ¬ 1 = x := fun w => z w.symm
      simp [stf, z, List.replicate_succ, List.isPrefixOf, this]
theorem uf_stf : ∀ (a : List Nat) (o : Nat), o ≤ 4 → bl a → uf o (stf o a ++ flg) = some a
  | [], o, h, hb => by
    show uf o flg = _
    unfold flg uf
    rw [if_pos (by decide)]
  | x :: a, o, h, hb => by
    have hb2 := bl_tl hb
    by_cases z : x = 1
    · subst z
      by_cases y : o = 4
      · subst y
        have s0 := six a 0 6 (by omega) rfl
        have e1 : flg.isPrefixOf (1 :: (0 :: (stf 0 a ++ flg))) = false := by simp [flg, List.isPrefixOf]
        have e2 : flg.isPrefixOf (0 :: (stf 0 a ++ flg)) = false := by
          show (((0 : Nat) == 0) && (List.replicate 6 1 ++ [0]).isPrefixOf (stf 0 a ++ flg)) = false
          rw [s0]; rfl
        show uf 4 ((if 1 = 1 then (if 4 = 4 then 1 :: 0 :: stf 0 a else 1 :: stf (4 + 1) a) else 1 :: stf 0 a) ++ flg) = _
        rw [if_pos rfl, if_pos rfl]
        show uf 4 (1 :: (0 :: (stf 0 a ++ flg))) = _
        unfold uf
        rw [if_neg (by rw [e1]; decide), if_neg (by decide), if_pos rfl]
        unfold uf
        rw [if_neg (by rw [e2]; decide), if_pos rfl, if_neg (by decide), uf_stf a 0 (by omega) hb2.2]
        rfl
      · have e1 : flg.isPrefixOf (1 :: (stf (o + 1) a ++ flg)) = false := by simp [flg, List.isPrefixOf]
        show uf o ((if 1 = 1 then (if o = 4 then 1 :: 0 :: stf 0 a else 1 :: stf (o + 1) a) else 1 :: stf 0 a) ++ flg) = _
        rw [if_pos rfl, if_neg y]
        show uf o (1 :: (stf (o + 1) a ++ flg)) = _
        unfold uf
        rw [if_neg (by rw [e1]; decide), if_neg (by omega), if_pos rfl, uf_stf a (o + 1) (by omega) hb2.2]
        rfl
    · have x0 : x = 0 := by omega
      subst x0
      have s0 := six a 0 6 (by omega) rfl
      have e2 : flg.isPrefixOf (0 :: (stf 0 a ++ flg)) = false := by
        show (((0 : Nat) == 0) && (List.replicate 6 1 ++ [0]).isPrefixOf (stf 0 a ++ flg)) = false
        rw [s0]; rfl
      show uf o ((if 0 = 1 then (if o = 4 then 1 :: 0 :: stf 0 a else 1 :: stf (o + 1) a) else 0 :: stf 0 a) ++ flg) = _
      rw [if_neg (by decide)]
      show uf o (0 :: (stf 0 a ++ flg)) = _
      unfold uf
      rw [if_neg (by rw [e2]; decide), if_neg (by omega), if_neg (by decide), uf_stf a 0 (by omega) hb2.2]
      rfl
theorem cst_lt {r b : Nat} (h : r < 65536) : cst r b < 65536 := by
  unfold cst
  split
  · exact Nat.xor_lt_two_pow (n := 16) (by omega) (by decide)
  · omega
theorem crc_lt' : ∀ (l : List Nat) (r : Nat), r < 65536 → l.foldl cst r < 65536
  | [], r, h => h
  | b :: l, r, h => crc_lt' l _ (cst_lt h)
theorem crc_lt (l : List Nat) : crc l < 65536 := crc_lt' l _ (by decide)
theorem crc_app (a b : List Nat) : crc (a ++ b) = b.foldl cst (crc a) := List.foldl_append ..
/-- an array's beginning is a list -/
def ar (a : Int → Int) (L : List Nat) : Prop := ∀ j : Nat, j < L.length → a j = (L.getD j 0 : Int)
theorem ar_nil (a : Int → Int) : ar a [] := fun j h => by simp at h
theorem ar_cg {a b : Int → Int} {L : List Nat} (h : ar a L) (e : ∀ j : Nat, j < L.length → b j = a j) : ar b L := fun j q => by rw [e j q, h j q]
theorem ar_snoc {a : Int → Int} {L : List Nat} {x : Nat} (h : ar a L) (hx : a (L.length : Int) = (x : Int)) : ar a (L ++ [x]) := fun j q => by
  by_cases z : j = L.length
  · subst z; rw [hx]; simp
  · have : j < L.length := by simp at q; omega
    rw [h j this]
    simp [List.getElem?_append_left this]
/-- the body of a unit -/
def bdy (bsn bib fsn fib : Nat) (L : List Nat) : List Nat := bt bsn 7 ++ bt bib 1 ++ bt fsn 7 ++ bt fib 1 ++ bt L.length 8 ++ L.flatMap (fun b => bt b 8)
def ful (bsn bib fsn fib : Nat) (L : List Nat) : List Nat := bdy bsn bib fsn fib L ++ bt (65535 - crc (bdy bsn bib fsn fib L)) 16
def enc (l : List Nat) : List Nat := flg ++ stf 0 l ++ flg
theorem fm_len : ∀ (L : List Nat), (L.flatMap (fun b => bt b 8)).length = 8 * L.length
  | [] => rfl
  | b :: L => by
    rw [List.flatMap_cons, List.length_append, bt_len, fm_len L, List.length_cons]; omega
theorem fm_bl : ∀ (L : List Nat), bl (L.flatMap (fun b => bt b 8))
  | [] => bl_nil
  | b :: L => by
    rw [List.flatMap_cons]
    exact bl_app (bt_bl _ _) (fm_bl L)
theorem bdy_len (a b c d : Nat) (L : List Nat) : (bdy a b c d L).length = 24 + 8 * L.length := by
  unfold bdy
  simp only [List.length_append, bt_len, fm_len]
theorem ful_len (a b c d : Nat) (L : List Nat) : (ful a b c d L).length = 40 + 8 * L.length := by
  unfold ful
  rw [List.length_append, bdy_len, bt_len]; omega
theorem bdy_bl (a b c d : Nat) (L : List Nat) : bl (bdy a b c d L) := bl_app (bl_app (bl_app (bl_app (bl_app (bt_bl _ _) (bt_bl _ _)) (bt_bl _ _)) (bt_bl _ _)) (bt_bl _ _)) (fm_bl L)
theorem ful_bl (a b c d : Nat) (L : List Nat) : bl (ful a b c d L) := bl_app (bdy_bl a b c d L) (bt_bl _ _)
theorem vr_at {A C l : List Nat} {v w a : Nat} (h : l = A ++ (bt v w ++ C)) (ha : a = A.length) : vr l a w = v % 2 ^ w := by
  unfold vr
  rw [h, ha, List.drop_left, pv_bt]
theorem vr_f0 (a b c d : Nat) (L : List Nat) : vr (ful a b c d L) 0 7 = a % 128 := vr_at (A := []) (v := a) (w := 7) (by unfold ful bdy; simp only [List.append_assoc, List.nil_append]; rfl) rfl
theorem vr_f7 (a b c d : Nat) (L : List Nat) : vr (ful a b c d L) 7 1 = b % 2 := vr_at (A := bt a 7) (v := b) (w := 1) (by unfold ful bdy; simp only [List.append_assoc]; rfl) (bt_len _ _).symm
theorem vr_f8 (a b c d : Nat) (L : List Nat) : vr (ful a b c d L) 8 7 = c % 128 := vr_at (A := bt a 7 ++ bt b 1) (v := c) (w := 7) (by unfold ful bdy; simp only [List.append_assoc]; rfl) (by simp [bt_len])
theorem vr_f15 (a b c d : Nat) (L : List Nat) : vr (ful a b c d L) 15 1 = d % 2 := vr_at (A := bt a 7 ++ bt b 1 ++ bt c 7) (v := d) (w := 1) (by unfold ful bdy; simp only [List.append_assoc]; rfl) (by simp [bt_len])
theorem vr_f16 (a b c d : Nat) (L : List Nat) (hL : L.length < 64) : vr (ful a b c d L) 16 6 = L.length := by
  have h : vr (ful a b c d L) 16 6 = L.length % 2 ^ 6 := vr_at (A := bt a 7 ++ bt b 1 ++ bt c 7 ++ bt d 1) (v := L.length) (w := 6) (by unfold ful bdy; rw [show (8 : Nat) = 6 + 2 from rfl, bt_app]; simp only [List.append_assoc]; rfl) (by simp [bt_len])
  rw [h]; exact Nat.mod_eq_of_lt (by omega)
theorem fm_split : ∀ (j : Nat) (L : List Nat), j < L.length → ∃ A C, L.flatMap (fun b => bt b 8) = A ++ (bt (L.getD j 0) 8 ++ C) ∧ A.length = 8 * j
  | _, [], h => by simp at h
  | 0, b :: L, _ => ⟨[], L.flatMap (fun b => bt b 8), by rw [List.flatMap_cons]; rfl, rfl⟩
  | j + 1, b :: L, h => by
    obtain ⟨A, C, e1, e2⟩ := fm_split j L (by simp at h; omega)
    refine ⟨bt b 8 ++ A, C, ?_, ?_⟩
    · rw [List.flatMap_cons, e1, List.append_assoc]; rfl
    · rw [List.length_append, bt_len, e2]; omega
theorem vr_fb (a b c d : Nat) (L : List Nat) {j : Nat} (hj : j < L.length) : vr (ful a b c d L) (24 + 8 * j) 8 = L.getD j 0 % 256 := by
  obtain ⟨A, C, e1, e2⟩ := fm_split j L hj
  exact vr_at (A := bt a 7 ++ bt b 1 ++ bt c 7 ++ bt d 1 ++ bt L.length 8 ++ A) (v := L.getD j 0) (w := 8) (by unfold ful; rw [show bdy a b c d L = bt a 7 ++ bt b 1 ++ bt c 7 ++ bt d 1 ++ bt L.length 8 ++ L.flatMap (fun b => bt b 8) from rfl, e1]; simp only [List.append_assoc]; rfl) (by simp [bt_len, e2]; omega)
theorem vr_fc (a b c d : Nat) (L : List Nat) : vr (ful a b c d L) ((ful a b c d L).length - 16) 16 = 65535 - crc (bdy a b c d L) := by
  have h : vr (ful a b c d L) ((ful a b c d L).length - 16) 16 = (65535 - crc (bdy a b c d L)) % 2 ^ 16 := vr_at (A := bdy a b c d L) (v := 65535 - crc (bdy a b c d L)) (w := 16) (C := []) (by rw [List.append_nil]; rfl) (by rw [ful_len, bdy_len]; omega)
  rw [h]; exact Nat.mod_eq_of_lt (by omega)
theorem enc_len (a b c d : Nat) (L : List Nat) (hL : L.length ≤ 16) : 56 ≤ (enc (ful a b c d L)).length ∧ (enc (ful a b c d L)).length ≤ 220 := by
  unfold enc
  have := stf_len (ful a b c d L) 0 (by omega)
  rw [ful_len] at this
  simp only [List.length_append]
  have e : flg.length = 8 := rfl
  omega
theorem enc_bl {l : List Nat} (h : bl l) : bl (enc l) := bl_app (bl_app flg_bl (stf_bl l 0 h)) flg_bl
/-- what is read of the bits of a unit -/
def rd (U : List Nat) : Option (List Nat) := if flg.isPrefixOf U = true then (uf 0 (U.drop 8)).bind (fun l => if 40 ≤ l.length ∧ l.length = 40 + 8 * vr l 16 6 ∧ 65535 - crc (l.take (l.length - 16)) = vr l (l.length - 16) 16 then some l else none) else none
theorem rd_enc (a b c d : Nat) (L : List Nat) (hL : L.length ≤ 16) : rd (enc (ful a b c d L)) = some (ful a b c d L) := by
  unfold rd enc
  have e1 : flg.isPrefixOf (flg ++ stf 0 (ful a b c d L) ++ flg) = true := by
    rw [List.append_assoc]
    simp [flg, List.isPrefixOf]
  have e2 : (flg ++ stf 0 (ful a b c d L) ++ flg).drop 8 = stf 0 (ful a b c d L) ++ flg := by
    rw [List.append_assoc]; rfl
  have e3 : (ful a b c d L).take ((ful a b c d L).length - 16) = bdy a b c d L := by
    rw [ful_len, show 40 + 8 * L.length - 16 = (bdy a b c d L).length by rw [bdy_len]; omega]
    unfold ful
    rw [List.take_left]
  rw [if_pos e1, e2, uf_stf _ 0 (by omega) (ful_bl a b c d L)]
  show (if _ then _ else _) = _
  rw [if_pos]
  refine ⟨by rw [ful_len]; omega, by rw [vr_f16 a b c d L (by omega), ful_len], ?_⟩
  rw [e3, vr_fc]
