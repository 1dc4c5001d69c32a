/-! ===== words of the written-out methods, and rows as the program that writes them uses them ===== -/
section EVX
variable {w : JW} {d mc ms : Nat} {M : JT} {pc : Nat} {lv : List (Nat × JV)} {st : List JV} {h h1 h' : JM} {r : Option JV}
theorem ev_topI {x v : Int} (ex : x = v) (k : Ev w d mc ms M pc lv (.inl x :: st) h r h') : Ev w d mc ms M pc lv (.inl v :: st) h r h' := by subst ex; exact k
theorem ev_topL {x v : Int} (ex : x = v) (k : Ev w d mc ms M pc lv (.inr (.inl x) :: st) h r h') : Ev w d mc ms M pc lv (.inr (.inl v) :: st) h r h' := by subst ex; exact k
theorem ev_topR {x v : Option (Nat × Int)} (ex : v = x) (k : Ev w d mc ms M pc lv (.inr (.inr x) :: st) h r h') : Ev w d mc ms M pc lv (.inr (.inr v) :: st) h r h' := by subst ex; exact k
/-- the stack, written otherwise -/
theorem ev_st {st2 : List JV} (es : st = st2) (k : Ev w d mc ms M pc lv st2 h r h') : Ev w d mc ms M pc lv st h r h' := by subst es; exact k
theorem j_mn {t : Nat} {e : Option Int} : Option.map (Prod.mk t) e = none ↔ e = none := by cases e <;> simp
theorem j_mi {t : Nat} {a b : Option Int} : Option.map (Prod.mk t) a = Option.map (Prod.mk t) b ↔ a = b := by
  cases a <;> cases b <;> simp
theorem ev_nullK {t : Nat} (e : Option Int) {off : Int} (tgt : Nat) (hdg : decode M.2.1 pc = .ok (.ifnull off, 3)) (ht : (pc : Int) + off = (tgt : Int) := by rfl) (kt : e = none → Ev w d mc ms M tgt lv st h r h') (kf : ¬ e = none → Ev w d mc ms M (pc + 3) lv st h r h') : Ev w d mc ms M pc lv (.inr (.inr (Option.map (Prod.mk t) e)) :: st) h r h' :=
  ev_ifnull tgt hdg ht (fun q => kt (j_mn.mp q)) (fun q => kf (fun z => q (j_mn.mpr z)))
theorem ev_nonnullK {t : Nat} (e : Option Int) {off : Int} (tgt : Nat) (hdg : decode M.2.1 pc = .ok (.ifnonnull off, 3)) (ht : (pc : Int) + off = (tgt : Int) := by rfl) (kt : ¬ e = none → Ev w d mc ms M tgt lv st h r h') (kf : e = none → Ev w d mc ms M (pc + 3) lv st h r h') : Ev w d mc ms M pc lv (.inr (.inr (Option.map (Prod.mk t) e)) :: st) h r h' :=
  ev_ifnonnull tgt hdg ht (fun q => kt (fun z => q (j_mn.mpr z))) (fun q => kf (j_mn.mp q))
theorem ev_acmpeqK {t : Nat} (a b : Option Int) {off : Int} (tgt : Nat) (hdg : decode M.2.1 pc = .ok (.if_acmp .eq off, 3)) (ht : (pc : Int) + off = (tgt : Int) := by rfl) (kt : a = b → Ev w d mc ms M tgt lv st h r h') (kf : ¬ a = b → Ev w d mc ms M (pc + 3) lv st h r h') : Ev w d mc ms M pc lv (.inr (.inr (Option.map (Prod.mk t) b)) :: .inr (.inr (Option.map (Prod.mk t) a)) :: st) h r h' :=
  ev_acmpeq tgt hdg ht (fun q => kt (j_mi.mp q)) (fun q => kf (fun z => q (j_mi.mpr z)))
theorem ev_acmpneK {t : Nat} (a b : Option Int) {off : Int} (tgt : Nat) (hdg : decode M.2.1 pc = .ok (.if_acmp .ne off, 3)) (ht : (pc : Int) + off = (tgt : Int) := by rfl) (kt : ¬ a = b → Ev w d mc ms M tgt lv st h r h') (kf : a = b → Ev w d mc ms M (pc + 3) lv st h r h') : Ev w d mc ms M pc lv (.inr (.inr (Option.map (Prod.mk t) b)) :: .inr (.inr (Option.map (Prod.mk t) a)) :: st) h r h' :=
  ev_acmpne tgt hdg ht (fun q => kt (fun z => q (j_mi.mpr z))) (fun q => kf (j_mi.mp q))
def j_args : Nat → List JV → List (Nat × JV)
  | _, [] => []
  | i, v :: vs => (i, v) :: j_args (if j_c1 v then i + 1 else i + 2) vs
def j_wd : List JV → Nat
  | [] => 0
  | v :: vs => (if j_c1 v then 1 else 2) + j_wd vs
theorem j_argsl (al : JA) : ∀ (as : List JV) (i : Nat), lv_args i (as.map (j_v al)) = j_l al (j_args i as)
  | [], _ => rfl
  | v :: vs, i => by
    show (i, j_v al v) :: lv_args _ _ = (i, j_v al v) :: j_l al _
    rw [j_argsl al vs]
    have := j_c2 al v
    cases hc : j_c1 v
    · rw [hc] at this
      simp at this
      rw [if_pos this]; rfl
    · rw [hc] at this
      simp at this
      rw [if_neg this]; rfl
theorem j_argsm : ∀ (as : List JV) (i : Nat), ∀ q ∈ j_args i as, q.2 ∈ as
  | [], _, q, hq => by cases hq
  | v :: vs, i, q, hq => by
    rcases List.mem_cons.mp hq with rfl | hq
    · exact List.mem_cons_self
    · exact List.mem_cons_of_mem _ (j_argsm vs _ q hq)
theorem j_wdl (al : JA) : ∀ as : List JV, (lg_sl (as.map (j_v al))).length ≤ j_wd as
  | [] => by simp [lg_sl, j_wd]
  | v :: vs => by
    have ih := j_wdl al vs
    have := j_c2 al v
    rcases v with i | i | x
    · simp [lg_sl, j_wd, j_c1, j_v, Value.category] at ih ⊢; omega
    · simp [lg_sl, j_wd, j_c1, j_v, Value.category] at ih ⊢; omega
    · cases x <;> simp [lg_sl, j_wd, j_c1, j_v, va_rf, Value.category] at ih ⊢ <;> omega
theorem Cn.by {y : MethodName} {as : List JV} {cc : ByteArray} {maxL : Nat} {ret : Option FieldType} {own : String} {b : Bool} (lv0 : List (Nat × JV)) (hown : y.cls = own) (hb : b = true → y.name = "<init>") (hy : plainName y.cls = true) (hlv : j_args 0 as = lv0 := by rfl) (hlen : decide (j_wd as ≤ maxL) = true := by rfl)
    (K : Ev w d mc ms (own, cc, maxL, ret, b) 0 lv0 [] h r h') : Cn w d mc ms y cc maxL ret as h r h' := by
  subst hlv
  exact Cn.of hown hb hy (fun al => j_argsl al as 0) (j_argsm as 0) (fun al => Nat.le_trans (j_wdl al as) (of_decide_eq_true hlen)) K
end EVX
/-! ===== the world of the law's body: cells made by the two constructors (and rows), lengths and references that never change ===== -/
