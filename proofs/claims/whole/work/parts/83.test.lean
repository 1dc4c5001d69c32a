def rf (p : Int → Int) (o : Option Int) : Int := match o with | none => -1 | some i => p i
theorem xt_1 (c m : JM) (f : Int → Int) (hf : ∀ a b, f a = f b → a = b) (h1 : ∀ l, m.1 119 0 l = rf f (c.2.2 4 l 11)) (h2 : ∀ l i, c.2.2 4 l 11 = some i → c.1 0 i 9 ≠ -1) (l i : Int) (hl : c.1 0 i 9 ≠ -1) :
  (∀ l', (sI m 119 0 l (f i)).1 119 0 l' = rf f ((sR c 4 l 11 (some i)).2.2 4 l' 11)) ∧ (∀ l' i', (sR c 4 l 11 (some i)).2.2 4 l' 11 = some i' → (sR c 4 l 11 (some i)).1 0 i' 9 ≠ -1) := by
  constructor
  · grind [sI, sR, rf]
  · grind [sI, sR, rf]
theorem xt_2 (c m : JM) (f : Int → Int) (hf : ∀ a b, f a = f b → a = b) (h1 : ∀ i, c.1 0 i 9 ≠ -1 → m.1 135 0 (f i) = c.1 0 i 3) (i : Int) (hl : c.1 0 i 9 ≠ -1) (v : Int) :
  (∀ i', (sI (sI c 0 i 9 2) 0 i 3 v).1 0 i' 9 ≠ -1 → (sI (sI m 135 0 (f i) v) 133 0 (f i) 2).1 135 0 (f i') = (sI (sI c 0 i 9 2) 0 i 3 v).1 0 i' 3) := by
  grind [sI, sR, rf]
theorem xt_3 (c m : JM) (f : Int → Int) (hf : ∀ a b, f a = f b → a = b) (h1 : ∀ i, c.1 0 i 9 ≠ -1 → m.1 135 0 (f i) = c.1 0 i 3) (i : Int) (hl : c.1 0 i 9 ≠ -1) (v : Int) :
  (∀ i', (sI (sI c 0 i 9 2) 0 i 3 v).1 0 i' 9 ≠ -1 → (sI (sI m 135 0 (f i) v) 133 0 (f i) 2).1 135 0 (f i') = (sI (sI c 0 i 9 2) 0 i 3 v).1 0 i' 3) := by
  intro i'
  have e : f i' = f i ↔ i' = i := ⟨hf _ _, fun z => by rw [z]⟩
  simp only [sI, sR, e]
  by_cases q : i' = i <;> simp_all
