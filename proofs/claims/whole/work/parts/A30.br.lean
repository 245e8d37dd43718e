/-! THE BRIDGE: the class's training beside the reference's -/
def Rt (S sw em t : Int → Int) : Prop := S 2 = t 0 ∧ S 3 = t 1 ∧ S 4 = t 2 ∧ S 7 = t 3 ∧ S 9 = t 4 ∧ S 8 = t 5 ∧ S 10 = t 6 ∧ S 11 = t 7 ∧ (∀ l, 0 ≤ l → l < 4 → sw l = t (8 + l) ∧ em l = t (12 + l)) ∧ S 5 = b4 (fun l => decide (t (16 + l) = 1)) ∧ S 6 = b4 (fun l => decide (t (20 + l) = 1)) ∧ (∀ l, 0 ≤ l → l < 4 → (t (16 + l) = 0 ∨ t (16 + l) = 1) ∧ (t (20 + l) = 0 ∨ t (20 + l) = 1)) ∧ (∀ l, t 1 ≤ l → l < 4 → t (16 + l) = 0 ∧ t (20 + l) = 0)
/-- a set of lanes within n -/
def msk (n : Int) (C : Int → Bool) (l : Int) : Bool := decide (l < n) && C l
theorem all_i (C : Int → Bool) {n : Int} (hn : n = 1 ∨ n = 2 ∨ n = 4) : b4 (msk n C) = al n ↔ gA C 0 n.toNat = true := by
  have key : ∀ c0 c1 c2 c3 : Bool, (bt c0 false false false = 1 ↔ (c0 && true) = true) ∧ (bt c0 c1 false false = 3 ↔ (c0 && (c1 && true)) = true) ∧ (bt c0 c1 c2 c3 = 15 ↔ (c0 && (c1 && (c2 && (c3 && true)))) = true) := by decide
  rcases hn with rfl | rfl | rfl
  · exact (key (C 0) false false false).1
  · exact (key (C 0) (C 1) false false).2.1
  · exact (key (C 0) (C 1) (C 2) (C 3)).2.2
theorem or_i (C : Int → Bool) {n : Int} (hn : n = 1 ∨ n = 2 ∨ n = 4) : o4 (msk n C) = gO C 0 n.toNat := by
  have key : ∀ c0 c1 c2 c3 : Bool, ((c0 || false || false || false) = (c0 || false)) ∧ ((c0 || c1 || false || false) = (c0 || (c1 || false))) ∧ ((c0 || c1 || c2 || c3) = (c0 || (c1 || (c2 || (c3 || false))))) := by decide
  rcases hn with rfl | rfl | rfl
  · exact (key (C 0) false false false).1
  · exact (key (C 0) (C 1) false false).2.1
  · exact (key (C 0) (C 1) (C 2) (C 3)).2.2
theorem gF_i (C : Int → Bool) {n : Int} (hn : n = 1 ∨ n = 2 ∨ n = 4) : gF C 0 0 n.toNat = b4 (msk n C) := by
  have key : ∀ c0 c1 c2 c3 : Bool, (mm_or 0 (if c0 = true then mm_shl 1 0 else 0) = bt c0 false false false) ∧ (mm_or (mm_or 0 (if c0 = true then mm_shl 1 0 else 0)) (if c1 = true then mm_shl 1 1 else 0) = bt c0 c1 false false) ∧ (mm_or (mm_or (mm_or (mm_or 0 (if c0 = true then mm_shl 1 0 else 0)) (if c1 = true then mm_shl 1 1 else 0)) (if c2 = true then mm_shl 1 2 else 0)) (if c3 = true then mm_shl 1 3 else 0) = bt c0 c1 c2 c3) := by decide +kernel
  rcases hn with rfl | rfl | rfl
  · exact (key (C 0) false false false).1
  · exact (key (C 0) (C 1) false false).2.1
  · exact (key (C 0) (C 1) (C 2) (C 3)).2.2
theorem no_i (C : Int → Bool) {n : Int} (hn : n = 1 ∨ n = 2 ∨ n = 4) : b4 (msk n C) = 0 ↔ gO C 0 n.toNat = false := by
  have key : ∀ c0 c1 c2 c3 : Bool, (bt c0 false false false = 0 ↔ (c0 || false) = false) ∧ (bt c0 c1 false false = 0 ↔ (c0 || (c1 || false)) = false) ∧ (bt c0 c1 c2 c3 = 0 ↔ (c0 || (c1 || (c2 || (c3 || false)))) = false) := by decide
  rcases hn with rfl | rfl | rfl
  · exact (key (C 0) false false false).1
  · exact (key (C 0) (C 1) false false).2.1
  · exact (key (C 0) (C 1) (C 2) (C 3)).2.2
