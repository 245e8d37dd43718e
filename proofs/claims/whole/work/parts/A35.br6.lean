theorem e2_o (t : Int → Int) (l j : Int) (h1 : ¬ j = 8 + l) (h2 : ¬ j = 12 + l) : e2 t l j = t j := by
  unfold e2 e1
  split
  · show (if j = 8 + l then t (8 + l) - 1 else if j = 12 + l then t (12 + l) + 1 else t j) = t j
    rw [if_neg h1, if_neg h2]
  · show (if j = 12 + l then t (12 + l) + 1 else t j) = t j
    rw [if_neg h2]
theorem e2_e (t : Int → Int) (l : Int) : e2 t l (12 + l) = t (12 + l) + 1 := by
  unfold e2 e1
  split
  · show (if 12 + l = 8 + l then t (8 + l) - 1 else if 12 + l = 12 + l then t (12 + l) + 1 else t (12 + l)) = t (12 + l) + 1
    rw [if_neg (by omega), if_pos rfl]
  · show (if 12 + l = 12 + l then t (12 + l) + 1 else t (12 + l)) = t (12 + l) + 1
    rw [if_pos rfl]
theorem e2_s (t : Int → Int) (l : Int) : e2 t l (8 + l) = if 3 < t (8 + l) + (t (12 + l) + 1) then t (8 + l) - 1 else t (8 + l) := by
  unfold e2 e1
  split
  · show (if 8 + l = 8 + l then t (8 + l) - 1 else _) = t (8 + l) - 1
    rw [if_pos rfl]
  · show (if 8 + l = 12 + l then t (12 + l) + 1 else t (8 + l)) = t (8 + l)
    rw [if_neg (by omega)]
theorem jT_o (W : Int → Bool) : ∀ (m : Nat) (l : Int) (t : Int → Int) (j : Int), ¬ (8 + l ≤ j ∧ j < 8 + l + m) → ¬ (12 + l ≤ j ∧ j < 12 + l + m) → jT W l t m j = t j
  | 0, _, _, _, _, _ => rfl
  | m + 1, l, t, j, h1, h2 => by
    simp only [jT]
    rw [jT_o W m (l + 1) _ j (by omega) (by omega)]
    split
    · exact e2_o t l j (by omega) (by omega)
    · rfl
theorem jT_e (W : Int → Bool) : ∀ (m : Nat) (l : Int) (t : Int → Int) (j : Int), 0 ≤ l → l + m ≤ 4 → l ≤ j → j < l + m → jT W l t m (12 + j) = t (12 + j) + be (W j)
  | 0, _, _, _, _, _, h1, h2 => by omega
  | m + 1, l, t, j, l0, l4, h1, h2 => by
    simp only [jT]
    by_cases e : j = l
    · subst e
      rw [jT_o W m (j + 1) _ (12 + j) (by omega) (by omega)]
      cases hw : W j
      · rw [if_neg (by decide)]; show t (12 + j) = t (12 + j) + 0; omega
      · rw [if_pos rfl, e2_e]; rfl
    · rw [jT_e W m (l + 1) _ j (by omega) (by omega) (by omega) (by omega)]
      split
      · rw [e2_o t l _ (by omega) (by omega)]
      · rfl
theorem jT_s (W : Int → Bool) : ∀ (m : Nat) (l : Int) (t : Int → Int) (j : Int), 0 ≤ l → l + m ≤ 4 → l ≤ j → j < l + m → jT W l t m (8 + j) = if W j = true ∧ 3 < t (8 + j) + (t (12 + j) + 1) then t (8 + j) - 1 else t (8 + j)
  | 0, _, _, _, _, _, h1, h2 => by omega
  | m + 1, l, t, j, l0, l4, h1, h2 => by
    simp only [jT]
    by_cases e : j = l
    · subst e
      rw [jT_o W m (j + 1) _ (8 + j) (by omega) (by omega)]
      cases hw : W j
      · rw [if_neg (by decide), if_neg (fun q => by cases q.1)]
      · rw [if_pos rfl, e2_s]
        by_cases q : 3 < t (8 + j) + (t (12 + j) + 1)
        · rw [if_pos q, if_pos ⟨rfl, q⟩]
        · rw [if_neg q, if_neg (fun x => q x.2)]
    · rw [jT_s W m (l + 1) _ j (by omega) (by omega) (by omega) (by omega)]
      by_cases hw : W l = true
      · rw [if_pos hw, e2_o t l _ (by omega) (by omega), e2_o t l _ (by omega) (by omega)]
      · rw [if_neg hw]
