/-! called: the class's text -/
def tx (c : MM) (n l : Int) (f : Int → Int) : MM := fun b j => if b = 133 ∧ 0 ≤ j ∧ j < 16 then f j else if b = 132 ∧ j = 3 then n else if b = 132 ∧ j = 2 then l else c b j
theorem tx_b (c : MM) (n l : Int) (f : Int → Int) (b : Int) (h1 : ¬ b = 132) (h2 : ¬ b = 133) : tx c n l f b = c b := by
  funext j; unfold tx; rw [if_neg (by omega), if_neg (by omega), if_neg (by omega)]
theorem tx_k (c : MM) (n l : Int) (f : Int → Int) (k : Int) (h1 : ¬ k = 2) (h2 : ¬ k = 3) : tx c n l f 132 k = c 132 k := by
  unfold tx; rw [if_neg (by omega), if_neg (by omega), if_neg (by omega)]
theorem tx_3 (c : MM) (n l : Int) (f : Int → Int) : tx c n l f 132 3 = n := by unfold tx; rw [if_neg (by omega), if_pos ⟨rfl, rfl⟩]
theorem tx_v (c : MM) (n l : Int) (f : Int → Int) (j : Int) (h0 : 0 ≤ j) (h1 : j < 16) : tx c n l f 133 j = f j := by unfold tx; rw [if_pos ⟨rfl, h0, h1⟩]
theorem tx_u (c : MM) (n l : Int) (f : Int → Int) (p v : Int) (h0 : 0 ≤ p) (h1 : p < 16) : mset (tx c n l f) 133 p v = tx c n l (up f p v) := by
  funext b j; unfold mset tx up; (repeat' split) <;> first | rfl | (exfalso; omega)
theorem tx_n (c : MM) (n l : Int) (f : Int → Int) (v : Int) : mset (tx c n l f) 132 3 v = tx c v l f := by
  funext b j; unfold mset tx; (repeat' split) <;> first | rfl | (exfalso; omega)
theorem tx_l (c : MM) (n l : Int) (f : Int → Int) (v : Int) : mset (tx c n l f) 132 2 v = tx c n v f := by
  funext b j; unfold mset tx; (repeat' split) <;> first | rfl | (exfalso; omega)
theorem tx_i (c : MM) : c = tx c (c 132 3) (c 132 2) (c 133) := by
  funext b j; unfold tx
  by_cases h : b = 133 ∧ 0 ≤ j ∧ j < 16
  · rw [if_pos h, h.1]
  · rw [if_neg h]
    by_cases g : b = 132 ∧ j = 3
    · rw [if_pos g, g.1, g.2]
    · rw [if_neg g]
      by_cases k : b = 132 ∧ j = 2
      · rw [if_pos k, k.1, k.2]
      · rw [if_neg k]
/-- digit q of x, from the last one on -/
def dgd : Nat → Int → Int
  | 0, x => x % 10
  | q + 1, x => dgd q (x / 10)
theorem dgd_2 (q : Nat) (x : Int) : dgd (q + 2) x = dgd q (x / 100) := by
  show dgd q (x / 10 / 10) = _
  rw [show x / 10 / 10 = x / 100 by omega]
theorem dgd_b : ∀ (q : Nat) (x : Int), 0 ≤ dgd q x ∧ dgd q x < 10
  | 0, x => by show 0 ≤ x % 10 ∧ x % 10 < 10; omega
  | q + 1, x => dgd_b q (x / 10)
def pw : Nat → Int
  | 0 => 1
  | q + 1 => 10 * pw q
theorem pw_p : ∀ q : Nat, 0 < pw q
  | 0 => by show (0 : Int) < 1; omega
  | q + 1 => by have := pw_p q; show 0 < 10 * pw q; omega
theorem dgd_p : ∀ (q : Nat) (x : Int), dgd q x = x / pw q % 10
  | 0, x => by show x % 10 = x / 1 % 10; rw [Int.ediv_one]
  | q + 1, x => by
    show dgd q (x / 10) = x / (10 * pw q) % 10
    rw [dgd_p q (x / 10), Int.ediv_ediv_of_nonneg (by omega)]
/-- s digits of x laid from place n on -/
def dgs (f : Int → Int) (n : Int) (s : Nat) (x : Int) (j : Int) : Int := if n ≤ j ∧ j < n + s then 48 + dgd (n + s - 1 - j).toNat x else f j
theorem i2b_a : ∀ k : Fin 128, mm_i2b (k.val : Int) = k.val := by decide +kernel
theorem i2b_i {x : Int} (h0 : 0 ≤ x) (h1 : x < 128) : mm_i2b x = x := by
  have := i2b_a ⟨x.toNat, by omega⟩
  rw [show ((x.toNat : Nat) : Int) = x by omega] at this
  exact this
theorem i2c_a : ∀ k : Fin 256, mm_i2c (k.val : Int) = k.val := by decide +kernel
theorem i2c_i {x : Int} (h0 : 0 ≤ x) (h1 : x < 256) : mm_i2c x = x := by
  have := i2c_a ⟨x.toNat, by omega⟩
  rw [show ((x.toNat : Nat) : Int) = x by omega] at this
  exact this
