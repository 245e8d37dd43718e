/-! the forged block, pure -/
def G0 (b : Int → Int) (j : Int) : Int := if 1 ≤ j ∧ j ≤ 6 then 255 else if j = 8 ∨ j = 9 ∨ j = 21 ∨ j = 22 then b j else if j = 18 then 1 else 0
def G1 (b : Int → Int) (n nl hr : Int) (md : Int → Int → Int) (nm rg : Int → Int) (i j : Int) : Int := if 54 ≤ j ∧ j < 54 + 18 * i then fgd n nl hr md nm rg ((j - 54) / 18) ((j - 54) % 18) else G0 b j
def bk (f : Int → Int) (d : Int) (g : Int → Int) (k : Int) (j : Int) : Int := if 54 + 18 * d + k ≤ j ∧ j < 54 + 18 * d + 18 then dbv g (j - 54 - 18 * d) else f j
def nmv (nl : Int) (nm : Int → Int) (k : Int) : Int := if k < nl then nm k else if k = nl then 10 else 32
def nb (f : Int → Int) (d nl : Int) (nm : Int → Int) (k : Int) (j : Int) : Int := if 54 + 18 * d + 5 + k ≤ j ∧ j < 54 + 18 * d + 18 then nmv nl nm (j - 54 - 18 * d - 5) else f j
def rb (f : Int → Int) (d : Int) (rg : Int → Int) (k e : Int) (j : Int) : Int := if 54 + 18 * d + 5 + k ≤ j ∧ j < 54 + 18 * d + 5 + e then rg (j - 54 - 18 * d - 5) else f j
theorem bk_s (f : Int → Int) (d : Int) (g : Int → Int) (k : Int) (h0 : 0 ≤ k) (h1 : k < 18) : bk (up f (54 + 18 * d + k) (dbv g k)) d g (k + 1) = bk f d g k := by
  funext j
  unfold bk up
  by_cases e : j = 54 + 18 * d + k
  · rw [if_neg (by omega), if_pos e, if_pos (by omega), show j - 54 - 18 * d = k by omega]
  · by_cases a : 54 + 18 * d + (k + 1) ≤ j ∧ j < 54 + 18 * d + 18
    · rw [if_pos a, if_pos (by omega)]
    · rw [if_neg a, if_neg e, if_neg (by omega)]
theorem bk_e (f : Int → Int) (d : Int) (g : Int → Int) : bk f d g 18 = f := by
  funext j; unfold bk; rw [if_neg (by omega)]
theorem nb_s (f : Int → Int) (d nl : Int) (nm : Int → Int) (k : Int) (h0 : 0 ≤ k) (h1 : k < 13) : nb (up f (54 + 18 * d + (5 + k)) (nmv nl nm k)) d nl nm (k + 1) = nb f d nl nm k := by
  funext j
  unfold nb up
  by_cases e : j = 54 + 18 * d + (5 + k)
  · rw [if_neg (by omega), if_pos e, if_pos (by omega), show j - 54 - 18 * d - 5 = k by omega]
  · by_cases a : 54 + 18 * d + 5 + (k + 1) ≤ j ∧ j < 54 + 18 * d + 18
    · rw [if_pos a, if_pos (by omega)]
    · rw [if_neg a, if_neg e, if_neg (by omega)]
theorem nb_e (f : Int → Int) (d nl : Int) (nm : Int → Int) : nb f d nl nm 13 = f := by
  funext j; unfold nb; rw [if_neg (by omega)]
theorem rb_s (f : Int → Int) (d : Int) (rg : Int → Int) (k e : Int) (h0 : 0 ≤ k) (h1 : k < e) : rb (up f (54 + 18 * d + (5 + k)) (rg k)) d rg (k + 1) e = rb f d rg k e := by
  funext j
  unfold rb up
  by_cases e' : j = 54 + 18 * d + (5 + k)
  · rw [if_neg (by omega), if_pos e', if_pos (by omega), show j - 54 - 18 * d - 5 = k by omega]
  · by_cases a : 54 + 18 * d + 5 + (k + 1) ≤ j ∧ j < 54 + 18 * d + 5 + e
    · rw [if_pos a, if_pos (by omega)]
    · rw [if_neg a, if_neg e', if_neg (by omega)]
theorem rb_e (f : Int → Int) (d : Int) (rg : Int → Int) (e : Int) : rb f d rg e e = f := by
  funext j; unfold rb; rw [if_neg (by omega)]
section FP
variable (b : Int → Int) (n nl hr : Int) (md : Int → Int → Int) (nm rg : Int → Int)
theorem fgd_n (k : Int) (l0 : 0 < nl) : fgd n nl hr md nm rg n k = if k = 3 then 252 else if 5 ≤ k then nmv nl nm (k - 5) else 0 := by
  unfold fgd; rw [if_neg (by omega), if_pos rfl, if_pos l0]; rfl
theorem fgd_r (k : Int) (h1 : hr = 1) : fgd n nl hr md nm rg (n + 1) k = if k = 3 then 253 else if 5 ≤ k ∧ k ≤ 9 then rg (k - 5) else 0 := by
  unfold fgd; rw [if_neg (by omega), if_neg (by omega), if_pos ⟨rfl, h1⟩]
theorem fgd_t (i k : Int) (h : i < n) : fgd n nl hr md nm rg i k = dbv (md i) k := by unfold fgd; rw [if_pos h]
/-- one descriptor more -/
theorem G1_g (i : Int) (i0 : 0 ≤ i) (f : Int → Int) (h : ∀ j, f j = if 54 + 18 * i ≤ j ∧ j < 54 + 18 * i + 18 then fgd n nl hr md nm rg i (j - 54 - 18 * i) else G1 b n nl hr md nm rg i j) : f = G1 b n nl hr md nm rg (i + 1) := by
  funext j
  rw [h j]
  by_cases a : 54 + 18 * i ≤ j ∧ j < 54 + 18 * i + 18
  · unfold G1
    rw [if_pos a, if_pos (by omega), show (j - 54) / 18 = i by omega, show (j - 54) % 18 = j - 54 - 18 * i by omega]
  · rw [if_neg a]
    unfold G1
    by_cases e : 54 ≤ j ∧ j < 54 + 18 * i
    · rw [if_pos e, if_pos (by omega)]
    · rw [if_neg e, if_neg (by omega)]
theorem G1_t (i : Int) (i0 : 0 ≤ i) (i1 : i < n) : bk (G1 b n nl hr md nm rg i) i (md i) 0 = G1 b n nl hr md nm rg (i + 1) := by
  refine G1_g b n nl hr md nm rg i i0 _ (fun j => ?_)
  unfold bk
  by_cases a : 54 + 18 * i + 0 ≤ j ∧ j < 54 + 18 * i + 18
  · rw [if_pos a, if_pos (by omega)]; rw [fgd_t n nl hr md nm rg _ _ i1]
  · rw [if_neg a, if_neg (by omega)]
theorem G0_hi {j : Int} (h : 54 ≤ j) : G0 b j = 0 := by
  unfold G0; rw [if_neg (by omega), if_neg (by omega), if_neg (by omega)]
theorem G1_hi {i j : Int} (i0 : 0 ≤ i) (h : 54 + 18 * i ≤ j) : G1 b n nl hr md nm rg i j = 0 := by
  unfold G1; rw [if_neg (by omega)]; exact G0_hi b (by omega)
theorem G1_n (n0 : 0 ≤ n) (l0 : 0 < nl) : nb (up (G1 b n nl hr md nm rg n) (54 + 18 * n + 3) 252) n nl nm 0 = G1 b n nl hr md nm rg (n + 1) := by
  refine G1_g b n nl hr md nm rg n n0 _ (fun j => ?_)
  unfold nb up
  by_cases a : 54 + 18 * n ≤ j ∧ j < 54 + 18 * n + 18
  · rw [if_pos a]
    rw [fgd_n n nl hr md nm rg _ l0]
    by_cases e : j = 54 + 18 * n + 3
    · rw [if_neg (by omega), if_pos e, if_pos (by omega)]
    · by_cases g : 54 + 18 * n + 5 + 0 ≤ j ∧ j < 54 + 18 * n + 18
      · rw [if_pos g, if_neg (by omega), if_pos (by omega)]
      · rw [if_neg g, if_neg e, if_neg (by omega), if_neg (by omega)]
        exact G1_hi b n nl hr md nm rg n0 a.1
  · rw [if_neg (by omega), if_neg (by omega), if_neg a]
theorem G1_0 (i : Int) (i0 : 0 ≤ i) (h : ∀ k, 0 ≤ k → k < 18 → fgd n nl hr md nm rg i k = 0) : G1 b n nl hr md nm rg i = G1 b n nl hr md nm rg (i + 1) := by
  refine G1_g b n nl hr md nm rg i i0 _ (fun j => ?_)
  by_cases a : 54 + 18 * i ≤ j ∧ j < 54 + 18 * i + 18
  · rw [if_pos a, h _ (by omega) (by omega)]; exact G1_hi b n nl hr md nm rg i0 a.1
  · rw [if_neg a]
theorem G1_r (n0 : 0 ≤ n) (h1 : hr = 1) : rb (up (G1 b n nl hr md nm rg (n + 1)) (54 + 18 * (n + 1) + 3) 253) (n + 1) rg 0 5 = G1 b n nl hr md nm rg (n + 1 + 1) := by
  refine G1_g b n nl hr md nm rg (n + 1) (by omega) _ (fun j => ?_)
  unfold rb up
  by_cases a : 54 + 18 * (n + 1) ≤ j ∧ j < 54 + 18 * (n + 1) + 18
  · rw [if_pos a]
    rw [fgd_r n nl hr md nm rg _ h1]
    by_cases e : j = 54 + 18 * (n + 1) + 3
    · rw [if_neg (by omega), if_pos e, if_pos (by omega)]
    · by_cases g : 54 + 18 * (n + 1) + 5 + 0 ≤ j ∧ j < 54 + 18 * (n + 1) + 5 + 5
      · rw [if_pos g, if_neg (by omega), if_pos (by omega)]
      · rw [if_neg g, if_neg e, if_neg (by omega), if_neg (by omega)]
        exact G1_hi b n nl hr md nm rg (by omega) a.1
  · rw [if_neg (by omega), if_neg (by omega), if_neg a]
theorem G1_00 : G1 b n nl hr md nm rg 0 = G0 b := by
  funext j; unfold G1; rw [if_neg (by omega)]
theorem G1_p : G1 b n nl hr md nm rg 4 = fgp b n nl hr md nm rg := by
  funext j
  unfold G1 G0 fgp
  by_cases a : 54 ≤ j ∧ j < 54 + 18 * 4
  · rw [if_pos a, if_neg (by omega), if_neg (by omega), if_neg (by omega), if_pos (by omega)]
  · rw [if_neg a]
    by_cases x : 1 ≤ j ∧ j ≤ 6
    · rw [if_pos x, if_pos x]
    · rw [if_neg x, if_neg x]
      by_cases y : j = 8 ∨ j = 9 ∨ j = 21 ∨ j = 22
      · rw [if_pos y, if_pos y]
      · rw [if_neg y, if_neg y]
        by_cases z : j = 18
        · rw [if_pos z, if_pos z]
        · rw [if_neg z, if_neg z, if_neg (by omega)]
/-- a descriptor past the modes, the name and the range is empty -/
theorem fgd_0 (i k : Int) (h : n < i) (h2 : ¬ (i = n + 1 ∧ hr = 1)) : fgd n nl hr md nm rg i k = 0 := by
  unfold fgd; rw [if_neg (by omega), if_neg (by omega), if_neg h2]
theorem fgd_n0 (k : Int) (h : ¬ 0 < nl) : fgd n nl hr md nm rg n k = 0 := by
  unfold fgd; rw [if_neg (by omega), if_pos rfl, if_neg h]
theorem fgp_b (n0 : 0 ≤ n) (hb : ∀ i, (i = 8 ∨ i = 9 ∨ i = 21 ∨ i = 22) → 0 ≤ b i ∧ b i < 256) (hn : ∀ k, 0 ≤ k → k < nl → 0 ≤ nm k ∧ nm k < 256) (hg : hr = 1 → ∀ k, 0 ≤ k → k < 5 → 0 ≤ rg k ∧ rg k < 256) (j : Int) : 0 ≤ fgp b n nl hr md nm rg j ∧ fgp b n nl hr md nm rg j < 256 := by
  unfold fgp
  by_cases x : 1 ≤ j ∧ j ≤ 6
  · rw [if_pos x]; omega
  · rw [if_neg x]
    by_cases y : j = 8 ∨ j = 9 ∨ j = 21 ∨ j = 22
    · rw [if_pos y]; exact hb j y
    · rw [if_neg y]
      by_cases z : j = 18
      · rw [if_pos z]; omega
      · rw [if_neg z]
        by_cases a : 54 ≤ j ∧ j < 126
        · rw [if_pos a]
          generalize (j - 54) / 18 = d
          have k0 : 0 ≤ (j - 54) % 18 := by omega
          generalize (j - 54) % 18 = k at *
          unfold fgd
          by_cases p : d < n
          · rw [if_pos p]; exact dbv_ok _ _
          · rw [if_neg p]
            by_cases q : d = n
            · rw [if_pos q]
              by_cases l : 0 < nl
              · rw [if_pos l]
                by_cases k3 : k = 3
                · rw [if_pos k3]; omega
                · rw [if_neg k3]
                  by_cases k5 : 5 ≤ k
                  · rw [if_pos k5]
                    by_cases kl : k - 5 < nl
                    · rw [if_pos kl]; exact hn _ (by omega) kl
                    · rw [if_neg kl]; split <;> omega
                  · rw [if_neg k5]; omega
              · rw [if_neg l]; omega
            · rw [if_neg q]
              by_cases s : d = n + 1 ∧ hr = 1
              · rw [if_pos s]
                by_cases k3 : k = 3
                · rw [if_pos k3]; omega
                · rw [if_neg k3]
                  by_cases k5 : 5 ≤ k ∧ k ≤ 9
                  · rw [if_pos k5]; exact hg s.2 _ (by omega) (by omega)
                  · rw [if_neg k5]; omega
              · rw [if_neg s]; omega
        · rw [if_neg a]; omega
end FP
