/-! one TRY on both sides -/
theorem Rt.t10 {S sw em t : Int → Int} (h : Rt S sw em t) : Rt (s10 S) sw em (up t 6 (t 6 + 1)) := by
  obtain ⟨h2, h3, h4, h7, h9, h8, h10, h11, hs, h5, h6, hb, hz⟩ := h
  have e : ∀ k, ¬ k = 6 → up t 6 (t 6 + 1) k = t k := fun k hk => by unfold up; rw [if_neg hk]
  refine ⟨h2, h3, h4, h7, h9, h8, ?_, h11, fun l l0 l3 => ?_, ?_, ?_, fun l l0 l3 => ?_, fun l p0 l0 l3 => ?_⟩
  · show S 10 + 1 = t 6 + 1; rw [h10]
  · rw [e _ (by omega), e _ (by omega)]; exact hs l l0 l3
  · show S 5 = _
    rw [h5]; exact b4_cg (fun l l0 l3 => by rw [e _ (by omega)])
  · show S 6 = _
    rw [h6]; exact b4_cg (fun l l0 l3 => by rw [e _ (by omega)])
  · rw [e _ (by omega), e _ (by omega)]; exact hb l l0 l3
  · have l0' : t 1 ≤ l := l0
    rw [e _ (by omega), e _ (by omega)]; exact hz l p0 l0' l3
theorem mo_of {S sw em t : Int → Int} (h : Rt S sw em t) (i : iv S sw em) (p : S 2 = 1 ∨ S 2 = 2) : mo t := by
  obtain ⟨n, q0, q3, hl, a0, a1, b0, b1, c0, c1, t0, t1, f0, f1, _, k, k1, k2⟩ := i
  obtain ⟨k, k'⟩ := k p
  have i0 := ix_ok (S 3)
  obtain ⟨h2, h3, h4, h7, h9, h8, h10, h11, hs, _⟩ := h
  refine ⟨by rw [← h3]; exact n, by omega, by omega, fun l l0 l3 => ?_, by omega, by omega, by omega, by omega, by omega, by omega, by omega, by omega, by omega, by omega⟩
  have a := hs l l0 l3
  have b := hl l l0 l3
  omega
theorem mo_t10 {t : Int → Int} (h : mo t) (h6 : t 6 ≤ 900) : mo (up t 6 (t 6 + 1)) := by
  obtain ⟨n1, q0, q3, hl, f0, f1, g0, g1, x0, x1, y0, y1, w0, w1⟩ := h
  have e : ∀ k, ¬ k = 6 → up t 6 (t 6 + 1) k = t k := fun k hk => by unfold up; rw [if_neg hk]
  refine ⟨n1, q0, q3, fun l l0 l3 => ?_, f0, f1, g0, g1, x0, x1, ?_, ?_, w0, w1⟩
  · rw [e _ (by omega), e _ (by omega)]; exact hl l l0 l3
  · show 0 ≤ t 6 + 1; omega
  · show t 6 + 1 ≤ 999; omega
def yO (ls sl t : Int → Int) : Int := if t 0 = 1 then kO (up t 6 (t 6 + 1)) ls sl else vO (up t 6 (t 6 + 1)) ls sl
def yT (ls sl : Int → Int) (wr : Int) (t : Int → Int) : Int → Int := if t 0 = 1 then kT (up t 6 (t 6 + 1)) ls sl wr else vT (up t 6 (t 6 + 1)) ls sl wr
def yF (ls sl t : Int → Int) : Int := if t 0 = 1 then kF (up t 6 (t 6 + 1)) ls sl 0 else vF (up t 6 (t 6 + 1)) ls sl 0
theorem dS_12 (S : Int → Int) (wr : Int) : dS S wr 12 = S 12 ∧ dS S wr 10 = S 10 ∧ dS S wr 11 = S 11 + 1 := by
  unfold dS
  (repeat' split) <;> exact ⟨rfl, rfl, rfl⟩
theorem br_step {S sw em t : Int → Int} (h : Rt S sw em t) (i : iv S sw em) (p : S 2 = 1 ∨ S 2 = 2) (ls sl : Int → Int) (wr : Int) :
    xO ls sl S sw em = yO ls sl t ∧ Rt (xS ls sl wr S sw em) (xW ls sl S sw em) (xM ls sl S sw em) (yT ls sl wr t) ∧ xS ls sl wr S sw em 12 = yF ls sl t := by
  have hm := mo_of h i p
  have h' := h.t10
  obtain ⟨n, q0, q3, hl, a0, a1, b0, b1, c0, c1, t0, t1, f0, f1, _, k, k1, k2⟩ := i
  obtain ⟨k, k'⟩ := k p
  have i0 := ix_ok (S 3)
  have e2 : S 2 = t 0 := h.1
  have e7 : S 7 = t 3 := h.2.2.2.1
  have e9 : S 9 = t 4 := h.2.2.2.2.1
  have e8 : S 8 = t 5 := h.2.2.2.2.2.1
  have e10 : S 10 = t 6 := h.2.2.2.2.2.2.1
  have hm' := mo_t10 hm (by omega)
  have n1 : t 1 = 1 ∨ t 1 = 2 ∨ t 1 = 4 := hm.1
  rcases p with p | p
  · obtain ⟨m1, m2, m3⟩ := k1 p
    have B := br_clk h' hm' (show t 0 = 1 by omega) (show t 3 ≤ 9 by omega) (show t 4 ≤ 6 by omega) ls sl wr
    have C := (br_cO h' hm' (show t 3 ≤ 9 by omega) (show t 4 ≤ 6 by omega) ls sl).2
    have g : t 0 = 1 := by omega
    unfold xS xW xM xO xS1 xW1 xM1 yO yT yF
    rw [if_pos p, if_pos p, if_pos p, if_pos p, if_pos g, if_pos g, if_pos g]
    refine ⟨B.1, B.2, ?_⟩
    have F : kF (up t 6 (t 6 + 1)) ls sl 0 = b4 (cC (s10 S) sw ls sl) := by
      unfold kF
      rw [C]
      exact gF_i _ n1
    have z : cS (s10 S) sw ls sl 12 = b4 (cC (s10 S) sw ls sl) := by
      unfold cS
      (repeat' split) <;> rfl
    rw [F]
    split
    · rw [(dS_12 _ _).1, z]
    · exact z
  · have m := k2 p
    have B := br_evn h' hm' (show t 0 = 2 by omega) (show t 5 ≤ 5 by omega) ls sl wr
    have C := br_eO h' hm' (show t 5 ≤ 5 by omega) ls sl
    have g : ¬ t 0 = 1 := by omega
    have p' : ¬ S 2 = 1 := by omega
    unfold xS xW xM xO xS1 xW1 xM1 yO yT yF
    rw [if_neg p', if_neg p', if_neg p', if_neg p', if_neg g, if_neg g, if_neg g]
    refine ⟨B.1, B.2, ?_⟩
    have F : vF (up t 6 (t 6 + 1)) ls sl 0 = if eO (s10 S) sw em ls sl = 4 then 0 else b4 (cE (s10 S) em ls sl) := by
      unfold vF
      rw [C.2, C.1]
      split
      · rfl
      · exact gF_i _ n1
    have z : eS (s10 S) sw em ls sl 12 = if eO (s10 S) sw em ls sl = 4 then 0 else b4 (cE (s10 S) em ls sl) := by
      unfold eS
      split
      · rfl
      · split <;> rfl
    rw [F]
    split
    · rw [(dS_12 _ _).1, z]
    · exact z
/-- what a TRY leaves of the row of falls -/
theorem hT_24 (W : Int → Bool) (m : Nat) (t : Int → Int) (j : Int) (hm : m ≤ 4) (hj : 24 ≤ j) : hT W 0 t m j = t j := hT_o W m 0 t j (by omega) (by omega)
theorem jT_24 (W : Int → Bool) (m : Nat) (t : Int → Int) (j : Int) (hm : m ≤ 4) (hj : 24 ≤ j) : jT W 0 t m j = t j := jT_o W m 0 t j (by omega) (by omega)
theorem kV_24 (t ls sl : Int → Int) (j : Int) (n : t 1 ≤ 4) (hj : 24 ≤ j) : kV t ls sl j = t j := by
  unfold kV
  rw [gT_n _ _ _ _ _ _ (by omega)]
  unfold kU up
  rw [if_neg (by omega), if_neg (by omega)]
theorem vV_24 (t ls sl : Int → Int) (j : Int) (n : t 1 ≤ 4) (hj : 24 ≤ j) : vV t ls sl j = t j := by
  unfold vV
  rw [gT_n _ _ _ _ _ _ (by omega)]
  unfold vU up
  rw [if_neg (by omega)]
theorem fot_24 (t : Int → Int) (j : Int) (hj : 24 ≤ j) : fot t j = t j := by unfold fot; rw [if_neg (by omega), if_neg (by omega)]
theorem fa2_24 (t : Int → Int) (wr j : Int) (hj : 24 ≤ j) : fa2 t wr j = t j := by
  have u : ∀ (t : Int → Int) (k v : Int), k < 24 → up t k v j = t j := fun t k v hk => by unfold up; rw [if_neg (by omega)]
  unfold fa2
  (repeat' split) <;> simp only [u _ _ _ (show (0 : Int) < 24 by omega), u _ _ _ (show (1 : Int) < 24 by omega), u _ _ _ (show (2 : Int) < 24 by omega), u _ _ _ (show (7 : Int) < 24 by omega), fot_24 _ j hj]
theorem fa1_24 (t : Int → Int) (b j : Int) : fa1 t b j = if j = 24 + 4 * t 7 + 3 then (if t 0 = 1 then t 3 else t 5) else if j = 24 + 4 * t 7 + 2 then t 2 else if j = 24 + 4 * t 7 + 1 then t 1 else if j = 24 + 4 * t 7 then b else t j := rfl
/-- a fall's row -/
def fr (t : Int → Int) (o j : Int) : Int := if j = 24 + 4 * t 7 + 3 then (if t 0 = 1 then t 3 + 1 else t 5 + 1) else if j = 24 + 4 * t 7 + 2 then t 2 else if j = 24 + 4 * t 7 + 1 then t 1 else if j = 24 + 4 * t 7 then o else t j
theorem yT_24 {ls sl t : Int → Int} (wr : Int) (n : t 1 ≤ 4) (j : Int) (hj : 24 ≤ j) : yT ls sl wr t j = if 1 ≤ yO ls sl t ∧ yO ls sl t ≤ 6 then fr t (yO ls sl t) j else t j := by
  have u6 : up t 6 (t 6 + 1) j = t j := by unfold up; rw [if_neg (by omega)]
  have n' : up t 6 (t 6 + 1) 1 ≤ 4 := n
  unfold yT yO
  by_cases g : t 0 = 1
  · rw [if_pos g, if_pos g]
    have ko : kO (up t 6 (t 6 + 1)) ls sl = 7 ∨ kO (up t 6 (t 6 + 1)) ls sl = 0 ∨ (1 ≤ kO (up t 6 (t 6 + 1)) ls sl ∧ kO (up t 6 (t 6 + 1)) ls sl ≤ 6) := by
      unfold kO
      (repeat' split) <;> omega
    have kv : ∀ k, k < 16 → kV (up t 6 (t 6 + 1)) ls sl k = kU (up t 6 (t 6 + 1)) k := fun k hk => by unfold kV; exact gT_n _ _ _ _ _ _ (by omega)
    rcases ko with e | e | e
    · unfold kT
      rw [if_pos e, if_neg (by omega)]
      show (if j = 0 then 2 else kV (up t 6 (t 6 + 1)) ls sl j) = t j
      rw [if_neg (by omega), kV_24 _ _ _ j n' hj, u6]
    · unfold kT
      rw [if_neg (by omega), if_pos e, if_neg (by omega), hT_24 _ _ _ j (by omega) hj, kV_24 _ _ _ j n' hj, u6]
    · unfold kT
      rw [if_neg (by omega), if_neg (by omega), if_pos e, fa2_24 _ _ j hj, fa1_24, kV_24 _ _ _ j n' hj, u6, kv 7 (by omega), kv 0 (by omega), kv 3 (by omega), kv 2 (by omega), kv 1 (by omega)]
      unfold fr
      rw [if_pos g]
      show (if j = 24 + 4 * t 7 + 3 then (if t 0 = 1 then t 3 + 1 else _) else _) = _
      rw [if_pos g]
      rfl
  · rw [if_neg g, if_neg g]
    have ko : vO (up t 6 (t 6 + 1)) ls sl = 8 ∨ vO (up t 6 (t 6 + 1)) ls sl = 0 ∨ (1 ≤ vO (up t 6 (t 6 + 1)) ls sl ∧ vO (up t 6 (t 6 + 1)) ls sl ≤ 6) := by
      unfold vO
      (repeat' split) <;> omega
    have kv : ∀ k, k < 20 → vV (up t 6 (t 6 + 1)) ls sl k = vU (up t 6 (t 6 + 1)) k := fun k hk => by unfold vV; exact gT_n _ _ _ _ _ _ (by omega)
    rcases ko with e | e | e
    · unfold vT
      rw [if_pos e, if_neg (by omega)]
      show (if j = 0 then 3 else vV (up t 6 (t 6 + 1)) ls sl j) = t j
      rw [if_neg (by omega), vV_24 _ _ _ j n' hj, u6]
    · unfold vT
      rw [if_neg (by omega), if_pos e, if_neg (by omega), jT_24 _ _ _ j (by omega) hj, vV_24 _ _ _ j n' hj, u6]
    · unfold vT
      rw [if_neg (by omega), if_neg (by omega), if_pos e, fa2_24 _ _ j hj, fa1_24, vV_24 _ _ _ j n' hj, u6, kv 7 (by omega), kv 0 (by omega), kv 5 (by omega), kv 3 (by omega), kv 2 (by omega), kv 1 (by omega)]
      unfold fr
      rw [if_neg g]
      show (if j = 24 + 4 * t 7 + 3 then (if t 0 = 1 then _ else t 5 + 1) else _) = _
      rw [if_neg g]
      rfl
theorem xS_k (ls sl : Int → Int) (wr : Int) (S sw em : Int → Int) : xS ls sl wr S sw em 10 = S 10 + 1 ∧ xS ls sl wr S sw em 11 = if 1 ≤ xO ls sl S sw em ∧ xO ls sl S sw em ≤ 6 then S 11 + 1 else S 11 := by
  have a : xS1 ls sl S sw em 10 = S 10 + 1 ∧ xS1 ls sl S sw em 11 = S 11 := by
    unfold xS1 cS eS
    (repeat' split) <;> exact ⟨rfl, rfl⟩
  unfold xS
  split
  · rw [(dS_12 _ _).2.1, (dS_12 _ _).2.2, a.1, a.2]; exact ⟨rfl, rfl⟩
  · exact a
