/-! one TRY, written down on both sides -/
def Jn (c r : MM) (S sw em t : Int → Int) : Prop := Rt S sw em t ∧ c 140 2 = t 6 ∧ c 140 3 = t 7 ∧ (∀ k, 0 ≤ k → k < t 6 → ∀ j, 0 ≤ j → j < 7 → c 141 (8 * k + j) = r 171 (7 * k + j)) ∧ (∀ k, 0 ≤ k → k < t 7 → 0 ≤ c 142 k ∧ c 142 k < t 6 ∧ t (24 + 4 * k) = c 141 (8 * c 142 k + 6) ∧ t (24 + 4 * k + 1) = c 141 (8 * c 142 k + 1) ∧ t (24 + 4 * k + 2) = c 141 (8 * c 142 k + 2) ∧ t (24 + 4 * k + 3) = c 141 (8 * c 142 k + 7))
def jv (S sw em : Int → Int) (f o j : Int) : Int := if j = 0 then S 2 else if j = 1 then S 3 else if j = 2 then S 4 else if j = 3 then dg4 sw else if j = 4 then dg4 em else if j = 5 then f else if j = 6 then o else tph S + 1
theorem jc_141 (c : MM) (n m f o : Int) : jc c n m f o 141 = mset (mset c 141 (8 * n + 5) f) 141 (8 * n + 6) o 141 := by
  unfold jc
  split
  · rw [ms_row _ _ _ _ _ (show ¬ (141 : Int) = 140 by omega), ms_row _ _ _ _ _ (show ¬ (141 : Int) = 140 by omega), ms_row _ _ _ _ _ (show ¬ (141 : Int) = 142 by omega)]
  · rw [ms_row _ _ _ _ _ (show ¬ (141 : Int) = 140 by omega)]
theorem jx_k (c : MM) (n m f o : Int) (S sw em : Int → Int) (k j : Int) (k0 : 0 ≤ k) (j0 : 0 ≤ j) (j1 : j < 8) : jc (jo c n S sw em) n m f o 141 (8 * k + j) = if k = n then jv S sw em f o j else c 141 (8 * k + j) := by
  rw [jc_141]
  unfold jo
  by_cases e : k = n
  · rw [if_pos e, e]
    have q : j = 0 ∨ j = 1 ∨ j = 2 ∨ j = 3 ∨ j = 4 ∨ j = 5 ∨ j = 6 ∨ j = 7 := by omega
    have nn : ∀ (μ : MM) (a v : Int), ¬ j = a → mset μ 141 (8 * n + a) v 141 (8 * n + j) = μ 141 (8 * n + j) := fun μ a v h => ms_nk _ _ _ _ _ _ (by omega)
    rcases q with rfl | rfl | rfl | rfl | rfl | rfl | rfl | rfl
    · rw [nn _ _ _ (by omega), nn _ _ _ (by omega), nn _ _ _ (by omega), nn _ _ _ (by omega), nn _ _ _ (by omega), nn _ _ _ (by omega), nn _ _ _ (by omega), ms_eq]; rfl
    · rw [nn _ _ _ (by omega), nn _ _ _ (by omega), nn _ _ _ (by omega), nn _ _ _ (by omega), nn _ _ _ (by omega), nn _ _ _ (by omega), ms_eq]; rfl
    · rw [nn _ _ _ (by omega), nn _ _ _ (by omega), nn _ _ _ (by omega), nn _ _ _ (by omega), nn _ _ _ (by omega), ms_eq]; rfl
    · rw [nn _ _ _ (by omega), nn _ _ _ (by omega), nn _ _ _ (by omega), nn _ _ _ (by omega), ms_eq]; rfl
    · rw [nn _ _ _ (by omega), nn _ _ _ (by omega), nn _ _ _ (by omega), ms_eq]; rfl
    · rw [nn _ _ _ (by omega), ms_eq]; rfl
    · rw [ms_eq]; rfl
    · rw [nn _ _ _ (by omega), nn _ _ _ (by omega), ms_eq]; rfl
  · rw [if_neg e, ms_nk _ _ _ _ _ _ (by omega), ms_nk _ _ _ _ _ _ (by omega), ms_nk _ _ _ _ _ _ (by omega), ms_nk _ _ _ _ _ _ (by omega), ms_nk _ _ _ _ _ _ (by omega), ms_nk _ _ _ _ _ _ (by omega), ms_nk _ _ _ _ _ _ (by omega), ms_nk _ _ _ _ _ _ (by omega)]
theorem jc_140 (c : MM) (n m f o : Int) : jc c n m f o 140 2 = n + 1 ∧ jc c n m f o 140 3 = (if 1 ≤ o ∧ o ≤ 6 then m + 1 else c 140 3) ∧ jc c n m f o 140 0 = c 140 0 ∧ jc c n m f o 140 1 = c 140 1 ∧ ∀ k, jc c n m f o 142 k = if (1 ≤ o ∧ o ≤ 6) ∧ k = m then n else c 142 k := by
  unfold jc
  by_cases h : 1 ≤ o ∧ o ≤ 6
  · rw [if_pos h, if_pos h]
    refine ⟨by simp [mset], by simp [mset], by simp [mset], by simp [mset], fun k => ?_⟩
    by_cases e : k = m
    · rw [if_pos ⟨h, e⟩, e]; simp [mset]
    · rw [if_neg (fun q => e q.2)]; simp [mset, e]
  · rw [if_neg h, if_neg h]
    refine ⟨by simp [mset], by simp [mset], by simp [mset], by simp [mset], fun k => ?_⟩
    rw [if_neg (fun q => h q.1)]; simp [mset]
theorem jn_step {c r : MM} {S sw em t : Int → Int} (h : Jn c r S sw em t) (i : iv S sw em) (p : S 2 = 1 ∨ S 2 = 2) (ls sl : Int → Int) (wr : Int) :
    Jn (jc (jo c (t 6) S sw em) (t 6) (t 7) (xS ls sl wr S sw em 12) (xO ls sl S sw em)) (st7 r ls sl t) (xS ls sl wr S sw em) (xW ls sl S sw em) (xM ls sl S sw em) (yT ls sl wr t) := by
  obtain ⟨hR, c2, c3, hr, hf⟩ := h
  obtain ⟨bO, bR, bF⟩ := br_step hR i p ls sl wr
  have hm := mo_of hR i p
  have y0 := hm.2.2.2.2.2.2.2.2.2.2.1
  have z0 := hm.2.2.2.2.2.2.2.2.2.2.2.2.1
  have n4 : t 1 ≤ 4 := by have := hm.1; omega
  have xk := xS_k ls sl wr S sw em
  have e6 : yT ls sl wr t 6 = t 6 + 1 := by
    have := bR.2.2.2.2.2.2.1
    rw [← this, xk.1, hR.2.2.2.2.2.2.1]
  have e7 : yT ls sl wr t 7 = if 1 ≤ xO ls sl S sw em ∧ xO ls sl S sw em ≤ 6 then t 7 + 1 else t 7 := by
    have := bR.2.2.2.2.2.2.2.1
    rw [← this, xk.2, hR.2.2.2.2.2.2.2.1]
  have j0 := jc_140 (jo c (t 6) S sw em) (t 6) (t 7) (xS ls sl wr S sw em 12) (xO ls sl S sw em)
  have jk := jx_k c (t 6) (t 7) (xS ls sl wr S sw em 12) (xO ls sl S sw em) S sw em
  have o3 : jo c (t 6) S sw em 140 3 = t 7 := by rw [jo_b _ _ _ _ _ _ (by omega)]; exact c3
  have o142 : ∀ k, jo c (t 6) S sw em 142 k = c 142 k := fun k => by rw [jo_b _ _ _ _ _ _ (by omega)]
  have yj := fun j hj => yT_24 (ls := ls) (sl := sl) (t := t) wr n4 j hj
  have h2 : S 2 = t 0 := hR.1
  have h3 : S 3 = t 1 := hR.2.1
  have h4 : S 4 = t 2 := hR.2.2.1
  have ds : dg4 sw = dg4 (fun l => t (8 + l)) := dg4_cg (fun l l0 l3 => (hR.2.2.2.2.2.2.2.2.1 l l0 l3).1)
  have de : dg4 em = dg4 (fun l => t (12 + l)) := dg4_cg (fun l l0 l3 => (hR.2.2.2.2.2.2.2.2.1 l l0 l3).2)
  have tp : tph S + 1 = if t 0 = 1 then t 3 + 1 else t 5 + 1 := by
    unfold tph
    rw [h2, hR.2.2.2.1, hR.2.2.2.2.2.1]
    by_cases q : t 0 = 1
    · rw [if_pos q, if_pos q]
    · rw [if_neg q, if_neg q, if_pos (by omega)]
  refine ⟨bR, by rw [j0.1, e6], ?_, fun k k0 k1 j j0' j1 => ?_, fun k k0 k1 => ?_⟩
  · rw [j0.2.1, e7, o3]
  · rw [jk k j k0 j0' (by omega), st7_k _ _ _ _ k j k0 j0' j1]
    by_cases e : k = t 6
    · rw [if_pos e, if_pos e]
      unfold jv
      rw [h2, h3, h4, ds, de, bF, bO]
      have q : j = 0 ∨ j = 1 ∨ j = 2 ∨ j = 3 ∨ j = 4 ∨ j = 5 ∨ j = 6 := by omega
      rcases q with rfl | rfl | rfl | rfl | rfl | rfl | rfl <;> rfl
    · rw [if_neg e, if_neg e]
      exact hr k k0 (by omega) j j0' j1
  · rw [e7] at k1
    rw [j0.2.2.2.2 k, o142, e6, yj _ (by omega), yj _ (by omega), yj _ (by omega), yj _ (by omega), ← bO]
    by_cases o : 1 ≤ xO ls sl S sw em ∧ xO ls sl S sw em ≤ 6
    · rw [if_pos o] at k1
      rw [if_pos o, if_pos o, if_pos o, if_pos o]
      unfold fr
      by_cases e : k = t 7
      · rw [if_pos ⟨o, e⟩, e, jk _ _ y0 (by omega) (by omega), jk _ _ y0 (by omega) (by omega), jk _ _ y0 (by omega) (by omega), jk _ _ y0 (by omega) (by omega)]
        refine ⟨y0, by omega, ?_, ?_, ?_, ?_⟩
        · rw [if_neg (by omega), if_neg (by omega), if_neg (by omega), if_pos rfl, if_pos rfl]; rfl
        · rw [if_neg (by omega), if_neg (by omega), if_pos rfl, if_pos rfl]; exact h3.symm
        · rw [if_neg (by omega), if_pos rfl, if_pos rfl]; exact h4.symm
        · rw [if_pos rfl, if_pos rfl]; exact tp.symm
      · obtain ⟨f1, f2, f3, f4, f5, f6⟩ := hf k k0 (by omega)
        rw [if_neg (fun q => e q.2), jk _ _ f1 (by omega) (by omega), jk _ _ f1 (by omega) (by omega), jk _ _ f1 (by omega) (by omega), jk _ _ f1 (by omega) (by omega), if_neg (show ¬ c 142 k = t 6 by omega), if_neg (show ¬ c 142 k = t 6 by omega), if_neg (show ¬ c 142 k = t 6 by omega), if_neg (show ¬ c 142 k = t 6 by omega)]
        refine ⟨f1, by omega, ?_, ?_, ?_, ?_⟩
        · rw [if_neg (by omega), if_neg (by omega), if_neg (by omega), if_neg (by omega)]; exact f3
        · rw [if_neg (by omega), if_neg (by omega), if_neg (by omega), if_neg (by omega)]; exact f4
        · rw [if_neg (by omega), if_neg (by omega), if_neg (by omega), if_neg (by omega)]; exact f5
        · rw [if_neg (by omega), if_neg (by omega), if_neg (by omega), if_neg (by omega)]; exact f6
    · rw [if_neg o] at k1
      obtain ⟨f1, f2, f3, f4, f5, f6⟩ := hf k k0 k1
      rw [if_neg o, if_neg o, if_neg o, if_neg o, if_neg (fun q => o q.1), jk _ _ f1 (by omega) (by omega), jk _ _ f1 (by omega) (by omega), jk _ _ f1 (by omega) (by omega), jk _ _ f1 (by omega) (by omega), if_neg (show ¬ c 142 k = t 6 by omega), if_neg (show ¬ c 142 k = t 6 by omega), if_neg (show ¬ c 142 k = t 6 by omega), if_neg (show ¬ c 142 k = t 6 by omega)]
      exact ⟨f1, by omega, f3, f4, f5, f6⟩
