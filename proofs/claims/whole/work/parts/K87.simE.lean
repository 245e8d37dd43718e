section SIME
variable {Z : MZ} {D : va_G} {l : Launch} {m pc pc' nx : Nat} {ls ls' : ML} {st st' : List MV} {μ μ' : MM} {G G' : MG} {r : MR}
theorem mm_stretch {cell : Cell} {sp n : Nat} (h : sp + n ≤ cell.slots.size) : (cell.stretch sp n).length = n ∧ ∀ j, j < n → (cell.stretch sp n)[j]? = cell.slots[sp + j]? := by
  unfold Cell.stretch
  refine ⟨by simp, fun j hj => ?_⟩
  rw [List.getElem?_map, List.getElem?_range hj]
  have : sp + j < cell.slots.size := by omega
  simp [Array.getD, this]
theorem mm_k_acpy {idx : Nat} {n i j a b : Int} (hd : decode (mm_code m) pc = .ok (.invokestatic idx, 3)) (hl1 : mm_in (.methodLink (mm_own m) idx arraycopyName)) (hl2 : mm_in (.native arraycopyName)) (hl3 : mm_in (.static arraycopyName)) (hl4 : mm_in (.initialized "java/lang/System")) (hr1 : 1 ≤ mm_rk m) (hr2 : 40 ≤ mm_wt m) (hst : mm_cats st ≤ 8)
    (ha : gk G a = 100) (hb : gk G b = 100) (hab : ¬ a = b) (hb10 : 10 ≤ b) (hn : 0 ≤ n) (hi : 0 ≤ i) (hj : 0 ≤ j) (h1 : i + n ≤ gl G a) (h2 : j + n ≤ gl G b) :
    mm_KH Z D l m pc ls (vI n :: vI j :: vR b :: vI i :: vR a :: st) (pc + 3) st μ (mcopy μ b j n (fun q => μ a (i + q))) G := by
  intro p e R s mi args below meth cd H locs cells slots Q rl hC hH hL hS hlo kk
  obtain ⟨cs, q1, q2, q3, q4, q5, q6, q7⟩ := mm_ary hH hS.tl.tl.tl.tl.hd ha (by omega)
  obtain ⟨cb, v1, v2, v3, v4, v5, v6, v7⟩ := mm_ary hH hS.tl.tl.hd hb (by omega)
  have gn : -2147483648 ≤ n ∧ n < 2147483648 := hS.hd
  have gj : -2147483648 ≤ j ∧ j < 2147483648 := hS.tl.hd
  have gi : -2147483648 ≤ i ∧ i < 2147483648 := hS.tl.tl.tl.hd
  have hw := hC.2.2.2.2.2.2.2.2.2
  have e5 := mm_cats_eq hH.2.2.2.1 st
  show W p l e R s mi args below meth cd H locs cells slots Q (F0 mi pc rl (.int (Int32.ofInt n) :: .int (Int32.ofInt j) :: mm_rv Z b :: .int (Int32.ofInt i) :: mm_rv Z a :: st.map (mm_tr Z)))
  rw [q7, v7]
  obtain ⟨s1, ks, cm0, s2, s3, -⟩ := q3
  obtain ⟨d1, kd, cm1, d2, d3, d4⟩ := v3
  intro T hT X
  have hneg : ∀ z : Int, -2147483648 ≤ z ∧ z < 2147483648 → 0 ≤ z → ¬ Int32.ofInt z < 0 := fun z hz h0 => by
    rw [← mm_0, mm_ltI hz (by omega)]; omega
  obtain ⟨vm', X', step⟩ := X.arraycopy hC.1 hC.2.2.2.1 (hC.2.2.2.2.1 _ hl1.1 hl1.2 _) (hC.2.2.2.2.1 _ hl2.1 hl2.2 _) (hC.2.2.2.2.1 _ hl3.1 hl3.2 _) (hC.2.2.2.2.1 _ hl4.1 hl4.2 _) (src := mm_rho Z a) (dst := mm_rho Z b) (cs := cs) (cd := cb) (srcPos := Int32.ofInt i) (destPos := Int32.ofInt j) (n := Int32.ofInt n) (by rw [hT]; exact q1) (by rw [hT]; exact v1)
    s1 d1 q4 v4 s2 d2 s3 d3 (by decide) (hneg i gi hi) (hneg j gj hj) (hneg n gn hn)
    (by rw [mm_ti gi, mm_ti gn]; omega) (by rw [mm_ti gj, mm_ti gn]; omega)
    (fun vm₁ _ q hq => by
      rw [mm_clamp gn] at hq
      rw [mm_clamp gi]
      have h3 := (q6 (i.toNat + q) (by omega)).1
      have e : cs.slots.getD (i.toNat + q) .null = .int (Int32.ofInt (μ a ((i.toNat + q : Nat) : Int))) := by
        rw [Array.getD_eq_getD_getElem?, h3]; rfl
      rw [e]
      exact ⟨rfl, trivial⟩)
    (g := F0 mi pc rl (.int (Int32.ofInt n) :: .int (Int32.ofInt j) :: .ref (mm_rho Z b) :: .int (Int32.ofInt i) :: .ref (mm_rho Z a) :: st.map (mm_tr Z))) rfl (hL.2.1.trans hC.2.2.1.symm) (rest := st.map (mm_tr Z)) rfl (by rw [hC.2.1]; exact hd) (by omega)
    (by
      have e6 : nativeFrameWords "java/lang/System" "arraycopy" 5 + 11 ≤ 30 := by decide +kernel
      show 2 * 0 + _ + _ ≤ _
      omega)
  have hcd : copied cs cb (Int32.ofInt i) (Int32.ofInt j) (Int32.ofInt n) = cb.storeRun j.toNat (cs.stretch i.toNat n.toNat) := by
    rw [← mm_clamp gi, ← mm_clamp gj, ← mm_clamp gn]
  rw [hcd] at X' step
  have hlb : mm_rho Z b < H.size := (Array.getElem?_eq_some_iff.mp v1).1
  have hst1 := mm_stretch (cell := cs) (sp := i.toNat) (n := n.toNat) (by omega)
  have hheap : ((T.setVm vm').setCell (mm_rho Z b) (cb.storeRun j.toNat (cs.stretch i.toNat n.toNat))).heap = H.setIfInBounds (mm_rho Z b) (cb.storeRun j.toNat (cs.stretch i.toNat n.toNat)) := by rw [← hT]; rfl
  obtain ⟨f1, f2, f3, -, -⟩ := cb.storeRun_facts j.toNat (cs.stretch i.toNat n.toNat)
  have hHR : mm_HR Z D s (mcopy μ b j n (fun q => μ a (i + q))) G (H.setIfInBounds (mm_rho Z b) (cb.storeRun j.toNat (cs.stretch i.toNat n.toNat))) := by
    refine hH.put hb10 hS.tl.tl.hd.2 (by simp) (fun q hq => by simp [Array.getElem?_setIfInBounds, Ne.symm hq]) (by simp [Array.getElem?_setIfInBounds, hlb]; rfl) (Or.inr ⟨by omega, by omega, ⟨fun q => by rw [f2]; exact d1 q, kd, cm1, by rw [f1]; exact d2, by rw [hb]; exact d3, by rw [hb]; exact d4⟩, by rw [f2]; exact v4, by rw [f3]; exact v5, fun q hq => ?_⟩) (fun c hc => by funext x; simp [mcopy, hc])
    have hg := Cell.storePairs_get cb j.toNat (cs.stretch i.toNat n.toNat) 0 q (by rw [hst1.1]; omega)
    rw [show cb.storeRun j.toNat (cs.stretch i.toNat n.toNat) = cb.storePairs j.toNat ((cs.stretch i.toNat n.toNat).zipIdx 0) from rfl, hg, hst1.1, hb]
    by_cases hin : j.toNat + 0 ≤ q ∧ q < j.toNat + 0 + n.toNat
    · rw [if_pos hin, hst1.2 _ (by omega)]
      have h4 := q6 (i.toNat + (q - (j.toNat + 0))) (by omega)
      have e7 : mcopy μ b j n (fun q => μ a (i + q)) b (q : Int) = μ a ((i.toNat + (q - (j.toNat + 0)) : Nat) : Int) := by
        have : j ≤ (q : Int) ∧ (q : Int) < j + n := by omega
        simp only [mcopy, true_and, this, and_self, if_true]
        congr 1
        omega
      rw [e7]
      exact h4
    · rw [if_neg hin]
      have e7 : mcopy μ b j n (fun q => μ a (i + q)) b (q : Int) = μ b (q : Int) := by
        have : ¬ (j ≤ (q : Int) ∧ (q : Int) < j + n) := by omega
        simp only [mcopy, true_and, this, if_false]
      rw [e7]
      exact v6 q hq
  obtain ⟨t, a1, b1⟩ := kk _ _ hHR (fun q hq => by
      rcases List.mem_append.mp hq with h | h
      · exact hlo q h
      · obtain ⟨z, -, hz⟩ := List.mem_map.mp h
        rw [← hz]
        exact mm_rho_lo hb10) hS.tl.tl.tl.tl.tl _ hheap X'
  exact ⟨t, step t a1, b1⟩
-- Math
theorem mm_w_max {idx : Nat} {a b : Int} (hd : decode (mm_code m) pc = .ok (.invokestatic idx, 3)) (hl1 : mm_in (.methodLink (mm_own m) idx Lib.Math.max.name)) (hl2 : mm_in (.static Lib.Math.max.name)) (hl3 : mm_in (.initialized "java/lang/Math")) (hl4 : mm_in (.code Lib.Math.max.name Lib.Math.max.code 2 (some .int))) (hr1 : 1 ≤ mm_rk m) (hr2 : 40 ≤ mm_wt m) (hst : mm_cats st ≤ 8) (hm : G.2.1 ≤ r.2.2.2.1 ∧ G.2.2 ≤ r.2.2.2.2)
    (h : mm_W Z D l m (pc + 3) ls (vI (max a b) :: st) μ G r) : mm_W Z D l m pc ls (vI b :: vI a :: st) μ G r := by
  intro p e R s mi args below meth c H locs cells slots Q rl C0 S0 hC hH hL hS hl hc hs hR1 hR2 hQ
  have hw := hC.2.2.2.2.2.2.2.2.2
  have e5 := mm_cats_eq hH.2.2.2.1 st
  have hb : -2147483648 ≤ b ∧ b < 2147483648 := hS.hd
  have ha : -2147483648 ≤ a ∧ a < 2147483648 := hS.tl.hd
  refine va_mmax hC.1 hC.2.1 (hC.2.2.1.trans hL.2.1.symm) hC.2.2.2.1 (hC.2.2.2.2.1 _ hl1.1 hl1.2 _) (hC.2.2.2.2.1 _ hl2.1 hl2.2 _) (hC.2.2.2.2.1 _ hl3.1 hl3.2 _) (hC.2.2.2.2.1 _ hl4.1 hl4.2 _) (by omega) (by omega) (by omega) (by omega) hd ?_
  have e1 : (if Int32.ofInt a < Int32.ofInt b then Int32.ofInt b else Int32.ofInt a) = Int32.ofInt (max a b) := by
    by_cases hab : a < b
    · rw [if_pos ((mm_ltI ha hb).mpr hab), Int.max_eq_right (by omega)]
    · rw [if_neg (fun z => hab ((mm_ltI ha hb).mp z)), Int.max_eq_left (by omega)]
  rw [e1]
  exact h p e R s mi args below meth c H locs cells slots Q rl C0 S0 hC hH hL (hS.tl.tl.cons (v := vI (max a b)) (by show -2147483648 ≤ max a b ∧ max a b < 2147483648; omega)) hl hc hs hR1 hR2 hQ
theorem mm_w_min {idx : Nat} {a b : Int} (hd : decode (mm_code m) pc = .ok (.invokestatic idx, 3)) (hl1 : mm_in (.methodLink (mm_own m) idx Lib.Math.min.name)) (hl2 : mm_in (.static Lib.Math.min.name)) (hl3 : mm_in (.initialized "java/lang/Math")) (hl4 : mm_in (.code Lib.Math.min.name Lib.Math.min.code 2 (some .int))) (hr1 : 1 ≤ mm_rk m) (hr2 : 40 ≤ mm_wt m) (hst : mm_cats st ≤ 8) (hm : G.2.1 ≤ r.2.2.2.1 ∧ G.2.2 ≤ r.2.2.2.2)
    (h : mm_W Z D l m (pc + 3) ls (vI (min a b) :: st) μ G r) : mm_W Z D l m pc ls (vI b :: vI a :: st) μ G r := by
  intro p e R s mi args below meth c H locs cells slots Q rl C0 S0 hC hH hL hS hl hc hs hR1 hR2 hQ
  have hw := hC.2.2.2.2.2.2.2.2.2
  have e5 := mm_cats_eq hH.2.2.2.1 st
  have hb : -2147483648 ≤ b ∧ b < 2147483648 := hS.hd
  have ha : -2147483648 ≤ a ∧ a < 2147483648 := hS.tl.hd
  refine va_mmin hC.1 hC.2.1 (hC.2.2.1.trans hL.2.1.symm) hC.2.2.2.1 (hC.2.2.2.2.1 _ hl1.1 hl1.2 _) (hC.2.2.2.2.1 _ hl2.1 hl2.2 _) (hC.2.2.2.2.1 _ hl3.1 hl3.2 _) (hC.2.2.2.2.1 _ hl4.1 hl4.2 _) (by omega) (by omega) (by omega) (by omega) hd ?_
  have e1 : (if Int32.ofInt b < Int32.ofInt a then Int32.ofInt b else Int32.ofInt a) = Int32.ofInt (min a b) := by
    by_cases hab : b < a
    · rw [if_pos ((mm_ltI hb ha).mpr hab), Int.min_eq_right (by omega)]
    · rw [if_neg (fun z => hab ((mm_ltI hb ha).mp z)), Int.min_eq_left (by omega)]
  rw [e1]
  exact h p e R s mi args below meth c H locs cells slots Q rl C0 S0 hC hH hL (hS.tl.tl.cons (v := vI (min a b)) (by show -2147483648 ≤ min a b ∧ min a b < 2147483648; omega)) hl hc hs hR1 hR2 hQ
theorem mm_w_minJ {idx : Nat} {a b : Int} (hd : decode (mm_code m) pc = .ok (.invokestatic idx, 3)) (hl1 : mm_in (.methodLink (mm_own m) idx Lib.MathLoose.min_long.x)) (hl2 : mm_in (.static Lib.MathLoose.min_long.x)) (hl3 : mm_in (.initialized "java/lang/Math")) (hl4 : mm_in (.code Lib.MathLoose.min_long.x Lib.MathLoose.min_long.code 4 (some .long))) (hr1 : 1 ≤ mm_rk m) (hr2 : 40 ≤ mm_wt m) (hst : mm_cats st ≤ 8) (hm : G.2.1 ≤ r.2.2.2.1 ∧ G.2.2 ≤ r.2.2.2.2)
    (h : mm_W Z D l m (pc + 3) ls (vL (min a b) :: st) μ G r) : mm_W Z D l m pc ls (vL b :: vL a :: st) μ G r := by
  intro p e R s mi args below meth c H locs cells slots Q rl C0 S0 hC hH hL hS hl hc hs hR1 hR2 hQ
  have hw := hC.2.2.2.2.2.2.2.2.2
  have e5 := mm_cats_eq hH.2.2.2.1 st
  have hb : -9223372036854775808 ≤ b ∧ b < 9223372036854775808 := hS.hd
  have ha : -9223372036854775808 ≤ a ∧ a < 9223372036854775808 := hS.tl.hd
  refine va_mmin_long hC.1 hC.2.1 (hC.2.2.1.trans hL.2.1.symm) hC.2.2.2.1 (hC.2.2.2.2.1 _ hl1.1 hl1.2 _) (hC.2.2.2.2.1 _ hl2.1 hl2.2 _) (hC.2.2.2.2.1 _ hl3.1 hl3.2 _) (hC.2.2.2.2.1 _ hl4.1 hl4.2 _) (by omega) (by omega) (by omega) (by omega) hd ?_
  have g1 : Int64.ofInt b < Int64.ofInt a ↔ b < a := by rw [Int64.lt_iff_toInt_lt, mm_ti64 ha, mm_ti64 hb]
  have e1 : (if Int64.ofInt b < Int64.ofInt a then Int64.ofInt b else Int64.ofInt a) = Int64.ofInt (min a b) := by
    by_cases hab : b < a
    · rw [if_pos (g1.mpr hab), Int.min_eq_right (by omega)]
    · rw [if_neg (fun z => hab (g1.mp z)), Int.min_eq_left (by omega)]
  rw [e1]
  exact h p e R s mi args below meth c H locs cells slots Q rl C0 S0 hC hH hL (hS.tl.tl.cons (v := vL (min a b)) (by show -9223372036854775808 ≤ min a b ∧ min a b < 9223372036854775808; omega)) hl hc hs hR1 hR2 hQ
-- switches
theorem mm_il_sw {pcI x d : Int} : ∀ (os : List Int) (lo : Int), (lo ≤ x ∧ x < lo + os.length → ∃ off, os[(x - lo).toNat]? = some off ∧ mm_sw x d (mm_il pcI lo os) = pcI + off) ∧ (¬ (lo ≤ x ∧ x < lo + os.length) → mm_sw x d (mm_il pcI lo os) = d)
  | [], lo => ⟨fun h => by simp at h; omega, fun _ => rfl⟩
  | o :: r, lo => by
    obtain ⟨h1, h2⟩ := mm_il_sw (pcI := pcI) (x := x) (d := d) r (lo + 1)
    have hlen : ((o :: r).length : Int) = r.length + 1 := by simp
    rw [hlen]
    unfold mm_il mm_sw
    by_cases hx : x = lo
    · subst hx
      refine ⟨fun _ => ⟨o, by simp, by rw [if_pos rfl]⟩, fun h => absurd ⟨by omega, by omega⟩ h⟩
    · rw [if_neg hx]
      refine ⟨fun h => ?_, fun h => h2 (by omega)⟩
      obtain ⟨off, g1, g2⟩ := h1 (by omega)
      refine ⟨off, ?_, g2⟩
      rw [show (x - lo).toNat = (x - (lo + 1)).toNat + 1 by omega, List.getElem?_cons_succ]
      exact g1
theorem mm_sw_in {x d : Int} : ∀ l : List Int, mm_sw x d l = d ∨ mm_sw x d l ∈ l
  | [] => Or.inl rfl
  | [_] => Or.inl rfl
  | k :: t :: r => by
    unfold mm_sw
    by_cases h : x = k
    · rw [if_pos h]; exact Or.inr (by simp)
    · rw [if_neg h]
      rcases mm_sw_in (x := x) (d := d) r with h | h
      · exact Or.inl h
      · exact Or.inr (by simp [h])
theorem mm_k_tsw {dflt lo hi x : Int} {offs : Array Int} {xs : List Int} {len : Nat} (hd : decode (mm_code m) pc = .ok (.tableswitch dflt lo hi offs, len)) (hxs : xs = ((pc : Int) + dflt) :: mm_il pc lo offs.toList) (hhi : hi + 1 = lo + offs.size) (h0 : ∀ x ∈ xs, 0 ≤ x) : mm_K Z D l m pc ls (vI x :: st) ((mm_sw x (xs.getD 0 0) (xs.drop 1)).toNat) ls st μ G := by
  intro p e R s mi args below meth cd H locs cells slots Q rl hC hH hL hS hlo kk
  have kk := kk rl hL hS.tl
  have hx : -2147483648 ≤ x ∧ x < 2147483648 := hS.hd
  subst hxs
  have e1 : (((pc : Int) + dflt) :: mm_il pc lo offs.toList).getD 0 0 = (pc : Int) + dflt := rfl
  have e2 : (((pc : Int) + dflt) :: mm_il pc lo offs.toList).drop 1 = mm_il pc lo offs.toList := rfl
  rw [e1, e2] at kk
  have hsw : 0 ≤ mm_sw x ((pc : Int) + dflt) (mm_il pc lo offs.toList) := by
    rcases mm_sw_in (x := x) (d := (pc : Int) + dflt) (mm_il pc lo offs.toList) with h | h
    · rw [h]; exact h0 _ List.mem_cons_self
    · exact h0 _ (List.mem_cons_of_mem _ h)
  have hti := mm_ti hx
  have hl : (offs.toList.length : Int) = offs.size := by simp
  by_cases hin : lo ≤ x ∧ x < lo + offs.toList.length
  · obtain ⟨off, g1, g2⟩ := (mm_il_sw (pcI := (pc : Int)) (x := x) (d := (pc : Int) + dflt) offs.toList lo).1 hin
    refine lv_tableIn hC.1 hC.2.1 hd (off := off) (tgt := (mm_sw x ((pc : Int) + dflt) (mm_il pc lo offs.toList)).toNat) (by rw [hti]; omega) (by rw [hti]; omega) (by rw [hti]; simpa using g1) (by omega) kk
  · have g := (mm_il_sw (pcI := (pc : Int)) (x := x) (d := (pc : Int) + dflt) offs.toList lo).2 hin
    refine lv_tableOut hC.1 hC.2.1 hd (tgt := (mm_sw x ((pc : Int) + dflt) (mm_il pc lo offs.toList)).toNat) (by rw [hti]; omega) (by omega) kk
theorem mm_ilp_sw {pcI x d : Int} : ∀ (ps : List (Int × Int)), mm_sw x (pcI + d) (mm_ilp pcI ps) = pcI + Op.lookupswitch.offset ps d x
  | [] => by unfold mm_ilp mm_sw; rw [show Op.lookupswitch.offset [] d x = d from rfl]
  | (k, o) :: r => by
    unfold mm_ilp mm_sw
    rw [Op.lookupswitch.offset_cons]
    by_cases h : x = k
    · rw [if_pos h, if_pos (by first | exact h | exact h.symm)]
    · rw [if_neg h, if_neg (by first | exact h | exact fun z => h z.symm)]
      exact mm_ilp_sw r
theorem mm_k_lsw {dflt x : Int} {ps : Array (Int × Int)} {xs : List Int} {len : Nat} (hd : decode (mm_code m) pc = .ok (.lookupswitch dflt ps, len)) (hxs : xs = ((pc : Int) + dflt) :: mm_ilp pc ps.toList) (hp : (ps.toList.zip (ps.toList.drop 1)).all (fun (a, next) => a.1 < next.1) = true) (h0 : ∀ x ∈ xs, 0 ≤ x) : mm_K Z D l m pc ls (vI x :: st) ((mm_sw x (xs.getD 0 0) (xs.drop 1)).toNat) ls st μ G := by
  intro p e R s mi args below meth cd H locs cells slots Q rl hC hH hL hS hlo kk
  have kk := kk rl hL hS.tl
  have hx : -2147483648 ≤ x ∧ x < 2147483648 := hS.hd
  subst hxs
  have e1 : (((pc : Int) + dflt) :: mm_ilp pc ps.toList).getD 0 0 = (pc : Int) + dflt := rfl
  have e2 : (((pc : Int) + dflt) :: mm_ilp pc ps.toList).drop 1 = mm_ilp pc ps.toList := rfl
  rw [e1, e2] at kk
  have hsw : 0 ≤ mm_sw x ((pc : Int) + dflt) (mm_ilp pc ps.toList) := by
    rcases mm_sw_in (x := x) (d := (pc : Int) + dflt) (mm_ilp pc ps.toList) with h | h
    · rw [h]; exact h0 _ List.mem_cons_self
    · exact h0 _ (List.mem_cons_of_mem _ h)
  have g := mm_ilp_sw (pcI := (pc : Int)) (x := x) (d := dflt) ps.toList
  exact lv_lookup hC.1 hC.2.1 hd hp (off := Op.lookupswitch.offset ps.toList dflt x) (by rw [mm_ti hx]) (tgt := (mm_sw x ((pc : Int) + dflt) (mm_ilp pc ps.toList)).toNat) (by omega) kk
end SIME
