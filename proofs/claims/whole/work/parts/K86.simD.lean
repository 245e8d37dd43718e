theorem mm_cats_eq {Z : MZ} (hz : mm_isr Z.2.1) (st : List MV) : ((st.map (mm_tr Z)).map fun v => v.category).sum = mm_cats st := by
  unfold mm_cats
  induction st with
  | nil => rfl
  | cons v r ih => simp only [List.map_cons, List.sum_cons, ih, mm_cat_eq hz]
theorem mm_slot1 (cell : Cell) {j : Nat} (v : Value) (hj : j < cell.slots.size) (i : Nat) : (cell.setSlot j v).slots[i]? = if i = j then some v else cell.slots[i]? := by
  by_cases h : i = j
  · subst h; rw [if_pos rfl]; exact Cell.slots_setSlot_self _ hj
  · rw [if_neg h]; exact slot_ne _ _ (Ne.symm h)
theorem mm_arr.set {U : State} {cell : Cell} {kd : Int} (h : mm_arr U cell kd) (j : Nat) (v : Value) : mm_arr U (cell.setSlot j v) kd := h
section SIMD
variable {Z : MZ} {D : va_G} {l : Launch} {m pc pc' nx : Nat} {ls ls' : ML} {st st' : List MV} {μ μ' : MM} {G G' : MG} {r : MR}
/-- a place of an array gets a value -/
theorem mm_aput {s : State} {H H' : Heap} {a i x kd : Int} {cell : Cell} {v : Value} (hH : mm_HR Z D s μ G H) (ha : 10 ≤ a) (ha2 : a < G.2.1) (hk : gk G a = kd) (h100 : 100 ≤ kd) (hc : H[mm_rho Z a]? = some cell) (h103 : kd ≤ 103) (h1 : mm_arr s cell kd) (h2 : cell.vm ≠ .unknown) (h3 : (cell.slots.size : Int) = gl G a)
    (h4 : ∀ j : Nat, (j : Int) < gl G a → cell.slots[j]? = some (mm_hv Z (mm_et kd) (μ a j)) ∧ mm_ran G (mm_et kd) (μ a j)) (h0 : 0 ≤ i) (hi : i < gl G a) (hv : v = mm_hv Z (mm_et kd) x) (hx : mm_ran G (mm_et kd) x)
    (e1 : H'[mm_rho Z a]? = some (cell.setSlot i.toNat v)) (e2 : H'.size = H.size) (e3 : ∀ q, q ≠ mm_rho Z a → H'[q]? = H[q]?) : mm_HR Z D s (mset μ a i x) G H' := by
  have hlt : i.toNat < cell.slots.size := by omega
  refine hH.put ha ha2 e2 e3 e1 (Or.inr ⟨by omega, by omega, hk ▸ h1.set _ _, h2, by rw [k2_slotsz]; exact h3, fun j hj => ?_⟩) (fun b hb => mm_msr hb)
  rw [mm_slot1 _ _ hlt, hk]
  by_cases hji : j = i.toNat
  · rw [if_pos hji]
    have e : mset μ a i x a (j : Int) = x := by
      have : (j : Int) = i := by omega
      simp [mset, this]
    rw [e, hv]
    exact ⟨rfl, hx⟩
  · rw [if_neg hji]
    have e : mset μ a i x a (j : Int) = μ a j := by
      have : ¬ (j : Int) = i := by omega
      simp [mset, this]
    rw [e]
    exact h4 j hj
theorem mm_loc {locs : List Loc} {a : Int} {k : Nat} (hlo : ∀ q ∈ locs, Z.2.2 ≤ q.base) (ha : 10 ≤ a) : ∀ q ∈ locs ++ [⟨mm_rho Z a, k⟩], Z.2.2 ≤ q.base := fun q hq => by
  rcases List.mem_append.mp hq with h | h
  · exact hlo q h
  · rw [List.mem_singleton.mp h]; exact mm_rho_lo ha
theorem mm_k_iastore {i a x : Int} (hd : decode (mm_code m) pc = .ok (.iastore, 1)) (hk : gk G a = 100) (h0 : 0 ≤ i) (h1 : i < gl G a) (h10 : 10 ≤ a) : mm_KH Z D l m pc ls (vI x :: vI i :: vR a :: st) (pc + 1) st μ (mset μ a i x) G := by
  intro p e R s mi args below meth cd H locs cells slots Q rl hC hH hL hS hlo kk
  obtain ⟨cell, q1, q2, q3, q4, q5, q6, q7⟩ := mm_ary hH hS.tl.tl.hd hk (by omega)
  have hi : -2147483648 ≤ i ∧ i < 2147483648 := hS.tl.hd
  show W p l e R s mi args below meth cd H locs cells slots Q (F0 mi pc rl (.int (Int32.ofInt x) :: .int (Int32.ofInt i) :: mm_rv Z a :: st.map (mm_tr Z)))
  rw [q7]
  refine W.iast hC.1 hC.2.1 q1 q3.isA q4 (mm_idx hi h0 h1 q5) rfl rfl hd fun H' e1 e2 e3 => ?_
  rw [mm_clamp hi] at e1 ⊢
  exact kk H' _ (mm_aput hH h10 hS.tl.tl.hd.2 hk (by omega) q1 q2 q3 q4 q5 q6 h0 h1 rfl hS.hd e1 e2 e3) (mm_loc hlo h10) hS.tl.tl.tl
theorem mm_i2b_ok (x : Int) : -128 ≤ mm_i2b x ∧ mm_i2b x < 128 := by
  unfold mm_i2b
  rw [Int8.toInt_toInt32]
  have h1 := Int8.le_toInt (Int32.ofInt x).toInt8
  have h2 := Int8.toInt_lt (Int32.ofInt x).toInt8
  have e : (2 : Int) ^ 7 = 128 := by decide
  rw [e] at h1 h2
  exact ⟨h1, h2⟩
theorem mm_k_bastore {i a x : Int} (hd : decode (mm_code m) pc = .ok (.bastore, 1)) (hk : gk G a = 101) (h0 : 0 ≤ i) (h1 : i < gl G a) (h10 : 10 ≤ a) : mm_KH Z D l m pc ls (vI x :: vI i :: vR a :: st) (pc + 1) st μ (mset μ a i (mm_i2b x)) G := by
  intro p e R s mi args below meth cd H locs cells slots Q rl hC hH hL hS hlo kk
  obtain ⟨cell, q1, q2, q3, q4, q5, q6, q7⟩ := mm_ary hH hS.tl.tl.hd hk (by omega)
  have hi : -2147483648 ≤ i ∧ i < 2147483648 := hS.tl.hd
  show W p l e R s mi args below meth cd H locs cells slots Q (F0 mi pc rl (.int (Int32.ofInt x) :: .int (Int32.ofInt i) :: mm_rv Z a :: st.map (mm_tr Z)))
  rw [q7]
  refine W.bast hC.1 hC.2.1 q1 q3.isA q4 (mm_idx hi h0 h1 q5) rfl rfl hd fun H' e1 e2 e3 => ?_
  rw [mm_clamp hi] at e1 ⊢
  refine kk H' _ (mm_aput hH h10 hS.tl.tl.hd.2 hk (by omega) q1 q2 q3 q4 q5 q6 h0 h1 ?_ (mm_i2b_ok x) e1 e2 e3) (mm_loc hlo h10) hS.tl.tl.tl
  rw [narrow_byte]
  show Value.int _ = Value.int (Int32.ofInt (mm_i2b x))
  unfold mm_i2b
  rw [Int32.ofInt_toInt]
theorem mm_k_aastore {i a x kd : Int} {c : Nat} {rr : vw_C} (hd : decode (mm_code m) pc = .ok (.aastore, 1)) (hkd : kd = 102 ∨ kd = 103) (hc : mm_cl[c]? = some rr) (hat : mm_at kd = .object rr.1) (hk : gk G a = kd) (h0 : 0 ≤ i) (h1 : i < gl G a) (h10 : 10 ≤ a) (hx : gk G x = (c : Int)) : mm_KH Z D l m pc ls (vR x :: vI i :: vR a :: st) (pc + 1) st μ (mset μ a i x) G := by
  intro p e R s mi args below meth cd H locs cells slots Q rl hC hH hL hS hlo kk
  obtain ⟨cell, q1, q2, q3, q4, q5, q6, q7⟩ := mm_ary hH hS.tl.tl.hd hk (by omega)
  obtain ⟨cv, v1, v2, v3, v4, v5, v6⟩ := mm_obj hH hS.hd hx hc
  have hi : -2147483648 ≤ i ∧ i < 2147483648 := hS.tl.hd
  have het : mm_et kd = 2 := by rcases hkd with h | h <;> rw [h] <;> rfl
  have hcls := (hC.2.2.2.2.2.1.1 c _ hc).2
  obtain ⟨hst, kA, comp, k1, k2, k3⟩ := q3
  have hcomp : comp = D.1 c := Option.some.inj ((k3 _ hat).symm.trans hcls.1)
  subst hcomp
  obtain ⟨kC, hkC, -⟩ := hcls.2
  show W p l e R s mi args below meth cd H locs cells slots Q (F0 mi pc rl (mm_rv Z x :: .int (Int32.ofInt i) :: mm_rv Z a :: st.map (mm_tr Z)))
  rw [q7, v5]
  refine W.aast hC.1 hC.2.1 q1 hst q4 k1 k2 (by rw [hat]; rfl) hkC ⟨?_, ?_⟩ v1 (fun q h => by rw [v3] at h; cases h) (by rw [v2]; exact hkC) (by rw [v2]; exact va_assign hcls) rfl rfl hd fun H' e1 e2 e3 => ?_
  · exact fun h => mm_idx hi h0 h1 q5 (Or.inl h)
  · exact Nat.not_le.mp fun h => mm_idx hi h0 h1 q5 (Or.inr h)
  · rw [mm_clamp hi] at e1 ⊢
    refine kk H' _ (mm_aput hH h10 hS.tl.tl.hd.2 hk (by omega) q1 q2 ⟨hst, kA, _, k1, k2, k3⟩ q4 q5 q6 h0 h1 ?_ ?_ e1 e2 e3) (mm_loc hlo h10) hS.tl.tl.tl
    · rw [het]
      show Value.ref _ = mm_rv Z x
      rw [v5]
    · rw [het]; exact hS.hd
/-- one new cell: kind, length, places -/
theorem mm_new {kd ln sl : Int} {n : Nat} (hsl : 0 ≤ sl) (hm : (gnew G kd ln sl).2.1 ≤ r.2.2.2.1 ∧ (gnew G kd ln sl).2.2 ≤ r.2.2.2.2)
    (hk : ∀ (p : Program) (e : Env) (R : Room) (s : State) (mi : MethodId) (args : Array Value) (below : List Frame) (meth : Method) (c : Code) (H : Heap) (locs : List Loc) (cells slots : Nat) (Q : State → Prop) (rl : Array Slot),
      mm_Cx D m p R s mi meth c → mm_HR Z D s μ G H → mm_LR Z G (mm_max m) ls rl → mm_SR G st → cells + 1 ≤ R.cells → slots + sl.toNat ≤ R.slots →
      (∀ H' : Heap, mm_HR Z D s (mzero μ G.2.1) (gnew G kd ln sl) H' → W p l e R s mi args below meth c H' locs (cells + 1) (slots + sl.toNat) Q (F0 mi pc' rl (.ref (mm_rho Z G.2.1) :: st'.map (mm_tr Z)))) →
      W p l e R s mi args below meth c H locs cells slots Q (F0 mi pc rl (st.map (mm_tr Z)))) (hst : ∀ v ∈ st', v ∈ st)
    (h : mm_W Z D l m pc' ls (vR G.2.1 :: st') (mzero μ G.2.1) (gnew G kd ln sl) r) : mm_W Z D l m pc ls st μ G r := by
  intro p e R s mi args below meth c H locs cells slots Q rl C0 S0 hC hH hL hS hl hc hs hR1 hR2 hQ
  have hm1 : G.2.1 + 1 ≤ r.2.2.2.1 := hm.1
  have hm2 : G.2.2 + sl ≤ r.2.2.2.2 := hm.2
  have h10 := hH.1
  have hg : G.2.1 ≤ (gnew G kd ln sl).2.1 := by show G.2.1 ≤ G.2.1 + 1; omega
  refine hk p e R s mi args below meth c H locs cells slots Q rl hC hH hL hS (by omega) (by omega) (fun H' hH' => ?_)
  have := h p e R s mi args below meth c H' locs (cells + 1) (slots + sl.toNat) Q rl C0 S0 hC hH' (hL.mono hg) (mm_SR.cons (v := vR G.2.1) ⟨by omega, by show G.2.1 < G.2.1 + 1; omega⟩ (fun v hv => (hS v (hst v hv)).mono hg)) hl (by show ((cells + 1 : Nat) : Int) = C0 + (G.2.1 + 1); omega) (by show ((slots + sl.toNat : Nat) : Int) = S0 + (G.2.2 + sl); omega) hR1 hR2 hQ
  have e0 : mm_rv Z G.2.1 = .ref (mm_rho Z G.2.1) := mm_rvr (by omega) (by omega)
  rw [← e0]
  exact this
theorem mm_w_new {idx c : Nat} {rr : vw_C} (hd : decode (mm_code m) pc = .ok (.new idx, 3)) (hc : mm_cl[c]? = some rr) (hl1 : mm_in (.classLink (mm_own m) idx rr.1)) (hl2 : mm_in (.instantiable rr.1 rr.2.2)) (hl3 : mm_in (.initialized rr.1))
    (hm : (gnew G c 0 rr.2.2).2.1 ≤ r.2.2.2.1 ∧ (gnew G c 0 rr.2.2).2.2 ≤ r.2.2.2.2) (h : mm_W Z D l m (pc + 3) ls (vR G.2.1 :: st) (mzero μ G.2.1) (gnew G c 0 rr.2.2) r) : mm_W Z D l m pc ls st μ G r := by
  refine mm_new (n := 0) (by omega) hm (fun p e R s mi args below meth cd H locs cells slots Q rl hC hH hL hS hcells hslots kk => ?_) (fun v hv => hv) h
  obtain ⟨C, T, N⟩ := rr
  have hts : ∀ w ∈ u_ws C T N, w.before args s = true := fun w hw => hC.2.2.2.2.1 w (mm_cin hc w hw).1 (mm_cin hc w hw).2 _
  have hK := hC.2.2.2.2.2.1.1 c _ hc
  refine W.newcK hC.1 hC.2.1 hC.2.2.2.1 (hC.2.2.2.2.1 _ hl1.1 hl1.2 _) (hC.2.2.2.2.1 _ hl2.1 hl2.2 _) (hC.2.2.2.2.1 _ hl3.1 hl3.2 _) rfl hd hcells (by simpa using hslots) hK.2.1 rfl (fun H' kC hkC e1 e2 e3 => ?_)
  have hob := u_born (mm_fty c) hts (fun _ h => h) hK hkC e1 (fun k hk => mm_cty hc k hk)
  obtain ⟨cell, f1, f2, f3, f4⟩ := hob
  have hpush := hH.push (kd := (c : Int)) (ln := 0) (sl := (N : Int)) e2 e3 f1 (Or.inl ⟨c, _, rfl, hc, f2, f3, fun k hk => ?_⟩) (by omega)
  · rw [← hpush.2] at *
    have := kk H' hpush.1
    simpa [hpush.2] using this
  · refine ⟨by rw [f4 k hk]; exact congrArg some (mm_dflt (mm_ctk hc k hk)), mm_dran (mm_ctk hc k hk) (by have := hH.1; show 10 ≤ G.2.1 + 1; omega)⟩
theorem mm_arrV_cell {s : State} {cA : ClassId} {kd n : Int} {G' : MG} (hkd : kd = 100 ∨ kd = 101) (hA : ArrOfT s cA (mm_at kd)) (hn : 0 ≤ n) : mm_cell Z D s G' (fun _ => 0) kd n (arrV cA n.toNat (fun _ => defaultValue (mm_at kd))) := by
  obtain ⟨h1, k, h2, comp, h3⟩ := hA n.toNat (fun _ => defaultValue (mm_at kd))
  refine Or.inr ⟨by omega, by omega, ⟨h1, k, comp, h2, h3, fun C hC => ?_⟩, (fun h => (by cases h)), (by rw [arrV_size]; omega), fun j hj => ⟨?_, ?_⟩⟩
  · rcases hkd with h | h <;> rw [h] at hC <;> cases hC
  · rw [arrV_read _ _ (by omega)]
    rcases hkd with h | h <;> rw [h] <;> rfl
  · rcases hkd with h | h <;> rw [h]
    · show -2147483648 ≤ (0 : Int) ∧ (0 : Int) < 2147483648; omega
    · show -128 ≤ (0 : Int) ∧ (0 : Int) < 128; omega
theorem mm_w_newa {n : Int} (hd : decode (mm_code m) pc = .ok (.newarray .int, 2)) (hl1 : mm_in (.arrayClass .int)) (h0 : 0 ≤ n) (h1 : n ≤ 100000)
    (hm : (gnew G 100 n n).2.1 ≤ r.2.2.2.1 ∧ (gnew G 100 n n).2.2 ≤ r.2.2.2.2) (h : mm_W Z D l m (pc + 2) ls (vR G.2.1 :: st) (mzero μ G.2.1) (gnew G 100 n n) r) : mm_W Z D l m pc ls (vI n :: st) μ G r := by
  refine mm_new (n := 0) h0 hm (fun p e R s mi args below meth cd H locs cells slots Q rl hC hH hL hS hcells hslots kk => ?_) (fun v hv => List.mem_cons_of_mem _ hv) h
  refine W.newaK (atype := .int) (N := n.toNat) hC.1 hC.2.1 (hC.2.2.2.2.1 _ hl1.1 hl1.2 _) rfl hd rfl (fun h => ?_) (mm_clamp hS.hd) ?_ hcells hslots rfl (fun H' cA e1 e2 e3 hA => ?_)
  · rw [← mm_0, mm_ltI hS.hd (by omega)] at h; omega
  · show n.toNat * 4 ≤ 536870912; omega
  · have hpush := hH.push (kd := 100) (ln := n) (sl := n) e2 e3 e1 (mm_arrV_cell (Or.inl rfl) hA h0) (by omega)
    have := kk H' hpush.1
    rw [hpush.2] at this
    exact this
theorem mm_w_newb {n : Int} (hd : decode (mm_code m) pc = .ok (.newarray .byte, 2)) (hl1 : mm_in (.arrayClass .byte)) (h0 : 0 ≤ n) (h1 : n ≤ 100000)
    (hm : (gnew G 101 n n).2.1 ≤ r.2.2.2.1 ∧ (gnew G 101 n n).2.2 ≤ r.2.2.2.2) (h : mm_W Z D l m (pc + 2) ls (vR G.2.1 :: st) (mzero μ G.2.1) (gnew G 101 n n) r) : mm_W Z D l m pc ls (vI n :: st) μ G r := by
  refine mm_new (n := 0) h0 hm (fun p e R s mi args below meth cd H locs cells slots Q rl hC hH hL hS hcells hslots kk => ?_) (fun v hv => List.mem_cons_of_mem _ hv) h
  refine W.newaK (atype := .byte) (N := n.toNat) hC.1 hC.2.1 (hC.2.2.2.2.1 _ hl1.1 hl1.2 _) rfl hd rfl (fun h => ?_) (mm_clamp hS.hd) ?_ hcells hslots rfl (fun H' cA e1 e2 e3 hA => ?_)
  · rw [← mm_0, mm_ltI hS.hd (by omega)] at h; omega
  · show n.toNat * 1 ≤ 536870912; omega
  · have hpush := hH.push (kd := 101) (ln := n) (sl := n) e2 e3 e1 (mm_arrV_cell (Or.inr rfl) hA h0) (by omega)
    have := kk H' hpush.1
    rw [hpush.2] at this
    exact this
theorem mm_w_anew {n kd : Int} {idx : Nat} {C : String} (hd : decode (mm_code m) pc = .ok (.anewarray idx, 3)) (hkd : kd = 102 ∨ kd = 103) (hat : mm_at kd = .object C) (hl1 : mm_in (.classLink (mm_own m) idx C)) (hl2 : mm_in (.arrayOver (.object C))) (h0 : 0 ≤ n) (h1 : n ≤ 100000)
    (hm : (gnew G kd n n).2.1 ≤ r.2.2.2.1 ∧ (gnew G kd n n).2.2 ≤ r.2.2.2.2) (h : mm_W Z D l m (pc + 3) ls (vR G.2.1 :: st) (mzero μ G.2.1) (gnew G kd n n) r) : mm_W Z D l m pc ls (vI n :: st) μ G r := by
  refine mm_new (n := 0) h0 hm (fun p e R s mi args below meth cd H locs cells slots Q rl hC hH hL hS hcells hslots kk => ?_) (fun v hv => List.mem_cons_of_mem _ hv) h
  have hcl : (Int32.ofInt n).toNatClampNeg = n.toNat := mm_clamp hS.hd
  refine W.anew hC.1 hC.2.1 hC.2.2.2.1 (hC.2.2.2.2.1 _ hl1.1 hl1.2 _) (hC.2.2.2.2.1 _ hl2.1 hl2.2 _) rfl hd (n := Int32.ofInt n) rfl (fun h => ?_) (by rw [hcl]; omega) hcells (by rw [hcl]; exact hslots) (fun cA kA comp g1 g2 g3 g4 => ?_)
  · rw [← mm_0, mm_ltI hS.hd (by omega)] at h; omega
  · rw [hcl]
    have hpush := hH.push (H' := H.push { cls := cA, slots := Array.replicate n.toNat .null, vm := .none }) (kd := kd) (ln := n) (sl := n) (cell := { cls := cA, slots := Array.replicate n.toNat .null, vm := .none }) (by simp) (fun q hq => by rw [Array.getElem?_push, if_neg (Nat.ne_of_lt hq)]) (by simp)
      (Or.inr ⟨by omega, by omega, ⟨(fun q h => (by cases h)), kA, comp, g2, (by rw [hat]; exact g3), fun C' hC' => by rw [hat] at hC'; cases hC'; exact g4⟩, fun h => (by cases h), by show ((Array.replicate n.toNat Value.null).size : Int) = n; rw [Array.size_replicate]; omega, fun j hj => ⟨?_, ?_⟩⟩) (by omega)
    · have := kk _ hpush.1
      rw [hpush.2] at this
      exact this
    · have het : mm_et kd = 2 := by rcases hkd with h | h <;> rw [h] <;> rfl
      rw [het]
      show (Array.replicate n.toNat Value.null)[j]? = some .null
      rw [Array.getElem?_replicate, if_pos (by omega)]
    · have het : mm_et kd = 2 := by rcases hkd with h | h <;> rw [h] <;> rfl
      rw [het]
      exact ⟨Int.le_refl 0, by have := hH.1; show 0 < G.2.1 + 1; omega⟩
theorem mm_k_obj {idx : Nat} {a : Int} (hd : decode (mm_code m) pc = .ok (.invokespecial idx, 3)) (hl1 : mm_in (.methodLink (mm_own m) idx Lib.objectInit)) (hl2 : mm_in (.instanceMethod Lib.objectInit)) (hl3 : mm_in (.code Lib.objectInit ⟨#[0xb1]⟩ 1 none)) (hr1 : 1 ≤ mm_rk m) (hr2 : 40 ≤ mm_wt m) (hst : mm_cats st ≤ 8) (ha : ¬ a = 0 ∧ ¬ a = 7) : mm_K Z D l m pc ls (vR a :: st) (pc + 3) ls st μ G := by
  intro p e R s mi args below meth cd H locs cells slots Q rl hC hH hL hS hlo kk
  have kk := kk rl hL hS.tl
  show W p l e R s mi args below meth cd H locs cells slots Q (F0 mi pc rl (mm_rv Z a :: st.map (mm_tr Z)))
  rw [mm_rvr ha.1 ha.2]
  have hw := hC.2.2.2.2.2.2.2.2.2
  refine W.objInit hC.1 hC.2.1 hC.2.2.2.1 (hC.2.2.2.2.1 _ hl1.1 hl1.2 _) (hC.2.2.2.2.1 _ hl2.1 hl2.2 _) (hC.2.2.2.2.1 _ hl3.1 hl3.2 _) rfl (hL.2.1.trans hC.2.2.1.symm) rfl hd (by omega) ?_ kk
  have e := mm_cats_eq hH.2.2.2.1 st
  show 2 * 0 + _ + 12 ≤ _
  omega
end SIMD
