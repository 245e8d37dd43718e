theorem mm_cin_lt {c : Nat} {r : vw_C} (h : mm_cl[c]? = some r) : c < 13 := (List.getElem?_eq_some_iff.mp h).1
/-- an object of the class c -/
theorem mm_obj {Z : MZ} {D : va_G} {s : State} {μ : MM} {G : MG} {H : Heap} (hH : mm_HR Z D s μ G H) {a : Int} {c : Nat} {r : vw_C} (ha : 0 ≤ a ∧ a < G.2.1) (hk : gk G a = (c : Int)) (hc : mm_cl[c]? = some r) :
    ∃ cell, H[mm_rho Z a]? = some cell ∧ cell.cls = D.1 c ∧ cell.vm = .none ∧ (∀ k : Nat, k < r.2.2 → cell.slots[D.2 c k]? = some (mm_hv Z (mm_ft c k) (μ a k)) ∧ mm_ran G (mm_ft c k) (μ a k)) ∧ mm_rv Z a = .ref (mm_rho Z a) ∧ 10 ≤ a := by
  have hlt := mm_cin_lt hc
  have h10 : 10 ≤ a := by
    rcases (show a < 10 ∨ 10 ≤ a by omega) with h | h
    · have := hH.2.2.2.2.1.2.2.1 a ha.1 h
      omega
    · exact h
  rcases hH.2.2.2.2.2.2 a ha.1 ha.2 with h | ⟨cell, hcell, hm⟩
  · omega
  · rcases hm with ⟨c', r', e1, e2, e3, e4, e5⟩ | ⟨e1, -⟩
    · have hcc : c' = c := by omega
      subst hcc
      rw [hc] at e2; cases e2
      exact ⟨cell, hcell, e3, e4, e5, mm_rvr (by omega) (by omega), h10⟩
    · omega
/-- an array of the kind kd -/
theorem mm_ary {Z : MZ} {D : va_G} {s : State} {μ : MM} {G : MG} {H : Heap} (hH : mm_HR Z D s μ G H) {a kd : Int} (ha : 0 ≤ a ∧ a < G.2.1) (hk : gk G a = kd) (h100 : 100 ≤ kd) :
    ∃ cell, H[mm_rho Z a]? = some cell ∧ kd ≤ 103 ∧ mm_arr s cell kd ∧ cell.vm ≠ .unknown ∧ (cell.slots.size : Int) = gl G a ∧ (∀ j : Nat, (j : Int) < gl G a → cell.slots[j]? = some (mm_hv Z (mm_et kd) (μ a j)) ∧ mm_ran G (mm_et kd) (μ a j)) ∧ mm_rv Z a = .ref (mm_rho Z a) := by
  subst hk
  have h0 : ¬ a = 0 := fun h => by subst h; have := hH.2.2.2.2.1.1; omega
  have h7 : ¬ a = 7 := fun h => by subst h; have := hH.2.2.2.2.1.2.1; omega
  rcases hH.2.2.2.2.2.2 a ha.1 ha.2 with h | ⟨cell, hcell, hm⟩
  · omega
  · rcases hm with ⟨c', r', e1, e2, -⟩ | ⟨e1, e2, e3, e4, e5, e6⟩
    · have := mm_cin_lt e2; omega
    · exact ⟨cell, hcell, e2, e3, e4, e5, e6, mm_rvr h0 h7⟩
theorem mm_hvt {Z : MZ} {ty x : Int} : (if ty = 2 then (Sum.inr (Sum.inr x) : MV) else Sum.inl x) = if ty = 2 then vR x else vI x := rfl
theorem mm_trhv {Z : MZ} (ty x : Int) : mm_tr Z (if ty = 2 then (Sum.inr (Sum.inr x) : MV) else Sum.inl x) = mm_hv Z ty x := by
  unfold mm_hv; split <;> rfl
theorem mm_okran {G : MG} {ty x : Int} (h : mm_ran G ty x) : mm_ok G (if ty = 2 then (Sum.inr (Sum.inr x) : MV) else Sum.inl x) := by
  by_cases h2 : ty = 2
  · rw [if_pos h2]; unfold mm_ran at h; rw [if_pos h2] at h; exact h
  · rw [if_neg h2]; exact mm_ranI h h2
section SIMC
variable {Z : MZ} {D : va_G} {l : Launch} {m pc pc' nx : Nat} {ls ls' : ML} {st st' : List MV} {μ μ' : MM} {G G' : MG} {r : MR}
theorem mm_k_getf {idx c k : Nat} {a : Int} (hd : decode (mm_code m) pc = .ok (.getfield idx, 3)) (hl : mm_lf (mm_own m) idx c k) (hk : gk G a = (c : Int)) : mm_K Z D l m pc ls (vR a :: st) (pc + 3) ls ((if mm_ft c k = 2 then Sum.inr (Sum.inr (μ a k)) else Sum.inl (μ a k)) :: st) μ G := by
  intro p e R s mi args below meth cd H locs cells slots Q rl hC hH hL hS hlo kk
  obtain ⟨r, hc, hkN, hlink⟩ := hl
  obtain ⟨cell, q1, q2, q3, q4, q5, -⟩ := mm_obj hH hS.hd hk hc
  obtain ⟨C, T, N⟩ := r
  have hts : ∀ w ∈ u_ws C T N, w.before args s = true := fun w hw => hC.2.2.2.2.1 w (mm_cin hc w hw).1 (mm_cin hc w hw).2 _
  obtain ⟨hSl, hfc, kC, hkC, hkind⟩ := hC.2.2.2.2.2.1.1 c _ hc
  obtain ⟨cf, kf, fi, f, hi, hsl⟩ := hSl k hkN
  have hst := (u_facts hfc hkC (u_lays hts (fun _ h => h) hkN) hi).1
  have kk := kk rl hL (hS.tl.cons (mm_okran (q4 k hkN).2))
  show W p l e R s mi args below meth cd H locs cells slots Q (F0 mi pc rl (mm_rv Z a :: st.map (mm_tr Z)))
  rw [q5]
  rw [List.map_cons, mm_trhv] at kk
  have hsv : cell.slots[f.slot]? = some (mm_hv Z (mm_ft c k) (μ a k)) := by rw [hsl]; exact (q4 k hkN).1
  rcases hlink with hlink | ⟨host, hlink⟩
  · exact W.getf hC.1 hC.2.1 hC.2.2.2.1 (hC.2.2.2.2.1 _ hlink.1 hlink.2 _) hi hst q1 (by rw [q3]; exact fun h => by cases h) hsv rfl rfl hd kk
  · exact va_Wgetf hC.1 hC.2.1 hC.2.2.2.1 (hC.2.2.2.2.1 _ hlink.1 hlink.2 _) hi hst q1 (by rw [q3]; exact fun h => by cases h) hsv rfl rfl hd kk
theorem mm_nar {G : MG} {c k : Nat} {x : Int} (hx : mm_ran G (mm_ft c k) x) (ht : mm_tk (mm_fty c k)) (hz : mm_isr Z.2.1) : narrow (mm_fty c k) (mm_hv Z (mm_ft c k) x) = mm_hv Z (mm_ft c k) x ∧ fits (mm_fty c k) (mm_hv Z (mm_ft c k) x) = true := by
  unfold mm_ft at hx ⊢
  rcases ht with h | h | h | ⟨n, h⟩ | ⟨t, h⟩ <;> rw [h] at hx ⊢
  · exact ⟨rfl, rfl⟩
  · have hx : x = 0 ∨ x = 1 := hx
    rcases hx with rfl | rfl
    · exact ⟨show narrow .boolean (.int (Int32.ofInt 0)) = .int (Int32.ofInt 0) by decide +kernel, show fits .boolean (.int (Int32.ofInt 0)) = true by decide +kernel⟩
    · exact ⟨show narrow .boolean (.int (Int32.ofInt 1)) = .int (Int32.ofInt 1) by decide +kernel, show fits .boolean (.int (Int32.ofInt 1)) = true by decide +kernel⟩
  · have hx : -128 ≤ x ∧ x < 128 := hx
    have hb : -2147483648 ≤ x ∧ x < 2147483648 := by omega
    have e1 : (Int32.ofInt x).toInt8.toInt32 = Int32.ofInt x := by
      rw [← Int32.toInt_inj, Int8.toInt_toInt32, Int32.toInt_toInt8, mm_ti hb]
      have : ((2 ^ 8 : Nat) : Int) = 256 := by decide
      simp only [Int.bmod, this]
      split <;> omega
    refine ⟨?_, ?_⟩
    · show narrow .byte (.int (Int32.ofInt x)) = .int (Int32.ofInt x)
      rw [narrow_byte, e1]
    · show (decide (-128 ≤ Int32.ofInt x) && decide (Int32.ofInt x ≤ 127)) = true
      rw [Bool.and_eq_true, decide_eq_true_eq, decide_eq_true_eq, Int32.le_iff_toInt_le, Int32.le_iff_toInt_le, mm_ti hb]
      exact ⟨hx.1, by have : (127 : Int32).toInt = 127 := rfl; omega⟩
  · show narrow (.object n) (mm_rv Z x) = mm_rv Z x ∧ fits (.object n) (mm_rv Z x) = true
    rcases mm_rvf hz x with e | ⟨q, e⟩ <;> rw [e] <;> exact ⟨rfl, rfl⟩
  · show narrow (.array t) (mm_rv Z x) = mm_rv Z x ∧ fits (.array t) (mm_rv Z x) = true
    rcases mm_rvf hz x with e | ⟨q, e⟩ <;> rw [e] <;> exact ⟨rfl, rfl⟩
theorem mm_msr {μ : MM} {a b k x : Int} (h : ¬ b = a) : mset μ a k x b = μ b := by
  funext j; simp [mset, h]
theorem mm_k_putf {idx c k : Nat} {a x : Int} {v : MV} (hd : decode (mm_code m) pc = .ok (.putfield idx, 3)) (hl : mm_lp (mm_own m) (mm_nm m).name idx c k) (hk : gk G a = (c : Int)) (hv : ∀ Z, mm_tr Z v = mm_hv Z (mm_ft c k) x) (hx : mm_ok G v → mm_ran G (mm_ft c k) x) : mm_KH Z D l m pc ls (v :: vR a :: st) (pc + 3) st μ (mset μ a k x) G := by
  intro p e R s mi args below meth cd H locs cells slots Q rl hC hH hL hS hlo kk
  obtain ⟨r, hc, hkN, hlink⟩ := hl
  obtain ⟨cell, q1, q2, q3, q4, q5, q6⟩ := mm_obj hH hS.tl.hd hk hc
  obtain ⟨C, T, N⟩ := r
  have hts : ∀ w ∈ u_ws C T N, w.before args s = true := fun w hw => hC.2.2.2.2.1 w (mm_cin hc w hw).1 (mm_cin hc w hw).2 _
  have hap := va_apart (own := mm_own m) hts (fun _ h => h) (mm_fty c) (fun k hk => mm_cty hc k hk) (mm_cnm hc) hC.2.2.2.2.2.1 hc
  obtain ⟨hSl, hfc, kC, hkC, hkind⟩ := hC.2.2.2.2.2.1.1 c _ hc
  obtain ⟨cf, kf, fi, f, hi, hsl⟩ := hSl k hkN
  have hst := (u_facts hfc hkC (u_lays hts (fun _ h => h) hkN) hi).1
  have hran := hx hS.hd
  obtain ⟨hn, hfit⟩ := mm_nar (Z := Z) hran (mm_ctk hc k hkN) hH.2.2.2.1
  have hslots : ∀ j, j < N → cell.slots[D.2 c j]? = some ((fun j => mm_hv Z (mm_ft c j) (μ a j)) j) := fun j hj => (q4 j hj).1
  have key : ∀ (H' : Heap), H'[mm_rho Z a]? = some (cell.setSlot f.slot (mm_hv Z (mm_ft c k) x)) → H'.size = H.size → (∀ q, q ≠ mm_rho Z a → H'[q]? = H[q]?) → mm_HR Z D s (mset μ a k x) G H' := by
    intro H' e1 e2 e3
    rw [hsl] at e1
    refine hH.put q6 hS.tl.hd.2 e2 e3 e1 (Or.inl ⟨c, _, hk, hc, q2, q3, fun j hj => ?_⟩) (fun b hb => mm_msr hb)
    rw [t_set hslots hap hkN _ j hj]
    by_cases hjk : j = k
    · subst hjk
      have e : mset μ a (j : Int) x a (j : Int) = x := by simp [mset]
      rw [e]
      exact ⟨by simp [updV], hran⟩
    · have e : mset μ a (k : Int) x a (j : Int) = μ a j := by
        have : ¬ (j : Int) = (k : Int) := by omega
        simp [mset, this]
      rw [e]
      exact ⟨by simp [updV, hjk], (q4 j hj).2⟩
  have hlt : f.slot < cell.slots.size := by rw [hsl]; exact k2_hasslot (q4 k hkN).1
  show W p l e R s mi args below meth cd H locs cells slots Q (F0 mi pc rl (mm_tr Z v :: mm_rv Z a :: st.map (mm_tr Z)))
  rw [q5, hv]
  have hlo' : ∀ q ∈ locs ++ [⟨mm_rho Z a, f.slot⟩], Z.2.2 ≤ q.base := fun q hq => by
    rcases List.mem_append.mp hq with h | h
    · exact hlo q h
    · rw [List.mem_singleton.mp h]; exact mm_rho_lo q6
  have hlay := hts _ (u_in_lay hkN)
  unfold u_lay at hlay
  rcases hlink with ⟨hfin, hlink⟩ | ⟨hfin, hown, hdecl, hnm, hlink⟩
  · rw [if_neg (by rw [show (T k).2.2.2 = false from hfin]; decide)] at hlay
    have h6 := u_store hfc hkC hkind hlay hi (mm_cty hc k hkN) hn hfit
    rcases hlink with hlink | ⟨host, hlink⟩
    · exact W.putK hC.1 hC.2.1 (f := f) ⟨hC.2.2.2.1, hC.2.2.2.2.1 _ hlink.1 hlink.2 _, ⟨_, _, _, hi⟩, hst⟩ (by rw [q2]; exact h6) q1 q3 hlt rfl rfl hd fun H' e1 e2 e3 => kk H' _ (key H' e1 e2 e3) hlo' hS.tl.tl
    · exact va_WputK hC.1 hC.2.1 (f := f) hC.2.2.2.1 (hC.2.2.2.2.1 _ hlink.1 hlink.2 _) hi hst (by rw [q2]; exact h6) q1 q3 hlt rfl rfl hd fun H' e1 e2 e3 => kk H' _ (key H' e1 e2 e3) hlo' hS.tl.tl
  · rw [if_pos hfin] at hlay
    have hcf : mi.cls = cf := by
      obtain ⟨_, _, c', _, _, _, -, -, hf', -, -, -, hown2, -⟩ := Cond.laysFinal_spec hlay
      have e1 : c' = cf := by have := hi.symm.trans hf'; simp at this; exact this.1.symm
      have e2 : (T k).1 = mm_own m := by rw [hown]; exact hdecl
      rw [e2] at hown2
      rw [← e1]; exact Option.some.inj (hC.2.2.2.1.symm.trans hown2)
    have h6 := u_fits hfc hkC hkind (Or.inr hlay) hi (mm_cty hc k hkN) hn hfit
    exact W.putFinK hC.1 hC.2.1 hC.2.2.2.1 (hC.2.2.2.2.1 _ hlink.1 hlink.2 _) hi hst hcf (by rw [hC.2.2.2.2.2.2.2.2.1]; exact hnm) (by rw [q2]; exact h6) q1 q3 hlt rfl rfl hd fun H' e1 e2 e3 => kk H' _ (key H' e1 e2 e3) hlo' hS.tl.tl
/-- the getstatic's value is a good one -/
theorem mm_ls_ok {own : String} {idx : Nat} {ty x : Int} (h : mm_ls own idx ty x) (hG : 10 ≤ G.2.1) : mm_ok G (if ty = 2 then (Sum.inr (Sum.inr x) : MV) else Sum.inl x) := by
  obtain ⟨q, hq, rfl, rfl, -⟩ := h
  simp only [mm_stats, List.mem_cons, List.not_mem_nil, or_false] at hq
  rcases hq with rfl | rfl | rfl | rfl | rfl | rfl | rfl
  all_goals first
    | exact (show (0 : Int) ≤ _ ∧ _ < G.2.1 by simp; omega)
    | exact (show (-2147483648 : Int) ≤ _ ∧ _ < 2147483648 by simp)
theorem mm_k_gets {idx : Nat} {ty x : Int} (hd : decode (mm_code m) pc = .ok (.getstatic idx, 3)) (hl : mm_ls (mm_own m) idx ty x) : mm_K Z D l m pc ls st (pc + 3) ls ((if ty = 2 then Sum.inr (Sum.inr x) else Sum.inl x) :: st) μ G := by
  intro p e R s mi args below meth cd H locs cells slots Q rl hC hH hL hS hlo kk
  have h10 := mm_ls_ok hl hH.1
  obtain ⟨q, hq, rfl, rfl, hlink⟩ := hl
  obtain ⟨cf, kf, fi, f, a, cell, h1, h2, h3, h4, h5, h6, h7, h8⟩ := hH.2.2.2.2.2.1 q hq
  have kk := kk rl hL (hS.cons h10)
  rw [List.map_cons, mm_trhv] at kk
  rcases hlink with hlink | ⟨host, hlink⟩
  · exact W.gets hC.1 hC.2.1 hC.2.2.2.1 (hC.2.2.2.2.1 _ hlink.1 hlink.2 _) h1 h2 h3 h4 h5 (fun e => by rw [e] at h6; cases h6) h7 rfl hd kk
  · exact va_WgetsN hC.1 hC.2.1 hC.2.2.2.1 (hC.2.2.2.2.1 _ hlink.1 hlink.2 _) h1 h2 h3 h4 h5 (fun e => by rw [e] at h6; cases h6) h7 rfl hd kk
theorem mm_idx {i ln : Int} {n : Nat} (hi : -2147483648 ≤ i ∧ i < 2147483648) (h0 : 0 ≤ i) (h1 : i < ln) (hn : (n : Int) = ln) : ¬ (Int32.ofInt i < 0 ∨ n ≤ (Int32.ofInt i).toNatClampNeg) := by
  rw [mm_clamp hi, ← mm_0, mm_ltI hi (by omega)]
  omega
theorem mm_k_ialoadG {i a : Int} (hd : decode (mm_code m) pc = .ok (.iaload, 1)) (hk : gk G a = 100) (h0 : 0 ≤ i) (h1 : i < gl G a) : mm_K Z D l m pc ls (vI i :: vR a :: st) (pc + 1) ls (vI (μ a i) :: st) μ G := by
  intro p e R s mi args below meth cd H locs cells slots Q rl hC hH hL hS hlo kk
  obtain ⟨cell, q1, -, q3, q4, q5, q6, q7⟩ := mm_ary hH hS.tl.hd hk (by omega)
  have hi : -2147483648 ≤ i ∧ i < 2147483648 := hS.hd
  obtain ⟨j, rfl⟩ : ∃ j : Nat, i = j := ⟨i.toNat, by omega⟩
  have hv := q6 j h1
  have kk := kk rl hL (hS.tl.tl.cons (v := vI (μ a j)) (mm_ranI hv.2 (by decide)))
  show W p l e R s mi args below meth cd H locs cells slots Q (F0 mi pc rl (.int (Int32.ofInt j) :: mm_rv Z a :: st.map (mm_tr Z)))
  rw [q7]
  exact W.iald hC.1 hC.2.1 q1 q3.isA q4 (mm_idx hi h0 h1 q5) (by rw [mm_clamp hi]; exact hv.1) rfl rfl hd kk
theorem mm_k_baload {i a : Int} (hd : decode (mm_code m) pc = .ok (.baload, 1)) (hk : gk G a = 101) (h0 : 0 ≤ i) (h1 : i < gl G a) : mm_K Z D l m pc ls (vI i :: vR a :: st) (pc + 1) ls (vI (μ a i) :: st) μ G := by
  intro p e R s mi args below meth cd H locs cells slots Q rl hC hH hL hS hlo kk
  obtain ⟨cell, q1, -, q3, q4, q5, q6, q7⟩ := mm_ary hH hS.tl.hd hk (by omega)
  have hi : -2147483648 ≤ i ∧ i < 2147483648 := hS.hd
  obtain ⟨j, rfl⟩ : ∃ j : Nat, i = j := ⟨i.toNat, by omega⟩
  have hv := q6 j h1
  have kk := kk rl hL (hS.tl.tl.cons (v := vI (μ a j)) (mm_ranI hv.2 (by decide)))
  show W p l e R s mi args below meth cd H locs cells slots Q (F0 mi pc rl (.int (Int32.ofInt j) :: mm_rv Z a :: st.map (mm_tr Z)))
  rw [q7]
  exact W.bald hC.1 hC.2.1 q1 q3.isA q4 (mm_idx hi h0 h1 q5) (by rw [mm_clamp hi]; exact hv.1) rfl rfl hd kk
theorem mm_k_aaload {i a kd : Int} (hd : decode (mm_code m) pc = .ok (.aaload, 1)) (hkd : kd = 102 ∨ kd = 103) (hk : gk G a = kd) (h0 : 0 ≤ i) (h1 : i < gl G a) : mm_K Z D l m pc ls (vI i :: vR a :: st) (pc + 1) ls (vR (μ a i) :: st) μ G := by
  intro p e R s mi args below meth cd H locs cells slots Q rl hC hH hL hS hlo kk
  obtain ⟨cell, q1, -, q3, q4, q5, q6, q7⟩ := mm_ary hH hS.tl.hd hk (by omega)
  have hi : -2147483648 ≤ i ∧ i < 2147483648 := hS.hd
  obtain ⟨j, rfl⟩ : ∃ j : Nat, i = j := ⟨i.toNat, by omega⟩
  have hv := q6 j h1
  have het : mm_et kd = 2 := by rcases hkd with h | h <;> rw [h] <;> rfl
  rw [het] at hv
  have kk := kk rl hL (hS.tl.tl.cons (v := vR (μ a j)) hv.2)
  show W p l e R s mi args below meth cd H locs cells slots Q (F0 mi pc rl (.int (Int32.ofInt j) :: mm_rv Z a :: st.map (mm_tr Z)))
  rw [q7]
  exact W.aald hC.1 hC.2.1 q1 q3.isA (by rcases hkd with h | h <;> rw [h] <;> rfl) q4 (mm_idx hi h0 h1 q5) (by rw [mm_clamp hi]; exact hv.1) rfl rfl hd kk
theorem mm_k_alen {a : Int} (hd : decode (mm_code m) pc = .ok (.arraylength, 1)) (hk : 100 ≤ gk G a) : mm_K Z D l m pc ls (vR a :: st) (pc + 1) ls (vI (gl G a) :: st) μ G := by
  intro p e R s mi args below meth cd H locs cells slots Q rl hC hH hL hS hlo kk
  obtain ⟨cell, q1, -, q3, q4, q5, q6, q7⟩ := mm_ary hH hS.hd rfl hk
  have kk := kk rl hL (hS.tl.cons (v := vI (gl G a)) ⟨by omega, hH.2.2.2.2.1.2.2.2 a⟩)
  show W p l e R s mi args below meth cd H locs cells slots Q (F0 mi pc rl (mm_rv Z a :: st.map (mm_tr Z)))
  rw [q7]
  refine W.alen hC.1 hC.2.1 q1 q3.isA (n := Int32.ofInt (gl G a)) ?_ rfl rfl hd kk
  rw [← q5]
  rfl
end SIMC
