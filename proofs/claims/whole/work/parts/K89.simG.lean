section SIMG
variable {Z : MZ} {D : va_G} {l : Launch} {m pc pc' nx y n : Nat} {ls ls' : ML} {st st' : List MV} {μ μ' : MM} {G G' : MG} {r r1 : MR}
theorem mm_hstk (n : Nat) : st.map (mm_tr Z) = ((st.take n).reverse.map (mm_tr Z)).reverse ++ (st.drop n).map (mm_tr Z) := by
  rw [← List.map_reverse, List.reverse_reverse, ← List.map_append, List.take_append_drop]
theorem mm_taken {n : Nat} : ∀ v ∈ (st.take n).reverse, v ∈ st := fun v hv => List.mem_of_mem_take (List.mem_reverse.mp hv)
theorem mm_w1 {s : State} (hT : mm_TB s) (hF : mm_MF y n) : ∀ w ∈ [mm_cw y], ∀ (a' : Array Value) (U : State), s.WarmedH U.vm → w.before a' U = true := by
  intro w hw a' U hW
  rw [List.mem_singleton.mp hw]
  exact (mm_TB.warm hW hT) _ hF.1.1 hF.1.2 a'
theorem mm_par (hF : mm_MF y n) : ∀ sig, parseMethodDescriptor (mm_nm y).desc = some sig → n = sig.parameters.length := by
  intro sig h
  have h2 := hF.2.2.2.2
  rw [h] at h2
  exact (Option.some.inj h2).symm
theorem mm_preS {s : State} {H : Heap} {as : List MV} (hT : mm_TB s) (hK : va_K D mm_cl [] s) (hH : mm_HR Z D s μ G H) : PreS s H (mm_Pre Z D μ G as) (as.map (mm_tr Z)) :=
  ⟨mm_blind, fun U hU hW => ⟨rfl, by rw [hU]; exact hH.moved hW.alike, mm_TB.warm hW hT, va_K.moved hW.alike hK⟩⟩
theorem mm_w_callS {idx : Nat} (hd : decode (mm_code m) pc = .ok (.invokestatic idx, 3)) (hF : mm_MF y n) (hrm : mm_rm m y) (hl : mm_lm (mm_own m) idx y) (hs : mm_in (.static (mm_nm y))) (hn : n ≤ st.length) (hcat : mm_cats (st.drop n) ≤ 8) (hle : (mm_lay (st.take n).reverse).length ≤ mm_max y)
    (hm : G.2.1 ≤ r1.2.2.2.1 ∧ G.2.2 ≤ r1.2.2.2.2) (hm2 : r1.2.2.2.1 ≤ r.2.2.2.1 ∧ r1.2.2.2.2 ≤ r.2.2.2.2) (hW : mm_W Z D l y 0 (mm_pad (mm_max y) (st.take n).reverse) [] μ G r1) (h : mm_W Z D l m (pc + 3) ls (r1.1.toList ++ st.drop n) r1.2.1 r1.2.2 r) : mm_W Z D l m pc ls st μ G r := by
  refine mm_back (as := (st.take n).reverse) hm hm2 (fun p e R s mi args below meth c H locs cells slots rl hC hH hL hS hf => ?_) (fun v hv => List.mem_of_mem_drop hv) h
  have hM := mm_met (as := (st.take n).reverse) hF hle (fun v hv => hS v (mm_taken v hv)) hm hW
  have hT := hC.2.2.2.2.1
  have hwR := hC.2.2.2.2.2.2.2.2.2
  have e5 := mm_cats_eq hH.2.2.2.1 (st.drop n)
  rcases hl with hl | ⟨host, hl⟩
  · exact va_runS (Ts := []) (nL := mm_max m) ⟨hC.1, hC.2.1, hC.2.2.1, hC.2.2.2.1, fun w hw => by cases hw⟩ hM (n := n) (bytes := mm_code y) (maxL := mm_max y) (ret := mm_rt y)
      ⟨⟨rfl, rfl, by show mm_rk y + 1 ≤ R.frames; have := hrm.1; omega, by show 8 + (mm_max y + 11) + mm_wt y ≤ R.locals; have := hrm.2; omega, mm_w1 hT hF, List.mem_singleton.mpr rfl, hT _ hF.1.1 hF.1.2 _, hT _ hF.2.1.1 hF.2.1.2 _, hF.2.2.2.1, mm_par hF, hT _ hl.1 hl.2 _⟩, hT _ hs.1 hs.2 _⟩
      (mm_preS hT hC.2.2.2.2.2.1 hH) rfl (by simp; omega) hL.2.1 (mm_hstk n) (by show 2 * 0 + _ ≤ 8; omega) hd hf
  · exact va_runSN (Ts := []) (nL := mm_max m) (host := host) ⟨hC.1, hC.2.1, hC.2.2.1, hC.2.2.2.1, fun w hw => by cases hw⟩ hM (n := n) (bytes := mm_code y) (maxL := mm_max y) (ret := mm_rt y)
      ⟨⟨⟨rfl, rfl, by show mm_rk y + 1 ≤ R.frames; have := hrm.1; omega, by show 8 + (mm_max y + 11) + mm_wt y ≤ R.locals; have := hrm.2; omega, mm_w1 hT hF, List.mem_singleton.mpr rfl⟩, hT _ hF.1.1 hF.1.2 _, hT _ hF.2.1.1 hF.2.1.2 _, hF.2.2.2.1, mm_par hF, hT _ hl.1 hl.2 _⟩, hT _ hs.1 hs.2 _, trivial⟩
      (mm_preS hT hC.2.2.2.2.2.1 hH) rfl (by simp; omega) hL.2.1 (mm_hstk n) (by show 2 * 0 + _ ≤ 8; omega) hd hf
/-- the stack of a call on an object -/
theorem mm_hstkV {a : Int} {rest : List MV} (n : Nat) (hd : st.drop n = vR a :: rest) : st.map (mm_tr Z) = ((st.take n).reverse.map (mm_tr Z)).reverse ++ mm_rv Z a :: rest.map (mm_tr Z) := by
  have h := mm_hstk (Z := Z) (st := st) n
  rw [hd] at h
  exact h
theorem mm_lenV {a : Int} {rest : List MV} {n : Nat} (hd : st.drop n = vR a :: rest) : n ≤ st.length := by
  rcases Nat.lt_or_ge st.length n with h | h
  · rw [List.drop_eq_nil_of_le (by omega)] at hd; cases hd
  · exact h
theorem mm_inV {a : Int} {rest : List MV} {n : Nat} (hd : st.drop n = vR a :: rest) : vR a ∈ st ∧ ∀ v ∈ rest, v ∈ st := by
  constructor
  · exact List.mem_of_mem_drop (by rw [hd]; exact List.mem_cons_self)
  · intro v hv
    exact List.mem_of_mem_drop (i := n) (by rw [hd]; exact List.mem_cons_of_mem _ hv)
theorem mm_sel_priv {s : State} {args : Array Value} {C : String} {yn z : MethodName} (hy : yn.cls ≠ "java/lang/invoke/MethodHandle" ∧ yn.cls ≠ "java/lang/invoke/VarHandle") (hpriv : (Cond.privateMethod yn).before args s = true) (hinst : (Cond.instanceMethod yn).before args s = true) (hz : z.cls = yn.cls) (hsel2 : (Cond.selects C z z).before args s = true) :
    (Cond.selects C yn yn).before args s = true := by
  obtain ⟨c, r2, m2, hc, -, hn2, -, kP, hkP, hkPi⟩ := Cond.selects_spec hsel2
  obtain ⟨mk, methM, hnamed, hmethM, -, -⟩ := Cond.instanceMethod_spec hinst
  have hfound : s.methodFound? yn.cls yn.name yn.desc = some mk := State.methodFound?_of_named hnamed hy
  have hsel : selectMethod {} s.vm c mk = .method mk := selectMethod_private hmethM (Cond.privateMethod_at hpriv mk methM hnamed hmethM)
  have hpm : m2.cls = mk.cls := by
    have h1 := findClass_of_methodNamed hn2
    rw [hz] at h1
    exact Option.some.inj (h1.symm.trans (findClass_of_methodNamed hnamed))
  rw [hpm] at hkP
  simp only [Cond.before, Cond.holds, Cond.value, hc, hfound, hnamed, hsel, hkP]
  simp
  exact hkPi
theorem mm_w_callV {idx c : Nat} {rr : vw_C} {a : Int} {rest : List MV} (hd : decode (mm_code m) pc = .ok (.invokevirtual idx, 3)) (hc : mm_cl[c]? = some rr) (hF : mm_MF y n) (hrm : mm_rm m y) (hl : mm_lm (mm_own m) idx y) (hi : mm_in (.instanceMethod (mm_nm y)))
    (hsel : mm_in (.selects rr.1 (mm_nm y) (mm_nm y)) ∨ (mm_in (.privateMethod (mm_nm y)) ∧ ∃ z : MethodName, z.cls = (mm_nm y).cls ∧ mm_in (.selects rr.1 z z))) (hdr : st.drop n = vR a :: rest) (hk : gk G a = (c : Int)) (hcat : mm_cats rest ≤ 8) (hle : (mm_lay (vR a :: (st.take n).reverse)).length ≤ mm_max y)
    (hm : G.2.1 ≤ r1.2.2.2.1 ∧ G.2.2 ≤ r1.2.2.2.2) (hm2 : r1.2.2.2.1 ≤ r.2.2.2.1 ∧ r1.2.2.2.2 ≤ r.2.2.2.2) (hW : mm_W Z D l y 0 (mm_pad (mm_max y) (vR a :: (st.take n).reverse)) [] μ G r1) (h : mm_W Z D l m (pc + 3) ls (r1.1.toList ++ rest) r1.2.1 r1.2.2 r) : mm_W Z D l m pc ls st μ G r := by
  have hin := mm_inV hdr
  have hlen := mm_lenV hdr
  refine mm_back (as := vR a :: (st.take n).reverse) hm hm2 (fun p e R s mi args below meth cd H locs cells slots rl hC hH hL hS hf => ?_) hin.2 h
  have hM := mm_met (as := vR a :: (st.take n).reverse) hF hle (fun v hv => by
    rcases List.mem_cons.mp hv with e | e
    · rw [e]; exact hS _ hin.1
    · exact hS v (mm_taken v e)) hm hW
  have hT := hC.2.2.2.2.1
  have hwR := hC.2.2.2.2.2.2.2.2.2
  have e5 := mm_cats_eq hH.2.2.2.1 rest
  obtain ⟨cell, q1, q2, q3, q4, q5, q6⟩ := mm_obj hH (hS _ hin.1) hk hc
  have hstk := mm_hstkV (Z := Z) n hdr
  rw [q5] at hstk
  have hav : (vR a :: (st.take n).reverse).map (mm_tr Z) = .ref (mm_rho Z a) :: (st.take n).reverse.map (mm_tr Z) := by
    rw [List.map_cons]; show mm_rv Z a :: _ = _; rw [q5]
  rw [hav]
  have hpre : PreV s H rr.1 (mm_rho Z a) (mm_Pre Z D μ G (vR a :: (st.take n).reverse)) ((st.take n).reverse.map (mm_tr Z)) := by
    refine ⟨mm_blind, ⟨cell, q1, by rw [q3]; rfl, by rw [q2]; exact (hC.2.2.2.2.2.1.1 c _ hc).2.1⟩, ?_⟩
    have := (mm_preS (as := vR a :: (st.take n).reverse) hT hC.2.2.2.2.2.1 hH).2
    rw [hav] at this
    exact this
  have hse : (Cond.selects rr.1 (mm_nm y) (mm_nm y)).before args s = true := by
    rcases hsel with h | ⟨h1, z, h2, h3⟩
    · exact hT _ h.1 h.2 _
    · exact mm_sel_priv hF.2.2.2.1 (hT _ h1.1 h1.2 _) (hT _ hi.1 hi.2 _) h2 (hT _ h3.1 h3.2 _)
  rcases hl with hl | ⟨host, hl⟩
  · exact va_runV (Ts := []) (nL := mm_max m) ⟨hC.1, hC.2.1, hC.2.2.1, hC.2.2.2.1, fun w hw => by cases hw⟩ hM (n := n) (bytes := mm_code y) (maxL := mm_max y) (ret := mm_rt y)
      ⟨⟨rfl, rfl, by show mm_rk y + 1 ≤ R.frames; have := hrm.1; omega, by show 8 + (mm_max y + 11) + mm_wt y ≤ R.locals; have := hrm.2; omega, mm_w1 hT hF, List.mem_singleton.mpr rfl, hT _ hF.1.1 hF.1.2 _, hT _ hF.2.1.1 hF.2.1.2 _, hF.2.2.2.1, mm_par hF, hT _ hl.1 hl.2 _⟩, hT _ hi.1 hi.2 _, hse⟩
      hpre rfl (by simp; omega) hL.2.1 hstk (by show 2 * 0 + _ ≤ 8; omega) hd hf
  · exact va_runVN (Ts := []) (nL := mm_max m) (host := host) ⟨hC.1, hC.2.1, hC.2.2.1, hC.2.2.2.1, fun w hw => by cases hw⟩ hM (n := n) (bytes := mm_code y) (maxL := mm_max y) (ret := mm_rt y)
      ⟨⟨⟨rfl, rfl, by show mm_rk y + 1 ≤ R.frames; have := hrm.1; omega, by show 8 + (mm_max y + 11) + mm_wt y ≤ R.locals; have := hrm.2; omega, mm_w1 hT hF, List.mem_singleton.mpr rfl⟩, hT _ hF.1.1 hF.1.2 _, hT _ hF.2.1.1 hF.2.1.2 _, hF.2.2.2.1, mm_par hF, hT _ hl.1 hl.2 _⟩, hT _ hi.1 hi.2 _, hse⟩
      hpre rfl (by simp; omega) hL.2.1 hstk (by show 2 * 0 + _ ≤ 8; omega) hd hf
theorem mm_w_callI {idx c : Nat} {rr : vw_C} {a : Int} {rest : List MV} (hd : decode (mm_code m) pc = .ok (.invokespecial idx, 3)) (hc : mm_cl[c]? = some rr) (hF : mm_MF y n) (hrm : mm_rm m y) (hi : mm_in (.instanceMethod (mm_nm y)))
    (hl : ((mm_nm y).name = "<init>" ∧ mm_rt y = none ∧ mm_lm (mm_own m) idx y) ∨ ((mm_nm y).name ≠ "<init>" ∧ mm_in (.methodLink (mm_own m) idx (mm_nm y)) ∧ mm_in (.sameMethod (mm_nm y).cls (mm_nm y).cls (mm_nm y).name (mm_nm y).desc) ∧ mm_in (.superclass (mm_own m) (mm_nm y).cls)))
    (hdr : st.drop n = vR a :: rest) (hk : gk G a = (c : Int)) (hcat : mm_cats rest ≤ 8) (hle : (mm_lay (vR a :: (st.take n).reverse)).length ≤ mm_max y)
    (hm : G.2.1 ≤ r1.2.2.2.1 ∧ G.2.2 ≤ r1.2.2.2.2) (hm2 : r1.2.2.2.1 ≤ r.2.2.2.1 ∧ r1.2.2.2.2 ≤ r.2.2.2.2) (hW : mm_W Z D l y 0 (mm_pad (mm_max y) (vR a :: (st.take n).reverse)) [] μ G r1) (h : mm_W Z D l m (pc + 3) ls (r1.1.toList ++ rest) r1.2.1 r1.2.2 r) : mm_W Z D l m pc ls st μ G r := by
  have hin := mm_inV hdr
  have hlen := mm_lenV hdr
  refine mm_back (as := vR a :: (st.take n).reverse) hm hm2 (fun p e R s mi args below meth cd H locs cells slots rl hC hH hL hS hf => ?_) hin.2 h
  have hM := mm_met (as := vR a :: (st.take n).reverse) hF hle (fun v hv => by
    rcases List.mem_cons.mp hv with e | e
    · rw [e]; exact hS _ hin.1
    · exact hS v (mm_taken v e)) hm hW
  have hT := hC.2.2.2.2.1
  have hwR := hC.2.2.2.2.2.2.2.2.2
  have e5 := mm_cats_eq hH.2.2.2.1 rest
  obtain ⟨cell, q1, q2, q3, q4, q5, q6⟩ := mm_obj hH (hS _ hin.1) hk hc
  have hstk := mm_hstkV (Z := Z) n hdr
  rw [q5] at hstk
  have hav : (vR a :: (st.take n).reverse).map (mm_tr Z) = .ref (mm_rho Z a) :: (st.take n).reverse.map (mm_tr Z) := by
    rw [List.map_cons]; show mm_rv Z a :: _ = _; rw [q5]
  have hpS := mm_preS (as := vR a :: (st.take n).reverse) hT hC.2.2.2.2.2.1 hH
  rw [hav] at hpS ⊢
  rcases hl with ⟨hnm, hrt, hl⟩ | ⟨hnm, hl1, hl2, hl3⟩
  · have hcw := hF.1
    rw [hrt] at hcw
    have hM' : Met l (mm_nm y) [Cond.code (mm_nm y) (mm_code y) (mm_max y) none] (mm_rmo y G r1) (mm_Pre Z D μ G (vR a :: (st.take n).reverse)) (mm_Post Z D r1) (mm_mc G r1) (mm_ms G r1) (fun q => Z.2.2 ≤ q) := by
      rw [← hrt]; exact hM
    have hw1 : ∀ w ∈ [Cond.code (mm_nm y) (mm_code y) (mm_max y) none], ∀ (a' : Array Value) (U : State), s.WarmedH U.vm → w.before a' U = true := by
      rw [← hrt]; exact mm_w1 hT hF
    rcases hl with hl | ⟨host, hl⟩
    · exact va_runI (Ts := []) (nL := mm_max m) ⟨hC.1, hC.2.1, hC.2.2.1, hC.2.2.2.1, fun w hw => by cases hw⟩ hM' (n := n) (bytes := mm_code y) (maxL := mm_max y)
        ⟨⟨rfl, rfl, by show mm_rk y + 1 ≤ R.frames; have := hrm.1; omega, by show 8 + (mm_max y + 11) + mm_wt y ≤ R.locals; have := hrm.2; omega, hw1, List.mem_singleton.mpr rfl, hT _ hcw.1 hcw.2 _, hT _ hF.2.1.1 hF.2.1.2 _, hF.2.2.2.1, mm_par hF, hT _ hl.1 hl.2 _⟩, hnm, hT _ hi.1 hi.2 _⟩
        hpS rfl (by simp; omega) hL.2.1 hstk (by show 2 * 0 + _ ≤ 8; omega) hd hf
    · exact va_runIN (Ts := []) (nL := mm_max m) (host := host) ⟨hC.1, hC.2.1, hC.2.2.1, hC.2.2.2.1, fun w hw => by cases hw⟩ hM' (n := n) (bytes := mm_code y) (maxL := mm_max y)
        ⟨⟨⟨rfl, rfl, by show mm_rk y + 1 ≤ R.frames; have := hrm.1; omega, by show 8 + (mm_max y + 11) + mm_wt y ≤ R.locals; have := hrm.2; omega, hw1, List.mem_singleton.mpr rfl⟩, hT _ hcw.1 hcw.2 _, hT _ hF.2.1.1 hF.2.1.2 _, hF.2.2.2.1, mm_par hF, hT _ hl.1 hl.2 _⟩, hnm, hT _ hi.1 hi.2 _⟩
        hpS rfl (by simp; omega) hL.2.1 hstk (by show 2 * 0 + _ ≤ 8; omega) hd hf
  · have hpre : PreV s H rr.1 (mm_rho Z a) (mm_Pre Z D μ G (vR a :: (st.take n).reverse)) ((st.take n).reverse.map (mm_tr Z)) := ⟨mm_blind, ⟨cell, q1, by rw [q3]; rfl, by rw [q2]; exact (hC.2.2.2.2.2.1.1 c _ hc).2.1⟩, hpS.2⟩
    exact va_runSU (Ts := []) (nL := mm_max m) (hC.2.2.2.2.2.1.1 c _ hc).2 ⟨hC.1, hC.2.1, hC.2.2.1, hC.2.2.2.1, fun w hw => by cases hw⟩ hM (n := n) (bytes := mm_code y) (maxL := mm_max y) (ret := mm_rt y)
      ⟨⟨rfl, rfl, by show mm_rk y + 1 ≤ R.frames; have := hrm.1; omega, by show 8 + (mm_max y + 11) + mm_wt y ≤ R.locals; have := hrm.2; omega, mm_w1 hT hF, List.mem_singleton.mpr rfl⟩, hT _ hl1.1 hl1.2 _, hT _ hl2.1 hl2.2 _, hT _ hl3.1 hl3.2 _, hT _ hi.1 hi.2 _, hT _ hF.2.1.1 hF.2.1.2 _, hT _ hF.1.1 hF.1.2 _, hnm, mm_par hF⟩
      hpre rfl (by simp; omega) hL.2.1 hstk (by show 2 * 0 + _ ≤ 8; omega) hd hf
end SIMG
