/-! entry, return, calls -/
theorem mm_lay_args {Z : MZ} (hz : mm_isr Z.2.1) : ∀ (as : List MV) (i j : Nat) (v : MV), (mm_lay as)[j]? = some (some v) → (i + j, mm_tr Z v) ∈ lv_args i (as.map (mm_tr Z))
  | [], _, _, _, h => by simp [mm_lay] at h
  | w :: r, i, j, v, h => by
    have hc := mm_cat_eq hz w
    rw [List.map_cons, lv_args]
    rcases w with x | x | x
    · rw [if_neg (by rw [hc]; show ¬ 1 = 2; omega)]
      cases j with
      | zero => simp [mm_lay] at h; subst h; exact List.mem_cons_self
      | succ j =>
        have := mm_lay_args hz r (i + 1) j v (by simpa [mm_lay] using h)
        rw [show i + (j + 1) = i + 1 + j by omega]
        exact List.mem_cons_of_mem _ this
    · rw [if_pos (by rw [hc]; rfl)]
      match j, h with
      | 0, h => simp [mm_lay] at h; subst h; exact List.mem_cons_self
      | 1, h => simp [mm_lay] at h
      | j + 2, h =>
        have := mm_lay_args hz r (i + 2) j v (by simpa [mm_lay] using h)
        rw [show i + (j + 2) = i + 2 + j by omega]
        exact List.mem_cons_of_mem _ this
    · rw [if_neg (by rw [hc]; show ¬ 1 = 2; omega)]
      cases j with
      | zero => simp [mm_lay] at h; subst h; exact List.mem_cons_self
      | succ j =>
        have := mm_lay_args hz r (i + 1) j v (by simpa [mm_lay] using h)
        rw [show i + (j + 1) = i + 1 + j by omega]
        exact List.mem_cons_of_mem _ this
theorem mm_lay_mem : ∀ (as : List MV) (j : Nat) (v : MV), (mm_lay as)[j]? = some (some v) → v ∈ as
  | [], _, _, h => by simp [mm_lay] at h
  | w :: r, j, v, h => by
    rcases w with x | x | x
    · cases j with
      | zero => simp [mm_lay] at h; subst h; exact List.mem_cons_self
      | succ j => exact List.mem_cons_of_mem _ (mm_lay_mem r j v (by simpa [mm_lay] using h))
    · match j, h with
      | 0, h => simp [mm_lay] at h; subst h; exact List.mem_cons_self
      | 1, h => simp [mm_lay] at h
      | j + 2, h => exact List.mem_cons_of_mem _ (mm_lay_mem r j v (by simpa [mm_lay] using h))
    · cases j with
      | zero => simp [mm_lay] at h; subst h; exact List.mem_cons_self
      | succ j => exact List.mem_cons_of_mem _ (mm_lay_mem r j v (by simpa [mm_lay] using h))
theorem mm_lay_sl {Z : MZ} (hz : mm_isr Z.2.1) : ∀ as : List MV, (lg_sl (as.map (mm_tr Z))).length = (mm_lay as).length
  | [] => rfl
  | w :: r => by
    have hc := mm_cat_eq hz w
    have ih := mm_lay_sl hz r
    unfold lg_sl at ih ⊢
    rw [List.map_cons, List.flatMap_cons, List.length_append, ih]
    rcases w with x | x | x
    · rw [if_neg (by rw [hc]; show ¬ 1 = 2; omega)]; simp [mm_lay]; omega
    · rw [if_pos (by rw [hc]; rfl)]; simp [mm_lay]; omega
    · rw [if_neg (by rw [hc]; show ¬ 1 = 2; omega)]; simp [mm_lay]; omega
theorem mm_LR.entry {Z : MZ} {G : MG} (hz : mm_isr Z.2.1) {as : List MV} {n : Nat} (hle : (mm_lay as).length ≤ n) (hok : ∀ v ∈ as, mm_ok G v) :
    mm_LR Z G n (mm_pad n as) ((lg_sl (as.map (mm_tr Z)) ++ List.replicate (n - (lg_sl (as.map (mm_tr Z))).length) Slot.unset).toArray) := by
  have hl := lv_entry (as.map (mm_tr Z)) (n := n) (by rw [mm_lay_sl hz]; exact hle)
  refine ⟨by unfold mm_pad; rw [List.length_append, List.length_replicate]; omega, hl.1, hl.2.1, fun i v hv => ?_⟩
  unfold mm_pad at hv
  by_cases hi : i < (mm_lay as).length
  · rw [List.getElem?_append_left hi] at hv
    have := mm_lay_args hz as 0 i v hv
    rw [Nat.zero_add] at this
    exact ⟨hl.2.2 _ this, hok v (mm_lay_mem as i v hv)⟩
  · rw [List.getElem?_append_right (by omega)] at hv
    rw [List.getElem?_replicate] at hv
    split at hv <;> cases hv
section SIMF
variable {Z : MZ} {D : va_G} {l : Launch} {m pc pc' nx y n : Nat} {ls ls' : ML} {st st' : List MV} {μ μ' : MM} {G G' : MG} {r r1 : MR}
/-- what is asked at a call, what is given behind it -/
def mm_Pre (Z : MZ) (D : va_G) (μ : MM) (G : MG) (as : List MV) : Array Value → State → Prop := va_Pc (as.map (mm_tr Z)) (fun U => mm_HR Z D U μ G U.heap ∧ mm_TB U ∧ va_K D mm_cl [] U)
def mm_Post (Z : MZ) (D : va_G) (r : MR) : Array Value → State → Outcome → State → Prop := fun _ _ oc t => oc = .returned (r.1.map (mm_tr Z)) ∧ mm_HR Z D t r.2.1 r.2.2 t.heap ∧ mm_okv r.2.2 r.1
def mm_mc (G : MG) (r : MR) : Nat := (r.2.2.2.1 - G.2.1).toNat
def mm_ms (G : MG) (r : MR) : Nat := (r.2.2.2.2 - G.2.2).toNat
def mm_rmo (y : Nat) (G : MG) (r : MR) : Room := { frames := mm_rk y, cells := mm_mc G r, slots := mm_ms G r, locals := mm_wt y }
abbrev mm_cw (y : Nat) : Cond := .code (mm_nm y) (mm_code y) (mm_max y) (mm_rt y)
theorem mm_blind {as : List MV} : FrameBlind (mm_Pre Z D μ G as) := by
  intro a U g mk h
  obtain ⟨h1, h2, h3, h4⟩ := h
  exact ⟨h1, mm_HR.moved (u := U) (U := U.calling g mk a) (Vm.Alike.refl U.vm) h2, mm_TB.warm (s := U) (U := U.calling g mk a) (State.WarmedH.refl U) h3, va_K.moved (u := U) (U := U.calling g mk a) (Vm.Alike.refl U.vm) h4⟩
theorem mm_met {as : List MV} (hF : mm_MF y n) (hle : (mm_lay as).length ≤ mm_max y) (hok : ∀ v ∈ as, mm_ok G v) (hm : G.2.1 ≤ r1.2.2.2.1 ∧ G.2.2 ≤ r1.2.2.2.2) (hW : mm_W Z D l y 0 (mm_pad (mm_max y) as) [] μ G r1) :
    Met l (mm_nm y) [mm_cw y] (mm_rmo y G r1) (mm_Pre Z D μ G as) (mm_Post Z D r1) (mm_mc G r1) (mm_ms G r1) (fun q => Z.2.2 ≤ q) := by
  refine Met.ofW (cc := mm_code y) (maxL := mm_max y) (ret := mm_rt y) hF.2.2.1 rfl ?_
  intro p e s mi args below meth c s₁ B hml hv
  obtain ⟨rfl, hH, hT, hK⟩ := hv
  have hC : mm_Cx D y p (headSpec [mm_cw y] (mm_rmo y G r1)).room s mi meth c :=
    ⟨B.exec, B.bytes, hml, findClass_of_methodNamed B.named, hT, hK, B.notSynchronized, B.returns, (name_of_methodNamed B.named B.method).1, Nat.le_refl _, Nat.le_refl _⟩
  rw [lg_entry_eq]
  have hz := hH.2.2.2.1
  have hc1 : ((mm_mc G r1 : Nat) : Int) = r1.2.2.2.1 - G.2.1 := by unfold mm_mc; omega
  have hs1 : ((mm_ms G r1 : Nat) : Int) = r1.2.2.2.2 - G.2.2 := by unfold mm_ms; omega
  refine hW p e _ s mi _ below meth c s.heap [] 0 0 _ _ (-G.2.1) (-G.2.2) hC hH (mm_LR.entry hz hle hok) (fun v hv => by cases hv) (fun q hq => by cases hq) (by omega) (by omega) ?_ ?_ ?_
  · show -G.2.1 + r1.2.2.2.1 ≤ ((mm_mc G r1 : Nat) : Int); omega
  · show -G.2.2 + r1.2.2.2.2 ≤ ((mm_ms G r1 : Nat) : Int); omega
  · intro H' locs' cells' slots' pc' rl' hH' hl' hc hs hv hrd
    have e1 : cells' = mm_mc G r1 := by omega
    have e2 : slots' = mm_ms G r1 := by omega
    subst e1; subst e2
    have hq : ∀ t : State, t.heap = H' → s.WarmedH t.vm → mm_Post Z D r1 (as.map (mm_tr Z)).toArray s (.returned (r1.1.map (mm_tr Z))) t := fun t ht hW => ⟨rfl, by rw [ht]; exact hH'.moved hW.alike, hv⟩
    obtain ⟨v, μ1, G1⟩ := r1
    dsimp only at hrd hq hv ⊢
    rcases v with _ | (x | x | x)
    · exact W.vret hC.1 hC.2.1 (hC.2.2.2.2.2.2.2.1.trans hrd.2) hq hl' hrd.1 hC.2.2.2.2.2.2.1
    · obtain ⟨h1, ty, h2, h3⟩ := hrd
      exact W.zret hC.1 hC.2.1 (hC.2.2.2.2.2.2.2.1.trans h2) h3 hq hl' h1 hC.2.2.2.2.2.2.1
    · exact W.lret hC.1 hC.2.1 (hC.2.2.2.2.2.2.2.1.trans hrd.2) hq hl' hrd.1 hC.2.2.2.2.2.2.1
    · obtain ⟨h1, rt, h2, h3⟩ := hrd
      exact W.aret hC.1 hC.2.1 (hC.2.2.2.2.2.2.2.1.trans h2) h3 (mm_rvf hz x) hq hl' h1 hC.2.2.2.2.2.2.1
/-- behind a call -/
theorem mm_back {as : List MV} (hm : G.2.1 ≤ r1.2.2.2.1 ∧ G.2.2 ≤ r1.2.2.2.2) (hm2 : r1.2.2.2.1 ≤ r.2.2.2.1 ∧ r1.2.2.2.2 ≤ r.2.2.2.2)
    (hrun : ∀ (p : Program) (e : Env) (R : Room) (s : State) (mi : MethodId) (args : Array Value) (below : List Frame) (meth : Method) (c : Code) (H : Heap) (locs : List Loc) (cells slots : Nat) (rl : Array Slot),
      mm_Cx D m p R s mi meth c → mm_HR Z D s μ G H → mm_LR Z G (mm_max m) ls rl → mm_SR G st → cells + mm_mc G r1 ≤ R.cells ∧ slots + mm_ms G r1 ≤ R.slots →
      va_Run p l e R s mi args below meth c H locs cells slots (mm_mc G r1) (mm_ms G r1) (F0 mi pc rl (st.map (mm_tr Z))) (st'.map (mm_tr Z)) (mm_Post Z D r1 (as.map (mm_tr Z)).toArray) (fun q => Z.2.2 ≤ q)) (hst : ∀ v ∈ st', v ∈ st)
    (h : mm_W Z D l m (pc + 3) ls (r1.1.toList ++ st') r1.2.1 r1.2.2 r) : mm_W Z D l m pc ls st μ G r := by
  intro p e R s mi args below meth c H locs cells slots Q rl C0 S0 hC hH hL hS hl hc hs hR1 hR2 hQ
  have hc1 : ((mm_mc G r1 : Nat) : Int) = r1.2.2.2.1 - G.2.1 := by unfold mm_mc; omega
  have hs1 : ((mm_ms G r1 : Nat) : Int) = r1.2.2.2.2 - G.2.2 := by unfold mm_ms; omega
  intro T hT X
  obtain ⟨v, st₀, t, T', L, h0, X', hLf, e1, e2, ⟨hv, hHt, hok⟩, go⟩ := hrun p e R s mi args below meth c H locs cells slots rl hC hH hL hS ⟨by omega, by omega⟩ T hT X
  have hal : s.vm.Alike t.vm := by rw [← e2]; exact X'.warmed.alike
  have hH1 : mm_HR Z D s r1.2.1 r1.2.2 T'.heap := by rw [e1]; exact hHt.moved hal.symm
  have hv' : v = r1.1.map (mm_tr Z) := by injection hv
  subst hv'
  have hSt : mm_SR r1.2.2 (r1.1.toList ++ st') := by
    intro w hw
    rcases List.mem_append.mp hw with h | h
    · exact hok w (by simpa using h)
    · exact (hS w (hst w h)).mono hm.1
  obtain ⟨t2, a1, b1⟩ := h p e R s mi args below meth c T'.heap (locs ++ L) (cells + mm_mc G r1) (slots + mm_ms G r1) Q rl C0 S0 hC hH1 (hL.mono hm.1) hSt (fun q hq => by
    rcases List.mem_append.mp hq with h | h
    · exact hl q h
    · exact hLf q h) (by omega) (by omega) hR1 hR2 hQ T' rfl X'
  refine ⟨t2, go t2 ?_, b1⟩
  have e4 : (r1.1.map (mm_tr Z)).toList ++ st'.map (mm_tr Z) = (r1.1.toList ++ st').map (mm_tr Z) := by
    rw [List.map_append]
    cases r1.1 <;> rfl
  show Steps p.tables e below (T'.setTop { (F0 mi pc rl (st.map (mm_tr Z))) with pc := pc + 3, stack := (r1.1.map (mm_tr Z)).toList ++ st'.map (mm_tr Z) }) t2
  rw [e4]
  exact a1
end SIMF
