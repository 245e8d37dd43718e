/-! WHAT THE SMALL MACHINE COMES TO, THE MACHINE COMES TO -/
theorem mm_TB.warm {s U : State} (hW : s.WarmedH U.vm) (h : mm_TB s) : mm_TB U := by
  intro w hw hg a'
  cases hgw : goodWord w with
  | true => exact word_at hW (good_of_word hgw) (h w hw hg a')
  | false =>
    have hn : mm_nest w = true := by
      unfold mm_gw at hg
      rw [hgw, Bool.false_or] at hg
      exact hg
    cases w
    case arrayOver ty =>
      cases ty
      case object n => exact Cond.arrayOver_alike hW.alike (h _ hw hg a')
      all_goals (exact absurd hn (by simp [mm_nest]))
    case privateMethod y => exact Cond.privateMethod_warm hW (h _ hw hg a')
    case fieldLinkNest => exact va_Nw.use rfl (va_Nw.warmF hW (va_Nw.of rfl (h _ hw hg a')))
    case methodLinkNest => exact va_Nw.use rfl (va_Nw.warmM hW (va_Nw.of rfl (h _ hw hg a')))
    all_goals (exact absurd hn (by simp [mm_nest]))
/-- what holds of the frame's surroundings while method m runs -/
def mm_Cx (D : va_G) (m : Nat) (p : Program) (R : Room) (s : State) (mi : MethodId) (meth : Method) (c : Code) : Prop :=
  p.tables.exec = Jvm.exec ∧ c.code = mm_code m ∧ c.maxLocals = mm_max m ∧ s.vm.findClass (mm_own m) = some mi.cls ∧ mm_TB s ∧ va_K D mm_cl [] s ∧ meth.locks = false ∧ meth.sig.returnType = mm_rt m ∧ meth.name = (mm_nm m).name ∧ mm_rk m ≤ R.frames ∧ mm_wt m ≤ R.locals
/-- a return instruction of m that gives v -/
def mm_rd (m pc : Nat) (v : Option MV) : Prop := match v with
  | none => decode (mm_code m) pc = .ok (.return_, 1) ∧ mm_rt m = none
  | some (Sum.inl x) => decode (mm_code m) pc = .ok (.ireturn, 1) ∧ ∃ ty, mm_rt m = some ty ∧ narrow ty (.int (Int32.ofInt x)) = .int (Int32.ofInt x)
  | some (Sum.inr (Sum.inl _)) => decode (mm_code m) pc = .ok (.lreturn, 1) ∧ mm_rt m = some .long
  | some (Sum.inr (Sum.inr _)) => decode (mm_code m) pc = .ok (.areturn, 1) ∧ ∃ rt, mm_rt m = some rt ∧ ((∃ n, rt = .object n) ∨ ∃ t, rt = .array t)
def mm_okv (G : MG) (v : Option MV) : Prop := ∀ w, v = some w → mm_ok G w
def mm_W (Z : MZ) (D : va_G) (l : Launch) (m pc : Nat) (ls : ML) (st : List MV) (μ : MM) (G : MG) (r : MR) : Prop :=
  ∀ (p : Program) (e : Env) (R : Room) (s : State) (mi : MethodId) (args : Array Value) (below : List Frame) (meth : Method) (c : Code) (H : Heap) (locs : List Loc) (cells slots : Nat) (Q : State → Prop) (rl : Array Slot) (C0 S0 : Int),
    mm_Cx D m p R s mi meth c → mm_HR Z D s μ G H → mm_LR Z G (mm_max m) ls rl → mm_SR G st → (∀ q ∈ locs, Z.2.2 ≤ q.base) →
    (cells : Int) = C0 + G.2.1 → (slots : Int) = S0 + G.2.2 → C0 + r.2.2.2.1 ≤ (R.cells : Int) → S0 + r.2.2.2.2 ≤ (R.slots : Int) →
    (∀ (H' : Heap) (locs' : List Loc) (cells' slots' pc' : Nat) (rl' : Array Slot), mm_HR Z D s r.2.1 r.2.2 H' → (∀ q ∈ locs', Z.2.2 ≤ q.base) → (cells' : Int) = C0 + r.2.2.2.1 → (slots' : Int) = S0 + r.2.2.2.2 → mm_okv r.2.2 r.1 → mm_rd m pc' r.1 →
      W p l e R s mi args below meth c H' locs' cells' slots' Q (F0 mi pc' rl' (r.1.toList.map (mm_tr Z)))) →
    W p l e R s mi args below meth c H locs cells slots Q (F0 mi pc rl (st.map (mm_tr Z)))
/-- a step that leaves the heap as it is -/
def mm_K (Z : MZ) (D : va_G) (l : Launch) (m pc : Nat) (ls : ML) (st : List MV) (pc' : Nat) (ls' : ML) (st' : List MV) (μ : MM) (G : MG) : Prop :=
  ∀ (p : Program) (e : Env) (R : Room) (s : State) (mi : MethodId) (args : Array Value) (below : List Frame) (meth : Method) (c : Code) (H : Heap) (locs : List Loc) (cells slots : Nat) (Q : State → Prop) (rl : Array Slot),
    mm_Cx D m p R s mi meth c → mm_HR Z D s μ G H → mm_LR Z G (mm_max m) ls rl → mm_SR G st → (∀ q ∈ locs, Z.2.2 ≤ q.base) →
    (∀ rl' : Array Slot, mm_LR Z G (mm_max m) ls' rl' → mm_SR G st' → W p l e R s mi args below meth c H locs cells slots Q (F0 mi pc' rl' (st'.map (mm_tr Z)))) →
    W p l e R s mi args below meth c H locs cells slots Q (F0 mi pc rl (st.map (mm_tr Z)))
section SIM
variable {Z : MZ} {D : va_G} {l : Launch} {m pc pc' nx : Nat} {ls ls' : ML} {st st' : List MV} {μ μ' : MM} {G G' : MG} {r : MR}
theorem mm_K.go (hk : mm_K Z D l m pc ls st pc' ls' st' μ G) (h : mm_W Z D l m pc' ls' st' μ G r) : mm_W Z D l m pc ls st μ G r := by
  intro p e R s mi args below meth c H locs cells slots Q rl C0 S0 hC hH hL hS hl hc hs hR1 hR2 hQ
  exact hk p e R s mi args below meth c H locs cells slots Q rl hC hH hL hS hl (fun rl' hL' hS' => h p e R s mi args below meth c H locs cells slots Q rl' C0 S0 hC hH hL' hS' hl hc hs hR1 hR2 hQ)
/-- a step that changes the heap, no cell being new -/
def mm_KH (Z : MZ) (D : va_G) (l : Launch) (m pc : Nat) (ls : ML) (st : List MV) (pc' : Nat) (st' : List MV) (μ μ' : MM) (G : MG) : Prop :=
  ∀ (p : Program) (e : Env) (R : Room) (s : State) (mi : MethodId) (args : Array Value) (below : List Frame) (meth : Method) (c : Code) (H : Heap) (locs : List Loc) (cells slots : Nat) (Q : State → Prop) (rl : Array Slot),
    mm_Cx D m p R s mi meth c → mm_HR Z D s μ G H → mm_LR Z G (mm_max m) ls rl → mm_SR G st → (∀ q ∈ locs, Z.2.2 ≤ q.base) →
    (∀ (H' : Heap) (locs' : List Loc), mm_HR Z D s μ' G H' → (∀ q ∈ locs', Z.2.2 ≤ q.base) → mm_SR G st' → W p l e R s mi args below meth c H' locs' cells slots Q (F0 mi pc' rl (st'.map (mm_tr Z)))) →
    W p l e R s mi args below meth c H locs cells slots Q (F0 mi pc rl (st.map (mm_tr Z)))
theorem mm_KH.go (hk : mm_KH Z D l m pc ls st pc' st' μ μ' G) (h : mm_W Z D l m pc' ls st' μ' G r) : mm_W Z D l m pc ls st μ G r := by
  intro p e R s mi args below meth c H locs cells slots Q rl C0 S0 hC hH hL hS hl hc hs hR1 hR2 hQ
  exact hk p e R s mi args below meth c H locs cells slots Q rl hC hH hL hS hl (fun H' locs' hH' hl' hS' => h p e R s mi args below meth c H' locs' cells slots Q rl C0 S0 hC hH' hL hS' hl' hc hs hR1 hR2 hQ)
-- constants
theorem mm_k_iconst {n : Int} (hd : decode (mm_code m) pc = .ok (.iconst n, 1)) (hn : -2147483648 ≤ n ∧ n < 2147483648) : mm_K Z D l m pc ls st (pc + 1) ls (vI n :: st) μ G := by
  intro p e R s mi args below meth c H locs cells slots Q rl hC hH hL hS hl k
  exact lv_iconst hC.1 hC.2.1 hd rfl (k rl hL (hS.cons hn))
theorem mm_k_bipush {n : Int} (hd : decode (mm_code m) pc = .ok (.bipush n, 2)) (hn : -2147483648 ≤ n ∧ n < 2147483648) (hv : (Int8.ofInt n).toInt32 = Int32.ofInt n) : mm_K Z D l m pc ls st (pc + 2) ls (vI n :: st) μ G := by
  intro p e R s mi args below meth c H locs cells slots Q rl hC hH hL hS hl k
  exact lv_bipush hC.1 hC.2.1 hd hv (k rl hL (hS.cons hn))
theorem mm_k_sipush {n : Int} (hd : decode (mm_code m) pc = .ok (.sipush n, 3)) (hn : -2147483648 ≤ n ∧ n < 2147483648) (hv : (Int16.ofInt n).toInt32 = Int32.ofInt n) : mm_K Z D l m pc ls st (pc + 3) ls (vI n :: st) μ G := by
  intro p e R s mi args below meth c H locs cells slots Q rl hC hH hL hS hl k
  exact lv_sipush hC.1 hC.2.1 hd hv (k rl hL (hS.cons hn))
theorem mm_k_ldc {i : Nat} {n : Int} (hd : decode (mm_code m) pc = .ok (.ldc i, 2)) (hn : -2147483648 ≤ n ∧ n < 2147483648) (hv : mm_in (.constant (mm_own m) i (Int32.ofInt n))) : mm_K Z D l m pc ls st (pc + 2) ls (vI n :: st) μ G := by
  intro p e R s mi args below meth c H locs cells slots Q rl hC hH hL hS hl k
  exact lv_ldc hC.1 hC.2.1 hC.2.2.2.1 (hC.2.2.2.2.1 _ hv.1 hv.2 _) hd (k rl hL (hS.cons hn))
theorem mm_k_ldcw {i : Nat} {n : Int} (hd : decode (mm_code m) pc = .ok (.ldc_w i, 3)) (hn : -2147483648 ≤ n ∧ n < 2147483648) (hv : mm_in (.constant (mm_own m) i (Int32.ofInt n))) : mm_K Z D l m pc ls st (pc + 3) ls (vI n :: st) μ G := by
  intro p e R s mi args below meth c H locs cells slots Q rl hC hH hL hS hl k
  exact lv_ldcw hC.1 hC.2.1 hC.2.2.2.1 (hC.2.2.2.2.1 _ hv.1 hv.2 _) hd (k rl hL (hS.cons hn))
theorem mm_k_ldc2 {i : Nat} {n : Int} (hd : decode (mm_code m) pc = .ok (.ldc2_w i, 3)) (hn : -9223372036854775808 ≤ n ∧ n < 9223372036854775808) (hv : mm_in (.constantLong (mm_own m) i (Int64.ofInt n))) : mm_K Z D l m pc ls st (pc + 3) ls (vL n :: st) μ G := by
  intro p e R s mi args below meth c H locs cells slots Q rl hC hH hL hS hl k
  exact lv_ldc2 hC.1 hC.2.1 hC.2.2.2.1 (hC.2.2.2.2.1 _ hv.1 hv.2 _) hd (k rl hL (hS.cons hn))
theorem mm_k_lconst {n : Fin 2} (hd : decode (mm_code m) pc = .ok (.lconst n, 1)) : mm_K Z D l m pc ls st (pc + 1) ls (vL ((n : Nat) : Int) :: st) μ G := by
  intro p e R s mi args below meth c H locs cells slots Q rl hC hH hL hS hl k
  refine lv_lconst hC.1 hC.2.1 hd (v := Int64.ofInt ((n : Nat) : Int)) ?_ (k rl hL (hS.cons ?_))
  · match n with
    | 0 => rfl
    | 1 => rfl
  · show -9223372036854775808 ≤ (((n : Nat) : Int)) ∧ _ < _
    have := n.isLt
    omega
theorem mm_k_null (hd : decode (mm_code m) pc = .ok (.aconst_null, 1)) : mm_K Z D l m pc ls st (pc + 1) ls (vR 0 :: st) μ G := by
  intro p e R s mi args below meth c H locs cells slots Q rl hC hH hL hS hl k
  exact lv_null hC.1 hC.2.1 hd (k rl hL (hS.cons ⟨Int.le_refl 0, by have := hH.1; omega⟩))
-- loads
theorem mm_k_iload {i : Nat} {x : Int} (hd : decode (mm_code m) pc = .ok (.iload i, 2)) (hi : ls[i]? = some (some (vI x))) : mm_K Z D l m pc ls st (pc + 2) ls (vI x :: st) μ G := by
  intro p e R s mi args below meth c H locs cells slots Q rl hC hH hL hS hl k
  exact lv_iload hC.1 hC.2.1 hd (hL.2.2.2 i _ hi).1 (k rl hL (hS.cons (hL.2.2.2 i _ hi).2))
theorem mm_k_iload_n {i : Fin 4} {x : Int} (hd : decode (mm_code m) pc = .ok (.iload_n i, 1)) (hi : ls[(i : Nat)]? = some (some (vI x))) : mm_K Z D l m pc ls st (pc + 1) ls (vI x :: st) μ G := by
  intro p e R s mi args below meth c H locs cells slots Q rl hC hH hL hS hl k
  exact lv_iload_n hC.1 hC.2.1 hd rfl (hL.2.2.2 i _ hi).1 (k rl hL (hS.cons (hL.2.2.2 i _ hi).2))
theorem mm_k_lload {i : Nat} {x : Int} (hd : decode (mm_code m) pc = .ok (.lload i, 2)) (hi : ls[i]? = some (some (vL x))) : mm_K Z D l m pc ls st (pc + 2) ls (vL x :: st) μ G := by
  intro p e R s mi args below meth c H locs cells slots Q rl hC hH hL hS hl k
  exact lv_lload hC.1 hC.2.1 hd (hL.2.2.2 i _ hi).1 (k rl hL (hS.cons (hL.2.2.2 i _ hi).2))
theorem mm_k_lload_n {i : Fin 4} {x : Int} (hd : decode (mm_code m) pc = .ok (.lload_n i, 1)) (hi : ls[(i : Nat)]? = some (some (vL x))) : mm_K Z D l m pc ls st (pc + 1) ls (vL x :: st) μ G := by
  intro p e R s mi args below meth c H locs cells slots Q rl hC hH hL hS hl k
  exact lv_lload_n hC.1 hC.2.1 hd rfl (hL.2.2.2 i _ hi).1 (k rl hL (hS.cons (hL.2.2.2 i _ hi).2))
end SIM
section SIMN
variable {p : Program} {l : Launch} {e : Env} {R : Room} {s : State} {m : MethodId} {args : Array Value} {below : List Frame} {meth : Method} {c : Code} {H : Heap} {locs : List Loc} {cells slots : Nat} {Q : State → Prop}
variable {cc : ByteArray} {pc : Nat} {ls : Array Slot} {rest : List Value}
/-- references that may be null -/
theorem mm_aload (hexec : p.tables.exec = Jvm.exec) (hb : c.code = cc) {i : Nat} {v : Value} (hv : mm_isr v) (hdg : decode cc pc = .ok (.aload i, 2)) (hl : ls[i]? = some (.val v))
    (k : W p l e R s m args below meth c H locs cells slots Q (F0 m (pc + 2) ls (v :: rest))) : W p l e R s m args below meth c H locs cells slots Q (F0 m pc ls (rest)) := by
  rcases hv with rfl | ⟨q, rfl⟩
  · intro T hT X
    obtain ⟨t, a, b⟩ := k T hT X
    refine ⟨t, ?_, b⟩
    jvm_step X.here [X.here.top, hexec, hb, hdg, hl, Value.isRef]
    exact a
  · exact lv_aload hexec hb hdg hl k
theorem mm_aload_n (hexec : p.tables.exec = Jvm.exec) (hb : c.code = cc) {i : Fin 4} {v : Value} (hv : mm_isr v) (hdg : decode cc pc = .ok (.aload_n i, 1)) (hl : ls[(i : Nat)]? = some (.val v))
    (k : W p l e R s m args below meth c H locs cells slots Q (F0 m (pc + 1) ls (v :: rest))) : W p l e R s m args below meth c H locs cells slots Q (F0 m pc ls (rest)) := by
  rcases hv with rfl | ⟨q, rfl⟩
  · intro T hT X
    obtain ⟨t, a, b⟩ := k T hT X
    refine ⟨t, ?_, b⟩
    jvm_step X.here [X.here.top, hexec, hb, hdg, hl, Value.isRef]
    exact a
  · exact lv_aload_n hexec hb hdg rfl hl k
theorem mm_astore (hexec : p.tables.exec = Jvm.exec) (hb : c.code = cc) {i nL : Nat} {v : Value} (hv : mm_isr v) {lv lv' : List (Nat × Value)} (hdg : decode cc pc = .ok (.astore i, 2)) (h : lv_has ls nL lv) (hn : i < nL) (hl : (i, v) :: lv.filter (fun q => !(q.1 == i) && !(q.1 + 1 == i && q.2.category == 2)) = lv')
    (kk : ∀ ls' : Array Slot, lv_has ls' nL lv' → W p l e R s m args below meth c H locs cells slots Q (F0 m (pc + 2) ls' rest)) : W p l e R s m args below meth c H locs cells slots Q (F0 m pc ls (v :: rest)) := by
  rcases hv with rfl | ⟨q, rfl⟩
  · obtain ⟨ls', e', h'⟩ := lv_store1 (v := .null) h hn rfl
    intro T hT X
    obtain ⟨t, a, b⟩ := kk ls' (hl ▸ h') T hT X
    refine ⟨t, ?_, b⟩
    jvm_step X.here [X.here.top, ↓top_set X.here.top, hexec, hb, hdg, e', Value.isRef]
    exact a
  · exact lv_astore hexec hb hdg h hn hl kk
theorem mm_astore_n (hexec : p.tables.exec = Jvm.exec) (hb : c.code = cc) {i : Fin 4} {nL : Nat} {v : Value} (hv : mm_isr v) {lv lv' : List (Nat × Value)} (hdg : decode cc pc = .ok (.astore_n i, 1)) (h : lv_has ls nL lv) (hn : (i : Nat) < nL) (hl : ((i : Nat), v) :: lv.filter (fun q => !(q.1 == (i : Nat)) && !(q.1 + 1 == (i : Nat) && q.2.category == 2)) = lv')
    (kk : ∀ ls' : Array Slot, lv_has ls' nL lv' → W p l e R s m args below meth c H locs cells slots Q (F0 m (pc + 1) ls' rest)) : W p l e R s m args below meth c H locs cells slots Q (F0 m pc ls (v :: rest)) := by
  rcases hv with rfl | ⟨q, rfl⟩
  · obtain ⟨ls', e', h'⟩ := lv_store1 (v := .null) h hn rfl
    intro T hT X
    obtain ⟨t, a, b⟩ := kk ls' (hl ▸ h') T hT X
    refine ⟨t, ?_, b⟩
    jvm_step X.here [X.here.top, ↓top_set X.here.top, hexec, hb, hdg, e', Value.isRef]
    exact a
  · exact lv_astore_n hexec hb hdg rfl h hn hl kk
end SIMN
