/-! THE SMALL MACHINE BESIDE THE MACHINE: what an address, a value, a frame, a heap of the small one stands for -/
theorem mm_bm (x : Int) : x.bmod (2 ^ 32) = w32 x := by
  unfold w32
  have : ((2 ^ 32 : Nat) : Int) = 4294967296 := by decide
  simp only [Int.bmod, this]
  split <;> omega
theorem mm_bm64 (x : Int) : x.bmod (2 ^ 64) = w64 x := by
  unfold w64
  have : ((2 ^ 64 : Nat) : Int) = 18446744073709551616 := by decide
  simp only [Int.bmod, this]
  split <;> omega
theorem mm_wok (x : Int) : -2147483648 ≤ w32 x ∧ w32 x < 2147483648 := by unfold w32; omega
theorem mm_wok64 (x : Int) : -9223372036854775808 ≤ w64 x ∧ w64 x < 9223372036854775808 := by unfold w64; omega
theorem mm_wid {x : Int} (h : -2147483648 ≤ x ∧ x < 2147483648) : w32 x = x := by unfold w32; omega
theorem mm_wid64 {x : Int} (h : -9223372036854775808 ≤ x ∧ x < 9223372036854775808) : w64 x = x := by unfold w64; omega
theorem mm_tiw (x : Int) : (Int32.ofInt x).toInt = w32 x := by rw [Int32.toInt_ofInt, ← mm_bm]
theorem mm_tiw64 (x : Int) : (Int64.ofInt x).toInt = w64 x := by rw [Int64.toInt_ofInt, ← mm_bm64]
theorem mm_ti {x : Int} (h : -2147483648 ≤ x ∧ x < 2147483648) : (Int32.ofInt x).toInt = x := by rw [mm_tiw, mm_wid h]
theorem mm_ti64 {x : Int} (h : -9223372036854775808 ≤ x ∧ x < 9223372036854775808) : (Int64.ofInt x).toInt = x := by rw [mm_tiw64, mm_wid64 h]
theorem mm_ow (x : Int) : Int32.ofInt (w32 x) = Int32.ofInt x := by rw [← mm_tiw, Int32.ofInt_toInt]
theorem mm_ow64 (x : Int) : Int64.ofInt (w64 x) = Int64.ofInt x := by rw [← mm_tiw64, Int64.ofInt_toInt]
theorem mm_tok (y : Int32) : -2147483648 ≤ y.toInt ∧ y.toInt < 2147483648 := by
  have h1 := Int32.le_toInt y
  have h2 := Int32.toInt_lt y
  have e : (2 : Int) ^ 31 = 2147483648 := by decide
  rw [e] at h1 h2
  exact ⟨h1, h2⟩
theorem mm_tok64 (y : Int64) : -9223372036854775808 ≤ y.toInt ∧ y.toInt < 9223372036854775808 := by
  have h1 := Int64.le_toInt y
  have h2 := Int64.toInt_lt y
  have e : (2 : Int) ^ 63 = 9223372036854775808 := by decide
  rw [e] at h1 h2
  exact ⟨h1, h2⟩
theorem mm_inj {x y : Int} (hx : -2147483648 ≤ x ∧ x < 2147483648) (hy : -2147483648 ≤ y ∧ y < 2147483648) : Int32.ofInt x = Int32.ofInt y ↔ x = y := by
  constructor
  · intro h
    have := congrArg Int32.toInt h
    rwa [mm_ti hx, mm_ti hy] at this
  · intro h; rw [h]
theorem mm_ltI {x y : Int} (hx : -2147483648 ≤ x ∧ x < 2147483648) (hy : -2147483648 ≤ y ∧ y < 2147483648) : Int32.ofInt x < Int32.ofInt y ↔ x < y := by
  rw [Int32.lt_iff_toInt_lt, mm_ti hx, mm_ti hy]
theorem mm_leI {x y : Int} (hx : -2147483648 ≤ x ∧ x < 2147483648) (hy : -2147483648 ≤ y ∧ y < 2147483648) : Int32.ofInt x ≤ Int32.ofInt y ↔ x ≤ y := by
  rw [Int32.le_iff_toInt_le, mm_ti hx, mm_ti hy]
theorem mm_clamp {x : Int} (hx : -2147483648 ≤ x ∧ x < 2147483648) : (Int32.ofInt x).toNatClampNeg = x.toNat := by
  show (Int32.ofInt x).toInt.toNat = _
  rw [mm_ti hx]
theorem mm_0 : Int32.ofInt 0 = 0 := by decide +kernel
/-- where 1 to 9 lie; what 7 is; from where on the others lie -/
abbrev MZ : Type := (Int → Nat) × Value × Nat
def mm_rho (Z : MZ) (a : Int) : Nat := if a < 10 then Z.1 a else Z.2.2 + (a - 10).toNat
def mm_rv (Z : MZ) (a : Int) : Value := if a = 0 then .null else if a = 7 then Z.2.1 else .ref (mm_rho Z a)
def mm_tr (Z : MZ) (v : MV) : Value := match v with
  | Sum.inl x => .int (Int32.ofInt x)
  | Sum.inr (Sum.inl x) => .long (Int64.ofInt x)
  | Sum.inr (Sum.inr a) => mm_rv Z a
def mm_ok (G : MG) (v : MV) : Prop := match v with
  | Sum.inl x => -2147483648 ≤ x ∧ x < 2147483648
  | Sum.inr (Sum.inl x) => -9223372036854775808 ≤ x ∧ x < 9223372036854775808
  | Sum.inr (Sum.inr a) => 0 ≤ a ∧ a < G.2.1
def mm_isr (v : Value) : Prop := v = .null ∨ ∃ q, v = .ref q
theorem mm_rvf {Z : MZ} (h : mm_isr Z.2.1) (a : Int) : mm_isr (mm_rv Z a) := by
  unfold mm_rv
  split
  · exact Or.inl rfl
  · split
    · exact h
    · exact Or.inr ⟨_, rfl⟩
theorem mm_rvr {Z : MZ} {a : Int} (h0 : ¬ a = 0) (h7 : ¬ a = 7) : mm_rv Z a = .ref (mm_rho Z a) := by
  unfold mm_rv; rw [if_neg h0, if_neg h7]
/-- the classes of objects, by number; their fields' types (0 int, 1 boolean, 2 a reference, 3 byte) -/
def mm_cl : List vw_C := [(RX0, TX0, 2), (RX1, TX1, 2), (RX2, TX2, 2), (RX3, TX3, 4), (RX4, TX4, 4), (RX5, TX5, 5), (RX6, TX6, 13), (RX7, TX7, 10), (RX8, TX8, 13), (RX9, TX9, 4), (RX10, TX10, 14), (RX11, TX11, 47), (RJ4, TJ4, 4)]
def mm_tyc (t : FieldType) : Int := match t with
  | .int => 0
  | .boolean => 1
  | .byte => 3
  | _ => 2
def mm_tys : List (Nat → FieldType) := [tyX0, tyX1, tyX2, tyX3, tyX4, tyX5, tyX6, tyX7, tyX8, tyX9, tyX10, tyX11, tyJ4]
def mm_fty (c k : Nat) : FieldType := (mm_tys.getD c (fun _ => .int)) k
def mm_ft (c k : Nat) : Int := mm_tyc (mm_fty c k)
def mm_at (kd : Int) : FieldType := if kd = 100 then .int else if kd = 101 then .byte else if kd = 102 then .object "ScreenTalk$Mode" else .object "ScreenTalk$Timing"
def mm_et (kd : Int) : Int := if kd = 100 then 0 else if kd = 101 then 3 else 2
def mm_hv (Z : MZ) (ty x : Int) : Value := if ty = 2 then mm_rv Z x else .int (Int32.ofInt x)
def mm_ran (G : MG) (ty x : Int) : Prop := if ty = 2 then 0 ≤ x ∧ x < G.2.1 else if ty = 1 then x = 0 ∨ x = 1 else if ty = 3 then -128 ≤ x ∧ x < 128 else -2147483648 ≤ x ∧ x < 2147483648
theorem mm_ranI {G : MG} {ty x : Int} (h : mm_ran G ty x) (h2 : ¬ ty = 2) : -2147483648 ≤ x ∧ x < 2147483648 := by
  unfold mm_ran at h
  rw [if_neg h2] at h
  split at h
  · rcases h with h | h <;> omega
  · split at h
    · omega
    · exact h
def mm_arr (U : State) (cell : Cell) (kd : Int) : Prop := (∀ q, cell.vm ≠ .statics q) ∧ ∃ (k : Class) (comp : ClassId), U.vm.classes[cell.cls]? = some k ∧ k.kind = .array comp (mm_at kd) ∧ ∀ C, mm_at kd = .object C → U.vm.findClass C = some comp
theorem mm_arr.isA {U : State} {cell : Cell} {kd : Int} (h : mm_arr U cell kd) : U.isArrayOf cell (mm_at kd) := by
  obtain ⟨h1, k, comp, h2, h3, -⟩ := h
  exact ⟨h1, k, h2, comp, h3⟩
theorem mm_arr.moved {u U : State} (hvm : u.vm.Alike U.vm) {cell : Cell} {kd : Int} (h : mm_arr u cell kd) : mm_arr U cell kd := by
  obtain ⟨h1, k, comp, h2, h3, h4⟩ := h
  obtain ⟨k', hk', he⟩ := hvm.2.2 _ _ h2
  exact ⟨h1, k', comp, hk', by rw [he]; exact h3, fun C hC => by rw [hvm.findClass]; exact h4 C hC⟩
/-- a cell stands for what the memory has at its address -/
def mm_cell (Z : MZ) (D : va_G) (U : State) (G : MG) (f : Int → Int) (kd ln : Int) (cell : Cell) : Prop :=
  (∃ (c : Nat) (r : vw_C), kd = (c : Int) ∧ mm_cl[c]? = some r ∧ cell.cls = D.1 c ∧ cell.vm = .none ∧ ∀ k : Nat, k < r.2.2 → cell.slots[D.2 c k]? = some (mm_hv Z (mm_ft c k) (f k)) ∧ mm_ran G (mm_ft c k) (f k))
  ∨ (100 ≤ kd ∧ kd ≤ 103 ∧ mm_arr U cell kd ∧ cell.vm ≠ .unknown ∧ (cell.slots.size : Int) = ln ∧ ∀ j : Nat, (j : Int) < ln → cell.slots[j]? = some (mm_hv Z (mm_et kd) (f j)) ∧ mm_ran G (mm_et kd) (f j))
def mm_stats : List (String × String × String × Int × Int) := [("ScreenTalk", "RATES", "[I", 2, 1), ("ScreenTalk", "CODE_ROWS", "[I", 2, 2), ("ScreenTalk", "ESTABLISHED_ROWS", "[I", 2, 3), ("java/lang/Integer", "DigitOnes", "[B", 2, 4), ("java/lang/Integer", "DigitTens", "[B", 2, 5), ("java/lang/String", "COMPACT_STRINGS", "Z", 0, 1), ("jdk/internal/util/Preconditions", "SIOOBE_FORMATTER", "Ljava/util/function/BiFunction;", 2, 7)]
def mm_Zs (Z : MZ) (U : State) (H : Heap) : Prop := ∀ q ∈ mm_stats, va_Z q.1 q.2.1 q.2.2.1 (mm_hv Z q.2.2.2.1 q.2.2.2.2) (fun x => Z.2.2 ≤ x) U H
def mm_HR (Z : MZ) (D : va_G) (U : State) (μ : MM) (G : MG) (H : Heap) : Prop :=
  10 ≤ G.2.1 ∧ H.size = Z.2.2 + (G.2.1 - 10).toNat ∧ (∀ a, a < 10 → Z.1 a < Z.2.2) ∧ mm_isr Z.2.1 ∧ (gk G 0 = 50 ∧ gk G 7 = 50 ∧ (∀ a, 0 ≤ a → a < 10 → 50 ≤ gk G a) ∧ ∀ a, gl G a < 2147483648) ∧ mm_Zs Z U H ∧
  ∀ a, 0 ≤ a → a < G.2.1 → gk G a = 50 ∨ ∃ cell, H[mm_rho Z a]? = some cell ∧ mm_cell Z D U G (μ a) (gk G a) (gl G a) cell
theorem mm_rho_ne {Z : MZ} {a b : Int} (hz : ∀ a, a < 10 → Z.1 a < Z.2.2) (ha : 10 ≤ a) (hb : 0 ≤ b) (h : ¬ b = a) : mm_rho Z b ≠ mm_rho Z a := by
  have e : mm_rho Z a = Z.2.2 + (a - 10).toNat := if_neg (by omega)
  rw [e]
  by_cases h10 : b < 10
  · have e2 : mm_rho Z b = Z.1 b := if_pos h10
    rw [e2]
    have := hz b h10
    omega
  · have e2 : mm_rho Z b = Z.2.2 + (b - 10).toNat := if_neg h10
    rw [e2]
    omega
theorem mm_rho_lo {Z : MZ} {a : Int} (ha : 10 ≤ a) : Z.2.2 ≤ mm_rho Z a := by
  unfold mm_rho
  rw [if_neg (by omega)]
  omega
theorem mm_cell.moved {Z : MZ} {D : va_G} {u U : State} (hvm : u.vm.Alike U.vm) {G : MG} {f : Int → Int} {kd ln : Int} {cell : Cell} (h : mm_cell Z D u G f kd ln cell) : mm_cell Z D U G f kd ln cell := by
  rcases h with h | ⟨h1, h2, h3, h4⟩
  · exact Or.inl h
  · exact Or.inr ⟨h1, h2, h3.moved hvm, h4⟩
theorem mm_HR.moved {Z : MZ} {D : va_G} {u U : State} (hvm : u.vm.Alike U.vm) {μ : MM} {G : MG} {H : Heap} (h : mm_HR Z D u μ G H) : mm_HR Z D U μ G H := by
  obtain ⟨h1, h2, h3, h4, h5, h7, h8⟩ := h
  refine ⟨h1, h2, h3, h4, h5, fun q hq => (h7 q hq).moved hvm, fun a ha hb => ?_⟩
  rcases h8 a ha hb with h | ⟨cell, hc, hm⟩
  · exact Or.inl h
  · exact Or.inr ⟨cell, hc, hm.moved hvm⟩
/-- more addresses -/
theorem mm_ran.mono {G G' : MG} (h : G.2.1 ≤ G'.2.1) {ty x : Int} (hr : mm_ran G ty x) : mm_ran G' ty x := by
  unfold mm_ran at hr ⊢
  split
  · rename_i h2; rw [if_pos h2] at hr; omega
  · rename_i h2; rw [if_neg h2] at hr; exact hr
theorem mm_cell.mono {Z : MZ} {D : va_G} {U : State} {G G' : MG} (h : G.2.1 ≤ G'.2.1) {f : Int → Int} {kd ln : Int} {cell : Cell} (hc : mm_cell Z D U G f kd ln cell) : mm_cell Z D U G' f kd ln cell := by
  rcases hc with ⟨c, r, h1, h2, h3, h4, h5⟩ | ⟨h1, h2, h3, h4, h5, h6⟩
  · exact Or.inl ⟨c, r, h1, h2, h3, h4, fun k hk => ⟨(h5 k hk).1, (h5 k hk).2.mono h⟩⟩
  · exact Or.inr ⟨h1, h2, h3, h4, h5, fun j hj => ⟨(h6 j hj).1, (h6 j hj).2.mono h⟩⟩
/-- one writable cell changes -/
theorem mm_HR.put {Z : MZ} {D : va_G} {U : State} {μ μ' : MM} {G : MG} {H H' : Heap} {a : Int} {cell : Cell} (h : mm_HR Z D U μ G H) (ha : 10 ≤ a) (ha2 : a < G.2.1) (hs : H'.size = H.size) (ho : ∀ q, q ≠ mm_rho Z a → H'[q]? = H[q]?) (hc : H'[mm_rho Z a]? = some cell) (hm : mm_cell Z D U G (μ' a) (gk G a) (gl G a) cell) (hμ : ∀ b, ¬ b = a → μ' b = μ b) : mm_HR Z D U μ' G H' := by
  obtain ⟨h1, h2, h3, h4, h5, h7, h8⟩ := h
  refine ⟨h1, by rw [hs]; exact h2, h3, h4, h5, fun q hq => (h7 q hq).kept (fun b hb hA => ho b (fun e => hA ?_)), fun b hb hb2 => ?_⟩
  · rw [e]; exact mm_rho_lo ha
  · by_cases hba : b = a
    · subst hba
      exact Or.inr ⟨cell, hc, hm⟩
    · rcases h8 b hb hb2 with h | ⟨cb, hcb, hmb⟩
      · exact Or.inl h
      · exact Or.inr ⟨cb, by rw [ho _ (mm_rho_ne h3 ha hb hba)]; exact hcb, by rw [hμ b hba]; exact hmb⟩
theorem mm_gk_new {G : MG} {kd ln sl a : Int} (h : ¬ a = G.2.1) : gk (gnew G kd ln sl) a = gk G a := by simp [gk, gnew, h]
theorem mm_gl_new {G : MG} {kd ln sl a : Int} (h : ¬ a = G.2.1) : gl (gnew G kd ln sl) a = gl G a := by simp [gl, gnew, h]
theorem mm_gk_nw {G : MG} {kd ln sl : Int} : gk (gnew G kd ln sl) G.2.1 = kd := by simp [gk, gnew]
theorem mm_gl_nw {G : MG} {kd ln sl : Int} : gl (gnew G kd ln sl) G.2.1 = ln := by simp [gl, gnew]
/-- a new cell -/
theorem mm_HR.push {Z : MZ} {D : va_G} {U : State} {μ : MM} {G : MG} {H H' : Heap} {kd ln sl : Int} {cell : Cell} (h : mm_HR Z D U μ G H) (hs : H'.size = H.size + 1) (ho : ∀ q, q < H.size → H'[q]? = H[q]?) (hc : H'[H.size]? = some cell) (hm : mm_cell Z D U (gnew G kd ln sl) (fun _ => 0) kd ln cell) (hln : ln < 2147483648) : mm_HR Z D U (mzero μ G.2.1) (gnew G kd ln sl) H' ∧ mm_rho Z G.2.1 = H.size := by
  obtain ⟨h1, h2, h3, h4, h5, h7, h8⟩ := h
  have hr : mm_rho Z G.2.1 = H.size := by
    unfold mm_rho; rw [if_neg (by omega), h2]
  refine ⟨⟨?_, ?_, h3, h4, ⟨?_, ?_, fun a ha hb => ?_, fun a => ?_⟩, fun q hq => (h7 q hq).kept (fun b hb _ => ho b hb), fun b hb hb2 => ?_⟩, hr⟩
  · show 10 ≤ G.2.1 + 1; omega
  · show H'.size = Z.2.2 + (G.2.1 + 1 - 10).toNat; omega
  · rw [mm_gk_new (by omega)]; exact h5.1
  · rw [mm_gk_new (by omega)]; exact h5.2.1
  · rw [mm_gk_new (by omega)]; exact h5.2.2.1 a ha hb
  · by_cases hag : a = G.2.1
    · rw [hag, mm_gl_nw]; exact hln
    · rw [mm_gl_new hag]; exact h5.2.2.2 a
  · by_cases hba : b = G.2.1
    · subst hba
      refine Or.inr ⟨cell, by rw [hr]; exact hc, ?_⟩
      rw [mm_gk_nw, mm_gl_nw]
      have e : mzero μ G.2.1 G.2.1 = fun _ => 0 := by funext j; simp [mzero]
      rw [e]; exact hm
    · have hb2' : b < G.2.1 + 1 := hb2
      rcases h8 b hb (by omega) with h | ⟨cb, hcb, hmb⟩
      · exact Or.inl (by rw [mm_gk_new hba]; exact h)
      · refine Or.inr ⟨cb, ?_, ?_⟩
        · rw [ho _ (Array.getElem?_eq_some_iff.mp hcb).1]; exact hcb
        · rw [mm_gk_new hba, mm_gl_new hba]
          have e : mzero μ G.2.1 b = μ b := by funext j; simp [mzero, hba]
          rw [e]
          exact hmb.mono (by show G.2.1 ≤ G.2.1 + 1; omega)
/-- locals and stack -/
def mm_LR (Z : MZ) (G : MG) (n : Nat) (ls : ML) (rl : Array Slot) : Prop := ls.length = n ∧ rl.size = n ∧ lv_wf rl ∧ ∀ (i : Nat) (v : MV), ls[i]? = some (some v) → rl[i]? = some (.val (mm_tr Z v)) ∧ mm_ok G v
def mm_SR (G : MG) (st : List MV) : Prop := ∀ v ∈ st, mm_ok G v
theorem mm_ok.mono {G G' : MG} (h : G.2.1 ≤ G'.2.1) {v : MV} (hv : mm_ok G v) : mm_ok G' v := by
  rcases v with x | x | x
  · exact hv
  · exact hv
  · exact ⟨hv.1, Int.lt_of_lt_of_le hv.2 h⟩
theorem mm_LR.mono {Z : MZ} {G G' : MG} (h : G.2.1 ≤ G'.2.1) {n : Nat} {ls : ML} {rl : Array Slot} (hl : mm_LR Z G n ls rl) : mm_LR Z G' n ls rl := ⟨hl.1, hl.2.1, hl.2.2.1, fun i v hv => ⟨(hl.2.2.2 i v hv).1, (hl.2.2.2 i v hv).2.mono h⟩⟩
theorem mm_SR.mono {G G' : MG} (h : G.2.1 ≤ G'.2.1) {st : List MV} (hl : mm_SR G st) : mm_SR G' st := fun v hv => (hl v hv).mono h
theorem mm_SR.tl {G : MG} {v : MV} {st : List MV} (h : mm_SR G (v :: st)) : mm_SR G st := fun w hw => h w (List.mem_cons_of_mem _ hw)
theorem mm_SR.hd {G : MG} {v : MV} {st : List MV} (h : mm_SR G (v :: st)) : mm_ok G v := h v List.mem_cons_self
theorem mm_SR.cons {G : MG} {v : MV} {st : List MV} (hv : mm_ok G v) (h : mm_SR G st) : mm_SR G (v :: st) := fun w hw => by
  rcases List.mem_cons.mp hw with e | e
  · rw [e]; exact hv
  · exact h w e
/-- the list of locals that the kit speaks of -/
def mm_prs (Z : MZ) : Nat → ML → List (Nat × Value)
  | _, [] => []
  | i, none :: r => mm_prs Z (i + 1) r
  | i, some v :: r => (i, mm_tr Z v) :: mm_prs Z (i + 1) r
theorem mm_prs_in {Z : MZ} : ∀ (ls : ML) (i : Nat) (q : Nat × Value), q ∈ mm_prs Z i ls → ∃ (j : Nat) (v : MV), q.1 = i + j ∧ ls[j]? = some (some v) ∧ q.2 = mm_tr Z v
  | [], _, _, h => by cases h
  | none :: r, i, q, h => by
    obtain ⟨j, v, h1, h2, h3⟩ := mm_prs_in r (i + 1) q h
    exact ⟨j + 1, v, by omega, by simpa using h2, h3⟩
  | some w :: r, i, q, h => by
    rcases List.mem_cons.mp h with e | e
    · subst e; exact ⟨0, w, rfl, rfl, rfl⟩
    · obtain ⟨j, v, h1, h2, h3⟩ := mm_prs_in r (i + 1) q e
      exact ⟨j + 1, v, by omega, by simpa using h2, h3⟩
theorem mm_in_prs {Z : MZ} : ∀ (ls : ML) (i j : Nat) (v : MV), ls[j]? = some (some v) → (i + j, mm_tr Z v) ∈ mm_prs Z i ls
  | [], _, _, _, h => by simp at h
  | none :: r, i, 0, v, h => by simp at h
  | some w :: r, i, 0, v, h => by
    simp at h; subst h; exact List.mem_cons_self
  | none :: r, i, j + 1, v, h => by
    have := mm_in_prs (Z := Z) r (i + 1) j v (by simpa using h)
    rw [show i + (j + 1) = i + 1 + j by omega]
    exact this
  | some w :: r, i, j + 1, v, h => by
    have := mm_in_prs (Z := Z) r (i + 1) j v (by simpa using h)
    rw [show i + (j + 1) = i + 1 + j by omega]
    exact List.mem_cons_of_mem _ this
theorem mm_LR.has {Z : MZ} {G : MG} {n : Nat} {ls : ML} {rl : Array Slot} (h : mm_LR Z G n ls rl) : lv_has rl n (mm_prs Z 0 ls) := by
  refine ⟨h.2.1, h.2.2.1, fun q hq => ?_⟩
  obtain ⟨j, v, h1, h2, h3⟩ := mm_prs_in ls 0 q hq
  have := (h.2.2.2 j v h2).1
  rw [show q.1 = j by omega, h3]
  exact this
theorem mm_cat_eq {Z : MZ} (hz : mm_isr Z.2.1) (v : MV) : (mm_tr Z v).category = mm_cat v := by
  rcases v with x | x | x
  · rfl
  · rfl
  · show (mm_rv Z x).category = 1
    rcases mm_rvf hz x with h | ⟨q, h⟩ <;> rw [h] <;> rfl
/-- a local of one slot is stored -/
theorem mm_LR.set1 {Z : MZ} {G : MG} {n i : Nat} {ls : ML} {rl rl' : Array Slot} {v : MV} (hz : mm_isr Z.2.1) (h : mm_LR Z G n ls rl) (hv : mm_ok G v) (hn : mm_nl ls i = true) (hi : i < ls.length)
    (h' : lv_has rl' n ((i, mm_tr Z v) :: (mm_prs Z 0 ls).filter (fun q => !(q.1 == i) && !(q.1 + 1 == i && q.2.category == 2)))) : mm_LR Z G n (ls.set i (some v)) rl' := by
  refine ⟨by rw [List.length_set]; exact h.1, h'.1, h'.2.1, fun j w hw => ?_⟩
  by_cases hj : j = i
  · subst hj
    rw [List.getElem?_set_self hi] at hw
    cases hw
    exact ⟨h'.2.2 (j, mm_tr Z v) List.mem_cons_self, hv⟩
  · rw [List.getElem?_set_ne (fun e => hj e.symm)] at hw
    refine ⟨h'.2.2 (j, mm_tr Z w) (List.mem_cons_of_mem _ (List.mem_filter.mpr ⟨?_, ?_⟩)), (h.2.2.2 j w hw).2⟩
    · have := mm_in_prs (Z := Z) ls 0 j w hw
      rwa [Nat.zero_add] at this
    · simp only [Bool.and_eq_true, Bool.not_eq_true', beq_eq_false_iff_ne, Bool.and_eq_false_imp, beq_iff_eq]
      refine ⟨hj, fun hji => ?_⟩
      rw [mm_cat_eq hz]
      subst hji
      simp only [mm_nl] at hn
      rw [hw] at hn
      rcases w with x | x | x
      · simp [mm_cat]
      · simp at hn
      · simp [mm_cat]
theorem mm_LR.set2 {Z : MZ} {G : MG} {n i : Nat} {ls : ML} {rl rl' : Array Slot} {v : MV} (hz : mm_isr Z.2.1) (h : mm_LR Z G n ls rl) (hv : mm_ok G v) (hn : mm_nl ls i = true) (hi : i + 1 < ls.length)
    (h' : lv_has rl' n ((i, mm_tr Z v) :: (mm_prs Z 0 ls).filter (fun q => !(q.1 == i) && (!(q.1 == i + 1) && !(q.1 + 1 == i && q.2.category == 2))))) : mm_LR Z G n ((ls.set i (some v)).set (i + 1) none) rl' := by
  refine ⟨by rw [List.length_set, List.length_set]; exact h.1, h'.1, h'.2.1, fun j w hw => ?_⟩
  by_cases hj1 : j = i + 1
  · subst hj1
    rw [List.getElem?_set_self (by rw [List.length_set]; exact hi)] at hw
    cases hw
  · rw [List.getElem?_set_ne (fun e => hj1 e.symm)] at hw
    by_cases hj : j = i
    · subst hj
      rw [List.getElem?_set_self (by omega)] at hw
      cases hw
      exact ⟨h'.2.2 (j, mm_tr Z v) List.mem_cons_self, hv⟩
    · rw [List.getElem?_set_ne (fun e => hj e.symm)] at hw
      refine ⟨h'.2.2 (j, mm_tr Z w) (List.mem_cons_of_mem _ (List.mem_filter.mpr ⟨?_, ?_⟩)), (h.2.2.2 j w hw).2⟩
      · have := mm_in_prs (Z := Z) ls 0 j w hw
        rwa [Nat.zero_add] at this
      · simp only [Bool.and_eq_true, Bool.not_eq_true', beq_eq_false_iff_ne, Bool.and_eq_false_imp, beq_iff_eq]
        refine ⟨hj, hj1, fun hji => ?_⟩
        rw [mm_cat_eq hz]
        subst hji
        simp only [mm_nl] at hn
        rw [hw] at hn
        rcases w with x | x | x
        · simp [mm_cat]
        · simp at hn
        · simp [mm_cat]
