/-! of each class: its words are in the tables, its fields are apart, their types -/
theorem mm_cin_0 : ∀ w ∈ u_ws RX0 TX0 2, w ∈ lw_tbl ∧ mm_gw w = true := by decide +kernel
theorem mm_cin_1 : ∀ w ∈ u_ws RX1 TX1 2, w ∈ lw_tbl ∧ mm_gw w = true := by decide +kernel
theorem mm_cin_2 : ∀ w ∈ u_ws RX2 TX2 2, w ∈ lw_tbl ∧ mm_gw w = true := by decide +kernel
theorem mm_cin_3 : ∀ w ∈ u_ws RX3 TX3 4, w ∈ lw_tbl ∧ mm_gw w = true := by decide +kernel
theorem mm_cin_4 : ∀ w ∈ u_ws RX4 TX4 4, w ∈ lw_tbl ∧ mm_gw w = true := by decide +kernel
theorem mm_cin_5 : ∀ w ∈ u_ws RX5 TX5 5, w ∈ lw_tbl ∧ mm_gw w = true := by decide +kernel
theorem mm_cin_6 : ∀ w ∈ u_ws RX6 TX6 13, w ∈ lw_tbl ∧ mm_gw w = true := by decide +kernel
theorem mm_cin_7 : ∀ w ∈ u_ws RX7 TX7 10, w ∈ lw_tbl ∧ mm_gw w = true := by decide +kernel
theorem mm_cin_8 : ∀ w ∈ u_ws RX8 TX8 13, w ∈ lw_tbl ∧ mm_gw w = true := by decide +kernel
theorem mm_cin_9 : ∀ w ∈ u_ws RX9 TX9 4, w ∈ lw_tbl ∧ mm_gw w = true := by decide +kernel
theorem mm_cin_10 : ∀ w ∈ u_ws RX10 TX10 14, w ∈ lw_tbl ∧ mm_gw w = true := by decide +kernel
theorem mm_cin_11 : ∀ w ∈ u_ws RX11 TX11 47, w ∈ lw_tbl ∧ mm_gw w = true := by decide +kernel
theorem mm_cin_12 : ∀ w ∈ u_ws RJ4 TJ4 4, w ∈ lw_tbl ∧ mm_gw w = true := by decide +kernel
theorem mm_cin {c : Nat} {r : vw_C} (h : mm_cl[c]? = some r) : ∀ w ∈ u_ws r.1 r.2.1 r.2.2, mm_in w := by
  match c, h with
  | 0, h => cases h; exact mm_cin_0
  | 1, h => cases h; exact mm_cin_1
  | 2, h => cases h; exact mm_cin_2
  | 3, h => cases h; exact mm_cin_3
  | 4, h => cases h; exact mm_cin_4
  | 5, h => cases h; exact mm_cin_5
  | 6, h => cases h; exact mm_cin_6
  | 7, h => cases h; exact mm_cin_7
  | 8, h => cases h; exact mm_cin_8
  | 9, h => cases h; exact mm_cin_9
  | 10, h => cases h; exact mm_cin_10
  | 11, h => cases h; exact mm_cin_11
  | 12, h => cases h; exact mm_cin_12
  | n + 13, h => simp [mm_cl] at h
theorem mm_cty {c : Nat} {r : vw_C} (h : mm_cl[c]? = some r) : ∀ k, k < r.2.2 → parseFieldDescriptor (r.2.1 k).2.2.1 = some (mm_fty c k) := by
  match c, h with
  | 0, h => cases h; exact tyX0_ok
  | 1, h => cases h; exact tyX1_ok
  | 2, h => cases h; exact tyX2_ok
  | 3, h => cases h; exact tyX3_ok
  | 4, h => cases h; exact tyX4_ok
  | 5, h => cases h; exact tyX5_ok
  | 6, h => cases h; exact tyX6_ok
  | 7, h => cases h; exact tyX7_ok
  | 8, h => cases h; exact tyX8_ok
  | 9, h => cases h; exact tyX9_ok
  | 10, h => cases h; exact tyX10_ok
  | 11, h => cases h; exact tyX11_ok
  | 12, h => cases h; exact tyJ4_ok
  | n + 13, h => simp [mm_cl] at h
theorem mm_cnm {c : Nat} {r : vw_C} (h : mm_cl[c]? = some r) : ∀ a, a < r.2.2 → ∀ b, b < r.2.2 → a ≠ b → (r.2.1 a).2.1 ≠ (r.2.1 b).2.1 := by
  match c, h with
  | 0, h => cases h; exact nmX0
  | 1, h => cases h; exact nmX1
  | 2, h => cases h; exact nmX2
  | 3, h => cases h; exact nmX3
  | 4, h => cases h; exact nmX4
  | 5, h => cases h; exact nmX5
  | 6, h => cases h; exact nmX6
  | 7, h => cases h; exact nmX7
  | 8, h => cases h; exact nmX8
  | 9, h => cases h; exact nmX9
  | 10, h => cases h; exact nmX10
  | 11, h => cases h; exact nmX11
  | 12, h => cases h; exact nmJ4
  | n + 13, h => simp [mm_cl] at h
def mm_tkb (t : FieldType) : Bool := match t with
  | .int => true
  | .boolean => true
  | .byte => true
  | .object _ => true
  | .array _ => true
  | _ => false
def mm_tk (t : FieldType) : Prop := t = .int ∨ t = .boolean ∨ t = .byte ∨ (∃ n, t = .object n) ∨ ∃ q, t = .array q
theorem mm_tk_of {t : FieldType} (h : mm_tkb t = true) : mm_tk t := by
  unfold mm_tk
  cases t <;> simp [mm_tkb] at h ⊢
theorem mm_ctk_0 : ∀ k, k < 2 → mm_tkb (tyX0 k) = true := by decide +kernel
theorem mm_ctk_1 : ∀ k, k < 2 → mm_tkb (tyX1 k) = true := by decide +kernel
theorem mm_ctk_2 : ∀ k, k < 2 → mm_tkb (tyX2 k) = true := by decide +kernel
theorem mm_ctk_3 : ∀ k, k < 4 → mm_tkb (tyX3 k) = true := by decide +kernel
theorem mm_ctk_4 : ∀ k, k < 4 → mm_tkb (tyX4 k) = true := by decide +kernel
theorem mm_ctk_5 : ∀ k, k < 5 → mm_tkb (tyX5 k) = true := by decide +kernel
theorem mm_ctk_6 : ∀ k, k < 13 → mm_tkb (tyX6 k) = true := by decide +kernel
theorem mm_ctk_7 : ∀ k, k < 10 → mm_tkb (tyX7 k) = true := by decide +kernel
theorem mm_ctk_8 : ∀ k, k < 13 → mm_tkb (tyX8 k) = true := by decide +kernel
theorem mm_ctk_9 : ∀ k, k < 4 → mm_tkb (tyX9 k) = true := by decide +kernel
theorem mm_ctk_10 : ∀ k, k < 14 → mm_tkb (tyX10 k) = true := by decide +kernel
theorem mm_ctk_11 : ∀ k, k < 47 → mm_tkb (tyX11 k) = true := by decide +kernel
theorem mm_ctk_12 : ∀ k, k < 4 → mm_tkb (tyJ4 k) = true := by decide +kernel
theorem mm_ctk {c : Nat} {r : vw_C} (h : mm_cl[c]? = some r) : ∀ k, k < r.2.2 → mm_tk (mm_fty c k) := by
  match c, h with
  | 0, h => cases h; exact fun k hk => mm_tk_of (mm_ctk_0 k hk)
  | 1, h => cases h; exact fun k hk => mm_tk_of (mm_ctk_1 k hk)
  | 2, h => cases h; exact fun k hk => mm_tk_of (mm_ctk_2 k hk)
  | 3, h => cases h; exact fun k hk => mm_tk_of (mm_ctk_3 k hk)
  | 4, h => cases h; exact fun k hk => mm_tk_of (mm_ctk_4 k hk)
  | 5, h => cases h; exact fun k hk => mm_tk_of (mm_ctk_5 k hk)
  | 6, h => cases h; exact fun k hk => mm_tk_of (mm_ctk_6 k hk)
  | 7, h => cases h; exact fun k hk => mm_tk_of (mm_ctk_7 k hk)
  | 8, h => cases h; exact fun k hk => mm_tk_of (mm_ctk_8 k hk)
  | 9, h => cases h; exact fun k hk => mm_tk_of (mm_ctk_9 k hk)
  | 10, h => cases h; exact fun k hk => mm_tk_of (mm_ctk_10 k hk)
  | 11, h => cases h; exact fun k hk => mm_tk_of (mm_ctk_11 k hk)
  | 12, h => cases h; exact fun k hk => mm_tk_of (mm_ctk_12 k hk)
  | n + 13, h => simp [mm_cl] at h
theorem mm_dflt {Z : MZ} {c k : Nat} (h : mm_tk (mm_fty c k)) : defaultValue (mm_fty c k) = mm_hv Z (mm_ft c k) 0 := by
  unfold mm_ft
  rcases h with h | h | h | ⟨n, h⟩ | ⟨t, h⟩ <;> rw [h] <;> rfl
theorem mm_dran {G : MG} {c k : Nat} (h : mm_tk (mm_fty c k)) (hG : 10 ≤ G.2.1) : mm_ran G (mm_ft c k) 0 := by
  unfold mm_ft
  have h2 : mm_ran G 2 0 := ⟨Int.le_refl 0, by omega⟩
  have h0 : mm_ran G 0 0 := ⟨by omega, by omega⟩
  have h1 : mm_ran G 1 0 := Or.inl rfl
  have h3 : mm_ran G 3 0 := ⟨by omega, by omega⟩
  rcases h with h | h | h | ⟨n, h⟩ | ⟨t, h⟩ <;> rw [h] <;> assumption
