/-! what each step's success says -/
section INV
variable {i nx pc' : Nat} {ls ls' : ML} {st st' : List MV} {μ μ' : MM} {G G' : MG} {f : Int → Int → Int} {g : Int → Int} {kd c k ty : Int}
theorem mm_ldI_inv (h : mm_ldI i nx ls st μ G = some (pc', ls', st', μ', G')) : ∃ x, ls[i]? = some (some (vI x)) ∧ nx = pc' ∧ ls = ls' ∧ vI x :: st = st' ∧ μ = μ' ∧ G = G' := by
  unfold mm_ldI at h
  split at h
  · rename_i x hx; cases h; exact ⟨x, hx, rfl, rfl, rfl, rfl, rfl⟩
  · cases h
theorem mm_ldL_inv (h : mm_ldL i nx ls st μ G = some (pc', ls', st', μ', G')) : ∃ x, ls[i]? = some (some (vL x)) ∧ nx = pc' ∧ ls = ls' ∧ vL x :: st = st' ∧ μ = μ' ∧ G = G' := by
  unfold mm_ldL at h
  split at h
  · rename_i x hx; cases h; exact ⟨x, hx, rfl, rfl, rfl, rfl, rfl⟩
  · cases h
theorem mm_ldR_inv (h : mm_ldR i nx ls st μ G = some (pc', ls', st', μ', G')) : ∃ x, ls[i]? = some (some (vR x)) ∧ nx = pc' ∧ ls = ls' ∧ vR x :: st = st' ∧ μ = μ' ∧ G = G' := by
  unfold mm_ldR at h
  split at h
  · rename_i x hx; cases h; exact ⟨x, hx, rfl, rfl, rfl, rfl, rfl⟩
  · cases h
theorem mm_stI_inv (h : mm_stI i nx ls st μ G = some (pc', ls', st', μ', G')) : ∃ x r, st = vI x :: r ∧ (mm_nl ls i = true ∧ i < ls.length) ∧ nx = pc' ∧ ls.set i (some (vI x)) = ls' ∧ r = st' ∧ μ = μ' ∧ G = G' := by
  unfold mm_stI at h
  split at h
  · rename_i x r
    split at h
    · rename_i hc; cases h; exact ⟨x, _, rfl, hc, rfl, rfl, rfl, rfl, rfl⟩
    · cases h
  · cases h
theorem mm_stR_inv (h : mm_stR i nx ls st μ G = some (pc', ls', st', μ', G')) : ∃ x r, st = vR x :: r ∧ (mm_nl ls i = true ∧ i < ls.length) ∧ nx = pc' ∧ ls.set i (some (vR x)) = ls' ∧ r = st' ∧ μ = μ' ∧ G = G' := by
  unfold mm_stR at h
  split at h
  · rename_i x r
    split at h
    · rename_i hc; cases h; exact ⟨x, _, rfl, hc, rfl, rfl, rfl, rfl, rfl⟩
    · cases h
  · cases h
theorem mm_stL_inv (h : mm_stL i nx ls st μ G = some (pc', ls', st', μ', G')) : ∃ x r, st = vL x :: r ∧ (mm_nl ls i = true ∧ i + 1 < ls.length) ∧ nx = pc' ∧ (ls.set i (some (vL x))).set (i + 1) none = ls' ∧ r = st' ∧ μ = μ' ∧ G = G' := by
  unfold mm_stL at h
  split at h
  · rename_i x r
    split at h
    · rename_i hc; cases h; exact ⟨x, _, rfl, hc, rfl, rfl, rfl, rfl, rfl⟩
    · cases h
  · cases h
theorem mm_bin_inv (h : mm_bin f nx ls st μ G = some (pc', ls', st', μ', G')) : ∃ a b r, st = vI b :: vI a :: r ∧ nx = pc' ∧ ls = ls' ∧ vI (f a b) :: r = st' ∧ μ = μ' ∧ G = G' := by
  unfold mm_bin at h
  split at h
  · cases h; exact ⟨_, _, _, rfl, rfl, rfl, rfl, rfl, rfl⟩
  · cases h
theorem mm_dvd_inv (h : mm_dvd f nx ls st μ G = some (pc', ls', st', μ', G')) : ∃ a b r, st = vI b :: vI a :: r ∧ ¬ b = 0 ∧ nx = pc' ∧ ls = ls' ∧ vI (f a b) :: r = st' ∧ μ = μ' ∧ G = G' := by
  unfold mm_dvd at h
  split at h
  · split at h
    · cases h
    · rename_i hb; cases h; exact ⟨_, _, _, rfl, hb, rfl, rfl, rfl, rfl, rfl⟩
  · cases h
theorem mm_lbin_inv (h : mm_lbin f nx ls st μ G = some (pc', ls', st', μ', G')) : ∃ a b r, st = vL b :: vL a :: r ∧ nx = pc' ∧ ls = ls' ∧ vL (f a b) :: r = st' ∧ μ = μ' ∧ G = G' := by
  unfold mm_lbin at h
  split at h
  · cases h; exact ⟨_, _, _, rfl, rfl, rfl, rfl, rfl, rfl⟩
  · cases h
theorem mm_ldvd_inv (h : mm_ldvd nx ls st μ G = some (pc', ls', st', μ', G')) : ∃ a b r, st = vL b :: vL a :: r ∧ ¬ b = 0 ∧ nx = pc' ∧ ls = ls' ∧ vL (mm_ldiv a b) :: r = st' ∧ μ = μ' ∧ G = G' := by
  unfold mm_ldvd at h
  split at h
  · split at h
    · cases h
    · rename_i hb; cases h; exact ⟨_, _, _, rfl, hb, rfl, rfl, rfl, rfl, rfl⟩
  · cases h
theorem mm_una_inv (h : mm_una g nx ls st μ G = some (pc', ls', st', μ', G')) : ∃ a r, st = vI a :: r ∧ nx = pc' ∧ ls = ls' ∧ vI (g a) :: r = st' ∧ μ = μ' ∧ G = G' := by
  unfold mm_una at h
  split at h
  · cases h; exact ⟨_, _, rfl, rfl, rfl, rfl, rfl, rfl⟩
  · cases h
theorem mm_getf_inv (h : mm_getf c k ty nx ls st μ G = some (pc', ls', st', μ', G')) : ∃ a r, st = vR a :: r ∧ gk G a = c ∧ nx = pc' ∧ ls = ls' ∧ (if ty = 2 then Sum.inr (Sum.inr (μ a k)) else Sum.inl (μ a k)) :: r = st' ∧ μ = μ' ∧ G = G' := by
  unfold mm_getf at h
  split at h
  · split at h
    · rename_i hc; cases h; exact ⟨_, _, rfl, hc, rfl, rfl, rfl, rfl, rfl⟩
    · cases h
  · cases h
theorem mm_putI_inv (h : mm_putI c k ty nx ls st μ G = some (pc', ls', st', μ', G')) : (∃ x a r, st = vI x :: vR a :: r ∧ (¬ ty = 2 ∧ gk G a = c ∧ mm_fits ty x = true) ∧ nx = pc' ∧ ls = ls' ∧ r = st' ∧ mset μ a k x = μ' ∧ G = G') ∨ (∃ x a r, st = vR x :: vR a :: r ∧ (ty = 2 ∧ gk G a = c) ∧ nx = pc' ∧ ls = ls' ∧ r = st' ∧ mset μ a k x = μ' ∧ G = G') := by
  unfold mm_putI at h
  split at h
  · split at h
    · rename_i hc; cases h; exact Or.inl ⟨_, _, _, rfl, hc, rfl, rfl, rfl, rfl, rfl⟩
    · cases h
  · split at h
    · rename_i hc; cases h; exact Or.inr ⟨_, _, _, rfl, hc, rfl, rfl, rfl, rfl, rfl⟩
    · cases h
  · cases h
theorem mm_ald_inv (h : mm_ald kd nx ls st μ G = some (pc', ls', st', μ', G')) : ∃ i a r, st = vI i :: vR a :: r ∧ (gk G a = kd ∧ 0 ≤ i ∧ i < gl G a) ∧ nx = pc' ∧ ls = ls' ∧ vI (μ a i) :: r = st' ∧ μ = μ' ∧ G = G' := by
  unfold mm_ald at h
  split at h
  · split at h
    · rename_i hc; cases h; exact ⟨_, _, _, rfl, hc, rfl, rfl, rfl, rfl, rfl⟩
    · cases h
  · cases h
theorem mm_aldR_inv (h : mm_aldR kd nx ls st μ G = some (pc', ls', st', μ', G')) : ∃ i a r, st = vI i :: vR a :: r ∧ (gk G a = kd ∧ 0 ≤ i ∧ i < gl G a) ∧ nx = pc' ∧ ls = ls' ∧ vR (μ a i) :: r = st' ∧ μ = μ' ∧ G = G' := by
  unfold mm_aldR at h
  split at h
  · split at h
    · rename_i hc; cases h; exact ⟨_, _, _, rfl, hc, rfl, rfl, rfl, rfl, rfl⟩
    · cases h
  · cases h
theorem mm_ast_inv (h : mm_ast kd g nx ls st μ G = some (pc', ls', st', μ', G')) : ∃ x i a r, st = vI x :: vI i :: vR a :: r ∧ (gk G a = kd ∧ 0 ≤ i ∧ i < gl G a ∧ 10 ≤ a) ∧ nx = pc' ∧ ls = ls' ∧ r = st' ∧ mset μ a i (g x) = μ' ∧ G = G' := by
  unfold mm_ast at h
  split at h
  · split at h
    · rename_i hc; cases h; exact ⟨_, _, _, _, rfl, hc, rfl, rfl, rfl, rfl, rfl⟩
    · cases h
  · cases h
theorem mm_astR_inv (h : mm_astR kd c nx ls st μ G = some (pc', ls', st', μ', G')) : ∃ x i a r, st = vR x :: vI i :: vR a :: r ∧ (gk G a = kd ∧ 0 ≤ i ∧ i < gl G a ∧ 10 ≤ a ∧ gk G x = c ∧ 0 < x) ∧ nx = pc' ∧ ls = ls' ∧ r = st' ∧ mset μ a i x = μ' ∧ G = G' := by
  unfold mm_astR at h
  split at h
  · split at h
    · rename_i hc; cases h; exact ⟨_, _, _, _, rfl, hc, rfl, rfl, rfl, rfl, rfl⟩
    · cases h
  · cases h
theorem mm_alen_inv (h : mm_alen nx ls st μ G = some (pc', ls', st', μ', G')) : ∃ a r, st = vR a :: r ∧ 100 ≤ gk G a ∧ nx = pc' ∧ ls = ls' ∧ vI (gl G a) :: r = st' ∧ μ = μ' ∧ G = G' := by
  unfold mm_alen at h
  split at h
  · split at h
    · rename_i hc; cases h; exact ⟨_, _, rfl, hc, rfl, rfl, rfl, rfl, rfl⟩
    · cases h
  · cases h
theorem mm_newa_inv (h : mm_newa kd nx ls st μ G = some (pc', ls', st', μ', G')) : ∃ n r, st = vI n :: r ∧ (0 ≤ n ∧ n ≤ 100000) ∧ nx = pc' ∧ ls = ls' ∧ vR G.2.1 :: r = st' ∧ mzero μ G.2.1 = μ' ∧ gnew G kd n n = G' := by
  unfold mm_newa at h
  split at h
  · split at h
    · rename_i hc; cases h; exact ⟨_, _, rfl, hc, rfl, rfl, rfl, rfl, rfl⟩
    · cases h
  · cases h
theorem mm_acpy_inv (h : mm_acpy nx ls st μ G = some (pc', ls', st', μ', G')) : ∃ n j b i a r, st = vI n :: vI j :: vR b :: vI i :: vR a :: r ∧ (gk G a = 100 ∧ gk G b = 100 ∧ ¬ a = b ∧ 10 ≤ b ∧ 0 ≤ n ∧ 0 ≤ i ∧ 0 ≤ j ∧ i + n ≤ gl G a ∧ j + n ≤ gl G b ∧ mm_cats r ≤ 8) ∧ nx = pc' ∧ ls = ls' ∧ r = st' ∧ mcopy μ b j n (fun q => μ a (i + q)) = μ' ∧ G = G' := by
  unfold mm_acpy at h
  split at h
  · split at h
    · rename_i hc; cases h; exact ⟨_, _, _, _, _, _, rfl, hc, rfl, rfl, rfl, rfl, rfl⟩
    · cases h
  · cases h
theorem mm_bin2_inv (h : mm_bin2 f nx ls st μ G = some (pc', ls', st', μ', G')) : ∃ a b r, st = vI b :: vI a :: r ∧ mm_cats r ≤ 8 ∧ nx = pc' ∧ ls = ls' ∧ vI (f a b) :: r = st' ∧ μ = μ' ∧ G = G' := by
  unfold mm_bin2 at h
  split at h
  · split at h
    · rename_i hc; cases h; exact ⟨_, _, _, rfl, hc, rfl, rfl, rfl, rfl, rfl⟩
    · cases h
  · cases h
theorem mm_lmin_inv (h : mm_lmin nx ls st μ G = some (pc', ls', st', μ', G')) : ∃ a b r, st = vL b :: vL a :: r ∧ mm_cats r ≤ 8 ∧ nx = pc' ∧ ls = ls' ∧ vL (min a b) :: r = st' ∧ μ = μ' ∧ G = G' := by
  unfold mm_lmin at h
  split at h
  · split at h
    · rename_i hc; cases h; exact ⟨_, _, _, rfl, hc, rfl, rfl, rfl, rfl, rfl⟩
    · cases h
  · cases h
end INV
theorem mm_dec.get {m pc nx : Nat} {ins : Instr} (h : mm_dec m pc ins nx) (hn : mm_len ins ≠ 0) : decode (mm_code m) pc = .ok (ins, mm_len ins) ∧ pc + mm_len ins = nx := by
  obtain ⟨len, h1, h2, h3⟩ := h
  rcases h3 with h3 | h3
  · rw [h3]; exact ⟨h1, h2.symm⟩
  · exact absurd h3 hn
section SIMH
variable {Z : MZ} {D : va_G} {l : Launch} {m pc pc' nx y n : Nat} {ls ls' : ML} {st st' : List MV} {μ μ' : MM} {G G' : MG} {r r1 : MR}
def mm_S (Z : MZ) (D : va_G) (l : Launch) (m pc : Nat) (ls : ML) (st : List MV) (μ : MM) (G : MG) (pc' : Nat) (ls' : ML) (st' : List MV) (μ' : MM) (G' : MG) : Prop :=
  (G.2.1 ≤ G'.2.1 ∧ G.2.2 ≤ G'.2.2) ∧ ∀ r : MR, (G'.2.1 ≤ r.2.2.2.1 ∧ G'.2.2 ≤ r.2.2.2.2) → mm_W Z D l m pc' ls' st' μ' G' r → mm_W Z D l m pc ls st μ G r
theorem mm_S.ofK (hk : mm_K Z D l m pc ls st pc' ls' st' μ G) : mm_S Z D l m pc ls st μ G pc' ls' st' μ G := ⟨⟨Int.le_refl _, Int.le_refl _⟩, fun _ _ h => hk.go h⟩
theorem mm_S.ofKH (hk : mm_KH Z D l m pc ls st pc' st' μ μ' G) : mm_S Z D l m pc ls st μ G pc' ls st' μ' G := ⟨⟨Int.le_refl _, Int.le_refl _⟩, fun _ _ h => hk.go h⟩
end SIMH
