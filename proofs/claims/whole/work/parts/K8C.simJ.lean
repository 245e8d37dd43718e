theorem mm_cal_invS {st : List MV} {G : MG} {y n z : Nat} {as rest : List MV} (h : mm_cal [0, (y : Int), (n : Int), 0] st G = some (z, as, rest)) : n ≤ st.length ∧ mm_cats (st.drop n) ≤ 8 ∧ y = z ∧ (st.take n).reverse = as ∧ st.drop n = rest := by
  unfold mm_cal at h
  have e1 : ([0, (y : Int), (n : Int), 0] : List Int).getD 2 0 = (n : Int) := rfl
  have e2 : ([0, (y : Int), (n : Int), 0] : List Int).getD 1 0 = (y : Int) := rfl
  have e3 : ([0, (y : Int), (n : Int), 0] : List Int).getD 0 0 = 0 := rfl
  rw [e1, e2, e3, Int.toNat_natCast, Int.toNat_natCast] at h
  split at h
  · cases h
  · rename_i hlen
    rw [if_pos rfl] at h
    split at h
    · rename_i hc; cases h; exact ⟨by omega, hc, rfl, rfl, rfl⟩
    · cases h
theorem mm_cal_invV {st : List MV} {G : MG} {y n c z : Nat} {as rest : List MV} (h : mm_cal [1, (y : Int), (n : Int), (c : Int)] st G = some (z, as, rest)) : ∃ a, st.drop n = vR a :: rest ∧ gk G a = (c : Int) ∧ mm_cats rest ≤ 8 ∧ y = z ∧ vR a :: (st.take n).reverse = as := by
  unfold mm_cal at h
  have e1 : ([1, (y : Int), (n : Int), (c : Int)] : List Int).getD 2 0 = (n : Int) := rfl
  have e2 : ([1, (y : Int), (n : Int), (c : Int)] : List Int).getD 1 0 = (y : Int) := rfl
  have e3 : ([1, (y : Int), (n : Int), (c : Int)] : List Int).getD 0 0 = 1 := rfl
  have e4 : ([1, (y : Int), (n : Int), (c : Int)] : List Int).getD 3 0 = (c : Int) := rfl
  rw [e1, e2, e3, e4, Int.toNat_natCast, Int.toNat_natCast] at h
  split at h
  · cases h
  · rw [if_neg (by omega)] at h
    split at h
    · rename_i a q hdr
      split at h
      · rename_i hc; cases h; exact ⟨a, hdr, hc.1, hc.2.2, rfl, rfl⟩
      · cases h
    · cases h
section SIMJ
variable {Z : MZ} {D : va_G} {l : Launch}
theorem mm_ret_ok {m pc : Nat} {ins : Instr} {xs : List Int} {nx : Nat} {ls : ML} {st : List MV} {μ : MM} {G : MG} {v : Option MV} (hdec : mm_dec m pc ins nx) (hlk : mm_lk (mm_own m) m pc 2 ins xs) (h : mm_ret ins xs st = some v) : mm_W Z D l m pc ls st μ G (v, μ, G) := by
  intro p e R s mi args below meth c H locs cells slots Q rl C0 S0 hC hH hL hS hl hc hs hR1 hR2 hQ
  unfold mm_ret at h
  split at h
  · rename_i x
    obtain ⟨hd, -⟩ := hdec.get (by simp [mm_len])
    have hx : -2147483648 ≤ x ∧ x < 2147483648 := hS.hd
    have hfin : v = some (vI x) ∧ ∃ ty, mm_rt m = some ty ∧ narrow ty (.int (Int32.ofInt x)) = .int (Int32.ofInt x) := by
      rcases hlk.2 with ⟨rfl, h1⟩ | ⟨rfl, h1⟩ | ⟨rfl, h1⟩
      · simp at h; exact ⟨h.symm, _, h1, rfl⟩
      · simp at h
        obtain ⟨h2, h3⟩ := h
        refine ⟨h3.symm, _, h1, ?_⟩
        have h2 : x = 0 ∨ x = 1 := by omega
        rcases h2 with rfl | rfl
        · decide +kernel
        · decide +kernel
      · simp at h
        obtain ⟨h2, h3⟩ := h
        refine ⟨h3.symm, _, h1, ?_⟩
        have h4 : 0 ≤ x ∧ x < 65536 := by omega
        show Value.int _ = _
        congr 1
        exact lg_i2c_small (by rw [mm_ti hx]; exact h4.1) (by rw [mm_ti hx]; exact h4.2)
    obtain ⟨rfl, hty⟩ := hfin
    exact hQ H locs cells slots pc rl hH hl hc hs (fun w hw => by cases hw; exact hS.hd) ⟨hd, hty⟩
  · cases h
    obtain ⟨hd, -⟩ := hdec.get (by simp [mm_len])
    exact hQ H locs cells slots pc rl hH hl hc hs (fun w hw => by cases hw; exact hS.hd) ⟨hd, hlk.2⟩
  · cases h
    obtain ⟨hd, -⟩ := hdec.get (by simp [mm_len])
    exact hQ H locs cells slots pc rl hH hl hc hs (fun w hw => by cases hw; exact hS.hd) ⟨hd, hlk.2⟩
  · cases h
    obtain ⟨hd, -⟩ := hdec.get (by simp [mm_len])
    exact hQ H locs cells slots pc rl hH hl hc hs (fun w hw => by cases hw) ⟨hd, hlk.2⟩
  · cases h
theorem mm_sim (hLk : ∀ (m pc : Nat) (e : ME), mm_prog m pc = some e → mm_Lk m (pc, e)) : ∀ (n m pc : Nat) (ls : ML) (st : List MV) (μ : MM) (G : MG) (r : MR), mm_run n m pc ls st μ G = some r → (G.2.1 ≤ r.2.2.2.1 ∧ G.2.2 ≤ r.2.2.2.2) ∧ mm_W Z D l m pc ls st μ G r := by
  intro n
  induction n with
  | zero => intro m pc ls st μ G r h; simp [mm_run] at h
  | succ n ih =>
    intro m pc ls st μ G r h
    rw [mm_run] at h
    cases hp : mm_prog m pc with
    | none => rw [hp] at h; cases h
    | some q =>
      obtain ⟨kd, ins, nx, xs⟩ := q
      obtain ⟨hdec, ⟨own, ho, hlk⟩, hkd⟩ := hLk m pc _ hp
      subst ho
      rw [hp] at h
      dsimp only at h hdec hlk hkd
      by_cases h2 : kd = 2
      · subst h2
        rw [if_pos rfl] at h
        obtain ⟨v, hv, rfl⟩ := Option.map_eq_some_iff.mp h
        exact ⟨⟨Int.le_refl _, Int.le_refl _⟩, mm_ret_ok hdec hlk hv⟩
      · rw [if_neg h2] at h
        by_cases h1 : kd = 1
        · subst h1
          rw [if_pos rfl] at h
          have hisI : mm_isI ins = true := by
            rcases hkd with h | h | h
            · omega
            · exact h.2
            · omega
          cases hcal : mm_cal xs st G with
          | none => rw [hcal] at h; cases h
          | some q2 =>
            obtain ⟨z, as, rest⟩ := q2
            rw [hcal] at h
            dsimp only at h
            by_cases hle : (mm_lay as).length ≤ mm_max z
            · rw [if_pos hle] at h
              cases hrun : mm_run n z 0 (mm_pad (mm_max z) as) [] μ G with
              | none => rw [hrun] at h; cases h
              | some r1 =>
                rw [hrun] at h
                obtain ⟨hm1, hW1⟩ := ih _ _ _ _ _ _ _ hrun
                obtain ⟨hm2, hW2⟩ := ih _ _ _ _ _ _ _ (show mm_run n m nx ls (r1.1.toList ++ rest) r1.2.1 r1.2.2 = some r from h)
                refine ⟨⟨Int.le_trans hm1.1 hm2.1, Int.le_trans hm1.2 hm2.2⟩, ?_⟩
                obtain ⟨hd, rfl⟩ := hdec.get (by cases ins <;> first | (simp [mm_len]; done) | (simp [mm_isI] at hisI))
                cases ins
                case invokestatic idx =>
                  rcases hlk with ⟨h0, -⟩ | ⟨h0, -⟩ | ⟨h0, -⟩ | ⟨h0, -⟩ | ⟨-, y, n, rfl, g1, g2, g3, g4⟩
                  · omega
                  · omega
                  · omega
                  · omega
                  · obtain ⟨a1, a2, rfl, rfl, rfl⟩ := mm_cal_invS hcal
                    exact mm_w_callS hd g1 g2 g3 g4 a1 a2 hle hm1 hm2 hW1 hW2
                case invokevirtual idx =>
                  obtain ⟨-, y, n, c, rr, rfl, g0, g1, g2, g3, g4, g5⟩ := hlk
                  obtain ⟨a, a1, a2, a3, rfl, rfl⟩ := mm_cal_invV hcal
                  exact mm_w_callV hd g0 g1 g2 g3 g4 g5 a1 a2 a3 hle hm1 hm2 hW1 hW2
                case invokespecial idx =>
                  rcases hlk with ⟨h0, -⟩ | ⟨-, y, n, c, rr, rfl, g0, g1, g2, g3, g4⟩
                  · omega
                  · obtain ⟨a, a1, a2, a3, rfl, rfl⟩ := mm_cal_invV hcal
                    exact mm_w_callI hd g0 g1 g2 g3 g4 a1 a2 a3 hle hm1 hm2 hW1 hW2
                all_goals (simp [mm_isI] at hisI)
            · rw [if_neg hle] at h; cases h
        · rw [if_neg h1] at h
          have h0 : kd = 0 := by
            rcases hkd with h | h | h
            · exact h
            · exact absurd h.1 h1
            · exact absurd h h2
          subst h0
          cases hs : mm_stp ins pc nx xs ls st μ G with
          | none => rw [hs] at h; cases h
          | some q2 =>
            obtain ⟨pc', ls', st', μ', G'⟩ := q2
            rw [hs] at h
            obtain ⟨hm, hgo⟩ := mm_step_ok (Z := Z) (D := D) (l := l) hdec hlk hs
            obtain ⟨hm2, hW2⟩ := ih _ _ _ _ _ _ _ h
            exact ⟨⟨Int.le_trans hm.1 hm2.1, Int.le_trans hm.2 hm2.2⟩, hgo r hm2 hW2⟩
end SIMJ
