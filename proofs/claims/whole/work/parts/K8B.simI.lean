theorem mm_ran_of {G : MG} {ty x : Int} (h2 : ¬ ty = 2) (hf : mm_fits ty x = true) (ho : mm_ok G (vI x)) : mm_ran G ty x := by
  unfold mm_ran
  rw [if_neg h2]
  unfold mm_fits at hf
  split
  · rename_i h1; rw [if_pos h1] at hf; simpa using hf
  · rename_i h1
    rw [if_neg h1] at hf
    split
    · rename_i h3; rw [if_pos h3] at hf; simpa using hf
    · exact ho
section SIMI
variable {Z : MZ} {D : va_G} {l : Launch} {m pc pc' nx y n : Nat} {ls ls' : ML} {st st' : List MV} {μ μ' : MM} {G G' : MG} {r r1 : MR}
set_option maxHeartbeats 4000000 in
theorem mm_step_ok {ins : Instr} {xs : List Int} (hdec : mm_dec m pc ins nx) (hlk : mm_lk (mm_own m) m pc 0 ins xs) (hs : mm_stp ins pc nx xs ls st μ G = some (pc', ls', st', μ', G')) : mm_S Z D l m pc ls st μ G pc' ls' st' μ' G' := by
  cases ins
  case iconst n =>
    obtain ⟨hd, rfl⟩ := hdec.get (by simp [mm_len])
    cases hs
    exact .ofK (mm_k_iconst hd hlk)
  case bipush n =>
    obtain ⟨hd, rfl⟩ := hdec.get (by simp [mm_len])
    cases hs
    exact .ofK (mm_k_bipush hd hlk.1 hlk.2)
  case sipush n =>
    obtain ⟨hd, rfl⟩ := hdec.get (by simp [mm_len])
    cases hs
    exact .ofK (mm_k_sipush hd hlk.1 hlk.2)
  case ldc i =>
    obtain ⟨hd, rfl⟩ := hdec.get (by simp [mm_len])
    obtain ⟨n, rfl, h1, h2⟩ := hlk
    cases hs
    exact .ofK (mm_k_ldc hd h1 h2)
  case ldc_w i =>
    obtain ⟨hd, rfl⟩ := hdec.get (by simp [mm_len])
    obtain ⟨n, rfl, h1, h2⟩ := hlk
    cases hs
    exact .ofK (mm_k_ldcw hd h1 h2)
  case ldc2_w i =>
    obtain ⟨hd, rfl⟩ := hdec.get (by simp [mm_len])
    obtain ⟨n, rfl, h1, h2⟩ := hlk
    cases hs
    exact .ofK (mm_k_ldc2 hd h1 h2)
  case lconst n =>
    obtain ⟨hd, rfl⟩ := hdec.get (by simp [mm_len])
    cases hs
    exact .ofK (mm_k_lconst hd)
  case aconst_null =>
    obtain ⟨hd, rfl⟩ := hdec.get (by simp [mm_len])
    cases hs
    exact .ofK (mm_k_null hd)
  case iload i =>
    obtain ⟨hd, rfl⟩ := hdec.get (by simp [mm_len])
    obtain ⟨x, hx, rfl, rfl, rfl, rfl, rfl⟩ := mm_ldI_inv hs
    exact .ofK (mm_k_iload hd hx)
  case istore i =>
    obtain ⟨hd, rfl⟩ := hdec.get (by simp [mm_len])
    obtain ⟨x, q, rfl, hc, rfl, rfl, rfl, rfl, rfl⟩ := mm_stI_inv hs
    exact .ofK (mm_k_istore hd hc.1 hc.2)
  case iload_n i =>
    obtain ⟨hd, rfl⟩ := hdec.get (by simp [mm_len])
    obtain ⟨x, hx, rfl, rfl, rfl, rfl, rfl⟩ := mm_ldI_inv hs
    exact .ofK (mm_k_iload_n hd hx)
  case istore_n i =>
    obtain ⟨hd, rfl⟩ := hdec.get (by simp [mm_len])
    obtain ⟨x, q, rfl, hc, rfl, rfl, rfl, rfl, rfl⟩ := mm_stI_inv hs
    exact .ofK (mm_k_istore_n hd hc.1 hc.2)
  case lload i =>
    obtain ⟨hd, rfl⟩ := hdec.get (by simp [mm_len])
    obtain ⟨x, hx, rfl, rfl, rfl, rfl, rfl⟩ := mm_ldL_inv hs
    exact .ofK (mm_k_lload hd hx)
  case lstore i =>
    obtain ⟨hd, rfl⟩ := hdec.get (by simp [mm_len])
    obtain ⟨x, q, rfl, hc, rfl, rfl, rfl, rfl, rfl⟩ := mm_stL_inv hs
    exact .ofK (mm_k_lstore hd hc.1 hc.2)
  case lload_n i =>
    obtain ⟨hd, rfl⟩ := hdec.get (by simp [mm_len])
    obtain ⟨x, hx, rfl, rfl, rfl, rfl, rfl⟩ := mm_ldL_inv hs
    exact .ofK (mm_k_lload_n hd hx)
  case lstore_n i =>
    obtain ⟨hd, rfl⟩ := hdec.get (by simp [mm_len])
    obtain ⟨x, q, rfl, hc, rfl, rfl, rfl, rfl, rfl⟩ := mm_stL_inv hs
    exact .ofK (mm_k_lstore_n hd hc.1 hc.2)
  case aload i =>
    obtain ⟨hd, rfl⟩ := hdec.get (by simp [mm_len])
    obtain ⟨x, hx, rfl, rfl, rfl, rfl, rfl⟩ := mm_ldR_inv hs
    exact .ofK (mm_k_aload hd hx)
  case astore i =>
    obtain ⟨hd, rfl⟩ := hdec.get (by simp [mm_len])
    obtain ⟨x, q, rfl, hc, rfl, rfl, rfl, rfl, rfl⟩ := mm_stR_inv hs
    exact .ofK (mm_k_astore hd hc.1 hc.2)
  case aload_n i =>
    obtain ⟨hd, rfl⟩ := hdec.get (by simp [mm_len])
    obtain ⟨x, hx, rfl, rfl, rfl, rfl, rfl⟩ := mm_ldR_inv hs
    exact .ofK (mm_k_aload_n hd hx)
  case astore_n i =>
    obtain ⟨hd, rfl⟩ := hdec.get (by simp [mm_len])
    obtain ⟨x, q, rfl, hc, rfl, rfl, rfl, rfl, rfl⟩ := mm_stR_inv hs
    exact .ofK (mm_k_astore_n hd hc.1 hc.2)
  case iinc i n =>
    obtain ⟨hd, rfl⟩ := hdec.get (by simp [mm_len])
    simp only [mm_stp] at hs
    split at hs
    · rename_i x hx
      split at hs
      · rename_i hc; cases hs; exact .ofK (mm_k_iinc hd hx hc.1 hc.2)
      · cases hs
    · cases hs
  case iadd =>
    obtain ⟨hd, rfl⟩ := hdec.get (by simp [mm_len])
    obtain ⟨a, b, q, rfl, rfl, rfl, rfl, rfl, rfl⟩ := mm_bin_inv hs
    exact .ofK (mm_k_iadd hd)
  case isub =>
    obtain ⟨hd, rfl⟩ := hdec.get (by simp [mm_len])
    obtain ⟨a, b, q, rfl, rfl, rfl, rfl, rfl, rfl⟩ := mm_bin_inv hs
    exact .ofK (mm_k_isub hd)
  case imul =>
    obtain ⟨hd, rfl⟩ := hdec.get (by simp [mm_len])
    obtain ⟨a, b, q, rfl, rfl, rfl, rfl, rfl, rfl⟩ := mm_bin_inv hs
    exact .ofK (mm_k_imul hd)
  case iand =>
    obtain ⟨hd, rfl⟩ := hdec.get (by simp [mm_len])
    obtain ⟨a, b, q, rfl, rfl, rfl, rfl, rfl, rfl⟩ := mm_bin_inv hs
    exact .ofK (mm_k_iand hd)
  case ior =>
    obtain ⟨hd, rfl⟩ := hdec.get (by simp [mm_len])
    obtain ⟨a, b, q, rfl, rfl, rfl, rfl, rfl, rfl⟩ := mm_bin_inv hs
    exact .ofK (mm_k_ior hd)
  case ixor =>
    obtain ⟨hd, rfl⟩ := hdec.get (by simp [mm_len])
    obtain ⟨a, b, q, rfl, rfl, rfl, rfl, rfl, rfl⟩ := mm_bin_inv hs
    exact .ofK (mm_k_ixor hd)
  case ishl =>
    obtain ⟨hd, rfl⟩ := hdec.get (by simp [mm_len])
    obtain ⟨a, b, q, rfl, rfl, rfl, rfl, rfl, rfl⟩ := mm_bin_inv hs
    exact .ofK (mm_k_ishl hd)
  case ishr =>
    obtain ⟨hd, rfl⟩ := hdec.get (by simp [mm_len])
    obtain ⟨a, b, q, rfl, rfl, rfl, rfl, rfl, rfl⟩ := mm_bin_inv hs
    exact .ofK (mm_k_ishr hd)
  case idiv =>
    obtain ⟨hd, rfl⟩ := hdec.get (by simp [mm_len])
    obtain ⟨a, b, q, rfl, hb, rfl, rfl, rfl, rfl, rfl⟩ := mm_dvd_inv hs
    exact .ofK (mm_k_idiv hd hb)
  case irem =>
    obtain ⟨hd, rfl⟩ := hdec.get (by simp [mm_len])
    obtain ⟨a, b, q, rfl, hb, rfl, rfl, rfl, rfl, rfl⟩ := mm_dvd_inv hs
    exact .ofK (mm_k_irem hd hb)
  case ineg =>
    obtain ⟨hd, rfl⟩ := hdec.get (by simp [mm_len])
    obtain ⟨a, q, rfl, rfl, rfl, rfl, rfl, rfl⟩ := mm_una_inv hs
    exact .ofK (mm_k_ineg hd)
  case i2b =>
    obtain ⟨hd, rfl⟩ := hdec.get (by simp [mm_len])
    obtain ⟨a, q, rfl, rfl, rfl, rfl, rfl, rfl⟩ := mm_una_inv hs
    exact .ofK (mm_k_i2b hd)
  case i2c =>
    obtain ⟨hd, rfl⟩ := hdec.get (by simp [mm_len])
    obtain ⟨a, q, rfl, rfl, rfl, rfl, rfl, rfl⟩ := mm_una_inv hs
    exact .ofK (mm_k_i2c hd)
  case ladd =>
    obtain ⟨hd, rfl⟩ := hdec.get (by simp [mm_len])
    obtain ⟨a, b, q, rfl, rfl, rfl, rfl, rfl, rfl⟩ := mm_lbin_inv hs
    exact .ofK (mm_k_ladd hd)
  case lsub =>
    obtain ⟨hd, rfl⟩ := hdec.get (by simp [mm_len])
    obtain ⟨a, b, q, rfl, rfl, rfl, rfl, rfl, rfl⟩ := mm_lbin_inv hs
    exact .ofK (mm_k_lsub hd)
  case lmul =>
    obtain ⟨hd, rfl⟩ := hdec.get (by simp [mm_len])
    obtain ⟨a, b, q, rfl, rfl, rfl, rfl, rfl, rfl⟩ := mm_lbin_inv hs
    exact .ofK (mm_k_lmul hd)
  case ldiv =>
    obtain ⟨hd, rfl⟩ := hdec.get (by simp [mm_len])
    obtain ⟨a, b, q, rfl, hb, rfl, rfl, rfl, rfl, rfl⟩ := mm_ldvd_inv hs
    exact .ofK (mm_k_ldiv hd hb)
  case i2l =>
    obtain ⟨hd, rfl⟩ := hdec.get (by simp [mm_len])
    simp only [mm_stp] at hs
    split at hs
    · cases hs; exact .ofK (mm_k_i2l hd)
    · cases hs
  case l2i =>
    obtain ⟨hd, rfl⟩ := hdec.get (by simp [mm_len])
    simp only [mm_stp] at hs
    split at hs
    · cases hs; exact .ofK (mm_k_l2i hd)
    · cases hs
  case lcmp =>
    obtain ⟨hd, rfl⟩ := hdec.get (by simp [mm_len])
    simp only [mm_stp] at hs
    split at hs
    · cases hs; exact .ofK (mm_k_lcmp hd)
    · cases hs
  case dup =>
    obtain ⟨hd, rfl⟩ := hdec.get (by simp [mm_len])
    simp only [mm_stp] at hs
    split at hs
    · cases hs; exact .ofK (mm_k_dup rfl hd)
    · cases hs; exact .ofK (mm_k_dup rfl hd)
    · cases hs
  case pop =>
    obtain ⟨hd, rfl⟩ := hdec.get (by simp [mm_len])
    simp only [mm_stp] at hs
    split at hs
    · cases hs; exact .ofK (mm_k_pop rfl hd)
    · cases hs; exact .ofK (mm_k_pop rfl hd)
    · cases hs
  case dup_x1 =>
    obtain ⟨hd, rfl⟩ := hdec.get (by simp [mm_len])
    simp only [mm_stp] at hs
    split at hs
    · cases hs; exact .ofK (mm_k_dup_x1 rfl rfl hd)
    · cases hs
  case dup2 =>
    obtain ⟨hd, rfl⟩ := hdec.get (by simp [mm_len])
    simp only [mm_stp] at hs
    split at hs
    · cases hs; exact .ofK (mm_k_dup2 rfl rfl hd)
    · cases hs
  case goto off =>
    obtain ⟨hd, rfl⟩ := hdec.get (by simp [mm_len])
    cases hs
    exact .ofK (mm_k_goto hd hlk)
  case ifCond c off =>
    obtain ⟨hd, rfl⟩ := hdec.get (by simp [mm_len])
    simp only [mm_stp] at hs
    split at hs
    · rename_i a q
      have hk := mm_k_if (Z := Z) (D := D) (l := l) (ls := ls) (st := q) (μ := μ) (G := G) (a := a) hd hlk
      split at hs
      · rename_i hc; cases hs; rw [if_pos hc] at hk; exact .ofK hk
      · rename_i hc; cases hs; rw [if_neg hc] at hk; exact .ofK hk
    · cases hs
  case if_icmp c off =>
    obtain ⟨hd, rfl⟩ := hdec.get (by simp [mm_len])
    simp only [mm_stp] at hs
    split at hs
    · rename_i b a q
      have hk := mm_k_icmp (Z := Z) (D := D) (l := l) (ls := ls) (st := q) (μ := μ) (G := G) (a := a) (b := b) hd hlk
      split at hs
      · rename_i hc; cases hs; rw [if_pos hc] at hk; exact .ofK hk
      · rename_i hc; cases hs; rw [if_neg hc] at hk; exact .ofK hk
    · cases hs
  case ifnull off =>
    obtain ⟨hd, rfl⟩ := hdec.get (by simp [mm_len])
    simp only [mm_stp] at hs
    split at hs
    · split at hs
      · cases hs
      · rename_i h7; cases hs; exact .ofK (mm_k_ifnull hd hlk h7)
    · cases hs
  case ifnonnull off =>
    obtain ⟨hd, rfl⟩ := hdec.get (by simp [mm_len])
    simp only [mm_stp] at hs
    split at hs
    · split at hs
      · cases hs
      · rename_i h7; cases hs; exact .ofK (mm_k_ifnonnull hd hlk h7)
    · cases hs
  case tableswitch dflt lo hi offs =>
    obtain ⟨len, hd, rfl, -⟩ := hdec
    simp only [mm_stp] at hs
    split at hs
    · cases hs; exact .ofK (mm_k_tsw hd hlk.1 hlk.2.1 hlk.2.2)
    · cases hs
  case lookupswitch dflt ps =>
    obtain ⟨len, hd, rfl, -⟩ := hdec
    simp only [mm_stp] at hs
    split at hs
    · cases hs; exact .ofK (mm_k_lsw hd hlk.1 hlk.2.1 hlk.2.2)
    · cases hs
  case getfield idx =>
    obtain ⟨hd, rfl⟩ := hdec.get (by simp [mm_len])
    obtain ⟨c, k, rfl, hf⟩ := hlk
    obtain ⟨a, q, rfl, hc, rfl, rfl, rfl, rfl, rfl⟩ := mm_getf_inv hs
    exact .ofK (mm_k_getf hd hf hc)
  case putfield idx =>
    obtain ⟨hd, rfl⟩ := hdec.get (by simp [mm_len])
    obtain ⟨c, k, rfl, hf⟩ := hlk
    rcases mm_putI_inv hs with ⟨x, a, q, rfl, hc, rfl, rfl, rfl, rfl, rfl⟩ | ⟨x, a, q, rfl, hc, rfl, rfl, rfl, rfl, rfl⟩
    · have hc1 : ¬ mm_ft c k = 2 := hc.1
      exact .ofKH (mm_k_putf hd hf hc.2.1 (fun Z => by unfold mm_hv; rw [if_neg hc1]; rfl) (fun ho => mm_ran_of hc1 hc.2.2 ho))
    · have hc1 : mm_ft c k = 2 := hc.1
      exact .ofKH (mm_k_putf hd hf hc.2 (fun Z => by unfold mm_hv; rw [if_pos hc1]; rfl) (fun ho => by unfold mm_ran; rw [if_pos hc1]; exact ho))
  case getstatic idx =>
    obtain ⟨hd, rfl⟩ := hdec.get (by simp [mm_len])
    obtain ⟨ty, x, rfl, hf⟩ := hlk
    cases hs
    exact .ofK (mm_k_gets hd hf)
  case iaload =>
    obtain ⟨hd, rfl⟩ := hdec.get (by simp [mm_len])
    obtain ⟨i, a, q, rfl, hc, rfl, rfl, rfl, rfl, rfl⟩ := mm_ald_inv hs
    exact .ofK (mm_k_ialoadG hd hc.1 hc.2.1 hc.2.2)
  case baload =>
    obtain ⟨hd, rfl⟩ := hdec.get (by simp [mm_len])
    obtain ⟨i, a, q, rfl, hc, rfl, rfl, rfl, rfl, rfl⟩ := mm_ald_inv hs
    exact .ofK (mm_k_baload hd hc.1 hc.2.1 hc.2.2)
  case aaload =>
    obtain ⟨hd, rfl⟩ := hdec.get (by simp [mm_len])
    obtain ⟨kd, c, rfl, hkd⟩ := hlk
    obtain ⟨i, a, q, rfl, hc, rfl, rfl, rfl, rfl, rfl⟩ := mm_aldR_inv hs
    exact .ofK (mm_k_aaload hd hkd hc.1 hc.2.1 hc.2.2)
  case iastore =>
    obtain ⟨hd, rfl⟩ := hdec.get (by simp [mm_len])
    obtain ⟨x, i, a, q, rfl, hc, rfl, rfl, rfl, rfl, rfl⟩ := mm_ast_inv hs
    exact .ofKH (mm_k_iastore hd hc.1 hc.2.1 hc.2.2.1 hc.2.2.2)
  case bastore =>
    obtain ⟨hd, rfl⟩ := hdec.get (by simp [mm_len])
    obtain ⟨x, i, a, q, rfl, hc, rfl, rfl, rfl, rfl, rfl⟩ := mm_ast_inv hs
    exact .ofKH (mm_k_bastore hd hc.1 hc.2.1 hc.2.2.1 hc.2.2.2)
  case aastore =>
    obtain ⟨hd, rfl⟩ := hdec.get (by simp [mm_len])
    obtain ⟨x, i, a, q, rfl, hc, rfl, rfl, rfl, rfl, rfl⟩ := mm_astR_inv hs
    rcases hlk with rfl | rfl
    · exact .ofKH (mm_k_aastore (c := 4) (kd := 102) hd (Or.inl rfl) rfl rfl hc.1 hc.2.1 hc.2.2.1 hc.2.2.2.1 hc.2.2.2.2.1)
    · exact .ofKH (mm_k_aastore (c := 7) (kd := 103) hd (Or.inr rfl) rfl rfl hc.1 hc.2.1 hc.2.2.1 hc.2.2.2.1 hc.2.2.2.2.1)
  case arraylength =>
    obtain ⟨hd, rfl⟩ := hdec.get (by simp [mm_len])
    obtain ⟨a, q, rfl, hc, rfl, rfl, rfl, rfl, rfl⟩ := mm_alen_inv hs
    exact .ofK (mm_k_alen hd hc)
  case new idx =>
    obtain ⟨hd, rfl⟩ := hdec.get (by simp [mm_len])
    obtain ⟨c, rr, rfl, hc, h1, h2, h3⟩ := hlk
    cases hs
    refine ⟨⟨?_, ?_⟩, fun r hm h => mm_w_new hd hc h1 h2 h3 hm h⟩
    · show G.2.1 ≤ G.2.1 + 1; omega
    · show G.2.2 ≤ G.2.2 + (rr.2.2 : Int); omega
  case newarray t =>
    obtain ⟨hd, rfl⟩ := hdec.get (by simp [mm_len])
    rcases hlk with ⟨rfl, rfl, h1⟩ | ⟨rfl, rfl, h1⟩
    · obtain ⟨n, q, rfl, hc, rfl, rfl, rfl, rfl, rfl⟩ := mm_newa_inv hs
      refine ⟨⟨?_, ?_⟩, fun r hm h => mm_w_newa hd h1 hc.1 hc.2 hm h⟩
      · show G.2.1 ≤ G.2.1 + 1; omega
      · show G.2.2 ≤ G.2.2 + n; omega
    · obtain ⟨n, q, rfl, hc, rfl, rfl, rfl, rfl, rfl⟩ := mm_newa_inv hs
      refine ⟨⟨?_, ?_⟩, fun r hm h => mm_w_newb hd h1 hc.1 hc.2 hm h⟩
      · show G.2.1 ≤ G.2.1 + 1; omega
      · show G.2.2 ≤ G.2.2 + n; omega
  case anewarray idx =>
    obtain ⟨hd, rfl⟩ := hdec.get (by simp [mm_len])
    obtain ⟨kd, C, rfl, hkd, hat, h1, h2⟩ := hlk
    obtain ⟨n, q, rfl, hc, rfl, rfl, rfl, rfl, rfl⟩ := mm_newa_inv hs
    refine ⟨⟨?_, ?_⟩, fun r hm h => mm_w_anew hd hkd hat h1 h2 hc.1 hc.2 hm h⟩
    · show G.2.1 ≤ G.2.1 + 1; omega
    · show G.2.2 ≤ G.2.2 + n; omega
  case invokestatic idx =>
    obtain ⟨hd, rfl⟩ := hdec.get (by simp [mm_len])
    rcases hlk with ⟨-, rfl, h1, h2, h3, h4, h5, h6⟩ | ⟨-, rfl, h1, h2, h3, h4, h5, h6⟩ | ⟨-, rfl, h1, h2, h3, h4, h5, h6⟩ | ⟨-, rfl, h1, h2, h3, h4, h5, h6⟩ | ⟨h, -⟩
    · obtain ⟨a, b, q, rfl, hc, rfl, rfl, rfl, rfl, rfl⟩ := mm_bin2_inv hs
      exact ⟨⟨Int.le_refl _, Int.le_refl _⟩, fun r hm h => mm_w_max hd h1 h2 h3 h4 h5 h6 hc hm h⟩
    · obtain ⟨a, b, q, rfl, hc, rfl, rfl, rfl, rfl, rfl⟩ := mm_bin2_inv hs
      exact ⟨⟨Int.le_refl _, Int.le_refl _⟩, fun r hm h => mm_w_min hd h1 h2 h3 h4 h5 h6 hc hm h⟩
    · obtain ⟨a, b, q, rfl, hc, rfl, rfl, rfl, rfl, rfl⟩ := mm_lmin_inv hs
      exact ⟨⟨Int.le_refl _, Int.le_refl _⟩, fun r hm h => mm_w_minJ hd h1 h2 h3 h4 h5 h6 hc hm h⟩
    · obtain ⟨n, j, b, i, a, q, rfl, hc, rfl, rfl, rfl, rfl, rfl⟩ := mm_acpy_inv hs
      exact .ofKH (mm_k_acpy hd h1 h2 h3 h4 h5 h6 hc.2.2.2.2.2.2.2.2.2 hc.1 hc.2.1 hc.2.2.1 hc.2.2.2.1 hc.2.2.2.2.1 hc.2.2.2.2.2.1 hc.2.2.2.2.2.2.1 hc.2.2.2.2.2.2.2.1 hc.2.2.2.2.2.2.2.2.1)
    · omega
  case invokespecial idx =>
    obtain ⟨hd, rfl⟩ := hdec.get (by simp [mm_len])
    rcases hlk with ⟨-, h1, h2, h3, h4, h5⟩ | ⟨h, -⟩
    · simp only [mm_stp] at hs
      split at hs
      · split at hs
        · rename_i hc; cases hs; exact .ofK (mm_k_obj hd h1 h2 h3 h4 h5 hc.2 ⟨by omega, by omega⟩)
        · cases hs
      · cases hs
    · omega
  all_goals (simp [mm_stp] at hs)
end SIMI
