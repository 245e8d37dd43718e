noncomputable def mm_run : Nat → Nat → Nat → ML → List MV → MM → MG → Option MR
  | 0, _, _, _, _, _, _ => none
  | n + 1, m, pc, ls, st, μ, G => match mm_prog m pc with
    | none => none
    | some (kd, ins, nx, xs) =>
      if kd = 2 then (mm_ret ins xs st).map (fun v => (v, μ, G))
      else if kd = 1 then match mm_cal xs st G with
        | none => none
        | some (y, as, r) => if (mm_lay as).length ≤ mm_max y then match mm_run n y 0 (mm_pad (mm_max y) as) [] μ G with
          | none => none
          | some (v, μ', G') => mm_run n m nx ls (v.toList ++ r) μ' G'
          else none
      else match mm_stp ins pc nx xs ls st μ G with
        | none => none
        | some (pc', ls', st', μ', G') => mm_run n m pc' ls' st' μ' G'
theorem mm_run_succ : ∀ (n m pc : Nat) (ls : ML) (st : List MV) (μ : MM) (G : MG) (r : MR), mm_run n m pc ls st μ G = some r → mm_run (n + 1) m pc ls st μ G = some r := by
  intro n
  induction n with
  | zero => intro m pc ls st μ G r h; simp [mm_run] at h
  | succ n ih =>
    intro m pc ls st μ G r h
    rw [mm_run] at h ⊢
    cases hp : mm_prog m pc with
    | none => rw [hp] at h; exact h
    | some q =>
      obtain ⟨kd, ins, nx, xs⟩ := q
      rw [hp] at h
      dsimp only at h ⊢
      by_cases h2 : kd = 2
      · rw [if_pos h2] at h ⊢; exact h
      · rw [if_neg h2] at h ⊢
        by_cases h1 : kd = 1
        · rw [if_pos h1] at h ⊢
          cases hc : mm_cal xs st G with
          | none => rw [hc] at h; exact h
          | some q2 =>
            obtain ⟨y, as, r2⟩ := q2
            rw [hc] at h
            dsimp only at h ⊢
            by_cases hle : (mm_lay as).length ≤ mm_max y
            · rw [if_pos hle] at h ⊢
              cases hy : mm_run n y 0 (mm_pad (mm_max y) as) [] μ G with
              | none => rw [hy] at h; cases h
              | some q3 =>
                obtain ⟨v, μ', G'⟩ := q3
                rw [hy] at h
                rw [ih _ _ _ _ _ _ _ hy]
                exact ih _ _ _ _ _ _ _ h
            · rw [if_neg hle] at h; cases h
        · rw [if_neg h1] at h ⊢
          cases hs : mm_stp ins pc nx xs ls st μ G with
          | none => rw [hs] at h; exact h
          | some q2 =>
            obtain ⟨pc', ls', st', μ', G'⟩ := q2
            rw [hs] at h
            exact ih _ _ _ _ _ _ _ h
theorem mm_run_add {n m pc : Nat} {ls : ML} {st : List MV} {μ : MM} {G : MG} {r : MR} (k : Nat) (h : mm_run n m pc ls st μ G = some r) : mm_run (n + k) m pc ls st μ G = some r := by
  induction k with
  | zero => exact h
  | succ k ih => exact mm_run_succ _ _ _ _ _ _ _ _ ih
theorem mm_run_det {n k m pc : Nat} {ls : ML} {st : List MV} {μ : MM} {G : MG} {r r' : MR} (h : mm_run n m pc ls st μ G = some r) (h' : mm_run k m pc ls st μ G = some r') : r = r' := by
  have a := mm_run_add k h
  have b := mm_run_add n h'
  rw [Nat.add_comm] at b
  exact Option.some.inj (a.symm.trans b)
/-- what the method m comes to from pc on -/
noncomputable def ev (m pc : Nat) (ls : ML) (st : List MV) (μ : MM) (G : MG) : Option MR :=
  @dite _ (∃ r n, mm_run n m pc ls st μ G = some r) (Classical.propDecidable _) (fun h => some (Classical.choose h)) (fun _ => none)
theorem ev_iff {m pc : Nat} {ls : ML} {st : List MV} {μ : MM} {G : MG} {r : MR} : ev m pc ls st μ G = some r ↔ ∃ n, mm_run n m pc ls st μ G = some r := by
  unfold ev
  by_cases h : ∃ r n, mm_run n m pc ls st μ G = some r
  · rw [dif_pos h]
    obtain ⟨n, hn⟩ := Classical.choose_spec h
    constructor
    · intro e
      exact ⟨n, by rw [hn]; exact e⟩
    · rintro ⟨k, hk⟩
      rw [mm_run_det hn hk]
  · rw [dif_neg h]
    constructor
    · intro e; cases e
    · rintro ⟨k, hk⟩
      exact absurd ⟨r, k, hk⟩ h
theorem ev_ext {a b : Option MR} (h : ∀ r, a = some r ↔ b = some r) : a = b := by
  cases a with
  | none =>
    cases b with
    | none => rfl
    | some r => exact ((h r).mpr rfl)
  | some r => exact ((h r).mp rfl).symm
section EV
variable {m pc nx : Nat} {ins : Instr} {xs : List Int} {ls : ML} {st : List MV} {μ : MM} {G : MG}
theorem ev_none (hs : mm_prog m pc = some (0, ins, nx, xs)) (h : mm_stp ins pc nx xs ls st μ G = none) : ev m pc ls st μ G = none := by
  refine ev_ext (fun r => ?_)
  rw [ev_iff]
  constructor
  · rintro ⟨n, hn⟩
    cases n with
    | zero => simp [mm_run] at hn
    | succ n =>
      rw [mm_run, hs] at hn
      simp [h] at hn
  · intro h; cases h
theorem ev_stp {pc' : Nat} {ls' : ML} {st' : List MV} {μ' : MM} {G' : MG} (hs : mm_prog m pc = some (0, ins, nx, xs)) (h : mm_stp ins pc nx xs ls st μ G = some (pc', ls', st', μ', G')) : ev m pc ls st μ G = ev m pc' ls' st' μ' G' := by
  refine ev_ext (fun r => ?_)
  rw [ev_iff, ev_iff]
  constructor
  · rintro ⟨n, hn⟩
    cases n with
    | zero => simp [mm_run] at hn
    | succ n =>
      rw [mm_run, hs] at hn
      simp only [h] at hn
      exact ⟨n, hn⟩
  · rintro ⟨n, hn⟩
    refine ⟨n + 1, ?_⟩
    rw [mm_run, hs]
    simp only [h]
    exact hn
theorem ev_if {c : Prop} [Decidable c] {pc' : Nat} {ls' : ML} {st' : List MV} {μ' : MM} {G' : MG} (hs : mm_prog m pc = some (0, ins, nx, xs)) (h : mm_stp ins pc nx xs ls st μ G = if c then some (pc', ls', st', μ', G') else none) : ev m pc ls st μ G = if c then ev m pc' ls' st' μ' G' else none := by
  by_cases hc : c
  · rw [if_pos hc] at h ⊢; exact ev_stp hs h
  · rw [if_neg hc] at h ⊢; exact ev_none hs h
theorem ev_no {c : Prop} [Decidable c] {pc' : Nat} {ls' : ML} {st' : List MV} {μ' : MM} {G' : MG} (hs : mm_prog m pc = some (0, ins, nx, xs)) (h : mm_stp ins pc nx xs ls st μ G = if c then none else some (pc', ls', st', μ', G')) : ev m pc ls st μ G = if c then none else ev m pc' ls' st' μ' G' := by
  by_cases hc : c
  · rw [if_pos hc] at h ⊢; exact ev_none hs h
  · rw [if_neg hc] at h ⊢; exact ev_stp hs h
/-- a local gets a value: the one ahead of it is no long -/
theorem ev_st {c d : Prop} [Decidable (c ∧ d)] {pc' : Nat} {ls' : ML} {st' : List MV} {μ' : MM} {G' : MG} (hs : mm_prog m pc = some (0, ins, nx, xs)) (h : mm_stp ins pc nx xs ls st μ G = if c ∧ d then some (pc', ls', st', μ', G') else none) (hc : c) (hd : d) : ev m pc ls st μ G = ev m pc' ls' st' μ' G' := by
  rw [if_pos ⟨hc, hd⟩] at h; exact ev_stp hs h
theorem ev_st0 {pc' : Nat} {ls' : ML} {st' : List MV} {μ' : MM} {G' : MG} (hs : mm_prog m pc = some (0, ins, nx, xs)) (h : mm_stp ins pc nx xs ls st μ G = if mm_nl ls 0 = true ∧ 0 < ls.length then some (pc', ls', st', μ', G') else none) (hd : 0 < ls.length) : ev m pc ls st μ G = ev m pc' ls' st' μ' G' := by
  rw [if_pos ⟨rfl, hd⟩] at h; exact ev_stp hs h
theorem ev_br {b : Bool} {c : Prop} [Decidable c] (hb : b = true ↔ c) {pc' pc'' : Nat} {ls' ls'' : ML} {st' st'' : List MV} {μ' μ'' : MM} {G' G'' : MG} (hs : mm_prog m pc = some (0, ins, nx, xs)) (h : mm_stp ins pc nx xs ls st μ G = if b = true then some (pc', ls', st', μ', G') else some (pc'', ls'', st'', μ'', G'')) : ev m pc ls st μ G = if c then ev m pc' ls' st' μ' G' else ev m pc'' ls'' st'' μ'' G'' := by
  by_cases hc : c
  · rw [if_pos (hb.mpr hc)] at h; rw [if_pos hc]; exact ev_stp hs h
  · rw [if_neg (fun z => hc (hb.mp z))] at h; rw [if_neg hc]; exact ev_stp hs h
theorem ev_br2 {c : Prop} [Decidable c] {pc' pc'' : Nat} {ls' ls'' : ML} {st' st'' : List MV} {μ' μ'' : MM} {G' G'' : MG} (hs : mm_prog m pc = some (0, ins, nx, xs)) (h : mm_stp ins pc nx xs ls st μ G = if c then some (pc', ls', st', μ', G') else some (pc'', ls'', st'', μ'', G'')) : ev m pc ls st μ G = if c then ev m pc' ls' st' μ' G' else ev m pc'' ls'' st'' μ'' G'' := by
  by_cases hc : c
  · rw [if_pos hc] at h ⊢; exact ev_stp hs h
  · rw [if_neg hc] at h ⊢; exact ev_stp hs h
theorem ev_nul {a : Int} {p q : Nat} {st' : List MV} (hs : mm_prog m pc = some (0, ins, nx, xs)) (h : mm_stp ins pc nx xs ls st μ G = if a = 7 then none else some ((if a = 0 then p else q), ls, st', μ, G)) : ev m pc ls st μ G = if a = 7 then none else if a = 0 then ev m p ls st' μ G else ev m q ls st' μ G := by
  by_cases h7 : a = 7
  · rw [if_pos h7] at h ⊢; exact ev_none hs h
  · rw [if_neg h7] at h ⊢
    by_cases h0 : a = 0
    · rw [if_pos h0] at h ⊢; exact ev_stp hs h
    · rw [if_neg h0] at h ⊢; exact ev_stp hs h
def ev_swE (x d : Int) (f : Int → Option MR) : List Int → Option MR
  | k :: t :: r => if x = k then f t else ev_swE x d f r
  | _ => f d
theorem ev_swE_eq (x d : Int) (f : Int → Option MR) : ∀ l : List Int, ev_swE x d f l = f (mm_sw x d l)
  | [] => rfl
  | [_] => rfl
  | k :: t :: r => by
    unfold ev_swE mm_sw
    by_cases h : x = k
    · rw [if_pos h, if_pos h]
    · rw [if_neg h, if_neg h]; exact ev_swE_eq x d f r
theorem ev_sw {x d : Int} {l : List Int} {st' : List MV} (hs : mm_prog m pc = some (0, ins, nx, xs)) (h : mm_stp ins pc nx xs ls st μ G = some ((mm_sw x d l).toNat, ls, st', μ, G)) : ev m pc ls st μ G = ev_swE x d (fun t => ev m t.toNat ls st' μ G) l := by
  rw [ev_swE_eq]; exact ev_stp hs h
theorem ev_ret {v : Option MV} (hs : mm_prog m pc = some (2, ins, nx, xs)) (h : mm_ret ins xs st = some v) : ev m pc ls st μ G = some (v, μ, G) := by
  rw [ev_iff]
  refine ⟨1, ?_⟩
  rw [mm_run, hs]
  simp [h]
theorem ev_retN (hs : mm_prog m pc = some (2, ins, nx, xs)) (h : mm_ret ins xs st = none) : ev m pc ls st μ G = none := by
  refine ev_ext (fun r => ?_)
  rw [ev_iff]
  constructor
  · rintro ⟨n, hn⟩
    cases n with
    | zero => simp [mm_run] at hn
    | succ n =>
      rw [mm_run, hs] at hn
      simp [h] at hn
  · intro h; cases h
theorem ev_retB {x : Int} (hs : mm_prog m pc = some (2, .ireturn, nx, [1])) : ev m pc ls [Sum.inl x] μ G = if x = 0 ∨ x = 1 then some (some (Sum.inl x), μ, G) else none := by
  by_cases h : x = 0 ∨ x = 1
  · rw [if_pos h]; exact ev_ret hs (by simp [mm_ret, h])
  · rw [if_neg h]; exact ev_retN hs (by simp [mm_ret, h])
theorem ev_retC {x : Int} (hs : mm_prog m pc = some (2, .ireturn, nx, [5])) : ev m pc ls [Sum.inl x] μ G = if 0 ≤ x ∧ x < 65536 then some (some (Sum.inl x), μ, G) else none := by
  by_cases h : 0 ≤ x ∧ x < 65536
  · rw [if_pos h]; exact ev_ret hs (by simp [mm_ret, h])
  · rw [if_neg h]; exact ev_retN hs (by simp [mm_ret, h])
theorem ev_cal {y : Nat} {as r : List MV} (hs : mm_prog m pc = some (1, ins, nx, xs)) (h : mm_cal xs st G = some (y, as, r)) (hle : (mm_lay as).length ≤ mm_max y) : ev m pc ls st μ G = (ev y 0 (mm_pad (mm_max y) as) [] μ G).bind (fun q => ev m nx ls (q.1.toList ++ r) q.2.1 q.2.2) := by
  refine ev_ext (fun z => ?_)
  rw [ev_iff]
  constructor
  · rintro ⟨n, hn⟩
    cases n with
    | zero => simp [mm_run] at hn
    | succ n =>
      rw [mm_run, hs] at hn
      simp only [h, hle, if_true] at hn
      cases hy : mm_run n y 0 (mm_pad (mm_max y) as) [] μ G with
      | none => rw [hy] at hn; simp at hn
      | some q =>
        rw [hy] at hn
        rw [ev_iff.mpr ⟨n, hy⟩]
        exact ev_iff.mpr ⟨n, by simpa using hn⟩
  · intro hz
    cases hy : ev y 0 (mm_pad (mm_max y) as) [] μ G with
    | none => rw [hy] at hz; cases hz
    | some q =>
      rw [hy] at hz
      obtain ⟨n, hn⟩ := ev_iff.mp hy
      obtain ⟨k, hk⟩ := ev_iff.mp (show ev m nx ls (q.1.toList ++ r) q.2.1 q.2.2 = some z from hz)
      refine ⟨n + k + 1, ?_⟩
      rw [mm_run, hs]
      simp only [h, hle, if_true, mm_run_add k hn]
      have := mm_run_add n hk
      rw [Nat.add_comm] at this
      simpa using this
theorem ev_calN (hs : mm_prog m pc = some (1, ins, nx, xs)) (h : mm_cal xs st G = none) : ev m pc ls st μ G = none := by
  refine ev_ext (fun r => ?_)
  rw [ev_iff]
  constructor
  · rintro ⟨n, hn⟩
    cases n with
    | zero => simp [mm_run] at hn
    | succ n =>
      rw [mm_run, hs] at hn
      simp [h] at hn
  · intro h; cases h
theorem ev_calS {y n : Nat} {as r : List MV} {lo : ML} (hm : mm_max y = n) (hs : mm_prog m pc = some (1, ins, nx, xs)) (h : mm_cal xs st G = if mm_cats r ≤ 8 then some (y, as, r) else none) (hl : mm_pad n as = lo) (hc : mm_cats r ≤ 8) (hle : (mm_lay as).length ≤ n) : ev m pc ls st μ G = (ev y 0 lo [] μ G).bind (fun q => ev m nx ls (q.1.toList ++ r) q.2.1 q.2.2) := by
  rw [if_pos hc] at h; rw [← hl, ← hm]; exact ev_cal hs h (by rw [hm]; exact hle)
theorem ev_calV {y n : Nat} {as r : List MV} {lo : ML} {c d e : Prop} [Decidable (c ∧ d)] [Decidable (c ∧ d ∧ e)] (hm : mm_max y = n) (hs : mm_prog m pc = some (1, ins, nx, xs)) (h : mm_cal xs st G = if c ∧ d ∧ e then some (y, as, r) else none) (hl : mm_pad n as = lo) (he : e) (hle : (mm_lay as).length ≤ n) : ev m pc ls st μ G = if c ∧ d then (ev y 0 lo [] μ G).bind (fun q => ev m nx ls (q.1.toList ++ r) q.2.1 q.2.2) else none := by
  by_cases hc : c ∧ d
  · rw [if_pos ⟨hc.1, hc.2, he⟩] at h; rw [if_pos hc, ← hl, ← hm]; exact ev_cal hs h (by rw [hm]; exact hle)
  · rw [if_neg (fun z => hc ⟨z.1, z.2.1⟩)] at h; rw [if_neg hc]; exact ev_calN hs h
end EV
theorem mm_cnd_eq (a b : Int) : mm_cnd .eq a b = true ↔ a = b := by simp [mm_cnd]
theorem mm_cnd_ne (a b : Int) : mm_cnd .ne a b = true ↔ ¬ a = b := by simp [mm_cnd]
theorem mm_cnd_lt (a b : Int) : mm_cnd .lt a b = true ↔ a < b := by simp [mm_cnd]
theorem mm_cnd_ge (a b : Int) : mm_cnd .ge a b = true ↔ b ≤ a := by simp [mm_cnd]
theorem mm_cnd_gt (a b : Int) : mm_cnd .gt a b = true ↔ b < a := by simp [mm_cnd]
theorem mm_cnd_le (a b : Int) : mm_cnd .le a b = true ↔ a ≤ b := by simp [mm_cnd]
