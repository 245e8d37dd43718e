/-! laid -/
theorem yn_iv (ls sl : Int → Int) (wr : Int) (w0 : 0 ≤ wr) (w3 : wr ≤ 3) : ∀ (m : Nat) (t : Int → Int), (∃ S sw em, Rt S sw em t ∧ iv S sw em) → ∃ S sw em, Rt S sw em (yn ls sl wr m t) ∧ iv S sw em
  | 0, _, h => h
  | m + 1, t, ⟨S, sw, em, h, i⟩ => by
    by_cases p : S 2 = 1 ∨ S 2 = 2
    · have p' : t 0 = 1 ∨ t 0 = 2 := by rw [← h.1]; exact p
      rw [yn_s _ _ _ _ p']
      exact yn_iv ls sl wr w0 w3 m _ ⟨_, _, _, (br_step h i p ls sl wr).2.1, iv_step i p w0 w3⟩
    · have p' : ¬ (t 0 = 1 ∨ t 0 = 2) := by rw [← h.1]; exact p
      rw [yn_e _ _ _ _ p']
      exact ⟨S, sw, em, h, i⟩
theorem pr_nn (ls sl : Int → Int) {la ra : Int} (n : la = 1 ∨ la = 2 ∨ la = 4) (w0 : 0 ≤ ra) (w3 : ra ≤ 3) : 0 ≤ pr ls sl la ra := by
  obtain ⟨S, sw, em, h, i⟩ := yn_iv ls sl ra w0 w3 192 (bgt la ra) ⟨_, _, _, Rt_beg z0 la ra, iv_beg z0 n w0 w3⟩
  unfold pr
  split
  · have e : S 3 = pt ls sl la ra 1 := h.2.1
    rw [← e]
    have := rom_ok (pt ls sl la ra 2) i.1
    omega
  · exact Int.le_refl 0
def pm (ls : Int → Int) (o : Int) : Int → Int := fun j => if j = 0 then ls (o / 1000) else if j = 1 then ls (o / 100 % 10) else if j = 2 then ls (o / 10 % 10) else if j = 3 then ls (o % 10) else 0
def lst (f : Int → Int) (s : Int × Int) (o : Int) : Int × Int := if s.1 < f o then (f o, o) else s
def isO (o : Int) : Bool := decide (mm_or (mm_or (mm_or (mm_or 0 (mm_shl 1 (o % 10))) (mm_shl 1 (o / 10 % 10))) (mm_shl 1 (o / 10 / 10 % 10))) (mm_shl 1 (o / 10 / 10 / 10 % 10)) = 15)
def dgo (o : Int) : Bool := decide (o % 10 < 4 ∧ o / 10 % 10 < 4 ∧ o / 10 / 10 % 10 < 4 ∧ o / 10 / 10 / 10 % 10 < 4)
def dup (i : Int) : Bool := decide (i / 16 = i / 4 % 4 ∨ i / 16 = i % 4 ∨ i / 4 % 4 = i % 4)
def oro (i : Int) : Int := 1000 * (i / 16) + 100 * (i / 4 % 4) + 10 * (i % 4) + (6 - i / 16 - i / 4 % 4 - i % 4)
def lm (f : Int → Int) : Nat → Int × Int → Int × Int
  | 0, s => s
  | m + 1, s => lm f m (if isO (3210 - (m : Int)) = true then lst f s (3210 - (m : Int)) else s)
def lc (f : Int → Int) : Nat → Int × Int → Int × Int
  | 0, s => s
  | m + 1, s => lc f m (if dup (63 - (m : Int)) = true then s else lst f s (oro (63 - (m : Int))))
def lml : Nat → List Int
  | 0 => []
  | m + 1 => if isO (3210 - (m : Int)) = true then (3210 - (m : Int)) :: lml m else lml m
def lcl : Nat → List Int
  | 0 => []
  | m + 1 => if dup (63 - (m : Int)) = true then lcl m else oro (63 - (m : Int)) :: lcl m
def or24 : List Int := [123, 132, 213, 231, 312, 321, 1023, 1032, 1203, 1230, 1302, 1320, 2013, 2031, 2103, 2130, 2301, 2310, 3012, 3021, 3102, 3120, 3201, 3210]
theorem lm_l (f : Int → Int) : ∀ (m : Nat) (s : Int × Int), lm f m s = List.foldl (lst f) s (lml m)
  | 0, _ => rfl
  | m + 1, s => by
    simp only [lm, lml]
    rw [lm_l f m]
    split <;> rfl
theorem lc_l (f : Int → Int) : ∀ (m : Nat) (s : Int × Int), lc f m s = List.foldl (lst f) s (lcl m)
  | 0, _ => rfl
  | m + 1, s => by
    simp only [lc, lcl]
    rw [lc_l f m]
    split <;> rfl
theorem lcl_e : lcl 64 = or24 := by decide +kernel
set_option maxRecDepth 100000 in
theorem lml_e : lml 3088 = or24 := by decide +kernel
def chk : Nat → Bool
  | 0 => true
  | m + 1 => (!isO (3210 - (m : Int)) || dgo (3210 - (m : Int))) && chk m
set_option maxRecDepth 100000 in
theorem chk_e : chk 3088 = true := by decide +kernel
theorem chk_m : ∀ (n m : Nat), chk n = true → m < n → isO (3210 - (m : Int)) = true → dgo (3210 - (m : Int)) = true
  | 0, _, _, h, _ => by omega
  | n + 1, m, h, hm, ho => by
    simp only [chk, Bool.and_eq_true] at h
    by_cases e : m = n
    · subst e
      rw [ho] at h
      simpa using h.1
    · exact chk_m n m h.2 (by omega) ho
theorem lmc (f : Int → Int) (hf : 0 ≤ f 123) (x y : Int) : lm f 3088 (-1, x) = lc f 64 (-1, y) := by
  rw [lm_l, lc_l, lml_e, lcl_e]
  unfold or24
  simp only [List.foldl_cons]
  have e : ∀ z, lst f (-1, z) 123 = (f 123, 123) := fun z => by unfold lst; rw [if_pos (by show (-1 : Int) < f 123; omega)]
  rw [e, e]
