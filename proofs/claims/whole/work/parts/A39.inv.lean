/-! the bounds of a training, kept by each TRY -/
def ix (n : Int) : Int := if n = 1 then 0 else if n = 2 then 1 else 2
def iv (S sw em : Int → Int) : Prop := (S 3 = 1 ∨ S 3 = 2 ∨ S 3 = 4) ∧ 0 ≤ S 4 ∧ S 4 ≤ 3 ∧ (∀ l, 0 ≤ l → l < 4 → 0 ≤ sw l ∧ sw l ≤ 3 ∧ 0 ≤ em l ∧ em l ≤ 3) ∧ 0 ≤ S 7 ∧ S 7 ≤ 10 ∧ 0 ≤ S 9 ∧ S 9 ≤ 7 ∧ 0 ≤ S 8 ∧ S 8 ≤ 6 ∧ 0 ≤ S 10 ∧ S 10 ≤ 192 ∧ 0 ≤ S 11 ∧ S 11 ≤ 12 ∧ (S 2 = 1 ∨ S 2 = 2 ∨ S 2 = 3 ∨ S 2 = 4) ∧ ((S 2 = 1 ∨ S 2 = 2) → S 11 + 4 * ix (S 3) + S 4 ≤ 11 ∧ S 10 ≤ 16 * S 11 + S 7 + S 8) ∧ (S 2 = 1 → S 7 ≤ 9 ∧ S 9 ≤ 6 ∧ S 8 = 0) ∧ (S 2 = 2 → S 8 ≤ 5)
theorem ix_ok (n : Int) : 0 ≤ ix n ∧ ix n ≤ 2 := by unfold ix; (repeat' split) <;> omega
theorem iv_ft {S : Int → Int} (n : S 3 = 1 ∨ S 3 = 2 ∨ S 3 = 4) (q0 : 0 ≤ S 4) (q3 : S 4 ≤ 3) (t0 : 0 ≤ S 10) (t1 : S 10 ≤ 192) (f0 : 0 ≤ S 11) (f1 : S 11 ≤ 12) (p : S 2 = 1 ∨ S 2 = 2 ∨ S 2 = 3 ∨ S 2 = 4) (k : S 2 = 1 ∨ S 2 = 2 → S 11 + 4 * ix (S 3) + S 4 ≤ 11 ∧ S 10 ≤ 16 * S 11) : iv (ft S) z0 z0 := by
  refine ⟨n, q0, q3, fun l _ _ => ?_, ?_, ?_, ?_, ?_, ?_, ?_, t0, t1, f0, f1, p, fun h => ?_, fun _ => ⟨?_, ?_, rfl⟩, fun _ => ?_⟩
  · exact ⟨Int.le_refl 0, by show (0 : Int) ≤ 3; omega, Int.le_refl 0, by show (0 : Int) ≤ 3; omega⟩
  · show (0 : Int) ≤ 0; omega
  · show (0 : Int) ≤ 10; omega
  · show (0 : Int) ≤ 0; omega
  · show (0 : Int) ≤ 7; omega
  · show (0 : Int) ≤ 0; omega
  · show (0 : Int) ≤ 6; omega
  · have := k h
    refine ⟨this.1, ?_⟩
    show S 10 ≤ 16 * S 11 + 0 + 0
    omega
  · show (0 : Int) ≤ 9; omega
  · show (0 : Int) ≤ 6; omega
  · show (0 : Int) ≤ 5; omega
theorem iv_fall {S : Int → Int} {wr : Int} (n : S 3 = 1 ∨ S 3 = 2 ∨ S 3 = 4) (q0 : 0 ≤ S 4) (q3 : S 4 ≤ 3) (h7 : S 7 ≤ 10) (h8 : S 8 ≤ 6) (t0 : 0 ≤ S 10) (f0 : 0 ≤ S 11) (p : S 2 = 1 ∨ S 2 = 2) (k1 : S 11 + 4 * ix (S 3) + S 4 ≤ 11) (k2 : S 10 ≤ 16 * S 11 + S 7 + S 8) (w0 : 0 ≤ wr) (w3 : wr ≤ 3) : iv (dS S wr) z0 z0 := by
  have i0 := ix_ok (S 3)
  unfold dS
  by_cases c : S 3 ≤ 1 ∧ S 4 ≤ 0
  · rw [if_pos c]
    refine iv_ft n q0 q3 t0 ?_ ?_ ?_ ?_ ?_
    · show S 10 ≤ 192; omega
    · show 0 ≤ S 11 + 1; omega
    · show S 11 + 1 ≤ 12; omega
    · exact Or.inr (Or.inr (Or.inr rfl))
    · intro h
      have h' : (4 : Int) = 1 ∨ (4 : Int) = 2 := h
      omega
  · rw [if_neg c]
    by_cases d : S 2 = 1
    · rw [if_pos d]
      by_cases e : 0 < S 4
      · rw [if_pos e]
        refine iv_ft n ?_ ?_ t0 ?_ ?_ ?_ ?_ ?_
        · show 0 ≤ S 4 - 1; omega
        · show S 4 - 1 ≤ 3; omega
        · show S 10 ≤ 192; omega
        · show 0 ≤ S 11 + 1; omega
        · show S 11 + 1 ≤ 12; omega
        · exact Or.inl d
        · intro _
          show S 11 + 1 + 4 * ix (S 3) + (S 4 - 1) ≤ 11 ∧ S 10 ≤ 16 * (S 11 + 1)
          omega
      · rw [if_neg e]
        have n2 : S 3 = 2 ∧ S 3 / 2 = 1 ∧ ix (S 3) = 1 ∧ ix (S 3 / 2) = 0 ∨ S 3 = 4 ∧ S 3 / 2 = 2 ∧ ix (S 3) = 2 ∧ ix (S 3 / 2) = 1 := by
          rcases n with n | n | n
          · omega
          · rw [n]; exact Or.inl ⟨rfl, by decide, by decide, by decide⟩
          · rw [n]; exact Or.inr ⟨rfl, by decide, by decide, by decide⟩
        refine iv_ft ?_ w0 w3 t0 ?_ ?_ ?_ ?_ ?_
        · show S 3 / 2 = 1 ∨ S 3 / 2 = 2 ∨ S 3 / 2 = 4; omega
        · show S 10 ≤ 192; omega
        · show 0 ≤ S 11 + 1; omega
        · show S 11 + 1 ≤ 12; omega
        · exact Or.inl d
        · intro _
          show S 11 + 1 + 4 * ix (S 3 / 2) + wr ≤ 11 ∧ S 10 ≤ 16 * (S 11 + 1)
          omega
    · rw [if_neg d]
      by_cases e : 1 < S 3
      · rw [if_pos e]
        have n2 : S 3 = 2 ∧ S 3 / 2 = 1 ∧ ix (S 3) = 1 ∧ ix (S 3 / 2) = 0 ∨ S 3 = 4 ∧ S 3 / 2 = 2 ∧ ix (S 3) = 2 ∧ ix (S 3 / 2) = 1 := by
          rcases n with n | n | n
          · omega
          · rw [n]; exact Or.inl ⟨rfl, by decide, by decide, by decide⟩
          · rw [n]; exact Or.inr ⟨rfl, by decide, by decide, by decide⟩
        refine iv_ft ?_ q0 q3 t0 ?_ ?_ ?_ ?_ ?_
        · show S 3 / 2 = 1 ∨ S 3 / 2 = 2 ∨ S 3 / 2 = 4; omega
        · show S 10 ≤ 192; omega
        · show 0 ≤ S 11 + 1; omega
        · show S 11 + 1 ≤ 12; omega
        · exact Or.inl rfl
        · intro _
          show S 11 + 1 + 4 * ix (S 3 / 2) + S 4 ≤ 11 ∧ S 10 ≤ 16 * (S 11 + 1)
          omega
      · rw [if_neg e]
        refine iv_ft n ?_ ?_ t0 ?_ ?_ ?_ ?_ ?_
        · show 0 ≤ S 4 - 1; omega
        · show S 4 - 1 ≤ 3; omega
        · show S 10 ≤ 192; omega
        · show 0 ≤ S 11 + 1; omega
        · show S 11 + 1 ≤ 12; omega
        · exact Or.inl rfl
        · intro _
          show S 11 + 1 + 4 * ix (S 3) + (S 4 - 1) ≤ 11 ∧ S 10 ≤ 16 * (S 11 + 1)
          omega
theorem o4_f {f : Int → Bool} (h : ¬ o4 f = true) (l : Int) (l0 : 0 ≤ l) (l3 : l < 4) : f l = false := by
  have key : ∀ c0 c1 c2 c3 : Bool, ¬ (c0 || c1 || c2 || c3) = true → c0 = false ∧ c1 = false ∧ c2 = false ∧ c3 = false := by decide
  have k := key _ _ _ _ h
  have q : l = 0 ∨ l = 1 ∨ l = 2 ∨ l = 3 := by omega
  rcases q with rfl | rfl | rfl | rfl
  · exact k.1
  · exact k.2.1
  · exact k.2.2.1
  · exact k.2.2.2
theorem rai_3 {f : Int → Bool} {d : Int → Int} (h : ¬ o4 (tpb f d) = true) (l : Int) (l0 : 0 ≤ l) (l3 : l < 4) (d0 : 0 ≤ d l) (d3 : d l ≤ 3) : 0 ≤ rai f d l ∧ rai f d l ≤ 3 := by
  have k := o4_f h l l0 l3
  have b := be_ok (f l)
  unfold rai
  unfold tpb at k
  cases e : f l
  · show 0 ≤ d l + 0 ∧ d l + 0 ≤ 3; omega
  · rw [e, Bool.true_and] at k
    have := of_decide_eq_false k
    show 0 ≤ d l + 1 ∧ d l + 1 ≤ 3; omega
theorem co_k (S sw ls sl : Int → Int) : cO S sw ls sl = 7 ∨ (cO S sw ls sl = 0 ∧ ¬ o4 (tpb (wsb (S 3) (S 4) sw ls) sw) = true ∧ ¬ 10 ≤ S 7 + 1 ∧ ¬ 7 ≤ S 9 + 1) ∨ (1 ≤ cO S sw ls sl ∧ cO S sw ls sl ≤ 6) := by
  unfold cO
  by_cases h1 : b4 (cC S sw ls sl) = al (S 3)
  · rw [if_pos h1]; exact Or.inl rfl
  · rw [if_neg h1]
    by_cases h2 : o4 (tpb (wsb (S 3) (S 4) sw ls) sw) = true
    · rw [if_pos h2]; right; right; omega
    · rw [if_neg h2]
      by_cases h3 : 10 ≤ S 7 + 1
      · rw [if_pos h3]; right; right; omega
      · rw [if_neg h3]
        by_cases h4 : 7 ≤ S 9 + 1
        · rw [if_pos h4]; right; right; omega
        · rw [if_neg h4]; right; left; exact ⟨rfl, h2, h3, h4⟩
theorem eo_k (S sw em ls sl : Int → Int) : eO S sw em ls sl = 8 ∨ (eO S sw em ls sl = 0 ∧ ¬ o4 (tpb (web (S 3) (S 4) em ls) em) = true ∧ ¬ 6 ≤ S 8 + 1) ∨ (1 ≤ eO S sw em ls sl ∧ eO S sw em ls sl ≤ 6) := by
  unfold eO
  by_cases h0 : b4 (wsb (S 3) (S 4) sw ls) = 0
  · rw [if_neg (fun q => q h0)]
    by_cases h1 : b4 (cE S em ls sl) = al (S 3)
    · rw [if_pos h1]; exact Or.inl rfl
    · rw [if_neg h1]
      by_cases h3 : 6 ≤ S 8 + 1
      · rw [if_pos h3]; right; right; omega
      · rw [if_neg h3]
        by_cases h2 : o4 (tpb (web (S 3) (S 4) em ls) em) = true
        · rw [if_pos h2]; right; right; omega
        · rw [if_neg h2]; right; left; exact ⟨rfl, h2, h3⟩
  · rw [if_pos h0]; right; right; omega
theorem iv_clk {S sw em ls sl : Int → Int} {wr : Int} (i : iv S sw em) (p : S 2 = 1) (w0 : 0 ≤ wr) (w3 : wr ≤ 3) : iv (xS ls sl wr S sw em) (xW ls sl S sw em) (xM ls sl S sw em) := by
  obtain ⟨n, q0, q3, hl, a0, a1, b0, b1, c0, c1, t0, t1, f0, f1, _, k, k1, k2⟩ := i
  obtain ⟨k, k'⟩ := k (Or.inl p)
  obtain ⟨m1, m2, m3⟩ := k1 p
  have i0 := ix_ok (S 3)
  unfold xS xW xM xO xS1 xW1 xM1
  rw [if_pos p, if_pos p, if_pos p, if_pos p]
  have K := co_k (s10 S) sw ls sl
  have z3 : s10 S 3 = S 3 := rfl
  have z4 : s10 S 4 = S 4 := rfl
  have z7 : s10 S 7 = S 7 := rfl
  have z9 : s10 S 9 = S 9 := rfl
  rw [z3, z4, z7, z9] at K
  rcases K with e | ⟨e, e1, e2, e3⟩ | e
  · rw [if_neg (by omega), if_neg (by omega), if_neg (by omega)]
    have a : cS (s10 S) sw ls sl = up (cS0 (s10 S) sw ls sl) 2 2 := by unfold cS; rw [if_pos e]
    have b : cW (s10 S) sw ls sl = sw := by unfold cW; rw [if_neg (by omega)]
    rw [a, b]
    refine ⟨n, q0, q3, hl, ?_, ?_, ?_, ?_, c0, c1, ?_, ?_, f0, f1, Or.inr (Or.inl rfl), fun _ => ⟨k, ?_⟩, fun h => ?_, fun _ => ?_⟩
    · show 0 ≤ S 7 + 1; omega
    · show S 7 + 1 ≤ 10; omega
    · show 0 ≤ S 9 + 1; omega
    · show S 9 + 1 ≤ 7; omega
    · show 0 ≤ S 10 + 1; omega
    · show S 10 + 1 ≤ 192; omega
    · show S 10 + 1 ≤ 16 * S 11 + (S 7 + 1) + S 8; omega
    · have h' : (2 : Int) = 1 := h; omega
    · show S 8 ≤ 5; omega
  · rw [if_neg (by omega), if_neg (by omega), if_neg (by omega)]
    by_cases w : b4 (wsb (S 3) (S 4) sw ls) = 0
    · have a : cS (s10 S) sw ls sl = cS0 (s10 S) sw ls sl := by unfold cS; rw [if_neg (by omega), if_neg (fun q => q.2 w)]
      have b : cW (s10 S) sw ls sl = sw := by unfold cW; rw [if_neg (fun q => q.2 w)]
      rw [a, b]
      refine ⟨n, q0, q3, hl, ?_, ?_, ?_, ?_, c0, c1, ?_, ?_, f0, f1, Or.inl p, fun _ => ⟨k, ?_⟩, fun h => ⟨?_, ?_, m3⟩, fun h => ?_⟩
      · show 0 ≤ S 7 + 1; omega
      · show S 7 + 1 ≤ 10; omega
      · show 0 ≤ S 9 + 1; omega
      · show S 9 + 1 ≤ 7; omega
      · show 0 ≤ S 10 + 1; omega
      · show S 10 + 1 ≤ 192; omega
      · show S 10 + 1 ≤ 16 * S 11 + (S 7 + 1) + S 8; omega
      · show S 7 + 1 ≤ 9; omega
      · show S 9 + 1 ≤ 6; omega
      · show S 8 ≤ 5; omega
    · have a : cS (s10 S) sw ls sl = up (cS0 (s10 S) sw ls sl) 9 0 := by unfold cS; rw [if_neg (by omega), if_pos ⟨e, w⟩]
      have b : cW (s10 S) sw ls sl = rai (wsb (S 3) (S 4) sw ls) sw := by unfold cW; rw [if_pos ⟨e, w⟩, z3, z4]
      rw [a, b]
      refine ⟨n, q0, q3, fun l l0 l3 => ?_, ?_, ?_, ?_, ?_, c0, c1, ?_, ?_, f0, f1, Or.inl p, fun _ => ⟨k, ?_⟩, fun h => ⟨?_, ?_, m3⟩, fun h => ?_⟩
      · have := hl l l0 l3
        have r := rai_3 e1 l l0 l3 this.1 this.2.1
        exact ⟨r.1, r.2, this.2.2⟩
      · show 0 ≤ S 7 + 1; omega
      · show S 7 + 1 ≤ 10; omega
      · show (0 : Int) ≤ 0; omega
      · show (0 : Int) ≤ 7; omega
      · show 0 ≤ S 10 + 1; omega
      · show S 10 + 1 ≤ 192; omega
      · show S 10 + 1 ≤ 16 * S 11 + (S 7 + 1) + S 8; omega
      · show S 7 + 1 ≤ 9; omega
      · show (0 : Int) ≤ 6; omega
      · show S 8 ≤ 5; omega
  · rw [if_pos e, if_pos e, if_pos e]
    have a : cS (s10 S) sw ls sl = cS0 (s10 S) sw ls sl := by unfold cS; rw [if_neg (by omega), if_neg (by omega)]
    rw [a]
    refine iv_fall n q0 q3 ?_ c1 ?_ f0 (Or.inl p) k ?_ w0 w3
    · show S 7 + 1 ≤ 10; omega
    · show 0 ≤ S 10 + 1; omega
    · show S 10 + 1 ≤ 16 * S 11 + (S 7 + 1) + S 8; omega
theorem iv_evn {S sw em ls sl : Int → Int} {wr : Int} (i : iv S sw em) (p : S 2 = 2) (w0 : 0 ≤ wr) (w3 : wr ≤ 3) : iv (xS ls sl wr S sw em) (xW ls sl S sw em) (xM ls sl S sw em) := by
  obtain ⟨n, q0, q3, hl, a0, a1, b0, b1, c0, c1, t0, t1, f0, f1, _, k, k1, k2⟩ := i
  obtain ⟨k, k'⟩ := k (Or.inr p)
  have m := k2 p
  have p1 : ¬ S 2 = 1 := by omega
  have i0 := ix_ok (S 3)
  unfold xS xW xM xO xS1 xW1 xM1
  rw [if_neg p1, if_neg p1, if_neg p1, if_neg p1]
  have K := eo_k (s10 S) sw em ls sl
  have z3 : s10 S 3 = S 3 := rfl
  have z4 : s10 S 4 = S 4 := rfl
  have z8 : s10 S 8 = S 8 := rfl
  rw [z3, z4, z8] at K
  rcases K with e | ⟨e, e1, e2⟩ | e
  · rw [if_neg (by omega), if_neg (by omega), if_neg (by omega)]
    have a : eS (s10 S) sw em ls sl = up (eS2 (s10 S) em ls sl) 2 3 := by unfold eS; rw [if_neg (by omega), if_pos e]
    have b : eW (s10 S) sw em ls sl = sw := by unfold eW; rw [if_neg (by omega)]
    have d : eM (s10 S) sw em ls sl = em := by unfold eM; rw [if_neg (by omega)]
    rw [a, b, d]
    refine ⟨n, q0, q3, hl, a0, a1, b0, b1, ?_, ?_, ?_, ?_, f0, f1, Or.inr (Or.inr (Or.inl rfl)), fun h => ?_, fun h => ?_, fun h => ?_⟩
    · show 0 ≤ S 8 + 1; omega
    · show S 8 + 1 ≤ 6; omega
    · show 0 ≤ S 10 + 1; omega
    · show S 10 + 1 ≤ 192; omega
    · have h' : (3 : Int) = 1 ∨ (3 : Int) = 2 := h; omega
    · have h' : (3 : Int) = 1 := h; omega
    · have h' : (3 : Int) = 2 := h; omega
  · rw [if_neg (by omega), if_neg (by omega), if_neg (by omega)]
    have a : eS (s10 S) sw em ls sl = eS2 (s10 S) em ls sl := by unfold eS; rw [if_neg (by omega), if_neg (by omega)]
    have b : eW (s10 S) sw em ls sl = ez (web (S 3) (S 4) em ls) sw (rai (web (S 3) (S 4) em ls) em) := by unfold eW; rw [if_pos e, z3, z4]
    have d : eM (s10 S) sw em ls sl = rai (web (S 3) (S 4) em ls) em := by unfold eM; rw [if_pos e, z3, z4]
    rw [a, b, d]
    refine ⟨n, q0, q3, fun l l0 l3 => ?_, a0, a1, b0, b1, ?_, ?_, ?_, ?_, f0, f1, Or.inr (Or.inl p), fun h => ⟨k, ?_⟩, fun h => ?_, fun h => ?_⟩
    · have hq := hl l l0 l3
      have r := rai_3 e1 l l0 l3 hq.2.2.1 hq.2.2.2
      refine ⟨?_, ?_, r.1, r.2⟩
      · unfold ez ezb
        split
        · rename_i q
          have q2 : 3 < sw l + rai (web (S 3) (S 4) em ls) em l := by
            have := (Bool.and_eq_true _ _ ▸ q).2
            exact of_decide_eq_true this
          omega
        · omega
      · unfold ez
        split <;> omega
    · show 0 ≤ S 8 + 1; omega
    · show S 8 + 1 ≤ 6; omega
    · show 0 ≤ S 10 + 1; omega
    · show S 10 + 1 ≤ 192; omega
    · show S 10 + 1 ≤ 16 * S 11 + S 7 + (S 8 + 1); omega
    · have h' : S 2 = 1 := h; omega
    · show S 8 + 1 ≤ 5; omega
  · rw [if_pos e, if_pos e, if_pos e]
    by_cases e4 : eO (s10 S) sw em ls sl = 4
    · have a : eS (s10 S) sw em ls sl = eS1 (s10 S) := by unfold eS; rw [if_pos e4]
      rw [a]
      refine iv_fall n q0 q3 a1 ?_ ?_ f0 (Or.inr p) k ?_ w0 w3
      · show S 8 + 1 ≤ 6; omega
      · show 0 ≤ S 10 + 1; omega
      · show S 10 + 1 ≤ 16 * S 11 + S 7 + (S 8 + 1); omega
    · have a : eS (s10 S) sw em ls sl = eS2 (s10 S) em ls sl := by unfold eS; rw [if_neg e4, if_neg (by omega)]
      rw [a]
      refine iv_fall n q0 q3 a1 ?_ ?_ f0 (Or.inr p) k ?_ w0 w3
      · show S 8 + 1 ≤ 6; omega
      · show 0 ≤ S 10 + 1; omega
      · show S 10 + 1 ≤ 16 * S 11 + S 7 + (S 8 + 1); omega
theorem iv_step {S sw em ls sl : Int → Int} {wr : Int} (i : iv S sw em) (p : S 2 = 1 ∨ S 2 = 2) (w0 : 0 ≤ wr) (w3 : wr ≤ 3) : iv (xS ls sl wr S sw em) (xW ls sl S sw em) (xM ls sl S sw em) := by
  rcases p with p | p
  · exact iv_clk i p w0 w3
  · exact iv_evn i p w0 w3
