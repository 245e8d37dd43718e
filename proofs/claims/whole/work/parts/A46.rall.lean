/-! ALL RELATIONS, and what leaves them as they are -/
/-- the tables: codes and established ones of both, digits -/
def cod_l : List Int := [1, 640, 480, 800, 525, 25175, 2, 720, 480, 858, 525, 27000, 3, 720, 480, 858, 525, 27000, 4, 1280, 720, 1650, 750, 74250, 16, 1920, 1080, 2200, 1125, 148500, 17, 720, 576, 864, 625, 27000, 18, 720, 576, 864, 625, 27000, 19, 1280, 720, 1980, 750, 74250, 31, 1920, 1080, 2640, 1125, 148500, 32, 1920, 1080, 2750, 1125, 74250, 63, 1920, 1080, 2200, 1125, 297000, 95, 3840, 2160, 4400, 2250, 297000, 97, 3840, 2160, 4400, 2250, 594000]
def est_l : List Int := [35, 5, 640, 480, 60, 35, 2, 640, 480, 75, 35, 0, 800, 600, 60, 36, 3, 1024, 768, 60, 36, 1, 1024, 768, 75, 36, 0, 1280, 1024, 75]
def tab_l : List Int := [1, 1, 640, 480, 800, 525, 25175, 2, 3, 720, 480, 858, 525, 27000, 4, 4, 1280, 720, 1650, 750, 74250, 16, 16, 1920, 1080, 2200, 1125, 148500, 17, 18, 720, 576, 864, 625, 27000, 19, 19, 1280, 720, 1980, 750, 74250, 31, 31, 1920, 1080, 2640, 1125, 148500, 32, 32, 1920, 1080, 2750, 1125, 74250, 63, 63, 1920, 1080, 2200, 1125, 297000, 95, 95, 3840, 2160, 4400, 2250, 297000, 97, 97, 3840, 2160, 4400, 2250, 594000]
def onT (f : Int → Int) (l : List Int) : Prop := ∀ k : Nat, k < l.length → f (k : Int) = l.getD k 0
def Rtb (c r : MM) : Prop := Rst c ∧ onT (c 2) cod_l ∧ onT (c 3) est_l ∧ (∀ j, 0 ≤ j → j < 100 → c 4 j = 48 + j % 10 ∧ c 5 j = 48 + j / 10) ∧ onT (r 160) tab_l ∧ onT (r 161) est_l
/-- the text that names are written into -/
def Rtx (c : MM) : Prop := (c 132 1 = 0 ∧ 0 ≤ c 132 3) ∧ Rpl c
/-- a forged block ahead of its sum -/
def fgd (n nl hr : Int) (md : Int → Int → Int) (nm rg : Int → Int) (d k : Int) : Int :=
  if d < n then dbv (md d) k
  else if d = n then (if 0 < nl then (if k = 3 then 252 else if 5 ≤ k then (if k - 5 < nl then nm (k - 5) else if k - 5 = nl then 10 else 32) else 0) else 0)
  else if d = n + 1 ∧ hr = 1 then (if k = 3 then 253 else if 5 ≤ k ∧ k ≤ 9 then rg (k - 5) else 0) else 0
def fgp (b : Int → Int) (n nl hr : Int) (md : Int → Int → Int) (nm rg : Int → Int) (i : Int) : Int :=
  if 1 ≤ i ∧ i ≤ 6 then 255 else if i = 8 ∨ i = 9 ∨ i = 21 ∨ i = 22 then b i else if i = 18 then 1
  else if 54 ≤ i ∧ i < 126 then fgd n nl hr md nm rg ((i - 54) / 18) ((i - 54) % 18) else 0
def fgb (b : Int → Int) (n nl hr : Int) (md : Int → Int → Int) (nm rg : Int → Int) (i : Int) : Int :=
  if i = 127 then (256 - sm (fgp b n nl hr md nm rg) 0 127 % 256) % 256 else fgp b n nl hr md nm rg i
def fgc (c : MM) (i : Int) : Int := fgb (c 18) (c 45 4) (c 16 9) (c 16 12) (fun d => tg (c (c 46 d + 1))) (c 21) (c 22) i
def Rfg (c : MM) : Prop := ¬ c 16 5 = 0 → c 129 1 = 1 ∧ (∀ i, 0 ≤ i → i < 128 → c 130 i = fgc c i) ∧ ∀ k, 0 ≤ k → k < c 16 9 → 0 ≤ c 21 k ∧ c 21 k < 256
def RR (c r : MM) : Prop := SX c ∧ SM r ∧ Rtb c r ∧ Rtape c r ∧ Rlat c r ∧ Rscr c r ∧ Rmod c r ∧ Rwish c r ∧ Rwi c r ∧ Rz c r ∧ Rtr c r ∧ Rfg c ∧ r 149 42 = 0 ∧ Rtx c
/-- rows that a call which only tells leaves as they are -/
def keC (c c' : MM) : Prop := (∀ a, (0 ≤ a ∧ a < 131 ∧ ¬ a = 48 ∨ 134 ≤ a ∧ a ≤ 142) → c' a = c a) ∧ (c' 132 0 = c 132 0 ∧ c' 132 1 = c 132 1 ∧ (0 ≤ c 132 3 → 0 ≤ c' 132 3)) ∧ (c' 143 0 = c 143 0 ∧ c' 143 1 = c 143 1 ∧ c' 146 0 = c 146 0 ∧ c' 146 1 = c 146 1) ∧ (∀ j, ¬ (0 ≤ j ∧ j < 4) → c' 144 j = c 144 j ∧ c' 145 j = c 145 j)
def keR (r r' : MM) : Prop := (∀ a, (150 ≤ a ∧ a < 162 ∨ a = 165 ∨ a = 167 ∨ a = 168 ∨ a = 171) → r' a = r a) ∧ ∀ k, ¬ (k = 0 ∨ k = 28 ∨ k = 33 ∨ k = 34 ∨ 43 ≤ k ∧ k ≤ 46) → r' 149 k = r 149 k
theorem keC.rf (c : MM) : keC c c := ⟨fun _ _ => rfl, ⟨rfl, rfl, id⟩, ⟨rfl, rfl, rfl, rfl⟩, fun _ _ => ⟨rfl, rfl⟩⟩
theorem keR.rf (c : MM) : keR c c := ⟨fun _ _ => rfl, fun _ _ => rfl⟩
theorem keR.t (r : MM) : keR r (mset r 149 0 0) := ⟨fun a h => ms_row _ _ _ _ _ (by omega), fun k h => ms_nk _ _ _ _ _ _ (by omega)⟩
theorem SX.ke {c c' : MM} (h : SX c) (k : keC c c') : SX c' := by
  obtain ⟨k1, k2, k3, k4⟩ := k
  obtain ⟨h1, h2, h3⟩ := h
  refine ⟨fun q hq => ?_, fun j h0 hk => ?_, fun j h0 hj => ?_⟩
  · rw [← h1 q hq]
    have : ∀ q ∈ SXl, (0 ≤ q.1 ∧ q.1 < 131 ∧ ¬ q.1 = 48 ∨ 134 ≤ q.1 ∧ q.1 ≤ 142) ∨ (q.1 = 132 ∧ q.2.1 = 0) ∨ (q.1 = 143 ∧ q.2.1 = 0) ∨ (q.1 = 143 ∧ q.2.1 = 1) ∨ (q.1 = 146 ∧ q.2.1 = 0) ∨ (q.1 = 146 ∧ q.2.1 = 1) := by decide
    rcases this q hq with a | a | a | a | a | a
    · rw [k1 _ a]
    · rw [a.1, a.2]; exact k2.1
    · rw [a.1, a.2]; exact k3.1
    · rw [a.1, a.2]; exact k3.2.1
    · rw [a.1, a.2]; exact k3.2.2.1
    · rw [a.1, a.2]; exact k3.2.2.2
  · rw [k1 19 (by omega)]; exact h2 j h0 hk
  · rw [k1 _ (by omega)]; exact h3 j h0 hj
theorem SM.ke {r r' : MM} (h : SM r) (k : keR r r') : SM r' := by
  intro q hq
  rw [← h q hq]
  have : ∀ q ∈ SMl, q.1 = 149 ∧ ¬ (q.2.1 = 0 ∨ q.2.1 = 28 ∨ q.2.1 = 33 ∨ q.2.1 = 34 ∨ 43 ≤ q.2.1 ∧ q.2.1 ≤ 46) := by decide
  have t := this q hq
  rw [t.1]; exact k.2 _ t.2
theorem Rtb.ke {c c' r r' : MM} (h : Rtb c r) (k1 : ∀ a, 0 ≤ a ∧ a < 10 → c' a = c a) (k2 : r' 160 = r 160) (k3 : r' 161 = r 161) : Rtb c' r' := by
  unfold Rtb Rst at *
  rw [k1 1 (by omega), k1 2 (by omega), k1 3 (by omega), k1 4 (by omega), k1 5 (by omega), k2, k3]; exact h
theorem Rtape.ke {c c' r r' : MM} (h : Rtape c r) (k1 : c' 11 = c 11) (k2 : c' 12 = c 12) (k3 : r' 149 4 = r 149 4) (k4 : r' 150 = r 150) : Rtape c' r' := by
  unfold Rtape at *
  rw [k1, k2, k3, k4]; exact h
theorem Rlat.ke {c c' r r' : MM} (h : Rlat c r) (k1 : c' 13 = c 13) (k2 : c' 14 = c 14) (k2' : c' 15 = c 15) (k3 : r' 149 5 = r 149 5) (k4 : r' 151 = r 151) (k5 : r' 149 7 = r 149 7) (k6 : r' 149 8 = r 149 8) : Rlat c' r' := by
  unfold Rlat at *
  rw [k1, k2, k2', k3, k4, k5, k6]; exact h
theorem Rscr.ke {c c' r r' : MM} (h : Rscr c r) (k : ∀ a, 16 ≤ a ∧ a < 45 → c' a = c a) (q : ∀ a, 152 ≤ a ∧ a < 157 → r' a = r a) (p : ∀ k, (k = 6 ∨ 13 ≤ k ∧ k ≤ 19) → r' 149 k = r 149 k) : Rscr c' r' := by
  obtain ⟨a1, a2, a3, a4, a5, ⟨b1, b2, b3, b4, b5⟩, b, d, e⟩ := h
  unfold Rscr
  rw [k 16 (by omega), k 17 (by omega), k 18 (by omega), k 21 (by omega), k 22 (by omega), q 152 (by omega), q 153 (by omega), q 154 (by omega), q 155 (by omega), p 6 (by omega), p 13 (by omega), p 14 (by omega), p 15 (by omega), p 16 (by omega), p 17 (by omega), p 18 (by omega), p 19 (by omega)]
  refine ⟨a1, a2, a3, a4, a5, ⟨b1, b2, b3, b4, fun j j0 j1 => ?_⟩, b, d, e⟩
  rw [k (23 + j) (by omega)]; exact b5 j j0 j1
theorem Rmod.ke {c c' r r' : MM} (h : Rmod c r) (k : ∀ a, 45 ≤ a ∧ a < 129 ∧ ¬ a = 48 → c' a = c a) (q : ∀ a, 157 ≤ a ∧ a < 160 → r' a = r a) (p : r' 149 23 = r 149 23) : Rmod c' r' := by
  obtain ⟨a1, a2, a3, a4, a6⟩ := h
  unfold Rmod
  rw [k 45 (by omega), k 46 (by omega), k 47 (by omega), q 157 (by omega), q 158 (by omega), q 159 (by omega), p]
  refine ⟨a1, a2, a3, a4, fun j j0 j1 => ?_⟩
  obtain ⟨u, o1, u0, u3, o2, o3, e, f⟩ := a6 j j0 j1
  refine ⟨u, o1, u0, u3, o2, o3, ?_, ?_⟩
  · rw [k (49 + 2 * u) (by omega), k (50 + 2 * u) (by omega)]; exact e
  · rw [k (49 + 2 * u) (by omega), k (50 + 2 * u) (by omega)]; exact f
theorem Rwish.ke {c c' r r' : MM} (h : Rwish c r) (k : c' 10 13 = c 10 13) (q : r' 149 30 = r 149 30) : Rwish c' r' := by
  unfold Rwish at *; rw [k, q]; exact h
theorem Rwi.ke {c c' r r' : MM} (h : Rwi c r) (k1 : c' 134 = c 134) (k2 : c' 135 = c 135) (k3 : c' 136 = c 136) (q1 : r' 149 31 = r 149 31) (q2 : r' 149 32 = r 149 32) (q3 : r' 167 = r 167) (q4 : r' 168 = r 168) : Rwi c' r' := by
  unfold Rwi at *; rw [k1, k2, k3, q1, q2, q3, q4]; exact h
theorem Rz.ke {c c' r r' : MM} (h : Rz c r) (k2 : c' 135 = c 135) (k3 : c' 136 = c 136) (k4 : ∀ j, ¬ (0 ≤ j ∧ j < 4) → c' 144 j = c 144 j ∧ c' 145 j = c 145 j) (q3 : r' 167 = r 167) (q4 : r' 168 = r 168) : Rz c' r' := by
  unfold Rz at *
  rw [k2, k3, q3, q4]
  refine ⟨h.1, h.2.1, fun j hj => ?_⟩
  rw [(k4 j hj).1, (k4 j hj).2]; exact h.2.2 j hj
theorem Rtr.ke {c c' r r' : MM} (h : Rtr c r) (k : ∀ a, 137 ≤ a ∧ a ≤ 142 → c' a = c a) (q1 : r' 165 = r 165) (q2 : r' 171 = r 171) : Rtr c' r' := by
  unfold Rtr Jn at *
  rw [k 137 (by omega), k 138 (by omega), k 139 (by omega), k 140 (by omega), k 141 (by omega), k 142 (by omega), q1, q2]; exact h
theorem dbv_c0 {f g : Int → Int} (h : f = g) (k : Int) : dbv f k = dbv g k := by rw [h]
theorem sm_cg' {f g : Int → Int} (h : ∀ i, f i = g i) : f = g := funext h
/-- the forge sees only its modes -/
theorem fgp_cg {b b' nm nm' rg rg' : Int → Int} {md md' : Int → Int → Int} (n nl hr : Int) (hb : b = b') (h : ∀ d, 0 ≤ d → d < n → d < 4 → md d = md' d) (hn : nm = nm') (hg : rg = rg') (i : Int) : fgp b n nl hr md nm rg i = fgp b' n nl hr md' nm' rg' i := by
  subst hb hn hg
  unfold fgp
  by_cases a1 : 1 ≤ i ∧ i ≤ 6
  · rw [if_pos a1, if_pos a1]
  · rw [if_neg a1, if_neg a1]
    split
    · rfl
    · split
      · rfl
      · by_cases q : 54 ≤ i ∧ i < 126
        · rw [if_pos q, if_pos q]
          unfold fgd
          by_cases p : (i - 54) / 18 < n
          · rw [if_pos p, if_pos p, h _ (by omega) p (by omega)]
          · rw [if_neg p, if_neg p]
        · rw [if_neg q, if_neg q]
theorem fgb_cg {b b' nm nm' rg rg' : Int → Int} {md md' : Int → Int → Int} (n nl hr : Int) (hb : b = b') (h : ∀ d, 0 ≤ d → d < n → d < 4 → md d = md' d) (hn : nm = nm') (hg : rg = rg') (i : Int) : fgb b n nl hr md nm rg i = fgb b' n nl hr md' nm' rg' i := by
  have e : fgp b n nl hr md nm rg = fgp b' n nl hr md' nm' rg' := funext (fgp_cg n nl hr hb h hn hg)
  unfold fgb
  rw [e]
theorem Rfg.ke {c c' r : MM} (h : Rfg c) (hM : Rmod c r) (k : ∀ a, 16 ≤ a ∧ a < 131 ∧ ¬ a = 48 → c' a = c a) : Rfg c' := by
  unfold Rfg at *
  rw [k 16 (by omega), k 129 (by omega), k 130 (by omega), k 21 (by omega)]
  intro hb
  refine ⟨(h hb).1, fun i i0 i1 => ?_, (h hb).2.2⟩
  rw [(h hb).2.1 i i0 i1]
  unfold fgc
  rw [k 18 (by omega), k 45 (by omega), k 16 (by omega), k 21 (by omega), k 22 (by omega), k 46 (by omega)]
  refine fgb_cg _ _ _ rfl (fun d d0 d1 d2 => ?_) rfl rfl i
  obtain ⟨m1, m2, m3, m4, m6⟩ := hM
  obtain ⟨u, o1, u0, u3, _⟩ := m6 d d0 d1
  rw [k _ (by omega)]
theorem RR.ke {c c' r r' : MM} (h : RR c r) (k : keC c c') (q : keR r r') : RR c' r' := by
  obtain ⟨h1, h2, h3, h4, h5, h6, h7, h8, h9, h10, h11, h12, h13, h14⟩ := h
  obtain ⟨k1, k2, k3, k4⟩ := k
  obtain ⟨q1, q2⟩ := q
  refine ⟨h1.ke ⟨k1, k2, k3, k4⟩, h2.ke ⟨q1, q2⟩, h3.ke (fun a ha => k1 a (by omega)) (q1 _ (by omega)) (q1 _ (by omega)), h4.ke (k1 _ (by omega)) (k1 _ (by omega)) (q2 _ (by omega)) (q1 _ (by omega)), h5.ke (k1 _ (by omega)) (k1 _ (by omega)) (k1 _ (by omega)) (q2 _ (by omega)) (q1 _ (by omega)) (q2 _ (by omega)) (q2 _ (by omega)), h6.ke (fun a ha => k1 a (by omega)) (fun a ha => q1 a (by omega)) (fun a ha => q2 a (by omega)), h7.ke (fun a ha => k1 a (by omega)) (fun a ha => q1 a (by omega)) (q2 _ (by omega)), h8.ke (by rw [k1 10 (by omega)]) (q2 _ (by omega)), h9.ke (k1 _ (by omega)) (k1 _ (by omega)) (k1 _ (by omega)) (q2 _ (by omega)) (q2 _ (by omega)) (q1 _ (by omega)) (q1 _ (by omega)), h10.ke (k1 _ (by omega)) (k1 _ (by omega)) k4 (q1 _ (by omega)) (q1 _ (by omega)), h11.ke (fun a ha => k1 a (by omega)) (q1 _ (by omega)) (q1 _ (by omega)), h12.ke h7 (fun a ha => k1 a (by omega)), ?_, ?_⟩
  · rw [q2 42 (by omega)]; exact h13
  · exact ⟨⟨by rw [k2.2.1]; exact h14.1.1, k2.2.2 h14.1.2⟩, by unfold Rpl; rw [k1 46 (by omega)]; exact h14.2⟩
