/-! THE TWO OBJECTS SIDE BY SIDE: c the memory in which the class's cells (10 to 148) are read, r that of the reference's (149 to 171) -/
def SXl : List (Int × Int × Int) := [(10, 0, 11), (10, 1, 13), (10, 2, 15), (10, 3, 16), (10, 4, 45), (10, 5, 129), (10, 6, 131), (10, 7, 132), (10, 8, 134), (10, 9, 137), (10, 10, 140), (10, 11, 143), (10, 12, 146), (11, 0, 12), (13, 0, 14), (16, 0, 17), (17, 0, 18), (16, 1, 19), (16, 2, 20), (16, 3, 21), (16, 4, 22), (45, 0, 46), (45, 1, 47), (45, 2, 48), (129, 0, 130), (132, 0, 133), (134, 0, 135), (134, 1, 136), (137, 0, 138), (137, 1, 139), (140, 0, 141), (140, 1, 142), (143, 0, 144), (143, 1, 145), (146, 0, 147), (146, 1, 148)]
def SMl : List (Int × Int × Int) := [(149, 1, 150), (149, 2, 151), (149, 3, 152), (149, 9, 153), (149, 10, 154), (149, 11, 155), (149, 12, 156), (149, 20, 157), (149, 21, 158), (149, 22, 159), (149, 24, 160), (149, 25, 161), (149, 26, 162), (149, 27, 163), (149, 29, 164), (149, 35, 165), (149, 36, 166), (149, 37, 167), (149, 38, 168), (149, 39, 169), (149, 40, 170), (149, 41, 171)]
def SX (c : MM) : Prop := (∀ q ∈ SXl, c q.1 q.2.1 = q.2.2) ∧ (∀ k, 0 ≤ k → k < 22 → c 19 k = 23 + k) ∧ (∀ j, 0 ≤ j → j < 40 → c (49 + 2 * j) 0 = 50 + 2 * j)
def SM (r : MM) : Prop := ∀ q ∈ SMl, r q.1 q.2.1 = q.2.2
theorem sx_10_0 {c : MM} (h : SX c) : c 10 0 = 11 := h.1 (10, 0, 11) (List.mem_of_getElem? (i := 0) rfl)
theorem sx_10_1 {c : MM} (h : SX c) : c 10 1 = 13 := h.1 (10, 1, 13) (List.mem_of_getElem? (i := 1) rfl)
theorem sx_10_2 {c : MM} (h : SX c) : c 10 2 = 15 := h.1 (10, 2, 15) (List.mem_of_getElem? (i := 2) rfl)
theorem sx_10_3 {c : MM} (h : SX c) : c 10 3 = 16 := h.1 (10, 3, 16) (List.mem_of_getElem? (i := 3) rfl)
theorem sx_10_4 {c : MM} (h : SX c) : c 10 4 = 45 := h.1 (10, 4, 45) (List.mem_of_getElem? (i := 4) rfl)
theorem sx_10_5 {c : MM} (h : SX c) : c 10 5 = 129 := h.1 (10, 5, 129) (List.mem_of_getElem? (i := 5) rfl)
theorem sx_10_6 {c : MM} (h : SX c) : c 10 6 = 131 := h.1 (10, 6, 131) (List.mem_of_getElem? (i := 6) rfl)
theorem sx_10_7 {c : MM} (h : SX c) : c 10 7 = 132 := h.1 (10, 7, 132) (List.mem_of_getElem? (i := 7) rfl)
theorem sx_10_8 {c : MM} (h : SX c) : c 10 8 = 134 := h.1 (10, 8, 134) (List.mem_of_getElem? (i := 8) rfl)
theorem sx_10_9 {c : MM} (h : SX c) : c 10 9 = 137 := h.1 (10, 9, 137) (List.mem_of_getElem? (i := 9) rfl)
theorem sx_10_10 {c : MM} (h : SX c) : c 10 10 = 140 := h.1 (10, 10, 140) (List.mem_of_getElem? (i := 10) rfl)
theorem sx_10_11 {c : MM} (h : SX c) : c 10 11 = 143 := h.1 (10, 11, 143) (List.mem_of_getElem? (i := 11) rfl)
theorem sx_10_12 {c : MM} (h : SX c) : c 10 12 = 146 := h.1 (10, 12, 146) (List.mem_of_getElem? (i := 12) rfl)
theorem sx_11_0 {c : MM} (h : SX c) : c 11 0 = 12 := h.1 (11, 0, 12) (List.mem_of_getElem? (i := 13) rfl)
theorem sx_13_0 {c : MM} (h : SX c) : c 13 0 = 14 := h.1 (13, 0, 14) (List.mem_of_getElem? (i := 14) rfl)
theorem sx_16_0 {c : MM} (h : SX c) : c 16 0 = 17 := h.1 (16, 0, 17) (List.mem_of_getElem? (i := 15) rfl)
theorem sx_17_0 {c : MM} (h : SX c) : c 17 0 = 18 := h.1 (17, 0, 18) (List.mem_of_getElem? (i := 16) rfl)
theorem sx_16_1 {c : MM} (h : SX c) : c 16 1 = 19 := h.1 (16, 1, 19) (List.mem_of_getElem? (i := 17) rfl)
theorem sx_16_2 {c : MM} (h : SX c) : c 16 2 = 20 := h.1 (16, 2, 20) (List.mem_of_getElem? (i := 18) rfl)
theorem sx_16_3 {c : MM} (h : SX c) : c 16 3 = 21 := h.1 (16, 3, 21) (List.mem_of_getElem? (i := 19) rfl)
theorem sx_16_4 {c : MM} (h : SX c) : c 16 4 = 22 := h.1 (16, 4, 22) (List.mem_of_getElem? (i := 20) rfl)
theorem sx_45_0 {c : MM} (h : SX c) : c 45 0 = 46 := h.1 (45, 0, 46) (List.mem_of_getElem? (i := 21) rfl)
theorem sx_45_1 {c : MM} (h : SX c) : c 45 1 = 47 := h.1 (45, 1, 47) (List.mem_of_getElem? (i := 22) rfl)
theorem sx_45_2 {c : MM} (h : SX c) : c 45 2 = 48 := h.1 (45, 2, 48) (List.mem_of_getElem? (i := 23) rfl)
theorem sx_129_0 {c : MM} (h : SX c) : c 129 0 = 130 := h.1 (129, 0, 130) (List.mem_of_getElem? (i := 24) rfl)
theorem sx_132_0 {c : MM} (h : SX c) : c 132 0 = 133 := h.1 (132, 0, 133) (List.mem_of_getElem? (i := 25) rfl)
theorem sx_134_0 {c : MM} (h : SX c) : c 134 0 = 135 := h.1 (134, 0, 135) (List.mem_of_getElem? (i := 26) rfl)
theorem sx_134_1 {c : MM} (h : SX c) : c 134 1 = 136 := h.1 (134, 1, 136) (List.mem_of_getElem? (i := 27) rfl)
theorem sx_137_0 {c : MM} (h : SX c) : c 137 0 = 138 := h.1 (137, 0, 138) (List.mem_of_getElem? (i := 28) rfl)
theorem sx_137_1 {c : MM} (h : SX c) : c 137 1 = 139 := h.1 (137, 1, 139) (List.mem_of_getElem? (i := 29) rfl)
theorem sx_140_0 {c : MM} (h : SX c) : c 140 0 = 141 := h.1 (140, 0, 141) (List.mem_of_getElem? (i := 30) rfl)
theorem sx_140_1 {c : MM} (h : SX c) : c 140 1 = 142 := h.1 (140, 1, 142) (List.mem_of_getElem? (i := 31) rfl)
theorem sx_143_0 {c : MM} (h : SX c) : c 143 0 = 144 := h.1 (143, 0, 144) (List.mem_of_getElem? (i := 32) rfl)
theorem sx_143_1 {c : MM} (h : SX c) : c 143 1 = 145 := h.1 (143, 1, 145) (List.mem_of_getElem? (i := 33) rfl)
theorem sx_146_0 {c : MM} (h : SX c) : c 146 0 = 147 := h.1 (146, 0, 147) (List.mem_of_getElem? (i := 34) rfl)
theorem sx_146_1 {c : MM} (h : SX c) : c 146 1 = 148 := h.1 (146, 1, 148) (List.mem_of_getElem? (i := 35) rfl)
theorem sm_149_1 {r : MM} (h : SM r) : r 149 1 = 150 := h (149, 1, 150) (List.mem_of_getElem? (i := 0) rfl)
theorem sm_149_2 {r : MM} (h : SM r) : r 149 2 = 151 := h (149, 2, 151) (List.mem_of_getElem? (i := 1) rfl)
theorem sm_149_3 {r : MM} (h : SM r) : r 149 3 = 152 := h (149, 3, 152) (List.mem_of_getElem? (i := 2) rfl)
theorem sm_149_9 {r : MM} (h : SM r) : r 149 9 = 153 := h (149, 9, 153) (List.mem_of_getElem? (i := 3) rfl)
theorem sm_149_10 {r : MM} (h : SM r) : r 149 10 = 154 := h (149, 10, 154) (List.mem_of_getElem? (i := 4) rfl)
theorem sm_149_11 {r : MM} (h : SM r) : r 149 11 = 155 := h (149, 11, 155) (List.mem_of_getElem? (i := 5) rfl)
theorem sm_149_12 {r : MM} (h : SM r) : r 149 12 = 156 := h (149, 12, 156) (List.mem_of_getElem? (i := 6) rfl)
theorem sm_149_20 {r : MM} (h : SM r) : r 149 20 = 157 := h (149, 20, 157) (List.mem_of_getElem? (i := 7) rfl)
theorem sm_149_21 {r : MM} (h : SM r) : r 149 21 = 158 := h (149, 21, 158) (List.mem_of_getElem? (i := 8) rfl)
theorem sm_149_22 {r : MM} (h : SM r) : r 149 22 = 159 := h (149, 22, 159) (List.mem_of_getElem? (i := 9) rfl)
theorem sm_149_24 {r : MM} (h : SM r) : r 149 24 = 160 := h (149, 24, 160) (List.mem_of_getElem? (i := 10) rfl)
theorem sm_149_25 {r : MM} (h : SM r) : r 149 25 = 161 := h (149, 25, 161) (List.mem_of_getElem? (i := 11) rfl)
theorem sm_149_26 {r : MM} (h : SM r) : r 149 26 = 162 := h (149, 26, 162) (List.mem_of_getElem? (i := 12) rfl)
theorem sm_149_27 {r : MM} (h : SM r) : r 149 27 = 163 := h (149, 27, 163) (List.mem_of_getElem? (i := 13) rfl)
theorem sm_149_29 {r : MM} (h : SM r) : r 149 29 = 164 := h (149, 29, 164) (List.mem_of_getElem? (i := 14) rfl)
theorem sm_149_35 {r : MM} (h : SM r) : r 149 35 = 165 := h (149, 35, 165) (List.mem_of_getElem? (i := 15) rfl)
theorem sm_149_36 {r : MM} (h : SM r) : r 149 36 = 166 := h (149, 36, 166) (List.mem_of_getElem? (i := 16) rfl)
theorem sm_149_37 {r : MM} (h : SM r) : r 149 37 = 167 := h (149, 37, 167) (List.mem_of_getElem? (i := 17) rfl)
theorem sm_149_38 {r : MM} (h : SM r) : r 149 38 = 168 := h (149, 38, 168) (List.mem_of_getElem? (i := 18) rfl)
theorem sm_149_39 {r : MM} (h : SM r) : r 149 39 = 169 := h (149, 39, 169) (List.mem_of_getElem? (i := 19) rfl)
theorem sm_149_40 {r : MM} (h : SM r) : r 149 40 = 170 := h (149, 40, 170) (List.mem_of_getElem? (i := 20) rfl)
theorem sm_149_41 {r : MM} (h : SM r) : r 149 41 = 171 := h (149, 41, 171) (List.mem_of_getElem? (i := 21) rfl)
theorem ms_row (μ : MM) (a k v b : Int) (h : ¬ b = a) : mset μ a k v b = μ b := by funext j; simp [mset, h]
def FX (c c' : MM) : Prop := ∀ a, ¬ (10 ≤ a ∧ a < 149) → c' a = c a
def FM (r r' : MM) : Prop := ∀ a, ¬ (149 ≤ a ∧ a < 172) → r' a = r a
theorem FX.rf (c : MM) : FX c c := fun _ _ => rfl
theorem FM.rf (c : MM) : FM c c := fun _ _ => rfl
theorem FX.ms {c c' : MM} (h : FX c c') (a k v : Int) (h1 : 10 ≤ a) (h2 : a < 149) : FX c (mset c' a k v) := fun b hb => by
  rw [ms_row _ _ _ _ _ (by omega)]; exact h b hb
theorem FM.ms {c c' : MM} (h : FM c c') (a k v : Int) (h1 : 149 ≤ a) (h2 : a < 172) : FM c (mset c' a k v) := fun b hb => by
  rw [ms_row _ _ _ _ _ (by omega)]; exact h b hb
/-- the tape -/
def Rtape (c r : MM) : Prop := c 11 1 = r 149 4 ∧ 0 ≤ c 11 1 ∧ c 11 1 ≤ 520 ∧ ∀ i, 0 ≤ i → i < c 11 1 → c 12 i = r 150 i ∧ 0 ≤ c 12 i ∧ c 12 i < 256
/-- the latest bytes, their fault -/
def Rlat (c r : MM) : Prop := c 13 1 = r 149 5 ∧ 0 ≤ c 13 1 ∧ c 13 1 ≤ 520 ∧ (∀ i, 0 ≤ i → i < c 13 1 → c 14 i = r 151 i ∧ 0 ≤ c 14 i ∧ c 14 i < 256) ∧ c 15 0 = r 149 7 ∧ c 15 1 = r 149 8
/-- a timing's row: is it broken -/
def bro (t : Int → Int) : Prop := t 1 = 0 ∨ t 5 = 0 ∨ t 2 < t 3 + t 4 ∨ t 6 < t 7 + t 8
/-- the parts of a timing have their bounds -/
def tok (t : Int → Int) : Prop := 0 ≤ t 0 ∧ t 0 ≤ 655350 ∧ (∀ j, 1 ≤ j → j ≤ 8 → 0 ≤ t j ∧ t j ≤ 4095) ∧ t 3 ≤ 1023 ∧ t 4 ≤ 1023 ∧ t 7 ≤ 63 ∧ t 8 ≤ 63 ∧ (t 9 = 0 ∨ t 9 = 1)
/-- the screen's bytes and what they tell -/
def Rscr (c r : MM) : Prop := c 16 5 = r 149 6 ∧ 0 ≤ c 16 5 ∧ c 16 5 ≤ 4 ∧ c 17 1 = 128 * c 16 5 ∧ (∀ i, 0 ≤ i → i < 128 * c 16 5 → c 18 i = r 152 i ∧ 0 ≤ c 18 i ∧ c 18 i < 256)
  ∧ (c 16 6 = r 149 13 ∧ 0 ≤ c 16 6 ∧ c 16 6 ≤ 22 ∧ c 16 7 = r 149 19 ∧ ∀ k, 0 ≤ k → k < c 16 6 → (∀ j, 0 ≤ j → j ≤ 9 → c (23 + k) j = r 153 (11 * k + j)) ∧ tok (c (23 + k)) ∧ (r 153 (11 * k + 10) = 0 ∨ r 153 (11 * k + 10) = 1) ∧ (r 153 (11 * k + 10) = 1 ↔ bro (c (23 + k))))
  ∧ (c 16 9 = r 149 14 ∧ 0 ≤ c 16 9 ∧ c 16 9 ≤ 13 ∧ ∀ k, 0 ≤ k → k < c 16 9 → c 21 k = r 154 k)
  ∧ (c 16 12 = r 149 18 ∧ (c 16 12 = 0 ∨ c 16 12 = 1) ∧ (c 16 12 = 1 → (∀ k, 0 ≤ k → k < 5 → 0 ≤ c 22 k ∧ c 22 k < 256) ∧ (∀ k, 0 ≤ k → k < 4 → c 22 k = r 155 k) ∧ 10000 * c 22 4 = r 155 4))
  ∧ c 16 8 = r 149 17 ∧ c 16 10 = r 149 16 ∧ c 16 11 = r 149 15 ∧ 0 ≤ c 16 11 ∧ c 16 11 ≤ 1275000
/-- a mode of the list beside the reference's -/
def Rmo (m t q : Int → Int) (o : Int) : Prop := t 1 = q o ∧ t 5 = q (o + 1) ∧ m 1 = q (o + 2) ∧ t 0 = q (o + 3) ∧ t 1 + t 2 = q (o + 4) ∧ t 5 + t 6 = q (o + 5) ∧ m 2 = q (o + 6) ∧ m 3 = q (o + 7) ∧ t 3 = q (o + 8) ∧ t 4 = q (o + 9) ∧ t 7 = q (o + 10) ∧ t 8 = q (o + 11)
/-- a mode's parts have their bounds -/
def mok (m t : Int → Int) : Prop := 0 < t 0 ∧ t 0 ≤ 655350 ∧ 0 < t 1 ∧ t 1 ≤ 4095 ∧ 0 < t 5 ∧ t 5 ≤ 4095 ∧ 0 ≤ t 2 ∧ t 2 ≤ 4095 ∧ 0 ≤ t 6 ∧ t 6 ≤ 4095 ∧ 0 ≤ t 3 ∧ t 3 ≤ 1023 ∧ 0 ≤ t 4 ∧ t 4 ≤ 1023 ∧ 0 ≤ t 7 ∧ t 7 ≤ 63 ∧ 0 ≤ t 8 ∧ t 8 ≤ 63 ∧ 0 ≤ m 1 ∧ 2 * (m 1 * ((t 1 + t 2) * (t 5 + t 6))) ≤ 2000 * t 0 + (t 1 + t 2) * (t 5 + t 6) ∧ (m 3 = 0 ∨ m 3 = 1) ∧ 0 ≤ m 2 ∧ m 2 ≤ 4
/-- the modes -/
def Rmod (c r : MM) : Prop := c 45 4 = r 149 23 ∧ 0 ≤ c 45 4 ∧ c 45 4 ≤ 40 ∧ (∀ i, 0 ≤ i → i < 7 → c 47 i = r 159 i)
  ∧ (∀ i, 0 ≤ i → i < c 45 4 → ∃ u, c 46 i = 49 + 2 * u ∧ 0 ≤ u ∧ u < 40 ∧ 0 ≤ r 158 i ∧ r 158 i < c 45 4 ∧ Rmo (c (49 + 2 * u)) (c (50 + 2 * u)) (r 157) (12 * r 158 i) ∧ mok (c (49 + 2 * u)) (c (50 + 2 * u)))
/-- the list holds each of its objects once -/
def Rpl (c : MM) : Prop := (∀ i, 0 ≤ i → i < 40 → ∃ u, 0 ≤ u ∧ u < 40 ∧ c 46 i = 49 + 2 * u) ∧ ∀ i j, 0 ≤ i → i < 40 → 0 ≤ j → j < 40 → c 46 i = c 46 j → i = j
def Rwish (c r : MM) : Prop := c 10 13 = r 149 30 ∧ (c 10 13 = 6 ∨ c 10 13 = 8 ∨ c 10 13 = 10 ∨ c 10 13 = 12)
def Rwi (c r : MM) : Prop := c 134 2 = r 149 31 ∧ c 134 3 = r 149 32 ∧ (c 134 2 = 1 ∨ c 134 2 = 2 ∨ c 134 2 = 4) ∧ 0 ≤ c 134 3 ∧ c 134 3 ≤ 3 ∧ ∀ l, 0 ≤ l → l < 4 → c 135 l = r 167 l ∧ c 136 l = r 168 l ∧ 0 ≤ c 135 l ∧ c 135 l ≤ 30 ∧ 0 ≤ c 136 l ∧ c 136 l ≤ 12
