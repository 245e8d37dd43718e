/-! a call on both sides -/
def CALL (L : Int) (m : Nat) (ls : ML) (m' : Nat) (ls' : ML) (c r : MM) : Prop := ∃ v c' r', ev m 0 ls [] c (g_1 L) = some (some (vI v), c', g_1 L) ∧ ev m' 0 ls' [] r (g_1 L) = some (some (vI v), r', g_1 L) ∧ RR c' r' ∧ FX c c' ∧ FM r r'
theorem FM.t (r : MM) : FM r (mset r 149 0 0) := (FM.rf r).ms _ _ _ (by omega) (by omega)
theorem keR.bm (r : MM) (a b : Int) : keR r (bm (mset r 149 0 0) a b) := by
  refine ⟨fun x h => ?_, fun k h => ?_⟩
  · rw [bm_r _ _ _ _ (by omega)]; exact (keR.t r).1 x h
  · rw [bm_k _ _ _ _ (by omega) (by omega)]; exact (keR.t r).2 k h
theorem FM.bm (r : MM) (a b : Int) : FM r (bm (mset r 149 0 0) a b) := ((FM.t r).ms _ _ _ (by omega) (by omega)).ms _ _ _ (by omega) (by omega)
theorem keR.wk (r : MM) (k h v z : Int) : keR r (wkm (mset r 149 0 0) k h v z) := by
  refine ⟨fun x h => ?_, fun k h => ?_⟩
  · rw [wkm_a _ _ _ _ _ _ (by omega)]; exact (keR.t r).1 x h
  · rw [wkm_a _ _ _ _ _ _ (by omega)]; exact (keR.t r).2 k h
theorem FM.wk (r : MM) (k h v z : Int) : FM r (wkm (mset r 149 0 0) k h v z) := fun a ha => by
  rw [wkm_a _ _ _ _ _ _ (by omega)]; exact FM.t r a ha
theorem keC.dr (c : MM) (k h v z : Int) : keC c (drm c 131 k h v z) := by
  have e := fun a (q : ¬ a = 131) => drm_a c 131 k h v z a q
  refine ⟨fun a ha => e a (by omega), ?_, ?_, fun j _ => ?_⟩
  · rw [e _ (by omega)]; exact ⟨rfl, rfl, id⟩
  · rw [e _ (by omega), e _ (by omega)]; exact ⟨rfl, rfl, rfl, rfl⟩
  · rw [e _ (by omega), e _ (by omega)]; exact ⟨rfl, rfl⟩
theorem FX.dr (c : MM) (k h v z : Int) : FX c (drm c 131 k h v z) := fun a ha => drm_a _ _ _ _ _ _ _ (by omega)
theorem CALL.tell {L : Int} {m : Nat} {ls : ML} {m' : Nat} {ls' : ML} {c r : MM} (h : RR c r) (v : Int) (c' r' : MM) (h1 : ev m 0 ls [] c (g_1 L) = some (some (vI v), c', g_1 L)) (h2 : ev m' 0 ls' [] r (g_1 L) = some (some (vI v), r', g_1 L)) (k : keC c c') (q : keR r r') (f : FX c c') (g : FM r r') : CALL L m ls m' ls' c r := ⟨v, c', r', h1, h2, h.ke k q, f, g⟩
theorem CALL.ask {L : Int} {m : Nat} {ls : ML} {m' : Nat} {ls' : ML} {c r : MM} (h : RR c r) (v : Int) (h1 : ev m 0 ls [] c (g_1 L) = some (some (vI v), c, g_1 L)) (h2 : ev m' 0 ls' [] r (g_1 L) = some (some (vI v), mset r 149 0 0, g_1 L)) : CALL L m ls m' ls' c r := CALL.tell h v _ _ h1 h2 (keC.rf c) (keR.t r) (FX.rf c) (FM.t r)
section CS
variable {L : Int} {c r : MM}
theorem c_fault (w : Int) (h : RR c r) : CALL L 101 [some (vR 10), some (vI w)] 158 [some (vR 149), some (vI w)] c r := by
  refine CALL.ask h _ (s_faultX L w c h.1) ?_
  rw [s_faultM L w r]
  obtain ⟨_, _, _, _, ⟨l1, l2, l3, l4, l5, l6⟩, _⟩ := h
  rw [l5, l6]
theorem c_mend (w : Int) (h : RR c r) (b : w < 2147483648) : CALL L 102 [some (vR 10), some (vI w)] 159 [some (vR 149), some (vI w), none] c r := CALL.ask h _ (s_mendX L w c r h.1 h.2.2.2.2.1 b) (s_mendM L w c r h.2.1 h.2.2.2.2.1 b)
theorem c_told (w : Int) (h : RR c r) : CALL L 103 [some (vR 10), some (vI w)] 178 [some (vR 149), some (vI w), none] c r := CALL.ask h _ (s_toldX L w c r h.1 h.2.2.2.2.2.1) (s_toldM L w c r h.2.1 h.2.2.2.2.2.1 h.2.2.2.2.2.2.1)
theorem c_name (w : Int) (h : RR c r) : CALL L 105 [some (vR 10), some (vI w)] 179 [some (vR 149), some (vI w)] c r := CALL.ask h _ (s_nameX L w c r h.1 h.2.2.2.2.2.1) (s_nameM L w c r h.2.1 h.2.2.2.2.2.1)
theorem c_detailed (k w : Int) (h : RR c r) : CALL L 106 [some (vR 10), some (vI k), some (vI w), none] 180 [some (vR 149), some (vI k), some (vI w)] c r := CALL.ask h _ (s_detX L k w c r h.1 h.2.2.2.2.2.1) (s_detM L k w c r h.2.1 h.2.2.2.2.2.1)
theorem c_mode (k w : Int) (h : RR c r) : CALL L 108 [some (vR 10), some (vI k), some (vI w), none] 182 [some (vR 149), some (vI k), some (vI w)] c r := CALL.ask h _ (s_modeX L k w c r h.1 h.2.2.2.2.2.2.1) (s_modeM L k w c r h.2.1 h.2.2.2.2.2.2.1)
theorem c_find (x y z : Int) (h : RR c r) : CALL L 110 [some (vR 10), some (vI x), some (vI y), some (vI z)] 192 [some (vR 149), some (vI x), some (vI y), some (vI z), none] c r := CALL.ask h _ (s_findX L x y z c r h.1 h.2.2.2.2.2.2.1) (s_findM L x y z c r h.2.1 h.2.2.2.2.2.2.1)
theorem c_need (x y : Int) (h : RR c r) (b1 : -2147483648 ≤ y) (b2 : y < 2147483648) : CALL L 119 [some (vR 10), some (vI x), some (vI y), none] 206 [some (vR 149), some (vI x), some (vI y)] c r := CALL.ask h _ (s_needX L x y c r h.1 h.2.2.2.2.2.2.1) (s_needM L x y c r h.2.1 h.2.2.2.2.2.2.1 b1 b2)
theorem c_room (x y : Int) (h : RR c r) : CALL L 118 [some (vR 10), some (vI x), some (vI y)] 205 [some (vR 149), some (vI x), some (vI y)] c r := CALL.ask h _ (s_roomX L x y c h.2.2.1.1) (s_roomM L x y r)
theorem c_cheapest (x y : Int) (h : RR c r) (b1 : -2147483648 ≤ y) (b2 : y < 2147483648) : CALL L 121 [some (vR 10), some (vI x), some (vI y), none, none, none, none, none, none, none, none] 209 [some (vR 149), some (vI x), some (vI y), none, none, none, none, none] c r := CALL.ask h _ (s_chX L x y c r h.1 h.2.2.2.2.2.2.1 h.2.2.1.1) (s_chM L x y c r h.2.1 h.2.2.2.2.2.2.1 b1 b2)
theorem c_best (x y w : Int) (h : RR c r) : CALL L 120 [some (vR 10), some (vI x), some (vI y), some (vI w)] 208 [some (vR 149), some (vI x), some (vI y), some (vI w)] c r := by
  obtain ⟨a, b, e⟩ := s_bestM L x y w c r h.2.1 h.2.2.2.2.2.2.1 h.2.2.2.2.2.2.2.1
  exact CALL.tell h _ _ _ (s_bestX L x y w c r h.1 h.2.2.2.2.2.2.1 h.2.2.1.1 h.2.2.2.2.2.2.2.1) e (keC.rf c) (keR.bm r a b) (FX.rf c) (FM.bm r a b)
theorem c_formula (k x y z w : Int) (h : RR c r) : CALL L 111 [some (vR 10), some (vI k), some (vI x), some (vI y), some (vI z), some (vI w)] 196 [some (vR 149), some (vI k), some (vI x), some (vI y), some (vI z), some (vI w)] c r := by
  obtain ⟨c', e1, q1⟩ := s_formX L k x y z w c h.1
  obtain ⟨r', e2, q2⟩ := s_formM L k x y z w r h.2.1
  refine CALL.tell h _ _ _ e1 e2 ?_ ?_ ?_ ?_
  · rcases q1 with rfl | rfl; exact keC.rf _; exact keC.dr _ _ _ _ _
  · rcases q2 with rfl | rfl; exact keR.t _; exact keR.wk _ _ _ _ _
  · rcases q1 with rfl | rfl; exact FX.rf _; exact FX.dr _ _ _ _ _
  · rcases q2 with rfl | rfl; exact FM.t _; exact FM.wk _ _ _ _ _
theorem c_descriptor (k x y z w : Int) (h : RR c r) : CALL L 112 [some (vR 10), some (vI k), some (vI x), some (vI y), some (vI z), some (vI w)] 199 [some (vR 149), some (vI k), some (vI x), some (vI y), some (vI z), some (vI w)] c r := by
  obtain ⟨c', e1, q1⟩ := s_descX L k x y z w c h.1
  obtain ⟨r', e2, q2⟩ := s_descM L k x y z w r h.2.1
  refine CALL.tell h _ _ _ e1 e2 ?_ ?_ ?_ ?_
  · rcases q1 with rfl | rfl; exact keC.rf _; exact keC.dr _ _ _ _ _
  · rcases q2 with rfl | rfl; exact keR.t _; exact keR.wk _ _ _ _ _
  · rcases q1 with rfl | rfl; exact FX.rf _; exact FX.dr _ _ _ _ _
  · rcases q2 with rfl | rfl; exact FM.t _; exact FM.wk _ _ _ _ _
theorem c_fastest (k x y z w d : Int) (h : RR c r) (b1 : -2147483648 ≤ d) (b2 : d < 2147483648) : CALL L 113 [some (vR 10), some (vI k), some (vI x), some (vI y), some (vI z), some (vI w), some (vI d), none, none, none] 210 [some (vR 149), some (vI k), some (vI x), some (vI y), some (vI z), some (vI w), some (vI d), none] c r := by
  obtain ⟨c', e1, q1⟩ := s_fastX L k x y z w d c h.1 h.2.2.1.1
  obtain ⟨r', e2, q2⟩ := s_fastM L k x y z w d r h.2.1 b1 b2
  refine CALL.tell h _ _ _ e1 e2 ?_ ?_ ?_ ?_
  · rcases q1 with rfl | ⟨_, rfl⟩; exact keC.rf _; exact keC.dr _ _ _ _ _
  · rcases q2 with rfl | ⟨_, rfl⟩; exact keR.t _; exact keR.wk _ _ _ _ _
  · rcases q1 with rfl | ⟨_, rfl⟩; exact FX.rf _; exact FX.dr _ _ _ _ _
  · rcases q2 with rfl | ⟨_, rfl⟩; exact FM.t _; exact FM.wk _ _ _ _ _
theorem c_count (w : Int) (h : RR c r) : CALL L 146 [some (vR 10), some (vI w)] 244 [some (vR 149), some (vI w)] c r := by
  refine CALL.ask h _ (s_countX L w c h.1) ?_
  rw [s_countM L w r]
  obtain ⟨_, _, _, t, _, s, _, w, i, _⟩ := h
  rw [s.1, t.1, w.1, i.1, i.2.1]
theorem c_state (w : Int) (h : RR c r) : CALL L 132 [some (vR 10), some (vI w)] 229 [some (vR 149), some (vI w)] c r := CALL.ask h _ (s_stateX L w c r h.1 h.2.2.2.2.2.2.2.2.2.2.1) (s_stateM L w r h.2.1)
theorem c_level (l w : Int) (h : RR c r) : CALL L 133 [some (vR 10), some (vI l), some (vI w)] 230 [some (vR 149), some (vI l), some (vI w)] c r := CALL.ask h _ (s_levelX L l w c r h.1 h.2.2.2.2.2.2.2.2.2.2.1 h.2.2.2.2.2.2.2.2.2.1) (s_levelM L l w r h.2.1)
theorem c_step (l w : Int) (h : RR c r) : CALL L 135 [some (vR 10), some (vI l), some (vI w)] 226 [some (vR 149), some (vI l), some (vI w)] c r := CALL.ask h _ (s_stepX L l w c r h.1 h.2.2.2.2.2.2.2.2.2.2.1) (s_stepM L l w c r h.2.1 h.2.2.2.2.2.2.2.2.2.2.1)
theorem c_fall (l w : Int) (h : RR c r) : CALL L 134 [some (vR 10), some (vI l), some (vI w)] 231 [some (vR 149), some (vI l), some (vI w)] c r := CALL.ask h _ (s_fallX L l w c r h.1 h.2.2.2.2.2.2.2.2.2.2.1) (s_fallM L l w c r h.2.1 h.2.2.2.2.2.2.2.2.2.2.1)
theorem c_wish (d : Int) (h : RR c r) (b1 : -2147483648 ≤ d) (b2 : d < 2147483648) : CALL L 117 [some (vR 10), some (vI d), none] 204 [some (vR 149), some (vI d), none] c r := by
  have e1 := s_wishX L d c
  have e2 := s_wishM L d r b1 b2
  by_cases g : d = 6 ∨ d = 8 ∨ d = 10 ∨ d = 12
  · rw [if_pos g, if_pos g] at e1 e2
    rw [← h.2.2.2.2.2.2.2.1.1] at e2
    refine ⟨_, _, _, e1, e2, ?_, (FX.rf c).ms _ _ _ (by omega) (by omega), (FM.t r).ms _ _ _ (by omega) (by omega)⟩
    obtain ⟨h1, h2, h3, h4, h5, h6, h7, h8, h9, h10, h11, h12, h13, h14⟩ := h
    have k1 : ∀ a, ¬ a = 10 → mset c 10 13 d a = c a := fun a ha => ms_row _ _ _ _ _ ha
    have q1 : ∀ a, ¬ a = 149 → mset (mset r 149 0 0) 149 30 d a = r a := fun a ha => by rw [ms_row _ _ _ _ _ ha, ms_row _ _ _ _ _ ha]
    have q2 : ∀ k, ¬ k = 0 → ¬ k = 30 → mset (mset r 149 0 0) 149 30 d 149 k = r 149 k := fun k h0 h3 => by rw [ms_nk _ _ _ _ _ _ h3, ms_nk _ _ _ _ _ _ h0]
    refine ⟨h1.cg fun a k hp => ?_, ?_, h3.ke (fun a ha => k1 a (by omega)) (q1 _ (by omega)) (q1 _ (by omega)), h4.ke (k1 _ (by omega)) (k1 _ (by omega)) (q2 _ (by omega) (by omega)) (q1 _ (by omega)), h5.ke (k1 _ (by omega)) (k1 _ (by omega)) (k1 _ (by omega)) (q2 _ (by omega) (by omega)) (q1 _ (by omega)) (q2 _ (by omega) (by omega)) (q2 _ (by omega) (by omega)), h6.ke (fun a ha => k1 a (by omega)) (fun a ha => q1 a (by omega)) (fun a ha => q2 a (by omega) (by omega)), h7.ke (fun a ha => k1 a (by omega)) (fun a ha => q1 a (by omega)) (q2 _ (by omega) (by omega)), ?_, h9.ke (k1 _ (by omega)) (k1 _ (by omega)) (k1 _ (by omega)) (q2 _ (by omega) (by omega)) (q2 _ (by omega) (by omega)) (q1 _ (by omega)) (q1 _ (by omega)), h10.ke (k1 _ (by omega)) (k1 _ (by omega)) (fun j _ => by rw [k1 144 (by omega), k1 145 (by omega)]; exact ⟨rfl, rfl⟩) (q1 _ (by omega)) (q1 _ (by omega)), h11.ke (fun a ha => k1 a (by omega)) (q1 _ (by omega)) (q1 _ (by omega)), h12.ke h7 (fun a ha => k1 a (by omega)), ?_, ?_⟩
    · by_cases ea : a = 10
      · have := (isP_k hp).2.2.1 ea
        rw [ea, ms_nk _ _ _ _ _ _ (by omega)]
      · rw [k1 a ea]
    · intro q hq
      have t : ∀ q ∈ SMl, q.1 = 149 ∧ ¬ q.2.1 = 0 ∧ ¬ q.2.1 = 30 := by decide
      have t := t q hq
      rw [← h2 q hq, t.1]; exact q2 _ t.2.1 t.2.2
    · exact ⟨by rw [ms_eq, ms_eq], by rw [ms_eq]; exact g⟩
    · rw [q2 42 (by omega) (by omega)]; exact h13
    · unfold Rtx Rpl; rw [k1 132 (by omega), k1 46 (by omega)]; exact h14
  · rw [if_neg g, if_neg g] at e1 e2
    exact CALL.ask h _ e1 e2
end CS
