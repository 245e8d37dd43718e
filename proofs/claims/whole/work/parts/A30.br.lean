/-! THE BRIDGE: the class's training beside the reference's -/
def Rt (S sw em t : Int → Int) : Prop := S 2 = t 0 ∧ S 3 = t 1 ∧ S 4 = t 2 ∧ S 7 = t 3 ∧ S 9 = t 4 ∧ S 8 = t 5 ∧ S 10 = t 6 ∧ S 11 = t 7 ∧ (∀ l, 0 ≤ l → l < 4 → sw l = t (8 + l) ∧ em l = t (12 + l)) ∧ S 5 = b4 (fun l => decide (t (16 + l) = 1)) ∧ S 6 = b4 (fun l => decide (t (20 + l) = 1)) ∧ (∀ l, 0 ≤ l → l < 4 → (t (16 + l) = 0 ∨ t (16 + l) = 1) ∧ (t (20 + l) = 0 ∨ t (20 + l) = 1)) ∧ (∀ l, 0 ≤ l → t 1 ≤ l → l < 4 → t (16 + l) = 0 ∧ t (20 + l) = 0)
/-- a set of lanes within n -/
def msk (n : Int) (C : Int → Bool) (l : Int) : Bool := decide (l < n) && C l
theorem all_i (C : Int → Bool) {n : Int} (hn : n = 1 ∨ n = 2 ∨ n = 4) : b4 (msk n C) = al n ↔ gA C 0 n.toNat = true := by
  have key : ∀ c0 c1 c2 c3 : Bool, (bt c0 false false false = 1 ↔ (c0 && true) = true) ∧ (bt c0 c1 false false = 3 ↔ (c0 && (c1 && true)) = true) ∧ (bt c0 c1 c2 c3 = 15 ↔ (c0 && (c1 && (c2 && (c3 && true)))) = true) := by decide
  rcases hn with rfl | rfl | rfl
  · exact (key (C 0) false false false).1
  · exact (key (C 0) (C 1) false false).2.1
  · exact (key (C 0) (C 1) (C 2) (C 3)).2.2
theorem or_i (C : Int → Bool) {n : Int} (hn : n = 1 ∨ n = 2 ∨ n = 4) : o4 (msk n C) = gO C 0 n.toNat := by
  have key : ∀ c0 c1 c2 c3 : Bool, ((c0 || false || false || false) = (c0 || false)) ∧ ((c0 || c1 || false || false) = (c0 || (c1 || false))) ∧ ((c0 || c1 || c2 || c3) = (c0 || (c1 || (c2 || (c3 || false))))) := by decide
  rcases hn with rfl | rfl | rfl
  · exact (key (C 0) false false false).1
  · exact (key (C 0) (C 1) false false).2.1
  · exact (key (C 0) (C 1) (C 2) (C 3)).2.2
theorem gF_i (C : Int → Bool) {n : Int} (hn : n = 1 ∨ n = 2 ∨ n = 4) : gF C 0 0 n.toNat = b4 (msk n C) := by
  have key : ∀ c0 c1 c2 c3 : Bool, (mm_or 0 (if c0 = true then mm_shl 1 0 else 0) = bt c0 false false false) ∧ (mm_or (mm_or 0 (if c0 = true then mm_shl 1 0 else 0)) (if c1 = true then mm_shl 1 1 else 0) = bt c0 c1 false false) ∧ (mm_or (mm_or (mm_or (mm_or 0 (if c0 = true then mm_shl 1 0 else 0)) (if c1 = true then mm_shl 1 1 else 0)) (if c2 = true then mm_shl 1 2 else 0)) (if c3 = true then mm_shl 1 3 else 0) = bt c0 c1 c2 c3) := by decide +kernel
  rcases hn with rfl | rfl | rfl
  · exact (key (C 0) false false false).1
  · exact (key (C 0) (C 1) false false).2.1
  · exact (key (C 0) (C 1) (C 2) (C 3)).2.2
theorem no_i (C : Int → Bool) {n : Int} (hn : n = 1 ∨ n = 2 ∨ n = 4) : b4 (msk n C) = 0 ↔ gO C 0 n.toNat = false := by
  have key : ∀ c0 c1 c2 c3 : Bool, (bt c0 false false false = 0 ↔ (c0 || false) = false) ∧ (bt c0 c1 false false = 0 ↔ (c0 || (c1 || false)) = false) ∧ (bt c0 c1 c2 c3 = 0 ↔ (c0 || (c1 || (c2 || (c3 || false)))) = false) := by decide
  rcases hn with rfl | rfl | rfl
  · exact (key (C 0) false false false).1
  · exact (key (C 0) (C 1) false false).2.1
  · exact (key (C 0) (C 1) (C 2) (C 3)).2.2
theorem br_ws {S sw em t : Int → Int} (h : Rt S sw em t) (ls : Int → Int) (l : Int) (l0 : 0 ≤ l) (l3 : l < 4) : wsb (S 3) (S 4) sw ls l = msk (t 1) (wsm t ls) l := by
  obtain ⟨h2, h3, h4, h7, h9, h8, h10, h11, hl, _⟩ := h
  unfold wsb msk wsm
  rw [h3, h4, (hl l l0 l3).1, Bool.decide_and]
theorem br_we {S sw em t : Int → Int} (h : Rt S sw em t) (ls : Int → Int) (l : Int) (l0 : 0 ≤ l) (l3 : l < 4) : web (S 3) (S 4) em ls l = msk (t 1) (wem t ls) l := by
  obtain ⟨h2, h3, h4, h7, h9, h8, h10, h11, hl, _⟩ := h
  unfold web msk wem
  rw [h3, h4, (hl l l0 l3).2, Bool.decide_and]
theorem kU_w (t ls : Int → Int) (l : Int) (l0 : 0 ≤ l) : wsm (kU t) ls l = wsm t ls l := by
  have e1 : kU t (8 + l) = t (8 + l) := by unfold kU up; rw [if_neg (by omega), if_neg (by omega)]
  have e2 : kU t 2 = t 2 := rfl
  unfold wsm
  rw [e1, e2]
theorem vU_w (t ls : Int → Int) (l : Int) (l0 : 0 ≤ l) : wsm (vU t) ls l = wsm t ls l ∧ wem (vU t) ls l = wem t ls l := by
  have e1 : vU t (8 + l) = t (8 + l) := by unfold vU up; rw [if_neg (by omega)]
  have e3 : vU t (12 + l) = t (12 + l) := by unfold vU up; rw [if_neg (by omega)]
  have e2 : vU t 2 = t 2 := rfl
  unfold wsm wem
  rw [e1, e2, e3]
  exact ⟨rfl, rfl⟩
theorem br_C {S sw em t : Int → Int} (h : Rt S sw em t) (ls sl : Int → Int) (l : Int) (l0 : 0 ≤ l) (l3 : l < 4) : cC S sw ls sl l = msk (t 1) (mC (kU t) ls sl) l := by
  unfold cC
  rw [br_ws h ls l l0 l3]
  unfold msk mC fab
  rw [kU_w t ls l l0, h.2.1, h.2.2.2.1, Bool.decide_and]
  have e3 : kU t 3 = t 3 + 1 := rfl
  rw [e3]
  cases decide (l < t 1) <;> cases wsm t ls l <;> cases decide (sl l < t 3 + 1) <;> rfl
theorem br_E {S sw em t : Int → Int} (h : Rt S sw em t) (ls sl : Int → Int) (l : Int) (l0 : 0 ≤ l) (l3 : l < 4) : cE S em ls sl l = msk (t 1) (nC (vU t) ls sl) l := by
  unfold cE
  rw [br_we h ls l l0 l3]
  unfold msk nC fab
  rw [(vU_w t ls l l0).2, h.2.1, h.2.2.2.2.2.1, Bool.decide_and]
  have e5 : vU t 5 = t 5 + 1 := rfl
  rw [e5]
  have e : decide (sl l - 2 < t 5 + 1) = decide (sl l < t 5 + 1 + 2) := by
    by_cases q : sl l - 2 < t 5 + 1
    · rw [decide_eq_true q, decide_eq_true (by omega)]
    · rw [decide_eq_false q, decide_eq_false (by omega)]
  rw [e]
  cases decide (l < t 1) <;> cases wem t ls l <;> cases decide (sl l < t 5 + 1 + 2) <;> rfl
theorem br_T {S sw em t : Int → Int} (h : Rt S sw em t) (ls : Int → Int) (l : Int) (l0 : 0 ≤ l) (l3 : l < 4) (hs : t (8 + l) ≤ 3) : tpb (wsb (S 3) (S 4) sw ls) sw l = msk (t 1) (mT (kU t) ls) l := by
  unfold tpb
  rw [br_ws h ls l l0 l3, (h.2.2.2.2.2.2.2.2.1 l l0 l3).1]
  unfold msk mT
  have e1 : kU t (8 + l) = t (8 + l) := by unfold kU up; rw [if_neg (by omega), if_neg (by omega)]
  rw [kU_w t ls l l0, e1]
  have e : decide (3 ≤ t (8 + l)) = decide (t (8 + l) = 3) := by
    by_cases q : t (8 + l) = 3
    · rw [decide_eq_true q, decide_eq_true (by omega)]
    · rw [decide_eq_false q, decide_eq_false (by omega)]
  rw [e, Bool.and_assoc]
theorem br_U {S sw em t : Int → Int} (h : Rt S sw em t) (ls : Int → Int) (l : Int) (l0 : 0 ≤ l) (l3 : l < 4) (hs : t (12 + l) ≤ 3) : tpb (web (S 3) (S 4) em ls) em l = msk (t 1) (nT (vU t) ls) l := by
  unfold tpb
  rw [br_we h ls l l0 l3, (h.2.2.2.2.2.2.2.2.1 l l0 l3).2]
  unfold msk nT
  have e1 : vU t (12 + l) = t (12 + l) := by unfold vU up; rw [if_neg (by omega)]
  rw [(vU_w t ls l l0).2, e1]
  have e : decide (3 ≤ t (12 + l)) = decide (t (12 + l) = 3) := by
    by_cases q : t (12 + l) = 3
    · rw [decide_eq_true q, decide_eq_true (by omega)]
    · rw [decide_eq_false q, decide_eq_false (by omega)]
  rw [e, Bool.and_assoc]
theorem br_cO {S sw em t : Int → Int} (h : Rt S sw em t) (hm : mo t) (h3 : t 3 ≤ 9) (h4 : t 4 ≤ 6) (ls sl : Int → Int) : cO S sw ls sl = kO t ls sl ∧ b4 (cC S sw ls sl) = b4 (msk (t 1) (mC (kU t) ls sl)) := by
  obtain ⟨n1, q0, q3, hl, _⟩ := hm
  have eC := b4_cg (fun l l0 l3 => br_C h ls sl l l0 l3)
  have eT := o4_cg (fun l l0 l3 => br_T h ls l l0 l3 (hl l l0 l3).2.1)
  refine ⟨?_, eC⟩
  unfold cO kO
  rw [eC, eT, or_i _ n1, h.2.1, h.2.2.2.1, h.2.2.2.2.1]
  by_cases a : gA (mC (kU t) ls sl) 0 (t 1).toNat = true
  · rw [if_pos ((all_i _ n1).2 a), if_pos a]
  · rw [if_neg (fun e => a ((all_i _ n1).1 e)), if_neg a]
    split
    · rfl
    · by_cases b : t 3 + 1 = 10
      · rw [if_pos (by omega), if_pos b]
      · rw [if_neg (by omega), if_neg b]
        by_cases d : t 4 + 1 = 7
        · rw [if_pos (by omega), if_pos d]
        · rw [if_neg (by omega), if_neg d]
theorem gO_cg {f g : Int → Bool} : ∀ (m : Nat) (l : Int), 0 ≤ l → (∀ j, 0 ≤ j → f j = g j) → gO f l m = gO g l m
  | 0, _, _, _ => rfl
  | m + 1, l, l0, h => by simp only [gO]; rw [h l l0, gO_cg m (l + 1) (by omega) h]
theorem br_eO {S sw em t : Int → Int} (h : Rt S sw em t) (hm : mo t) (h5 : t 5 ≤ 5) (ls sl : Int → Int) : eO S sw em ls sl = vO t ls sl ∧ b4 (cE S em ls sl) = b4 (msk (t 1) (nC (vU t) ls sl)) := by
  obtain ⟨n1, q0, q3, hl, _⟩ := hm
  have eC := b4_cg (fun l l0 l3 => br_E h ls sl l l0 l3)
  have eW := b4_cg (fun l l0 l3 => br_ws h ls l l0 l3)
  have eT := o4_cg (fun l l0 l3 => br_U h ls l l0 l3 (hl l l0 l3).2.2.2)
  have eG := gO_cg (t 1).toNat 0 (by omega) (fun l l0 => (vU_w t ls l l0).1)
  refine ⟨?_, eC⟩
  unfold eO vO
  rw [eC, eT, eW, eG, or_i _ n1, h.2.1, h.2.2.2.2.2.1]
  by_cases a0 : gO (wsm t ls) 0 (t 1).toNat = true
  · rw [if_pos (fun e => by rw [(no_i _ n1).1 e] at a0; cases a0), if_pos a0]
  · have a0' : gO (wsm t ls) 0 (t 1).toNat = false := by cases q : gO (wsm t ls) 0 (t 1).toNat; rfl; exact absurd q a0
    rw [if_neg (fun e => e ((no_i _ n1).2 a0')), if_neg a0]
    by_cases a : gA (nC (vU t) ls sl) 0 (t 1).toNat = true
    · rw [if_pos ((all_i _ n1).2 a), if_pos a]
    · rw [if_neg (fun e => a ((all_i _ n1).1 e)), if_neg a]
      by_cases b : t 5 + 1 = 6
      · rw [if_pos (by omega), if_pos b]
      · rw [if_neg (by omega), if_neg b]
