/-! the machine's numbers as whole numbers -/
theorem nu_bm (x : Int) : x.bmod (2 ^ 32) = w32 x := by
  unfold w32
  have : ((2 ^ 32 : Nat) : Int) = 4294967296 := by decide
  simp only [Int.bmod, this]
  split <;> omega
theorem nu_tw (x : Int) : (Int32.ofInt x).toInt = w32 x := by rw [Int32.toInt_ofInt, ← nu_bm]
theorem nu_ti {x : Int} (h1 : -2147483648 ≤ x) (h2 : x < 2147483648) : (Int32.ofInt x).toInt = x := by rw [nu_tw, wi32 h1 h2]
/-- the 32 bits of a number as a natural one -/
theorem nu_bv (x : Int) : (Int32.ofInt x).toBitVec.toNat = (x % 4294967296).toNat := by
  show (BitVec.ofInt 32 x).toNat = _
  rw [BitVec.toNat_ofInt]
  rfl
theorem nu_nat {y : Int32} (h : y.toBitVec.toNat < 2147483648) : y.toInt = (y.toBitVec.toNat : Int) := by
  show y.toBitVec.toInt = _
  rw [BitVec.toInt_eq_toNat_of_lt (by omega)]
theorem nu_and (x : Int) (k : Nat) (hk : k ≤ 31) : mm_and x (((2 ^ k - 1 : Nat) : Int)) = x % ((2 ^ k : Nat) : Int) := by
  have hp : 2 ^ k ≤ 2 ^ 31 := Nat.pow_le_pow_right (by omega) hk
  have hp0 : 0 < 2 ^ k := Nat.pow_pos (by omega)
  have e31 : (2 : Nat) ^ 31 = 2147483648 := by decide
  have hm : (((2 ^ k - 1 : Nat) : Int) % 4294967296).toNat = 2 ^ k - 1 := by omega
  have hb : ((Int32.ofInt x) &&& (Int32.ofInt ((2 ^ k - 1 : Nat) : Int))).toBitVec.toNat = (x % 4294967296).toNat % 2 ^ k := by
    rw [Int32.toBitVec_and, BitVec.toNat_and, nu_bv, nu_bv, hm, Nat.and_two_pow_sub_one_eq_mod]
  have hlt : (x % 4294967296).toNat % 2 ^ k < 2 ^ k := Nat.mod_lt _ hp0
  unfold mm_and
  rw [nu_nat (by rw [hb]; omega), hb]
  have hd : ((2 ^ k : Nat) : Int) ∣ 4294967296 := by
    have h32 : (2 : Nat) ^ 32 = 2 ^ k * 2 ^ (32 - k) := by rw [← Nat.pow_add]; congr 1; omega
    refine ⟨((2 ^ (32 - k) : Nat) : Int), ?_⟩
    have : ((2 ^ 32 : Nat) : Int) = 4294967296 := by decide
    rw [← this, h32]; simp
  have h0 : 0 ≤ x % 4294967296 := Int.emod_nonneg _ (by omega)
  rw [Int.natCast_emod, Int.toNat_of_nonneg h0, Int.emod_emod_of_dvd x hd]
theorem nu_1 (x : Int) : mm_and x 1 = x % 2 := nu_and x 1 (by omega)
theorem nu_3 (x : Int) : mm_and x 3 = x % 4 := nu_and x 2 (by omega)
theorem nu_15 (x : Int) : mm_and x 15 = x % 16 := nu_and x 4 (by omega)
theorem nu_31 (x : Int) : mm_and x 31 = x % 32 := nu_and x 5 (by omega)
theorem nu_63 (x : Int) : mm_and x 63 = x % 64 := nu_and x 6 (by omega)
theorem nu_127 (x : Int) : mm_and x 127 = x % 128 := nu_and x 7 (by omega)
theorem nu_255 (x : Int) : mm_and x 255 = x % 256 := nu_and x 8 (by omega)
theorem nu_sh : ∀ k : Fin 32, ((Int32.ofInt (k.val : Int) &&& 31).toBitVec.smod 32).toNat = k.val := by decide +kernel
theorem nu_shr {x : Int} (h1 : -2147483648 ≤ x) (h2 : x < 2147483648) (k : Nat) (hk : k < 32) : mm_shr x (k : Int) = x / ((2 ^ k : Nat) : Int) := by
  unfold mm_shr
  rw [pk_shr _ _ k (nu_sh ⟨k, hk⟩), nu_ti h1 h2, Int.shiftRight_eq_div_pow]
theorem nu_shl {x : Int} (k : Nat) (hk : k < 32) (h0 : 0 ≤ x) (h1 : x * ((2 ^ k : Nat) : Int) < 2147483648) : mm_shl x (k : Int) = x * ((2 ^ k : Nat) : Int) := by
  have hp0 : 0 < 2 ^ k := Nat.pow_pos (by omega)
  have hx : x < 2147483648 := by
    have : x * 1 ≤ x * ((2 ^ k : Nat) : Int) := Int.mul_le_mul_of_nonneg_left (by omega) h0
    omega
  have hb : ((Int32.ofInt x) <<< ((Int32.ofInt (k : Int)) &&& 31)).toBitVec.toNat = x.toNat * 2 ^ k := by
    rw [pk_shl _ _ k (nu_sh ⟨k, hk⟩), nu_bv]
    have e : (x % 4294967296).toNat = x.toNat := by omega
    rw [e]
    have h3 : ((x.toNat * 2 ^ k : Nat) : Int) < 2147483648 := by
      rw [Int.natCast_mul, Int.toNat_of_nonneg h0]; exact h1
    exact Nat.mod_eq_of_lt (by omega)
  have h3 : ((x.toNat * 2 ^ k : Nat) : Int) < 2147483648 := by
    rw [Int.natCast_mul, Int.toNat_of_nonneg h0]; exact h1
  unfold mm_shl
  rw [nu_nat (by rw [hb]; omega), hb, Int.natCast_mul, Int.toNat_of_nonneg h0]
/-- two numbers whose bits lie apart -/
theorem nu_or {a b : Int} (k : Nat) (ha : 0 ≤ a) (hak : a < ((2 ^ k : Nat) : Int)) (hb : 0 ≤ b) (hlt : b * ((2 ^ k : Nat) : Int) + a < 2147483648) : mm_or a (b * ((2 ^ k : Nat) : Int)) = b * ((2 ^ k : Nat) : Int) + a ∧ mm_or (b * ((2 ^ k : Nat) : Int)) a = b * ((2 ^ k : Nat) : Int) + a := by
  have hbp : 0 ≤ b * ((2 ^ k : Nat) : Int) := Int.mul_nonneg hb (by omega)
  have e1 : (a % 4294967296).toNat = a.toNat := by omega
  have e2 : ((b * ((2 ^ k : Nat) : Int)) % 4294967296).toNat = b.toNat * 2 ^ k := by
    rw [Int.emod_eq_of_lt hbp (by omega), Int.toNat_mul hb (by omega), Int.toNat_natCast]
  have e3 : ((b.toNat * 2 ^ k : Nat) : Int) = b * ((2 ^ k : Nat) : Int) := by rw [Int.natCast_mul, Int.toNat_of_nonneg hb]
  have hor : b.toNat * 2 ^ k ||| a.toNat = b.toNat * 2 ^ k + a.toNat := by
    have := Nat.shiftLeft_add_eq_or_of_lt (b := a.toNat) (i := k) (by omega) b.toNat
    rw [Nat.shiftLeft_eq] at this
    exact this.symm
  constructor
  · have hbv : ((Int32.ofInt a) ||| (Int32.ofInt (b * ((2 ^ k : Nat) : Int)))).toBitVec.toNat = b.toNat * 2 ^ k + a.toNat := by
      rw [Int32.toBitVec_or, BitVec.toNat_or, nu_bv, nu_bv, e1, e2, Nat.or_comm, hor]
    unfold mm_or
    rw [nu_nat (by rw [hbv]; omega), hbv]
    omega
  · have hbv : ((Int32.ofInt (b * ((2 ^ k : Nat) : Int))) ||| (Int32.ofInt a)).toBitVec.toNat = b.toNat * 2 ^ k + a.toNat := by
      rw [Int32.toBitVec_or, BitVec.toNat_or, nu_bv, nu_bv, e1, e2, hor]
    unfold mm_or
    rw [nu_nat (by rw [hbv]; omega), hbv]
    omega
theorem nu_div {a b : Int} (ha : 0 ≤ a) (ha2 : a < 2147483648) (hb : 0 < b) (hb2 : b < 2147483648) : mm_div a b = a / b := by
  unfold mm_div
  rw [Int32.toInt_div, nu_ti (by omega) ha2, nu_ti (by omega) hb2, nu_bm, Int.tdiv_eq_ediv_of_nonneg ha]
  have h1 : 0 ≤ a / b := Int.ediv_nonneg ha (by omega)
  have h2 : a / b ≤ a := Int.ediv_le_self _ ha
  exact wi32 (by omega) (by omega)
theorem nu_rem {a b : Int} (ha : 0 ≤ a) (ha2 : a < 2147483648) (hb : 0 < b) (hb2 : b < 2147483648) : mm_rem a b = a % b := by
  have e : mm_rem a b = w32 (a - mm_div a b * b) := by
    unfold mm_rem mm_div
    rw [← nu_tw, Int32.ofInt_sub, Int32.ofInt_mul, Int32.ofInt_toInt]
  have h3 : 0 ≤ a % b := Int.emod_nonneg _ (by omega)
  have h4 : a % b < b := Int.emod_lt_of_pos _ hb
  have h5 : a - a / b * b = a % b := by
    have := Int.emod_add_mul_ediv a b
    rw [Int.mul_comm b] at this
    omega
  rw [e, nu_div ha ha2 hb hb2, h5]
  exact wi32 (by omega) (by omega)
theorem nu_ldiv {a b : Int} (ha : 0 ≤ a) (ha2 : a < 9223372036854775808) (hb : 0 < b) (hb2 : b < 9223372036854775808) : mm_ldiv a b = a / b := by
  have bm : ∀ x : Int, x.bmod (2 ^ 64) = w64 x := by
    intro x
    unfold w64
    have : ((2 ^ 64 : Nat) : Int) = 18446744073709551616 := by decide
    simp only [Int.bmod, this]
    split <;> omega
  have ti : ∀ x : Int, 0 ≤ x → x < 9223372036854775808 → (Int64.ofInt x).toInt = x := by
    intro x h1 h2
    rw [Int64.toInt_ofInt]
    show x.bmod (2 ^ 64) = x
    rw [bm, wi64 (by omega) h2]
  unfold mm_ldiv
  rw [Int64.toInt_div, ti a ha ha2, ti b (by omega) hb2, bm, Int.tdiv_eq_ediv_of_nonneg ha]
  have h1 : 0 ≤ a / b := Int.ediv_nonneg ha (by omega)
  have h2 : a / b ≤ a := Int.ediv_le_self _ ha
  exact wi64 (by omega) (by omega)
