/-! whole numbers behind the machine's ints and longs: an int is i32 z, a long is i64 z, of a z in Int -/
def i32 (z : Int) : Int32 := Int32.ofInt z
def i64 (z : Int) : Int64 := Int64.ofInt z
theorem i32_add (x y : Int) : i32 x + i32 y = i32 (x + y) := (Int32.ofInt_add x y).symm
theorem i32_sub (x y : Int) : i32 x - i32 y = i32 (x - y) := (Int32.ofInt_sub x y).symm
theorem i32_mul (x y : Int) : i32 x * i32 y = i32 (x * y) := (Int32.ofInt_mul x y).symm
theorem i64_add (x y : Int) : i64 x + i64 y = i64 (x + y) := (Int64.ofInt_add x y).symm
theorem i64_sub (x y : Int) : i64 x - i64 y = i64 (x - y) := (Int64.ofInt_sub x y).symm
theorem i64_mul (x y : Int) : i64 x * i64 y = i64 (x * y) := (Int64.ofInt_mul x y).symm
/-- in an int's range -/
def r32 (z : Int) : Prop := -2147483648 ≤ z ∧ z ≤ 2147483647
def r64 (z : Int) : Prop := -9223372036854775808 ≤ z ∧ z ≤ 9223372036854775807
theorem i32_toInt {z : Int} (h : r32 z) : (i32 z).toInt = z := Int32.toInt_ofInt_of_le (by have := h.1; omega) (by have := h.2; omega)
theorem i64_toInt {z : Int} (h : r64 z) : (i64 z).toInt = z := Int64.toInt_ofInt_of_le (by have := h.1; omega) (by have := h.2; omega)
theorem i32_of (x : Int32) : i32 x.toInt = x := Int32.ofInt_toInt x
theorem i64_of (x : Int64) : i64 x.toInt = x := Int64.ofInt_toInt x
theorem r32_of (x : Int32) : r32 x.toInt := ⟨by have := x.le_toInt; omega, by have := x.toInt_lt; omega⟩
theorem r64_of (x : Int64) : r64 x.toInt := ⟨by have := x.le_toInt; omega, by have := x.toInt_lt; omega⟩
theorem i32_lt {x y : Int} (hx : r32 x) (hy : r32 y) : i32 x < i32 y ↔ x < y := by rw [Int32.lt_iff_toInt_lt, i32_toInt hx, i32_toInt hy]
theorem i32_le {x y : Int} (hx : r32 x) (hy : r32 y) : i32 x ≤ i32 y ↔ x ≤ y := by rw [Int32.le_iff_toInt_le, i32_toInt hx, i32_toInt hy]
theorem i32_eq {x y : Int} (hx : r32 x) (hy : r32 y) : i32 x = i32 y ↔ x = y := by rw [← Int32.toInt_inj, i32_toInt hx, i32_toInt hy]
theorem i64_lt {x y : Int} (hx : r64 x) (hy : r64 y) : i64 x < i64 y ↔ x < y := by rw [Int64.lt_iff_toInt_lt, i64_toInt hx, i64_toInt hy]
theorem i64_eq {x y : Int} (hx : r64 x) (hy : r64 y) : i64 x = i64 y ↔ x = y := by rw [← Int64.toInt_inj, i64_toInt hx, i64_toInt hy]
theorem i32_zero : (0 : Int32) = i32 0 := rfl
theorem r32_zero : r32 0 := ⟨by decide, by decide⟩
theorem i32_nat {z : Int} {n : Nat} (hz : z = (n : Int)) (hn : n < 2147483648) : (i32 z).toNatClampNeg = n := by
  have h : (i32 z).toInt = z := i32_toInt ⟨by omega, by omega⟩
  show (i32 z).toInt.toNat = n
  rw [h, hz]; rfl
theorem i32_nneg {z : Int} {n : Nat} (hz : z = (n : Int)) (hn : n < 2147483648) : ¬ i32 z < 0 := by
  rw [i32_zero, i32_lt ⟨by omega, by omega⟩ r32_zero]; omega
theorem i32_div {x y : Int} (hx : r32 x) (hy : r32 y) (h : x ≠ -2147483648 ∨ y ≠ -1) : i32 x / i32 y = i32 (x.tdiv y) := by
  rw [← Int32.toInt_inj]
  have h1 := hx.1; have h2 := hx.2
  have e : (i32 x / i32 y).toInt = (i32 x).toInt.tdiv (i32 y).toInt := by
    rcases h with h | h
    · exact Int32.toInt_div_of_ne_left _ _ (fun q => h (by have := congrArg Int32.toInt q; rw [i32_toInt hx] at this; exact this))
    · exact Int32.toInt_div_of_ne_right _ _ (fun q => h (by have := congrArg Int32.toInt q; rw [i32_toInt hy] at this; exact this))
  rw [e, i32_toInt hx, i32_toInt hy]
  symm
  have e2 := e
  rw [i32_toInt hx, i32_toInt hy] at e2
  exact i32_toInt (by rw [← e2]; exact r32_of _)
theorem i32_mod {x y : Int} (hx : r32 x) (hy : r32 y) : i32 x % i32 y = i32 (x.tmod y) := by
  rw [← Int32.toInt_inj]
  have e : (i32 x % i32 y).toInt = (i32 x).toInt.tmod (i32 y).toInt := Int32.toInt_mod _ _
  rw [e, i32_toInt hx, i32_toInt hy]
  rw [i32_toInt hx, i32_toInt hy] at e
  exact (i32_toInt (by rw [← e]; exact r32_of _)).symm
theorem i64_div {x y : Int} (hx : r64 x) (hy : r64 y) (h : x ≠ -9223372036854775808 ∨ y ≠ -1) : i64 x / i64 y = i64 (x.tdiv y) := by
  rw [← Int64.toInt_inj]
  have e : (i64 x / i64 y).toInt = (i64 x).toInt.tdiv (i64 y).toInt := by
    rcases h with h | h
    · exact Int64.toInt_div_of_ne_left _ _ (fun q => h (by have := congrArg Int64.toInt q; rw [i64_toInt hx] at this; exact this))
    · exact Int64.toInt_div_of_ne_right _ _ (fun q => h (by have := congrArg Int64.toInt q; rw [i64_toInt hy] at this; exact this))
  rw [e, i64_toInt hx, i64_toInt hy]
  rw [i64_toInt hx, i64_toInt hy] at e
  exact (i64_toInt (by rw [← e]; exact r64_of _)).symm
theorem i64_mod {x y : Int} (hx : r64 x) (hy : r64 y) : i64 x % i64 y = i64 (x.tmod y) := by
  rw [← Int64.toInt_inj]
  have e : (i64 x % i64 y).toInt = (i64 x).toInt.tmod (i64 y).toInt := Int64.toInt_mod _ _
  rw [e, i64_toInt hx, i64_toInt hy]
  rw [i64_toInt hx, i64_toInt hy] at e
  exact (i64_toInt (by rw [← e]; exact r64_of _)).symm
theorem i32_i64 {x : Int} (h : r32 x) : (i32 x).toInt64 = i64 x := Int32.toInt64_ofInt (by have := h.1; exact this) (by have := h.2; exact this)
theorem i64_i32 (x : Int) : (i64 x).toInt32 = i32 x := Int64.toInt32_ofInt
theorem i32_bits {x : Int} : (i32 x).toBitVec.toNat = (x % 4294967296).toNat := by
  show (BitVec.ofInt 32 x).toNat = _
  rw [BitVec.toNat_ofInt]; rfl
theorem i64_bits {x : Int} : (i64 x).toBitVec.toNat = (x % 18446744073709551616).toNat := by
  show (BitVec.ofInt 64 x).toNat = _
  rw [BitVec.toNat_ofInt]; rfl
/-- and with a mask of k ones -/
theorem i32_mask (x : Int) (k : Nat) (hk : k ≤ 31) : i32 x &&& i32 ((2 : Int) ^ k - 1) = i32 (x % 2 ^ k) := by
  apply Int32.toBitVec_inj.1
  apply BitVec.eq_of_toNat_eq
  rw [Int32.toBitVec_and, BitVec.toNat_and, i32_bits, i32_bits, i32_bits]
  have hp : (2 : Nat) ^ k ≤ 2147483648 := Nat.le_trans (Nat.pow_le_pow_right (by decide) hk) (by decide)
  have hp0 : 0 < (2 : Nat) ^ k := Nat.pow_pos (by decide)
  obtain ⟨P, hP⟩ : ∃ P : Nat, P = 2 ^ k := ⟨_, rfl⟩
  have hPi : ((2 : Int) ^ k) = (P : Int) := by rw [hP]; simp
  rw [hPi]
  have e1 : (((P : Int) - 1) % 4294967296).toNat = 2 ^ k - 1 := by rw [← hP]; omega
  rw [e1, Nat.and_two_pow_sub_one_eq_mod, ← hP]
  have hd : (P : Int) ∣ 4294967296 := by
    obtain ⟨q, hq⟩ : (2 : Nat) ^ k ∣ 2 ^ 32 := Nat.pow_dvd_pow 2 (by omega)
    rw [← hP] at hq
    exact ⟨(q : Int), congrArg Int.ofNat hq⟩
  have e2 : x % 4294967296 % (P : Int) = x % (P : Int) := Int.emod_emod_of_dvd x hd
  have e3 : 0 ≤ x % (P : Int) := Int.emod_nonneg _ (by omega)
  have e4 : x % (P : Int) < P := Int.emod_lt_of_pos _ (by omega)
  have e5 : (x % (P : Int)) % 4294967296 = x % (P : Int) := Int.emod_eq_of_lt e3 (by omega)
  rw [e5, ← e2]
  have e6 : 0 ≤ x % 4294967296 := Int.emod_nonneg _ (by decide)
  rw [Int.toNat_emod e6 (by omega)]
  simp
theorem i64_mask (x : Int) (k : Nat) (hk : k ≤ 63) : i64 x &&& i64 ((2 : Int) ^ k - 1) = i64 (x % 2 ^ k) := by
  apply Int64.toBitVec_inj.1
  apply BitVec.eq_of_toNat_eq
  rw [Int64.toBitVec_and, BitVec.toNat_and, i64_bits, i64_bits, i64_bits]
  have hp : (2 : Nat) ^ k ≤ 9223372036854775808 := Nat.le_trans (Nat.pow_le_pow_right (by decide) hk) (by decide)
  have hp0 : 0 < (2 : Nat) ^ k := Nat.pow_pos (by decide)
  obtain ⟨P, hP⟩ : ∃ P : Nat, P = 2 ^ k := ⟨_, rfl⟩
  have hPi : ((2 : Int) ^ k) = (P : Int) := by rw [hP]; simp
  rw [hPi]
  have e1 : (((P : Int) - 1) % 18446744073709551616).toNat = 2 ^ k - 1 := by rw [← hP]; omega
  rw [e1, Nat.and_two_pow_sub_one_eq_mod, ← hP]
  have hd : (P : Int) ∣ 18446744073709551616 := by
    obtain ⟨q, hq⟩ : (2 : Nat) ^ k ∣ 2 ^ 64 := Nat.pow_dvd_pow 2 (by omega)
    rw [← hP] at hq
    exact ⟨(q : Int), congrArg Int.ofNat hq⟩
  have e2 : x % 18446744073709551616 % (P : Int) = x % (P : Int) := Int.emod_emod_of_dvd x hd
  have e3 : 0 ≤ x % (P : Int) := Int.emod_nonneg _ (by omega)
  have e4 : x % (P : Int) < P := Int.emod_lt_of_pos _ (by omega)
  have e5 : (x % (P : Int)) % 18446744073709551616 = x % (P : Int) := Int.emod_eq_of_lt e3 (by omega)
  rw [e5, ← e2]
  have e6 : 0 ≤ x % 18446744073709551616 := Int.emod_nonneg _ (by decide)
  rw [Int.toNat_emod e6 (by omega)]
  simp
/-- or of a multiple of 2^k and a number below it -/
theorem i64_or (x y : Int) (k : Nat) (hk : k ≤ 63) (hx : x % 2 ^ k = 0) (h0 : 0 ≤ y) (hy : y < 2 ^ k) : i64 x ||| i64 y = i64 (x + y) := by
  apply Int64.toBitVec_inj.1
  apply BitVec.eq_of_toNat_eq
  rw [Int64.toBitVec_or, BitVec.toNat_or, i64_bits, i64_bits, i64_bits]
  have hp : (2 : Nat) ^ k ≤ 9223372036854775808 := Nat.le_trans (Nat.pow_le_pow_right (by decide) hk) (by decide)
  have hp0 : 0 < (2 : Nat) ^ k := Nat.pow_pos (by decide)
  obtain ⟨P, hP⟩ : ∃ P : Nat, P = 2 ^ k := ⟨_, rfl⟩
  have hPi : ((2 : Int) ^ k) = (P : Int) := by rw [hP]; simp
  rw [hPi] at hx hy
  obtain ⟨Q, hQ⟩ : ∃ Q : Nat, P * Q = 18446744073709551616 := by
    refine ⟨2 ^ (64 - k), ?_⟩
    rw [hP, ← Nat.pow_add, show k + (64 - k) = 64 by omega]
  have hQi : (P : Int) * (Q : Int) = 18446744073709551616 := congrArg Int.ofNat hQ
  have hxm : x % 18446744073709551616 = (P : Int) * (x / P % Q) := by
    have e : x = P * (x / P) := by have := Int.mul_ediv_add_emod x P; omega
    rw [e, ← hQi, Int.mul_emod_mul_of_pos _ _ (by omega)]
    rw [← e]
  have hxq0 : 0 ≤ x / P % Q := Int.emod_nonneg _ (by intro h; rw [h] at hQi; simp at hQi)
  have hxq1 : x / P % Q < Q := Int.emod_lt_of_pos _ (by rcases Nat.eq_zero_or_pos Q with h | h; (subst h; simp at hQ); omega)
  obtain ⟨a, ha⟩ : ∃ a : Nat, (a : Int) = x / P % Q := ⟨(x / P % Q).toNat, Int.toNat_of_nonneg hxq0⟩
  rw [← ha] at hxm hxq1
  obtain ⟨b, rfl⟩ : ∃ b : Nat, y = (b : Int) := ⟨y.toNat, (Int.toNat_of_nonneg h0).symm⟩
  have hbP : b < P := by exact_mod_cast hy
  have hym : (b : Int) % 18446744073709551616 = b := Int.emod_eq_of_lt (by omega) (by omega)
  have haQ : a < Q := by exact_mod_cast hxq1
  have hlt : P * a + b < P * Q := by
    have : P * (a + 1) ≤ P * Q := Nat.mul_le_mul_left _ haQ
    rw [Nat.mul_add] at this; omega
  have hsum : (x + b) % 18446744073709551616 = ((P * a + b : Nat) : Int) := by
    rw [Int.add_emod, hxm, hym]
    have : (P : Int) * (a : Int) + (b : Int) = ((P * a + b : Nat) : Int) := by push_cast; rfl
    rw [this]
    exact Int.emod_eq_of_lt (by omega) (by rw [← hQi]; exact_mod_cast hlt)
  rw [hsum, hxm, hym]
  have e1 : ((P : Int) * (a : Int)).toNat = P * a := by
    have : (P : Int) * (a : Int) = ((P * a : Nat) : Int) := by push_cast; rfl
    rw [this]; rfl
  rw [e1]
  show P * a ||| b = P * a + b
  rw [hP, Nat.mul_comm, ← Nat.shiftLeft_eq]
  exact (Nat.shiftLeft_add_eq_or_of_lt (by rw [← hP]; exact hbP) a).symm
theorem i64_sh_amount (n : Nat) (hn : n ≤ 63) : ((i32 (n : Int)).toInt64 &&& 63) = i64 (n : Int) := by
  rw [i32_i64 ⟨by omega, by omega⟩]
  have h := i64_mask (n : Int) 6 (by decide)
  have e : (63 : Int64) = i64 ((2 : Int) ^ 6 - 1) := by decide
  rw [e, h]
  congr 1
  exact Int.emod_eq_of_lt (by omega) (by omega)
theorem i64_toNat64 (n : Nat) (hn : n ≤ 63) : (i64 (n : Int)).toBitVec.toNat = n := by
  rw [i64_bits]; omega
theorem i64_shl (x : Int) (n : Nat) (hn : n ≤ 63) : i64 x <<< ((i32 (n : Int)).toInt64 &&& 63) = i64 (x * 2 ^ n) := by
  rw [i64_sh_amount n hn]
  apply Int64.toBitVec_inj.1
  rw [Int64.toBitVec_shiftLeft]
  have e0 : ((i64 (n : Int)).toBitVec.smod 64).toNat = n := by
    have : ∀ m : Nat, m ≤ 63 → ((BitVec.ofInt 64 (m : Int)).smod 64).toNat = m := by decide
    exact this n hn
  apply BitVec.eq_of_toNat_eq
  rw [BitVec.shiftLeft_eq', e0, BitVec.toNat_shiftLeft, i64_bits, i64_bits, Nat.shiftLeft_eq]
  have e6 : 0 ≤ x % 18446744073709551616 := Int.emod_nonneg _ (by decide)
  have e7 : 0 ≤ (x * 2 ^ n) % 18446744073709551616 := Int.emod_nonneg _ (by decide)
  apply Int.ofNat.inj
  show ((((x % 18446744073709551616).toNat * 2 ^ n : Nat) : Int) % ((2 ^ 64 : Nat) : Int)) = (((x * 2 ^ n) % 18446744073709551616).toNat : Int)
  rw [Int.toNat_of_nonneg e7, Int.natCast_mul, Int.natCast_pow, Int.toNat_of_nonneg e6]
  show ((x % 18446744073709551616) * 2 ^ n) % 18446744073709551616 = _
  rw [Int.mul_emod, Int.emod_emod, ← Int.mul_emod]
theorem i64_shr (x : Int) (n : Nat) (hn : n ≤ 63) (hx : r64 x) (h0 : 0 ≤ x) : i64 x >>> ((i32 (n : Int)).toInt64 &&& 63) = i64 (x / 2 ^ n) := by
  rw [i64_sh_amount n hn]
  apply Int64.toBitVec_inj.1
  rw [Int64.toBitVec_shiftRight]
  have e0 : ((i64 (n : Int)).toBitVec.smod 64).toNat = n := by
    have : ∀ m : Nat, m ≤ 63 → ((BitVec.ofInt 64 (m : Int)).smod 64).toNat = m := by decide
    exact this n hn
  rw [BitVec.sshiftRight_eq', e0]
  have hm : (i64 x).toBitVec.msb = false := by
    rw [BitVec.msb_eq_false_iff_two_mul_lt, i64_bits]
    have := hx.2; omega
  rw [BitVec.sshiftRight_eq_of_msb_false hm]
  apply BitVec.eq_of_toNat_eq
  rw [BitVec.toNat_ushiftRight, i64_bits, i64_bits, Nat.shiftRight_eq_div_pow]
  obtain ⟨P, hP⟩ : ∃ P : Nat, P = 2 ^ n := ⟨_, rfl⟩
  have hPi : ((2 : Int) ^ n) = (P : Int) := by rw [hP]; simp
  have hp0 : 0 < P := by rw [hP]; exact Nat.pow_pos (by decide)
  obtain ⟨a, rfl⟩ : ∃ a : Nat, x = (a : Int) := ⟨x.toNat, (Int.toNat_of_nonneg h0).symm⟩
  rw [hPi, ← hP]
  have h1 : (a : Int) % 18446744073709551616 = a := Int.emod_eq_of_lt (by omega) (by have := hx.2; omega)
  have h2 : (a : Int) / (P : Int) = ((a / P : Nat) : Int) := by push_cast; rfl
  have h3 : a / P ≤ a := Nat.div_le_self _ _
  have hx2 := hx.2
  rw [h1, h2]
  show a / P = _
  generalize a / P = d at h3
  have h4 : (d : Int) % 18446744073709551616 = (d : Int) := Int.emod_eq_of_lt (by omega) (by omega)
  rw [h4]
  rfl
theorem i64_ushr33 (x : Int) : ((i64 x).toUInt64 >>> ((i32 33).toInt64.toUInt64 &&& Int64.toUInt64 63)).toInt64 = i64 (x % 18446744073709551616 / 8589934592) := by
  apply Int64.toBitVec_inj.1
  show ((i64 x).toUInt64 >>> ((i32 33).toInt64.toUInt64 &&& Int64.toUInt64 63)).toBitVec = _
  rw [show ((i32 33).toInt64.toUInt64 &&& Int64.toUInt64 63) = 33 by decide]
  rw [UInt64.toBitVec_shiftRight]
  apply BitVec.eq_of_toNat_eq
  rw [BitVec.ushiftRight_eq', BitVec.toNat_ushiftRight]
  rw [show (UInt64.toBitVec 33 % 64).toNat = 33 by decide]
  rw [Nat.shiftRight_eq_div_pow]
  show (i64 x).toBitVec.toNat / 2 ^ 33 = _
  rw [i64_bits, i64_bits]
  have e6 : 0 ≤ x % 18446744073709551616 := Int.emod_nonneg _ (by decide)
  have e7 : x % 18446744073709551616 < 18446744073709551616 := Int.emod_lt_of_pos _ (by decide)
  omega
theorem zlg_lt {x y : Int} (hx : r64 x) (hy : r64 y) (h : x < y) : lg_cmp (i64 x) (i64 y) = i32 (-1) := by
  unfold lg_cmp
  rw [if_neg (by rw [gt_iff_lt, i64_lt hy hx]; omega), if_neg (by rw [i64_eq hx hy]; omega)]; rfl
theorem zlg_gt {x y : Int} (hx : r64 x) (hy : r64 y) (h : y < x) : lg_cmp (i64 x) (i64 y) = i32 1 := by
  unfold lg_cmp
  rw [if_pos (by rw [gt_iff_lt, i64_lt hy hx]; omega)]; rfl
theorem zlg_eq {x y : Int} (hx : r64 x) (hy : r64 y) (h : x = y) : lg_cmp (i64 x) (i64 y) = i32 0 := by
  subst h
  unfold lg_cmp
  rw [if_neg (by rw [gt_iff_lt, i64_lt hx hx]; omega), if_pos rfl]; rfl
/-- the sign of a comparison -/
def zcmp (x y : Int) : Int := if x < y then -1 else if x = y then 0 else 1
theorem lg_zcmp {x y : Int} (hx : r64 x) (hy : r64 y) : lg_cmp (i64 x) (i64 y) = i32 (zcmp x y) := by
  unfold zcmp
  split
  · exact zlg_lt hx hy (by assumption)
  · split
    · exact zlg_eq hx hy (by assumption)
    · exact zlg_gt hx hy (by omega)
theorem vp_nar_bool {z : Int} (h : z = 0 ∨ z = 1) : vp_nar .boolean (i32 z) = i32 z := by
  rcases h with rfl | rfl <;> decide
theorem narrow_bool {z : Int} (h : z = 0 ∨ z = 1) : narrow .boolean (.int (i32 z)) = .int (i32 z) := by
  rcases h with rfl | rfl <;> decide
theorem i32_char {x : Int} (h0 : 0 ≤ x) (hx : x < 65536) : ((i32 x).toUInt32 % 65536).toInt32 = i32 x := by
  apply Int32.toBitVec_inj.1
  apply BitVec.eq_of_toNat_eq
  show ((i32 x).toUInt32 % 65536).toBitVec.toNat = _
  rw [UInt32.toBitVec_mod, BitVec.toNat_umod]
  show (i32 x).toBitVec.toNat % 65536 = _
  rw [i32_bits]; omega
theorem zvp_char {z : Int} (h : 0 ≤ z ∧ z < 65536) : vp_nar .char (i32 z) = i32 z := i32_char h.1 h.2
theorem narrow_char {z : Int} (h : 0 ≤ z ∧ z < 65536) : narrow .char (.int (i32 z)) = .int (i32 z) := congrArg Value.int (i32_char h.1 h.2)
