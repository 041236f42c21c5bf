/-! Ints as numbers: iI z is the int of the number z, lI of the long; aI f an array's contents -/
def iI (z : Int) : Int32 := Int32.ofInt z
def lI (z : Int) : Int64 := Int64.ofInt z
def aI (f : Int → Int) : Nat → Int32 := fun j => iI (f (j : Int))
def upI (f : Int → Int) (i x : Int) : Int → Int := fun j => if j = i then x else f j
def p2 (k : Int) : Int := 2 ^ k.toNat
def w8 (z : Int) : Int := (z + 128) % 256 - 128
def cmpI (a b : Int) : Int := if b < a then 1 else if a = b then 0 else -1
theorem iI_toInt {z : Int} (h : -2147483648 ≤ z ∧ z < 2147483648) : (iI z).toInt = z := Int32.toInt_ofInt_of_le (by omega) (by omega)
theorem lI_toInt {z : Int} (h : -9223372036854775808 ≤ z ∧ z < 9223372036854775808) : (lI z).toInt = z := Int64.toInt_ofInt_of_le (by omega) (by omega)
theorem iI_of (x : Int32) : x = iI x.toInt := (Int32.ofInt_toInt x).symm
theorem iI_rng (x : Int32) : -2147483648 ≤ x.toInt ∧ x.toInt < 2147483648 := by
  have h1 := Int32.le_toInt x
  have h2 := Int32.toInt_lt x
  omega
theorem iI_lt {a b : Int} (ha : -2147483648 ≤ a ∧ a < 2147483648) (hb : -2147483648 ≤ b ∧ b < 2147483648) : iI a < iI b ↔ a < b := by
  rw [Int32.lt_iff_toInt_lt, iI_toInt ha, iI_toInt hb]
theorem iI_le {a b : Int} (ha : -2147483648 ≤ a ∧ a < 2147483648) (hb : -2147483648 ≤ b ∧ b < 2147483648) : iI a ≤ iI b ↔ a ≤ b := by
  rw [Int32.le_iff_toInt_le, iI_toInt ha, iI_toInt hb]
theorem iI_eq {a b : Int} (ha : -2147483648 ≤ a ∧ a < 2147483648) (hb : -2147483648 ≤ b ∧ b < 2147483648) : iI a = iI b ↔ a = b := by
  rw [← Int32.toInt_inj, iI_toInt ha, iI_toInt hb]
theorem iI_0 : (0 : Int32) = iI 0 := by decide
theorem iI_add (a b : Int) : iI a + iI b = iI (a + b) := (Int32.ofInt_add a b).symm
theorem iI_sub (a b : Int) : iI a - iI b = iI (a - b) := (Int32.ofInt_sub a b).symm
theorem iI_mul (a b : Int) : iI a * iI b = iI (a * b) := (Int32.ofInt_mul a b).symm
theorem iI_neg (a : Int) : -iI a = iI (-a) := (Int32.ofInt_neg a).symm
theorem lI_add (a b : Int) : lI a + lI b = lI (a + b) := (Int64.ofInt_add a b).symm
theorem lI_sub (a b : Int) : lI a - lI b = lI (a - b) := (Int64.ofInt_sub a b).symm
theorem lI_mul (a b : Int) : lI a * lI b = lI (a * b) := (Int64.ofInt_mul a b).symm
theorem iI_nI {a : Int} (h : 0 ≤ a) : iI a = nI a.toNat := by
  have e : a = (a.toNat : Int) := by omega
  unfold iI nI
  rw [← Int32.ofInt_eq_ofNat, ← e]
theorem nI_iI (n : Nat) : nI n = iI (n : Int) := by
  unfold iI nI
  rw [Int32.ofInt_eq_ofNat]
theorem iI_clamp {i : Int} (h : 0 ≤ i ∧ i < 2147483648) : (((iI i).toNatClampNeg : Nat) : Int) = i := by
  show (((iI i).toInt.toNat : Nat) : Int) = i
  rw [iI_toInt (by omega)]
  omega
theorem iI_in {i : Int} {n : Nat} (h : 0 ≤ i ∧ i < (n : Int)) (hn : (n : Int) < 2147483648) : vp_in (iI i) n := by
  rw [vp_in_iff, iI_toInt (by omega)]
  omega
theorem aI_rd {f : Int → Int} {i : Int} (h : 0 ≤ i ∧ i < 2147483648) : aI f (iI i).toNatClampNeg = iI (f i) := by
  unfold aI
  rw [iI_clamp h]
theorem aI_up {f : Int → Int} {i x : Int} (h : 0 ≤ i ∧ i < 2147483648) : upd (aI f) (iI i).toNatClampNeg (iI x) = aI (upI f i x) := by
  have e := iI_clamp h
  funext j
  unfold upd aI upI
  by_cases hj : j = (iI i).toNatClampNeg
  · rw [if_pos hj, if_pos (by omega)]
  · rw [if_neg hj, if_neg (by omega)]
theorem upI_s {f : Int → Int} {i x : Int} : upI f i x i = x := by simp [upI]
theorem upI_n {f : Int → Int} {i j x : Int} (h : j ≠ i) : upI f i x j = f j := by simp [upI, h]
theorem iI_b8 (z : Int) : (iI z).toInt8.toInt32 = iI (w8 z) := by
  have h1 : (iI z).toInt8 = Int8.ofInt z := Int32.toInt8_ofInt
  rw [h1, ← Int32.ofInt_int8ToInt, Int8.toInt_ofInt]
  show Int32.ofInt _ = Int32.ofInt _
  congr 1
  show Int.bmod z 256 = _
  unfold w8 Int.bmod
  dsimp only
  split <;> omega
theorem w8_rng (z : Int) : -128 ≤ w8 z ∧ w8 z < 128 := by unfold w8; omega
theorem w8_id {z : Int} (h : -128 ≤ z ∧ z < 128) : w8 z = z := by unfold w8; omega
theorem w8_255 (z : Int) : w8 z % 256 = z % 256 := by unfold w8; omega
theorem iI_nar8 (z : Int) : vp_nar .byte (iI z) = iI (w8 z) := by rw [vp_nar_byte, iI_b8]
theorem iI_sft : ∀ n, n < 32 → ((nI n &&& 31).toBitVec.smod 32).toNat = n := by decide
theorem iI_shr {a k : Int} (ha : -2147483648 ≤ a ∧ a < 2147483648) (hk : 0 ≤ k ∧ k < 32) : iI a >>> (iI k &&& 31) = iI (a / p2 k) := by
  have h1 := pk_shr (iI a) (iI k &&& 31) k.toNat (by rw [iI_nI hk.1]; exact iI_sft _ (by omega))
  rw [iI_of (iI a >>> (iI k &&& 31)), h1, iI_toInt ha, Int.shiftRight_eq_div_pow]
  rfl
theorem p2_pos (k : Int) : 0 < p2 k := Int.pow_pos (by decide)
theorem p2_0 : p2 0 = 1 := rfl
theorem p2_s {k : Int} (h : 0 ≤ k) : p2 (k + 1) = 2 * p2 k := by
  unfold p2
  have e : (k + 1).toNat = k.toNat + 1 := by omega
  rw [e, Int.pow_succ, Int.mul_comm]
theorem iI_shl {a k : Int} (ha : 0 ≤ a) (hk : 0 ≤ k ∧ k < 32) (h : a * p2 k < 4294967296) : iI a <<< (iI k &&& 31) = iI (a * p2 k) := by
  have e : ((a.toNat * 2 ^ k.toNat : Nat) : Int) = a * p2 k := by
    unfold p2
    rw [Int.natCast_mul, Int.toNat_of_nonneg ha, Int.natCast_pow]
    rfl
  have h1 := pk_shlN (n := a.toNat) (iI k &&& 31) k.toNat (by rw [iI_nI hk.1]; exact iI_sft _ (by omega)) (by omega)
  rw [iI_nI ha, h1, nI_iI, e]
theorem iI_bv (a : Int) : (((iI a).toBitVec.toNat : Nat) : Int) = a % 4294967296 := by
  show (((BitVec.ofInt 32 a).toNat : Nat) : Int) = _
  rw [BitVec.toNat_ofInt]
  omega
theorem iI_and1 (a : Int) : iI a &&& iI 1 = iI (a % 2) := by
  rw [pk_and (iI a) 1 (by decide), nI_iI]
  have h := iI_bv a
  congr 1
  omega
theorem iI_and7 (a : Int) : iI a &&& iI 7 = iI (a % 8) := by
  rw [pk_and (iI a) 3 (by decide), nI_iI]
  have h := iI_bv a
  congr 1
  omega
theorem iI_and15 (a : Int) : iI a &&& iI 15 = iI (a % 16) := by
  rw [pk_and (iI a) 4 (by decide), nI_iI]
  have h := iI_bv a
  congr 1
  omega
theorem iI_and255 (a : Int) : iI a &&& iI 255 = iI (a % 256) := by
  rw [pk_and (iI a) 8 (by decide), nI_iI]
  have h := iI_bv a
  congr 1
  omega
theorem iI_andm8 (a : Int) : iI a &&& iI (-8) = iI (a - a % 8) := by
  have h0 : (iI a &&& iI (-8)) + (iI a &&& iI 7) = iI a := by
    apply Int32.toBitVec.inj
    show ((iI a).toBitVec &&& (iI (-8)).toBitVec) + ((iI a).toBitVec &&& (iI 7).toBitVec) = (iI a).toBitVec
    generalize (iI a).toBitVec = x
    have e1 : (iI (-8)).toBitVec = ~~~ (7#32) := by decide
    have e2 : (iI 7).toBitVec = 7#32 := by decide
    rw [e1, e2]
    generalize (7#32) = y
    rw [BitVec.add_eq_or_of_and_eq_zero]
    · ext i hi
      simp
      cases x[i] <;> cases y[i] <;> simp
    · ext i hi
      simp
      intro _ h2 _
      exact h2
  have h1 : iI a &&& iI (-8) = iI a - (iI a &&& iI 7) := by
    have h2 := congrArg (fun z => z - (iI a &&& iI 7)) h0
    simp only [Int32.add_sub_cancel] at h2
    exact h2
  rw [h1, iI_and7, iI_sub]
theorem iI_div {a b : Int} (ha : 0 ≤ a ∧ a < 2147483648) (hb : 0 < b ∧ b < 2147483648) : iI a / iI b = iI (a / b) := by
  unfold iI
  rw [← Int32.ofInt_tdiv (by show (-2147483648 : Int) ≤ a; omega) (by show a ≤ (2147483647 : Int); omega) (by show (-2147483648 : Int) ≤ b; omega) (by show b ≤ (2147483647 : Int); omega), Int.tdiv_eq_ediv_of_nonneg ha.1]
theorem iI_rem {a b : Int} (ha : 0 ≤ a ∧ a < 2147483648) (hb : 0 < b ∧ b < 2147483648) : iI a - iI a / iI b * iI b = iI (a % b) := by
  rw [iI_div ha hb, iI_mul, iI_sub, Int.emod_def, Int.mul_comm]
theorem iI_ne0 {b : Int} (hb : 0 < b ∧ b < 2147483648) : ¬ iI b = 0 := by
  rw [iI_0, iI_eq (by omega) (by omega)]
  omega
theorem iI_l {a : Int} (ha : -2147483648 ≤ a ∧ a < 2147483648) : (iI a).toInt64 = lI a := by
  rw [← Int64.ofInt_int32ToInt, iI_toInt ha]
  rfl
theorem lI_i (a : Int) : (lI a).toInt32 = iI a := Int64.toInt32_ofInt
theorem lI_div {a b : Int} (ha : -9223372036854775808 ≤ a ∧ a < 9223372036854775808) (hb : 0 < b ∧ b < 9223372036854775808) : lI a / lI b = lI (Int.tdiv a b) := by
  unfold lI
  rw [Int64.ofInt_tdiv (by show (-9223372036854775808 : Int) ≤ a; omega) (by show a ≤ (9223372036854775807 : Int); omega) (by show (-9223372036854775808 : Int) ≤ b; omega) (by show b ≤ (9223372036854775807 : Int); omega)]
theorem lI_ne0 {b : Int} (hb : 0 < b ∧ b < 9223372036854775808) : ¬ lI b = 0 := by
  rw [← Int64.toInt_inj, lI_toInt (by omega)]
  show ¬ b = 0
  omega
theorem lI_cmp {a b : Int} (ha : -9223372036854775808 ≤ a ∧ a < 9223372036854775808) (hb : -9223372036854775808 ≤ b ∧ b < 9223372036854775808) : lg_cmp (lI a) (lI b) = iI (cmpI a b) := by
  unfold lg_cmp cmpI
  have e1 : (lI a > lI b) ↔ b < a := by
    show lI b < lI a ↔ _
    rw [Int64.lt_iff_toInt_lt, lI_toInt ha, lI_toInt hb]
  have e2 : (lI a = lI b) ↔ a = b := by rw [← Int64.toInt_inj, lI_toInt ha, lI_toInt hb]
  by_cases h1 : b < a
  · rw [if_pos (e1.mpr h1), if_pos h1]; rfl
  · rw [if_neg (fun h => h1 (e1.mp h)), if_neg h1]
    by_cases h2 : a = b
    · rw [if_pos (e2.mpr h2), if_pos h2]; rfl
    · rw [if_neg (fun h => h2 (e2.mp h)), if_neg h2]; rfl
theorem cmpI_rng (a b : Int) : -2147483648 ≤ cmpI a b ∧ cmpI a b < 2147483648 := by unfold cmpI; split <;> (try split) <;> omega
theorem cmpI_le {a b : Int} : cmpI a b ≤ 0 ↔ a ≤ b := by unfold cmpI; split <;> (try split) <;> omega
theorem cmpI_lt {a b : Int} : cmpI a b < 0 ↔ a < b := by unfold cmpI; split <;> (try split) <;> omega
/-- Java's rounding down of a quotient, out of the one towards 0 -/
theorem fdiv_of {a b : Int} (hb : 0 < b) : (if Int.tdiv a b * b > a then Int.tdiv a b - 1 else Int.tdiv a b) = a / b := by
  rcases Int.le_total 0 a with h | h
  · rw [Int.tdiv_eq_ediv_of_nonneg h]
    have h1 := Int.ediv_mul_le a (Int.ne_of_gt hb)
    rw [if_neg (by omega)]
  · by_cases hd : b ∣ a
    · have e : Int.tdiv a b = a / b := by rw [Int.tdiv_eq_ediv, if_pos (Or.inr hd), Int.add_zero]
      rw [e, Int.ediv_mul_cancel hd, if_neg (by omega)]
    · have h0 : ¬ 0 ≤ a := fun h2 => hd (by rw [show a = 0 by omega]; exact Int.dvd_zero b)
      have h3 : ¬ (0 ≤ a ∨ b ∣ a) := fun h3 => h3.elim h0 hd
      have e : Int.tdiv a b = a / b + 1 := by rw [Int.tdiv_eq_ediv, if_neg h3, Int.sign_eq_one_of_pos hb]
      have h2 := Int.lt_ediv_add_one_mul_self a hb
      rw [e, if_pos h2]
      omega
