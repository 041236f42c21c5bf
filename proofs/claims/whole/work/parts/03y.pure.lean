/-! more of numbers -/
def xorI (a b : Int) : Int := (iI a ^^^ iI b).toInt
theorem xorI_eq (a b : Int) : iI a ^^^ iI b = iI (xorI a b) := iI_of _
theorem xorI_rng (a b : Int) : -2147483648 ≤ xorI a b ∧ xorI a b < 2147483648 := iI_rng _
theorem i32_neg (x : Int32) : x.toInt < 0 ↔ x.toBitVec.msb = true := by
  show x.toBitVec.toInt < 0 ↔ _
  rw [BitVec.msb_eq_toInt]
  simp
theorem xorI_neg {a b : Int} (ha : -2147483648 ≤ a ∧ a < 2147483648) (hb : 0 ≤ b ∧ b < 2147483648) : xorI a b < 0 ↔ a < 0 := by
  unfold xorI
  have hb1 : (iI b).toBitVec.msb = false := by
    have h := i32_neg (iI b)
    rw [iI_toInt (by omega)] at h
    cases e : (iI b).toBitVec.msb with
    | false => rfl
    | true => exact absurd (h.mpr e) (by omega)
  have ha1 := i32_neg (iI a)
  rw [iI_toInt ha] at ha1
  rw [i32_neg, ha1]
  show ((iI a).toBitVec ^^^ (iI b).toBitVec).msb = true ↔ _
  rw [BitVec.msb_xor, hb1]
  simp
theorem tdiv_neg {a b : Int} (ha : a < 0) (hb : 0 < b) : a ≤ Int.tdiv a b * b ∧ Int.tdiv a b * b ≤ 0 := by
  by_cases hd : b ∣ a
  · have e : Int.tdiv a b = a / b := by rw [Int.tdiv_eq_ediv, if_pos (Or.inr hd), Int.add_zero]
    rw [e, Int.ediv_mul_cancel hd]
    omega
  · have h3 : ¬ (0 ≤ a ∨ b ∣ a) := fun h3 => h3.elim (by omega) hd
    have e : Int.tdiv a b = a / b + 1 := by rw [Int.tdiv_eq_ediv, if_neg h3, Int.sign_eq_one_of_pos hb]
    have h2 := Int.lt_ediv_add_one_mul_self a hb
    have h4 : a / b < 0 := Int.ediv_neg_of_neg_of_pos ha hb
    have h5 : (a / b + 1) * b ≤ 0 * b := Int.mul_le_mul_of_nonneg_right (by omega) (by omega)
    rw [e]
    omega
theorem tdiv_le {a b : Int} (ha : -2147483648 ≤ a ∧ a < 2147483648) (hb : 0 < b) : -2147483648 ≤ Int.tdiv a b * b ∧ Int.tdiv a b * b < 2147483648 := by
  rcases Int.lt_or_le a 0 with h | h
  · have := tdiv_neg h hb
    omega
  · rw [Int.tdiv_eq_ediv_of_nonneg h]
    have h1 := Int.ediv_mul_le a (Int.ne_of_gt hb)
    have h2 : 0 ≤ a / b * b := Int.mul_nonneg (Int.ediv_nonneg h (by omega)) (by omega)
    omega
theorem iI_divT {a b : Int} (ha : -2147483648 ≤ a ∧ a < 2147483648) (hb : 0 < b ∧ b < 2147483648) : iI a / iI b = iI (Int.tdiv a b) := by
  unfold iI
  rw [Int32.ofInt_tdiv (by show (-2147483648 : Int) ≤ a; omega) (by show a ≤ (2147483647 : Int); omega) (by show (-2147483648 : Int) ≤ b; omega) (by show b ≤ (2147483647 : Int); omega)]
section JN
variable {p : Program} {l : Launch} {e : Env} {R : Room} {s : State} {m : MethodId} {args : Array Value} {below : List Frame} {meth : Method} {c : Code} {X : GX} {A : Nat → Prop} {nL cells slots : Nat} {Q : State → Prop} {ws ws' : va_W} {lv lv' : List (Nat × Value)} {pc : Nat} {st : List Value} {cc : ByteArray} {own : String}
theorem J_idivT (cx : Cx p s m args meth c X A nL cc own) {a b : Int} (hdg : decode cc pc = .ok (.idiv, 1)) (ha : -2147483648 ≤ a ∧ a < 2147483648) (hb : 0 < b ∧ b < 2147483648) (k : J p l e R s m args below meth c X A nL cells slots Q ws lv (pc + 1) (.int (iI (Int.tdiv a b)) :: st)) : J p l e R s m args below meth c X A nL cells slots Q ws lv pc (.int (iI b) :: .int (iI a) :: st) :=
  fun H locs ls hP hD hS hl => lv_idiv cx.1 cx.2.1 hdg (iI_ne0 hb) (by rw [iI_divT ha hb]; exact k H locs ls hP hD hS hl)
theorem J_ixor (cx : Cx p s m args meth c X A nL cc own) {a b : Int} (hdg : decode cc pc = .ok (.ixor, 1)) (k : J p l e R s m args below meth c X A nL cells slots Q ws lv (pc + 1) (.int (iI (xorI a b)) :: st)) : J p l e R s m args below meth c X A nL cells slots Q ws lv pc (.int (iI b) :: .int (iI a) :: st) :=
  fun H locs ls hP hD hS hl => lv_ixor cx.1 cx.2.1 hdg (by rw [xorI_eq]; exact k H locs ls hP hD hS hl)
end JN
theorem smpA_bef {f : Int → Int} {n pl : Int} (h : pl < n) : smpA f n pl = bef f pl := by
  unfold smpA bef
  by_cases h1 : pl < 0
  · rw [if_pos (Or.inl h1), if_pos h1]
  · rw [if_neg (by omega), if_neg h1]
def eqU (f g : Int → Int) : Nat → Bool
  | 0 => true
  | n + 1 => eqU f g n && decide (f n = g n)
theorem eqU_s {f g : Int → Int} {j : Int} (h : 0 ≤ j) (h1 : eqU f g j.toNat = true) (h2 : f j = g j) : eqU f g (j + 1).toNat = true := by
  have e : (j + 1).toNat = j.toNat + 1 := by omega
  rw [e, eqU, h1, Int.toNat_of_nonneg h]
  simp [h2]
theorem eqU_iff {f g : Int → Int} (n : Nat) : eqU f g n = true ↔ ∀ j : Int, 0 ≤ j → j < n → f j = g j := by
  induction n with
  | zero => exact ⟨fun _ j h1 h2 => by omega, fun _ => rfl⟩
  | succ n ih =>
    rw [eqU, Bool.and_eq_true, ih, decide_eq_true_eq]
    constructor
    · intro ⟨h1, h2⟩ j h3 h4
      by_cases hj : j = n
      · rw [hj]; exact h2
      · exact h1 j h3 (by omega)
    · intro h
      exact ⟨fun j h1 h2 => h j h1 (by omega), h n (by omega) (by omega)⟩
def sameV (f : Int → Int) (ch n : Int) (g : Int → Int) (ch2 n2 : Int) : Int := if ch = ch2 ∧ n / ch * ch = n2 ∧ eqU f g n2.toNat = true then 1 else 0
theorem sameV_01 (f : Int → Int) (ch n : Int) (g : Int → Int) (ch2 n2 : Int) : sameV f ch n g ch2 n2 = 0 ∨ sameV f ch n g ch2 n2 = 1 := by
  unfold sameV
  split
  · exact Or.inr rfl
  · exact Or.inl rfl
theorem sameV_no {f : Int → Int} {ch n : Int} {g : Int → Int} {ch2 n2 : Int} (h : ¬ (ch = ch2 ∧ n / ch * ch = n2)) : 0 = sameV f ch n g ch2 n2 := by
  unfold sameV
  rw [if_neg (fun h2 => h ⟨h2.1, h2.2.1⟩)]
theorem sameV_at {f : Int → Int} {ch n : Int} {g : Int → Int} {ch2 n2 j : Int} (h0 : 0 ≤ j) (h1 : j < n2) (h : ¬ f j = g j) : 0 = sameV f ch n g ch2 n2 := by
  unfold sameV
  rw [if_neg (fun h2 => h ((eqU_iff _).mp h2.2.2 j h0 (by omega)))]
theorem half_rng {n ch : Int} (hc : 1 ≤ ch ∧ ch ≤ 2) (hn : 0 ≤ n ∧ n ≤ 800) : 0 ≤ n / ch ∧ n / ch ≤ 800 ∧ 0 ≤ n / ch * ch ∧ n / ch * ch ≤ n := by
  rcases (show ch = 1 ∨ ch = 2 by omega) with e1 | e1 <;> subst e1 <;> omega
def msumN (mf : Int → Int) (ch i : Int) : Nat → Int
  | 0 => 0
  | k + 1 => msumN mf ch i k + mb mf ch i (k + 1)
def msum (mf : Int → Int) (ch i k : Int) : Int := msumN mf ch i k.toNat
theorem msum_s {mf : Int → Int} {ch i k : Int} (h : 0 ≤ k) : msum mf ch i (k + 1) = msum mf ch i k + mb mf ch i (k + 1) := by
  unfold msum
  have e : (k + 1).toNat = k.toNat + 1 := by omega
  rw [e, msumN, Int.toNat_of_nonneg h]
theorem mb_rng {mf : Int → Int} (hm : ∀ j, -32768 ≤ mf j ∧ mf j ≤ 32767) (ch i k : Int) : -32768 ≤ mb mf ch i k ∧ mb mf ch i k ≤ 32767 := by
  unfold mb
  split
  · omega
  · exact hm _
theorem msum_rng {mf : Int → Int} (hm : ∀ j, -32768 ≤ mf j ∧ mf j ≤ 32767) (ch i : Int) (k : Nat) : -32768 * (k : Int) ≤ msumN mf ch i k ∧ msumN mf ch i k ≤ 32768 * (k : Int) := by
  induction k with
  | zero => exact ⟨Int.le_refl _, Int.le_refl _⟩
  | succ k ih =>
    have := mb_rng hm ch i (k + 1)
    rw [msumN]
    omega
theorem msum_4 (mf : Int → Int) (ch i : Int) : rmean (msum mf ch i 4) 4 = mahead mf ch i := by
  unfold mahead
  congr 1
  show 0 + mb mf ch i 1 + mb mf ch i 2 + mb mf ch i 3 + mb mf ch i 4 = _
  omega
theorem rmean_rng {sm k : Int} (hk : 1 ≤ k) (h : -32768 * k ≤ sm ∧ sm ≤ 32767 * k) : -32768 ≤ rmean sm k ∧ rmean sm k ≤ 32767 := by
  unfold rmean
  have h1 : (sm + k / 2) / k < 32768 := Int.ediv_lt_of_lt_mul (by omega) (by omega)
  have h2 : -32768 ≤ (sm + k / 2) / k := Int.le_ediv_of_mul_le (by omega) (by omega)
  omega
theorem bsum_rng {f : Int → Int} (hf : ∀ j, -32768 ≤ f j ∧ f j ≤ 32767) (ch pl : Int) (k : Nat) : -32768 * (k : Int) ≤ bsumN f ch pl k ∧ bsumN f ch pl k ≤ 32767 * (k : Int) := by
  induction k with
  | zero => exact ⟨Int.le_refl _, Int.le_refl _⟩
  | succ k ih =>
    have := hf (pl + k * ch)
    rw [bsumN]
    omega
theorem bsum_rngI {f : Int → Int} (hf : ∀ j, -32768 ≤ f j ∧ f j ≤ 32767) (ch pl : Int) {k : Int} (hk : 0 ≤ k) : -32768 * k ≤ bsum f ch pl k ∧ bsum f ch pl k ≤ 32767 * k := by
  have h := bsum_rng hf ch pl k.toNat
  rw [Int.toNat_of_nonneg hk] at h
  exact h
