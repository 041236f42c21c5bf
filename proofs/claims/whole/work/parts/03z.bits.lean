/-! blocks' places; bits in bytes -/
theorem smpA_in {f : Int → Int} {n pl : Int} (h : 0 ≤ pl ∧ pl < n) : smpA f n pl = f pl := by
  unfold smpA
  rw [if_neg (by omega)]
theorem blk_in {ch bl n i j : Int} (hc : 1 ≤ ch ∧ ch ≤ 2) (hn : 0 ≤ n) (hq : 0 ≤ i / ch * bl) (hi : 0 ≤ i) (h0 : 0 ≤ j) (h1 : j < bsize ch bl (n / ch) i) : 0 ≤ bfirst ch bl i + j * ch ∧ bfirst ch bl i + j * ch < n := by
  unfold bfirst
  unfold bsize mnI at h1
  rcases (show ch = 1 ∨ ch = 2 by omega) with e1 | e1 <;> subst e1 <;> split at h1 <;> omega
theorem bsize_rng {ch bl many i : Int} (hb : 1 ≤ bl ∧ bl ≤ 64) (h : i / ch * bl < many) : 1 ≤ bsize ch bl many i ∧ bsize ch bl many i ≤ 64 := by
  unfold bsize mnI
  split <;> omega
theorem w8_w8 (z : Int) : w8 (w8 z) = w8 z := by unfold w8; omega
theorem pbit_2 (b : Int) (x : BB) : (pbit b x).2 = x.2 + 1 := rfl
theorem pk_up {w : Int → Int} {t k n b : Int} (h : t + k ≤ n) : pk (upI w n b) t k = pk w t k := by
  unfold pk
  apply pk_cg
  intro j h1 h2
  exact upI_n (by omega)
theorem bw_p1 {x : BB} (b : Int) (h0 : 0 ≤ x.2) (h : x.2 % 8 + 1 ≠ 8) : pk x.1 (8 * (x.2 / 8)) (x.2 % 8) * 2 + b = pk (pbit b x).1 (8 * ((pbit b x).2 / 8)) ((pbit b x).2 % 8) := by
  rw [pbit_2, show (x.2 + 1) / 8 = x.2 / 8 by omega, show (x.2 + 1) % 8 = x.2 % 8 + 1 by omega, pk_s (by omega)]
  show _ = 2 * pk (upI x.1 x.2 b) _ _ + upI x.1 x.2 b _
  rw [pk_up (by omega), show 8 * (x.2 / 8) + x.2 % 8 = x.2 by omega, upI_s]
  omega
theorem rowOf_1 {x : BB} (o : Int → Int) (b : Int) (h0 : 0 ≤ x.2) (h : x.2 % 8 + 1 ≠ 8) : rowOf o x.1 x.2 = rowOf o (pbit b x).1 (pbit b x).2 := by
  funext j
  unfold rowOf
  rw [pbit_2, show (x.2 + 1) / 8 = x.2 / 8 by omega]
  by_cases hj : 0 ≤ j ∧ j < x.2 / 8
  · rw [if_pos hj, if_pos hj]
    show _ = w8 (pk (upI x.1 x.2 b) _ _)
    rw [pk_up (by omega)]
  · rw [if_neg hj, if_neg hj]
theorem bw_p2 {x : BB} (b : Int) (h0 : 0 ≤ x.2) (h : x.2 % 8 + 1 = 8) : (0 : Int) = pk (pbit b x).1 (8 * ((pbit b x).2 / 8)) ((pbit b x).2 % 8) := by
  rw [pbit_2, show (x.2 + 1) % 8 = 0 by omega, pk_0]
theorem rowOf_2 {x : BB} (o : Int → Int) (b : Int) (h0 : 0 ≤ x.2) (h : x.2 % 8 + 1 = 8) : upI (rowOf o x.1 x.2) (x.2 / 8) (w8 (pk x.1 (8 * (x.2 / 8)) (x.2 % 8) * 2 + b)) = rowOf o (pbit b x).1 (pbit b x).2 := by
  funext j
  by_cases hj : j = x.2 / 8
  · subst hj
    rw [upI_s]
    unfold rowOf
    rw [pbit_2, if_pos (by omega)]
    congr 1
    rw [show (8 : Int) = 7 + 1 by decide, pk_s (by decide), show (7 + 1 : Int) = 8 by decide, show x.2 % 8 = 7 by omega]
    show _ = 2 * pk (upI x.1 x.2 b) _ _ + upI x.1 x.2 b _
    rw [pk_up (by omega), show 8 * (x.2 / 8) + 7 = x.2 by omega, upI_s]
    omega
  · rw [upI_n hj]
    unfold rowOf
    rw [pbit_2]
    by_cases hk : 0 ≤ j ∧ j < x.2 / 8
    · rw [if_pos hk, if_pos (by omega)]
      show _ = w8 (pk (upI x.1 x.2 b) _ _)
      rw [pk_up (by omega)]
    · rw [if_neg hk, if_neg (by omega)]
theorem plow_step {v sh : Int} {y : BB} (h : 0 ≤ sh) : plow v (sh + 1).toNat y = plow v sh.toNat (pbit (v / p2 sh % 2) y) := by
  have e : (sh + 1).toNat = sh.toNat + 1 := by omega
  rw [e, plow, Int.toNat_of_nonneg h]
theorem pzer_step {x : BB} {j : Int} (h : 0 ≤ j) : pbit 0 (pzer j.toNat x) = pzer (j + 1).toNat x := by
  have e : (j + 1).toNat = j.toNat + 1 := by omega
  rw [e, pzer]
theorem plow_nI {v k : Int} (hk : 0 ≤ k) (x : BB) : (plow v k.toNat x).2 = x.2 + k := by rw [plow_n, Int.toNat_of_nonneg hk]
theorem pzer_nI {k : Int} (hk : 0 ≤ k) (x : BB) : (pzer k.toNat x).2 = x.2 + k := by rw [pzer_n, Int.toNat_of_nonneg hk]
theorem cbit_01 (r : Int → Int) : b01 (cbit r) := by
  intro t
  unfold cbit
  omega
theorem p2_15 {k : Int} (h : 0 ≤ k ∧ k ≤ 15) : 1 ≤ p2 k ∧ p2 k ≤ 32768 := by
  have h1 : ∀ n : Nat, n < 16 → (1 : Int) ≤ 2 ^ n ∧ (2 : Int) ^ n ≤ 32768 := by decide
  exact h1 k.toNat (by omega)
theorem pkc_rng (r : Int → Int) (t : Int) {k : Int} (h : 0 ≤ k ∧ k ≤ 15) : 0 ≤ pk (cbit r) t k ∧ pk (cbit r) t k < 32768 := by
  have h1 := pk_rng (cbit_01 r) t k.toNat
  have h2 := p2_15 h
  unfold p2 at h2
  unfold pk
  omega
theorem mul_p2 {a k : Int} (ha : 0 ≤ a ∧ a ≤ 24000) (hk : 0 ≤ k ∧ k ≤ 15) : 0 ≤ a * p2 k ∧ a * p2 k ≤ 786432000 := by
  have h := p2_15 hk
  have h1 : a * p2 k ≤ 24000 * 32768 := Int.mul_le_mul ha.2 h.2 (by omega) (by decide)
  have h2 : 0 ≤ a * p2 k := Int.mul_nonneg ha.1 (by omega)
  omega
theorem fz_end {r : Int → Int} {E q : Int} (h : E ≤ q) : fz r E q = q := by
  unfold fz
  rw [show (E - q).toNat = 0 by omega]
  rfl
theorem fz_one {r : Int → Int} {E q : Int} (h : ¬ cbit r q = 0) : fz r E q = q := by
  unfold fz
  cases (E - q).toNat with
  | zero => rfl
  | succ n => rw [fzN, if_neg h]
theorem fz_zero {r : Int → Int} {E q : Int} (hq : q < E) (h : cbit r q = 0) : fz r E q = fz r E (q + 1) := by
  unfold fz
  rw [show (E - q).toNat = (E - (q + 1)).toNat + 1 by omega, fzN, if_pos h]
theorem fzN_rng (r : Int → Int) : ∀ (n : Nat) (q : Int), q ≤ fzN r n q ∧ fzN r n q ≤ q + n
  | 0, q => ⟨Int.le_refl _, by show q ≤ q + 0; omega⟩
  | n + 1, q => by
    rw [fzN]
    have := fzN_rng r n (q + 1)
    split <;> omega
theorem fz_rng (r : Int → Int) {E q : Int} (h : q ≤ E) : q ≤ fz r E q ∧ fz r E q ≤ E := by
  have := fzN_rng r (E - q).toNat q
  unfold fz
  omega
theorem p2_3 : p2 3 = 8 := rfl
