/-! the reference's readBlock -/
theorem cmpI_gt {a b : Int} : 0 < cmpI a b ↔ b < a := by unfold cmpI; split <;> (try split) <;> omega
theorem bsum_up {g : Int → Int} {ch p0 x : Int} (hc : 1 ≤ ch) : ∀ (j : Int) (n : Nat), (n : Int) ≤ j → bsumN (upI g (p0 + j * ch) x) ch p0 n = bsumN g ch p0 n
  | _, 0, _ => rfl
  | j, n + 1, h => by
    rw [bsumN, bsumN, bsum_up hc j n (by omega), upI_n]
    intro h2
    have h3 : ((n : Int) + 1) * ch ≤ j * ch := Int.mul_le_mul_of_nonneg_right (by omega) (by omega)
    rw [Int.add_mul] at h3
    omega
theorem bsum_nx {g : Int → Int} {ch p0 x j : Int} (hc : 1 ≤ ch) (hj : 0 ≤ j) : bsum (upI g (p0 + j * ch) x) ch p0 (j + 1) = bsum g ch p0 j + x := by
  rw [bsum_s hj, upI_s]
  unfold bsum
  rw [bsum_up hc j j.toNat (by omega)]
theorem judge_f {E q v lo hi : Int} (h : ¬ v = -1) (h2 : lo ≤ v ∧ v ≤ hi) : judgeE E q v lo hi = -1 := by
  unfold judgeE
  rw [if_neg h, if_neg (by omega)]
theorem judge_b {E q v lo hi : Int} (h : ¬ v = -1) (h2 : v < lo ∨ hi < v) : judgeE E q v lo hi = q := by
  unfold judgeE
  rw [if_neg h, if_pos h2]
theorem judge_o {E q v lo hi : Int} (h : v = -1) : judgeE E q v lo hi = E := by
  unfold judgeE
  rw [if_pos h]
theorem rbF_ok {b : Int → Int} {E q : Int} (h : ¬ nnv b E q 2 = -1) (h2 : 0 ≤ nnv b E q 2 ∧ nnv b E q 2 ≤ 4) : nnv b E q 2 = rbF b E q ∧ rbE1 b E q = -1 ∧ nnp b E q 2 = rbQ1 b E q := by
  have hj := judge_f (E := E) (q := q) h h2
  refine ⟨?_, hj, rfl⟩
  unfold rbF nwV
  rw [if_pos rfl, if_pos hj]
theorem rbK_4 {b : Int → Int} {E q : Int} (h : rbF b E q = 4) : (0 : Int) = rbK b E q ∧ rbQ1 b E q = rbQ2 b E q ∧ rbE2 b E q = rbE1 b E q := by
  unfold rbK rbQ2 rbE2
  rw [if_pos h, if_pos h, if_pos h]
  exact ⟨rfl, rfl, rfl⟩
theorem rbK_ok {b : Int → Int} {E q : Int} (hf : ¬ rbF b E q = 4) (he : rbE1 b E q = -1) (h : ¬ nnv b E (rbQ1 b E q) 3 = -1) (h2 : 0 ≤ nnv b E (rbQ1 b E q) 3 ∧ nnv b E (rbQ1 b E q) 3 ≤ 15) : nnv b E (rbQ1 b E q) 3 = rbK b E q ∧ nnp b E (rbQ1 b E q) 3 = rbQ2 b E q ∧ rbE2 b E q = -1 := by
  have hj := judge_f (E := E) (q := rbQ1 b E q) h h2
  unfold rbK rbQ2 rbE2 nwV nwQ nwE
  rw [if_neg hf, if_neg hf, if_neg hf, if_pos he, if_pos hj, if_pos he, if_pos he]
  exact ⟨rfl, rfl, hj⟩
theorem rbE2_k {b : Int → Int} {E q : Int} (hf : ¬ rbF b E q = 4) (he : rbE1 b E q = -1) : rbE2 b E q = judgeE E (rbQ1 b E q) (nnv b E (rbQ1 b E q) 3) 0 15 := by
  unfold rbE2 nwE
  rw [if_neg hf, if_pos he]
theorem rbE2_1 {b : Int → Int} {E q : Int} (he : ¬ rbE1 b E q = -1) : rbE2 b E q = rbE1 b E q := by
  unfold rbE2
  by_cases h : rbF b E q = 4
  · rw [if_pos h]
  · rw [if_neg h, nwE, if_neg he]
theorem R_bad2 {b g : Int → Int} {E ch fn k mu p0 q2 e2 : Int} (h : ¬ e2 = -1) (n : Nat) : (rlpN b E ch fn k mu p0 (g, q2, e2) n).2.2 = e2 := by
  have := rlp_stick (r := b) (E := E) (ch := ch) (fn := fn) (k := k) (mu := mu) (p0 := p0) (x := (g, q2, e2)) 0 h n
  rw [Nat.zero_add] at this
  rw [this]
  rfl
theorem R_badj {b : Int → Int} {E ch fn k mu p0 : Int} {x : R3} {j m : Int} {e2 : Int} (hj : 0 ≤ j) (hm : j < m) (h : (rlpN b E ch fn k mu p0 x (j + 1).toNat).2.2 = e2) (he : ¬ e2 = -1) : (rlpN b E ch fn k mu p0 x m.toNat).2.2 = e2 := by
  have := rlp_stick (r := b) (E := E) (ch := ch) (fn := fn) (k := k) (mu := mu) (p0 := p0) (x := x) (j + 1).toNat (by rw [h]; exact he) (m.toNat - (j + 1).toNat)
  rw [show (j + 1).toNat + (m.toNat - (j + 1).toNat) = m.toNat by omega] at this
  rw [this]
  exact h
