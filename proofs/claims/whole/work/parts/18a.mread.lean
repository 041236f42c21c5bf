/-! the reference's reading -/
/-- what the reference's nextNumber leaves: over, or the number and the place behind it -/
def nnR (b : Int → Int) (E q k v t ov : Int) : Prop := (ov = 0 ∧ ¬ nnv b E q k = -1 ∧ v = nnv b E q k ∧ t = nnp b E q k) ∨ (ov = 1 ∧ nnv b E q k = -1)
def lowI (b : Int → Int) (E q k j v t ov : Int) : Prop := (ov = 0 ∧ t = fz b E q + 1 + j ∧ t ≤ E ∧ v = (fz b E q - q) * p2 j + pk (cbit b) (fz b E q + 1) j) ∨ (ov = 1 ∧ t = E ∧ E - (fz b E q + 1) < k)
theorem low_go {b : Int → Int} {E q k j v t : Int} (h : lowI b E q k j v t 0) (hj : 0 ≤ j) (ht : t < E) : lowI b E q k (j + 1) (2 * v + cbit b t) (t + 1) 0 := by
  rcases h with ⟨-, h1, h2, h3⟩ | ⟨h1, -⟩
  · refine Or.inl ⟨rfl, by omega, by omega, ?_⟩
    rw [pk_s hj, p2_s hj, h3, ← h1, Int.mul_add, show (fz b E q - q) * (2 * p2 j) = 2 * ((fz b E q - q) * p2 j) by rw [← Int.mul_assoc, Int.mul_comm _ 2, Int.mul_assoc]]
    omega
  · omega
theorem low_over {b : Int → Int} {E q k j v t ov v' : Int} (h : lowI b E q k j v t ov) (hj : j < k) (ht : ¬ t < E) : lowI b E q k (j + 1) v' t 1 := by
  rcases h with ⟨-, h1, h2, -⟩ | ⟨-, h1, h2⟩
  · exact Or.inr ⟨rfl, by omega, by omega⟩
  · exact Or.inr ⟨rfl, h1, h2⟩
theorem low_t {b : Int → Int} {E q k j v t ov : Int} (h : lowI b E q k j v t ov) (ht : t < E) : ov = 0 := by
  rcases h with ⟨h1, -⟩ | ⟨-, h1, -⟩
  · exact h1
  · omega
theorem low_end {b : Int → Int} {E q k v t ov : Int} (hq : 0 ≤ q ∧ q ≤ E) (hk : 0 ≤ k ∧ k ≤ 15) (h : lowI b E q k k v t ov) : nnR b E q k v t ov := by
  rcases h with ⟨h0, h1, h2, h3⟩ | ⟨h0, h1, h2⟩
  · have hn : ¬ E - (fz b E q + 1) < k := by omega
    have hfz := fz_rng b (E := E) (q := q) hq.2
    have hpk := pkc_rng b (fz b E q + 1) hk
    have hp := p2_15 hk
    have hm : 0 ≤ (fz b E q - q) * p2 k := Int.mul_nonneg (by omega) (by omega)
    refine Or.inl ⟨h0, ?_, ?_, ?_⟩
    · unfold nnv
      rw [if_neg hn]
      omega
    · unfold nnv
      rw [if_neg hn, h3]
    · unfold nnp
      rw [if_neg hn, h1]
  · refine Or.inr ⟨h0, ?_⟩
    unfold nnv
    rw [if_pos h2]
def hbI (b : Int → Int) (E q j v t ov : Int) : Prop := (ov = 0 ∧ t = q + j ∧ t ≤ E ∧ v = pk (cbit b) q j) ∨ (ov = 1 ∧ t = E ∧ E - q < 8)
/-- hasByte: right, or where it is wrong -/
def hbR (b : Int → Int) (E q du t ov : Int) : Prop := nbE b E q (-1) du = -1 → t = q + 8 ∧ ov = 0 ∧ t ≤ E
theorem hb_end {b : Int → Int} {E q du v t ov : Int} (h : hbI b E q 8 v t ov) : (ov = 0 ∧ nbV b E q = v ∧ t = q + 8 ∧ t ≤ E) ∨ (ov = 1 ∧ nbV b E q = -1) := by
  rcases h with ⟨h0, h1, h2, h3⟩ | ⟨h0, h1, h2⟩
  · refine Or.inl ⟨h0, ?_, h1, h2⟩
    unfold nbV
    rw [if_neg (by omega), h3]
  · refine Or.inr ⟨h0, ?_⟩
    unfold nbV
    rw [if_pos h2]
theorem hbI_go {b : Int → Int} {E q j v t : Int} (h : hbI b E q j v t 0) (hj : 0 ≤ j) (ht : t < E) : hbI b E q (j + 1) (2 * v + cbit b t) (t + 1) 0 := by
  rcases h with ⟨-, h1, h2, h3⟩ | ⟨h1, -⟩
  · exact Or.inl ⟨rfl, by omega, by omega, by rw [pk_s hj, h3, ← h1]⟩
  · omega
theorem hbI_over {b : Int → Int} {E q j v t ov v' : Int} (h : hbI b E q j v t ov) (hj : j < 8) (ht : ¬ t < E) : hbI b E q (j + 1) v' t 1 := by
  rcases h with ⟨-, h1, h2, -⟩ | ⟨-, h1, h2⟩
  · exact Or.inr ⟨rfl, by omega, by omega⟩
  · exact Or.inr ⟨rfl, h1, h2⟩
theorem hbI_t {b : Int → Int} {E q j v t ov : Int} (h : hbI b E q j v t ov) (ht : t < E) : ov = 0 := by
  rcases h with ⟨h1, -⟩ | ⟨-, h1, -⟩
  · exact h1
  · omega
theorem pk8_rng (b : Int → Int) (q : Int) : 0 ≤ pk (cbit b) q 8 := (pkc_rng b q (k := 8) (by decide)).1
