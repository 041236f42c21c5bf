/-! the reference's numbers -/
def mean4 (me : Int → Int) (c2 : Int) : Int := rmean (me (4 * c2) + me (4 * c2 + 1) + me (4 * c2 + 2) + me (4 * c2 + 3)) 4
def shf (me : Int → Int) (a k : Int) : Int → Int := fun j => if a ≤ j ∧ j < k then me (j + 1) else me j
def noted (me : Int → Int) (c2 v : Int) : Int → Int := upI (shf me (4 * c2) (4 * c2 + 3)) (4 * c2 + 3) v
theorem shf_0 (me : Int → Int) (a : Int) : shf me a a = me := by
  funext j
  unfold shf
  rw [if_neg (by omega)]
theorem shf_s {me : Int → Int} {a k : Int} (h : a ≤ k) : upI (shf me a k) k (shf me a k (k + 1)) = shf me a (k + 1) := by
  funext j
  by_cases hj : j = k
  · subst hj
    rw [upI_s]
    unfold shf
    rw [if_neg (by omega), if_pos (by omega)]
  · rw [upI_n hj]
    unfold shf
    by_cases h2 : a ≤ j ∧ j < k
    · rw [if_pos h2, if_pos (by omega)]
    · rw [if_neg h2, if_neg (by omega)]
theorem shf_rng {me : Int → Int} (h : ∀ j, -32768 ≤ me j ∧ me j ≤ 32767) (a k : Int) : ∀ j, -32768 ≤ shf me a k j ∧ shf me a k j ≤ 32767 := by
  intro j
  unfold shf
  split
  · exact h _
  · exact h _
/-- the window of means before block i of channel c2 -/
def mwin (me mf : Int → Int) (ch i c2 : Int) : Prop := ∀ k, 1 ≤ k → k ≤ 4 → me (4 * c2 + 4 - k) = mb mf ch i k
theorem mwin_mean {me mf : Int → Int} {ch i c2 : Int} (h : mwin me mf ch i c2) : mean4 me c2 = mahead mf ch i := by
  have h1 := h 1 (by decide) (by decide)
  have h2 := h 2 (by decide) (by decide)
  have h3 := h 3 (by decide) (by decide)
  have h4 := h 4 (by decide) (by decide)
  unfold mean4 mahead
  rw [← h1, ← h2, ← h3, ← h4, show 4 * c2 + 4 - 1 = 4 * c2 + 3 by omega, show 4 * c2 + 4 - 2 = 4 * c2 + 2 by omega, show 4 * c2 + 4 - 3 = 4 * c2 + 1 by omega, show 4 * c2 + 4 - 4 = 4 * c2 by omega]
  congr 1
  omega
theorem mb_shift {mf : Int → Int} {ch i k : Int} : mb mf ch (i + ch) (k + 1) = mb mf ch i k := by
  unfold mb
  rw [show i + ch - (k + 1) * ch = i - k * ch by rw [Int.add_mul]; omega]
theorem mwin_note {me mf : Int → Int} {ch i c2 v : Int} (h : mwin me mf ch i c2) (hi : 0 ≤ i) (hv : v = mf i) : mwin (noted me c2 v) mf ch (i + ch) c2 := by
  intro k h1 h2
  unfold noted
  by_cases hk : k = 1
  · subst hk
    rw [show 4 * c2 + 4 - 1 = 4 * c2 + 3 by omega, upI_s, hv]
    unfold mb
    rw [show i + ch - 1 * ch = i by omega, if_neg (by omega)]
  · rw [upI_n (by omega)]
    unfold shf
    rw [if_pos (by omega), show k = (k - 1) + 1 by omega, mb_shift, ← h (k - 1) (by omega) (by omega)]
    congr 1
    omega
theorem mwin_other {me mf : Int → Int} {ch i c2 c3 v : Int} (h : mwin me mf ch i c3) (hc : c2 ≠ c3) : mwin (noted me c2 v) mf ch i c3 := by
  intro k h1 h2
  unfold noted
  rw [upI_n (by omega)]
  unfold shf
  rw [if_neg (by omega)]
  exact h k h1 h2
theorem mwin_cg {me mf mf' : Int → Int} {ch i c2 : Int} (hc : 1 ≤ ch) (h : mwin me mf ch i c2) (hm : ∀ j, 0 ≤ j → j < i → mf j = mf' j) : mwin me mf' ch i c2 := by
  intro k h1 h2
  rw [h k h1 h2]
  exact mb_cg hm h1 hc
theorem mwin_0 {me mf : Int → Int} {ch c2 : Int} (hc : c2 < ch) (hc0 : 0 ≤ c2 ∧ c2 ≤ 1) (h : ∀ j, 0 ≤ j → j < 8 → me j = 0) : mwin me mf ch c2 c2 := by
  intro k h1 h2
  rw [h _ (by omega) (by omega)]
  unfold mb
  have h3 : 1 * ch ≤ k * ch := Int.mul_le_mul_of_nonneg_right h1 (by omega)
  rw [if_pos (by omega)]
theorem noted_rng {me : Int → Int} (h : ∀ j, -32768 ≤ me j ∧ me j ≤ 32767) {v : Int} (hv : -32768 ≤ v ∧ v ≤ 32767) (c2 : Int) : ∀ j, -32768 ≤ noted me c2 v j ∧ noted me c2 v j ≤ 32767 := upI_rng (shf_rng h _ _) hv
theorem nu_c {ch nu c2 : Int} (hc : 1 ≤ ch ∧ ch ≤ 2) (h : 0 ≤ c2 ∧ c2 < ch) : (nu * ch + c2) / ch = nu ∧ (nu * ch + c2) % ch = c2 := by
  rcases (show ch = 1 ∨ ch = 2 by omega) with e | e <;> subst e <;> omega
theorem bf_nu {ch bl nu c2 : Int} (hc : 1 ≤ ch ∧ ch ≤ 2) (h : 0 ≤ c2 ∧ c2 < ch) : bfirst ch bl (nu * ch + c2) = nu * bl * ch + c2 := by
  unfold bfirst
  rw [(nu_c hc h).1, (nu_c hc h).2]
theorem bs_nu {ch bl many nu c2 : Int} (hc : 1 ≤ ch ∧ ch ≤ 2) (h : 0 ≤ c2 ∧ c2 < ch) : bsize ch bl many (nu * ch + c2) = mnI bl (many - nu * bl) := by
  unfold bsize
  rw [(nu_c hc h).1]
theorem blk_inN {ch bl many nu c2 j : Int} (hc : 1 ≤ ch ∧ ch ≤ 2) (h : 0 ≤ c2 ∧ c2 < ch) (hm : many ≤ 400) (hq : 0 ≤ nu * bl) (h0 : 0 ≤ j) (h1 : j < mnI bl (many - nu * bl)) : 0 ≤ nu * bl * ch + c2 + j * ch ∧ nu * bl * ch + c2 + j * ch < 800 := by
  unfold mnI at h1
  rcases (show ch = 1 ∨ ch = 2 by omega) with e | e <;> subst e <;> split at h1 <;> omega
def emN (f : Int → Int) (ch p0 mu : Int) : Nat → Int
  | 0 => 1
  | j + 1 => if emN f ch p0 mu j = 0 then 0 else if f (p0 + j * ch) = mu then 1 else 0
theorem em_s {f : Int → Int} {ch p0 mu j : Int} (h : 0 ≤ j) : emN f ch p0 mu (j + 1).toNat = if emN f ch p0 mu j.toNat = 0 then 0 else if f (p0 + j * ch) = mu then 1 else 0 := by
  rw [show (j + 1).toNat = j.toNat + 1 by omega, emN, Int.toNat_of_nonneg h]
theorem em_01 (f : Int → Int) (ch p0 mu : Int) (n : Nat) : emN f ch p0 mu n = 0 ∨ emN f ch p0 mu n = 1 := by
  cases n with
  | zero => exact Or.inr rfl
  | succ n => rw [emN]; split; exact Or.inl rfl; split; exact Or.inr rfl; exact Or.inl rfl
theorem foldI_0 {v : Int} : foldI v = 0 ↔ v = 0 := by unfold foldI; split <;> omega
theorem em_z (f : Int → Int) (ch p0 mu : Int) : ∀ n : Nat, (emN f ch p0 mu n = 0 ↔ ¬ zsumN (fun j => rst f ch 0 (p0 + j * ch) mu) 0 n = 0) ∧ 0 ≤ zsumN (fun j => rst f ch 0 (p0 + j * ch) mu) 0 n
  | 0 => by
    refine ⟨⟨fun h => ?_, fun h => absurd rfl h⟩, Int.le_refl _⟩
    exact absurd (show (1 : Int) = 0 from h) (by decide)
  | n + 1 => by
    have ih := em_z f ch p0 mu n
    have e1 : p2 0 = 1 := rfl
    have hr : rst f ch 0 (p0 + n * ch) mu = foldI (f (p0 + n * ch) - mu) := by
      unfold rst tah
      rw [if_neg (by decide), if_neg (by decide), if_neg (by decide)]
    have h0 : 0 ≤ foldI (f (p0 + n * ch) - mu) := by unfold foldI; split <;> omega
    have hz := @foldI_0 (f (p0 + n * ch) - mu)
    rw [emN, zsumN]
    rw [hr, e1, Int.ediv_one]
    refine ⟨?_, by omega⟩
    split
    · rename_i h1
      have := ih.1.mp h1
      exact ⟨fun _ => by omega, fun _ => rfl⟩
    · rename_i h1
      have h2 : zsumN (fun j => rst f ch 0 (p0 + j * ch) mu) 0 n = 0 := by
        by_cases h3 : zsumN (fun j => rst f ch 0 (p0 + j * ch) mu) 0 n = 0
        · exact h3
        · exact absurd (ih.1.mpr h3) h1
      rw [h2]
      split
      · rename_i h4
        rw [hz.mpr (by omega)]
        omega
      · rename_i h4
        constructor
        · intro _ h5
          exact h4 (by have := hz.mp (by omega); omega)
        · intro _; rfl
def chM (C : Int → Int → Int) (N bst by2 le : Int) : Prop := (N = 0 ∧ bst = 4 ∧ by2 = -1 ∧ le = 0) ∨ (0 < N ∧ (bst, by2, le) = cbestN C N.toNat)
theorem chM_lt {C : Int → Int → Int} {N bst by2 le fn k : Int} (h : chM C N bst by2 le) (hfn : 0 ≤ fn) (hk : 0 ≤ k ∧ k ≤ 15) (hN : N = 16 * fn + k) (hm : C fn k < 2147483647) (hc : N = 0 ∨ C fn k < le) : chM C (N + 1) fn k (C fn k) := by
  obtain ⟨e1, e2⟩ := cb_idx hfn hk hN
  refine Or.inr ⟨by omega, ?_⟩
  rw [show (N + 1).toNat = N.toNat + 1 by omega, cbestN, cstep, e1, e2]
  rcases h with ⟨h0, -⟩ | ⟨h0, h1⟩
  · subst h0
    rw [if_pos (show C fn k < (cbestN C (0 : Int).toNat).2.2 from hm)]
  · rw [← h1, if_pos (by dsimp only; omega)]
theorem chM_ge {C : Int → Int → Int} {N bst by2 le fn k : Int} (h : chM C N bst by2 le) (hfn : 0 ≤ fn) (hk : 0 ≤ k ∧ k ≤ 15) (hN : N = 16 * fn + k) (h0 : ¬ N = 0) (hc : le ≤ C fn k) : chM C (N + 1) bst by2 le := by
  obtain ⟨e1, e2⟩ := cb_idx hfn hk hN
  rcases h with ⟨h1, -⟩ | ⟨h1, h2⟩
  · exact absurd h1 h0
  · refine Or.inr ⟨by omega, ?_⟩
    rw [show (N + 1).toNat = N.toNat + 1 by omega, cbestN, cstep, e1, e2, ← h2, if_neg (by dsimp only; omega)]
theorem chM_by {C : Int → Int → Int} {N bst by2 le : Int} (hC : C 0 0 < 2147483647) (h : chM C N bst by2 le) (hN : N ≤ 64) : (by2 < 0 → N = 0) ∧ (¬ by2 < 0 → ¬ N = 0) ∧ -1 ≤ by2 ∧ by2 ≤ 15 := by
  rcases h with ⟨h1, h2, h3, -⟩ | ⟨h1, h2⟩
  · omega
  · have hv := (cb_val C hC (N.toNat - 1) (by omega)).2.2
    rw [show N.toNat - 1 + 1 = N.toNat by omega, ← h2] at hv
    dsimp only at hv
    omega
def pbM (f : Int → Int) (ch p0 mu bst by2 j : Int) (x : BB) : BB := if by2 < 0 then pnum 2 bst x else prest (fun j => rst f ch bst (p0 + j * ch) mu) by2 j (pnum 3 by2 (pnum 2 bst x))
def cells4 (cf : Int → Int) (bk c0 c1 c2 c3 : Int) : Int → Int := upI (upI (upI (upI cf (4 * bk) c0) (4 * bk + 1) c1) (4 * bk + 2) c2) (4 * bk + 3) c3
theorem cells4_at {cf : Int → Int} {bk c0 c1 c2 c3 : Int} : cells4 cf bk c0 c1 c2 c3 (4 * bk) = c0 ∧ cells4 cf bk c0 c1 c2 c3 (4 * bk + 1) = c1 ∧ cells4 cf bk c0 c1 c2 c3 (4 * bk + 2) = c2 ∧ cells4 cf bk c0 c1 c2 c3 (4 * bk + 3) = c3 := by
  unfold cells4
  refine ⟨?_, ?_, ?_, ?_⟩
  · rw [upI_n (by omega), upI_n (by omega), upI_n (by omega), upI_s]
  · rw [upI_n (by omega), upI_n (by omega), upI_s]
  · rw [upI_n (by omega), upI_s]
  · rw [upI_s]
theorem cells4_ne {cf : Int → Int} {bk c0 c1 c2 c3 j : Int} (h : j < 4 * bk) : cells4 cf bk c0 c1 c2 c3 j = cf j := by
  unfold cells4
  rw [upI_n (by omega), upI_n (by omega), upI_n (by omega), upI_n (by omega)]
/-- the cells of the blocks written so far -/
def okC (f : Int → Int) (ch bl many : Int) (cf : Int → Int) (N : Int) : Prop := ∀ i, 0 ≤ i → i < N → cf (4 * i) = i % ch ∧ cf (4 * i + 1) = cF f ch bl many i ∧ cf (4 * i + 2) = cK f ch bl many i ∧ cf (4 * i + 3) = cB f ch bl many i
theorem okC_s {f : Int → Int} {ch bl many : Int} {cf : Int → Int} {N c0 c1 c2 c3 : Int} (h : okC f ch bl many cf N) (hN : 0 ≤ N) (h0 : c0 = N % ch) (h1 : c1 = cF f ch bl many N) (h2 : c2 = cK f ch bl many N) (h3 : c3 = cB f ch bl many N) : okC f ch bl many (cells4 cf N c0 c1 c2 c3) (N + 1) := by
  intro i hi0 hi1
  by_cases hi : i = N
  · subst hi
    rw [cells4_at.1, cells4_at.2.1, cells4_at.2.2.1, cells4_at.2.2.2]
    exact ⟨h0, h1, h2, h3⟩
  · rw [cells4_ne (by omega), cells4_ne (by omega), cells4_ne (by omega), cells4_ne (by omega)]
    exact h i hi0 (by omega)
theorem nu_end {bl many nu : Int} (hb : 1 ≤ bl) (hm : 0 ≤ many) (hn : 0 ≤ nu) (h1 : nu = 0 ∨ (nu - 1) * bl < many) (h2 : many ≤ nu * bl) : nu = (many + bl - 1) / bl := by
  have e : (many + bl - 1) / bl = nu := by
    apply Int.le_antisymm
    · have h3 : (many + bl - 1) / bl < nu + 1 := Int.ediv_lt_of_lt_mul (by omega) (by rw [Int.add_mul]; omega)
      omega
    · apply Int.le_ediv_of_mul_le (by omega)
      rcases h1 with h1 | h1
      · subst h1
        omega
      · rw [Int.sub_mul] at h1
        omega
  exact e.symm
