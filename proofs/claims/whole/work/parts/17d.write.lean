/-! the reference's writing -/
theorem ch_mean {f : Int → Int} {ch bl many mu i : Int} (h : chZ f ch bl many mu i = 0) : chF f ch bl many mu i = 4 ∧ chK f ch bl many mu i = -1 := by
  unfold chF chK
  rw [if_pos h, if_pos h]
  exact ⟨rfl, rfl⟩
theorem ch_best {f : Int → Int} {ch bl many mu i bst by2 le : Int} (h : ¬ chZ f ch bl many mu i = 0) (hm : chM (cost f ch bl many mu i) 64 bst by2 le) : bst = chF f ch bl many mu i ∧ by2 = chK f ch bl many mu i := by
  unfold chF chK
  rw [if_neg h, if_neg h]
  rcases hm with ⟨h1, -⟩ | ⟨-, h1⟩
  · omega
  · have h2 : (bst, by2, le) = cbestN (cost f ch bl many mu i) 64 := h1
    rw [← h2]
    exact ⟨rfl, rfl⟩
theorem pbM_0 {f : Int → Int} {ch p0 mu bst by2 : Int} {x : BB} : pbM f ch p0 mu bst by2 0 x = if by2 < 0 then pnum 2 bst x else pnum 3 by2 (pnum 2 bst x) := by
  unfold pbM
  split
  · rfl
  · rw [prest_0]
theorem pbM_all {f : Int → Int} {ch bl many mu i bst by2 : Int} {x : BB} (h : (bst = 4 ∧ by2 = -1) ∨ ((0 ≤ bst ∧ bst ≤ 3) ∧ (0 ≤ by2 ∧ by2 ≤ 15))) : pbM f ch (bfirst ch bl i) mu bst by2 (bsize ch bl many i) x = pblkB f ch bl many mu i bst by2 x := by
  unfold pbM pblkB
  rcases h with ⟨h1, h2⟩ | ⟨h1, h2⟩
  · rw [if_pos (by omega), if_pos h1]
  · rw [if_neg (by omega), if_neg (by omega)]
theorem emz {f : Int → Int} {ch bl many mu i p0 m : Int} (hp : bfirst ch bl i = p0) (hm : bsize ch bl many i = m) : emN f ch p0 mu m.toNat = 0 ↔ ¬ chZ f ch bl many mu i = 0 := by
  have h := (em_z f ch p0 mu m.toNat).1
  unfold chZ zsum
  rw [hp, hm]
  exact h
theorem pfill_go {y T : BB} (h0 : 0 ≤ y.2) (h : pfill y = T) (h1 : ¬ y.2 % 8 = 0) : pfill (pbit 0 y) = T := by
  rw [← h]
  unfold pfill
  rw [pbit_2, show ((8 - y.2 % 8) % 8).toNat = ((8 - (y.2 + 1) % 8) % 8).toNat + 1 by omega, pzer_s']
theorem pfill_x {y T : BB} (h : pfill y = T) (h1 : y.2 % 8 = 0) : y = T := by
  rw [← h]
  unfold pfill
  rw [show ((8 - y.2 % 8) % 8).toNat = 0 by omega]
  rfl
theorem pfill_n (y : BB) (h0 : 0 ≤ y.2) : (pfill y).2 ≤ y.2 + 7 ∧ y.2 ≤ (pfill y).2 ∧ (pfill y).2 % 8 = 0 := by
  unfold pfill
  rw [pzer_n]
  omega
/-- all windows stand before block i -/
def wins (me mf : Int → Int) (ch nu c2 : Int) : Prop := ∀ c3, 0 ≤ c3 → c3 < ch → mwin me mf ch (if c3 < c2 then (nu + 1) * ch + c3 else nu * ch + c3) c3
theorem wins_0 {me mf : Int → Int} {ch : Int} (hc : 1 ≤ ch ∧ ch ≤ 2) (h : ∀ j, 0 ≤ j → j < 8 → me j = 0) : wins me mf ch 0 0 := by
  intro c3 h1 h2
  rw [if_neg (by omega), show 0 * ch + c3 = c3 by omega]
  exact mwin_0 h2 (by omega) h
theorem wins_at {me mf : Int → Int} {ch nu c2 : Int} (h : wins me mf ch nu c2) (h0 : 0 ≤ c2 ∧ c2 < ch) : mwin me mf ch (nu * ch + c2) c2 := by
  have h1 := h c2 h0.1 h0.2
  rw [if_neg (by omega)] at h1
  exact h1
theorem wins_s {me mf : Int → Int} {ch nu c2 v : Int} (hc : 1 ≤ ch ∧ ch ≤ 2) (h : wins me mf ch nu c2) (h0 : 0 ≤ c2 ∧ c2 < ch) (hn : 0 ≤ nu * ch) (hv : v = mf (nu * ch + c2)) : wins (noted me c2 v) mf ch nu (c2 + 1) := by
  intro c3 h1 h2
  by_cases h3 : c3 = c2
  · subst h3
    rw [if_pos (by omega), show (nu + 1) * ch + c3 = nu * ch + c3 + ch by rw [Int.add_mul]; omega]
    exact mwin_note (wins_at h h0) (by omega) hv
  · have h4 := h c3 h1 h2
    apply mwin_other _ (Ne.symm h3)
    by_cases h5 : c3 < c2
    · rw [if_pos h5] at h4
      rw [if_pos (by omega)]
      exact h4
    · rw [if_neg h5] at h4
      rw [if_neg (by omega)]
      exact h4
theorem wins_n {me mf : Int → Int} {ch nu : Int} (h : wins me mf ch nu ch) : wins me mf ch (nu + 1) 0 := by
  intro c3 h1 h2
  have h4 := h c3 h1 h2
  rw [if_pos h2] at h4
  rw [if_neg (by omega)]
  exact h4
theorem nblk_nu {ch bl many nu : Int} (h : nu = (many + bl - 1) / bl) : nu * ch = nblk ch bl many := by
  unfold nblk
  rw [h]
theorem nu_lt {ch bl many nu c2 : Int} (hc : 1 ≤ ch) (hb : 1 ≤ bl) (h : nu * bl < many) (h0 : c2 < ch) : nu * ch + c2 < nblk ch bl many := by
  unfold nblk
  have h1 : nu + 1 ≤ (many + bl - 1) / bl := Int.le_ediv_of_mul_le (by omega) (by rw [Int.add_mul]; omega)
  have h2 : (nu + 1) * ch ≤ (many + bl - 1) / bl * ch := Int.mul_le_mul_of_nonneg_right h1 (by omega)
  rw [Int.add_mul] at h2
  omega
