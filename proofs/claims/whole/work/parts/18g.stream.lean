/-! the reference's stream -/
theorem nw_good {b : Int → Int} {E q k lo hi : Int} (h : ¬ nnv b E q k = -1) (h2 : lo ≤ nnv b E q k ∧ nnv b E q k ≤ hi) : nwV b E q (-1) k lo hi = nnv b E q k ∧ nwQ b E q (-1) k = nnp b E q k ∧ nwE b E q (-1) k lo hi = -1 := by
  have hj := judge_f (E := E) (q := q) h h2
  unfold nwV nwQ nwE
  rw [if_pos rfl, if_pos hj, if_pos rfl, if_pos rfl]
  exact ⟨rfl, rfl, hj⟩
theorem nwE_s {b : Int → Int} {E q er k lo hi : Int} (h : ¬ er = -1) : nwE b E q er k lo hi = er := by
  unfold nwE
  rw [if_neg h]
theorem nbE_s {b : Int → Int} {E q er du : Int} (h : ¬ er = -1) : nbE b E q er du = er := by
  unfold nbE
  rw [if_neg h]
theorem hP5_4 {b : Int → Int} {E : Int} (h : ¬ (hP4 b E).2 = -1) : (hP5 b E).2 = (hP4 b E).2 := nwE_s h
theorem hP5_3 {b : Int → Int} {E : Int} (h : ¬ (hP3 b E).2 = -1) : (hP5 b E).2 = (hP3 b E).2 := by
  have e : (hP4 b E).2 = (hP3 b E).2 := nwE_s h
  rw [hP5_4 (by rw [e]; exact h), e]
theorem hP5_2 {b : Int → Int} {E : Int} (h : ¬ (hP2 b E).2 = -1) : (hP5 b E).2 = (hP2 b E).2 := by
  have e : (hP3 b E).2 = (hP2 b E).2 := nwE_s h
  rw [hP5_3 (by rw [e]; exact h), e]
theorem hP5_1 {b : Int → Int} {E : Int} (h : ¬ (hP1 b E).2 = -1) : (hP5 b E).2 = (hP1 b E).2 := by
  have e : (hP2 b E).2 = (hP1 b E).2 := nbE_s h
  rw [hP5_2 (by rw [e]; exact h), e]
theorem rdE_h {b : Int → Int} {E : Int} {g mf : Int → Int} (h : ¬ (hP5 b E).2 = -1) : rdE b E g mf = (hP5 b E).2 := by
  unfold rdE
  rw [if_neg h]
theorem nbQ_ok {b : Int → Int} {E q du : Int} (hE : 0 ≤ E) (hq : 0 ≤ q) (h : nbE b E q (-1) du = -1) : nbQ b E q (-1) = q + 8 := by
  unfold nbE at h
  rw [if_pos rfl] at h
  have h1 := (judge_ok hE hq h).1
  unfold nbV at h1
  unfold nbQ
  rw [if_pos rfl]
  split
  · rename_i h2
    rw [if_pos h2] at h1
    exact absurd rfl h1
  · rfl
theorem hP1_ok {b : Int → Int} {E : Int} (hE : 0 ≤ E) (h : nbE b E 0 (-1) 83 = -1) : (0 : Int) + 8 = (hP1 b E).1 ∧ (hP1 b E).2 = -1 := ⟨(nbQ_ok hE (Int.le_refl 0) h).symm, h⟩
theorem hP2_ok {b : Int → Int} {E : Int} (hE : 0 ≤ E) (hq : 0 ≤ (hP1 b E).1) (e1 : (hP1 b E).2 = -1) (h : nbE b E (hP1 b E).1 (-1) 66 = -1) : (hP1 b E).1 + 8 = (hP2 b E).1 ∧ (hP2 b E).2 = -1 := by
  unfold hP2
  rw [e1]
  exact ⟨(nbQ_ok hE hq h).symm, h⟩
theorem hP2_e {b : Int → Int} {E : Int} (e1 : (hP1 b E).2 = -1) : (hP2 b E).2 = nbE b E (hP1 b E).1 (-1) 66 := by
  unfold hP2
  rw [e1]
theorem hC_ok {b : Int → Int} {E : Int} (e : (hP2 b E).2 = -1) (h : ¬ nnv b E (hP2 b E).1 2 = -1) (h2 : 1 ≤ nnv b E (hP2 b E).1 2 ∧ nnv b E (hP2 b E).1 2 ≤ 2) : nnv b E (hP2 b E).1 2 = hC b E ∧ nnp b E (hP2 b E).1 2 = (hP3 b E).1 ∧ (hP3 b E).2 = -1 := by
  have hg := nw_good h h2
  unfold hC hP3
  rw [e]
  exact ⟨hg.1.symm, hg.2.1.symm, hg.2.2⟩
theorem hC_bad {b : Int → Int} {E : Int} (e : (hP2 b E).2 = -1) : (hP3 b E).2 = judgeE E (hP2 b E).1 (nnv b E (hP2 b E).1 2) 1 2 := by
  unfold hP3 nwE
  rw [e, if_pos rfl]
theorem hB_ok {b : Int → Int} {E : Int} (e : (hP3 b E).2 = -1) (h : ¬ nnv b E (hP3 b E).1 4 = -1) (h2 : 1 ≤ nnv b E (hP3 b E).1 4 ∧ nnv b E (hP3 b E).1 4 ≤ 64) : nnv b E (hP3 b E).1 4 = hB b E ∧ nnp b E (hP3 b E).1 4 = (hP4 b E).1 ∧ (hP4 b E).2 = -1 := by
  have hg := nw_good h h2
  unfold hB hP4
  rw [e]
  exact ⟨hg.1.symm, hg.2.1.symm, hg.2.2⟩
theorem hB_bad {b : Int → Int} {E : Int} (e : (hP3 b E).2 = -1) : (hP4 b E).2 = judgeE E (hP3 b E).1 (nnv b E (hP3 b E).1 4) 1 64 := by
  unfold hP4 nwE
  rw [e, if_pos rfl]
theorem hN_ok {b : Int → Int} {E : Int} (e : (hP4 b E).2 = -1) (h : ¬ nnv b E (hP4 b E).1 6 = -1) (h2 : 0 ≤ nnv b E (hP4 b E).1 6 ∧ nnv b E (hP4 b E).1 6 ≤ 400) : nnv b E (hP4 b E).1 6 = hN b E ∧ nnp b E (hP4 b E).1 6 = (hP5 b E).1 ∧ (hP5 b E).2 = -1 := by
  have hg := nw_good h h2
  unfold hN hP5
  rw [e]
  exact ⟨hg.1.symm, hg.2.1.symm, hg.2.2⟩
theorem hN_bad {b : Int → Int} {E : Int} (e : (hP4 b E).2 = -1) : (hP5 b E).2 = judgeE E (hP4 b E).1 (nnv b E (hP4 b E).1 6) 0 400 := by
  unfold hP5 nwE
  rw [e, if_pos rfl]
/-- a number was wrong: where -/
theorem num_bad {b : Int → Int} {E q k v t ov lo hi : Int} (hE : 0 ≤ E) (hq : 0 ≤ q) (h : nnR b E q k v t ov) (hb : ov = 0 → v < lo ∨ hi < v) : judgeE E q (nnv b E q k) lo hi = (if ov = 0 then q else E) ∧ ¬ judgeE E q (nnv b E q k) lo hi = -1 := by
  rcases h with ⟨h1, h2, h3, -⟩ | ⟨h1, h2⟩
  · rw [judge_b h2 (by rw [← h3]; exact hb h1), if_pos h1]
    exact ⟨rfl, by omega⟩
  · rw [judge_o h2, if_neg (by omega)]
    exact ⟨rfl, by omega⟩
theorem mwin_up {me mf : Int → Int} {ch n c3 i v : Int} (h : mwin me mf ch n c3) (hn : ∀ k, n - k * ch ≠ i) : mwin me (upI mf i v) ch n c3 := by
  intro k h1 h2
  rw [h k h1 h2]
  unfold mb
  rw [upI_n (hn k)]
theorem wins_up {me mf : Int → Int} {ch nu c2 v : Int} (hc : 1 ≤ ch ∧ ch ≤ 2) (h : wins me mf ch nu c2) (h0 : 0 ≤ c2 ∧ c2 < ch) (hn : 0 ≤ nu * ch) : wins (noted me c2 v) (upI mf (nu * ch + c2) v) ch nu (c2 + 1) := by
  intro c3 h1 h2
  by_cases h3 : c3 = c2
  · subst h3
    rw [if_pos (by omega), show (nu + 1) * ch + c3 = nu * ch + c3 + ch by rw [Int.add_mul]; omega]
    apply mwin_note _ (by omega) (by rw [upI_s])
    apply mwin_cg hc.1 (wins_at h h0)
    intro j hj1 hj2
    rw [upI_n (by omega)]
  · have h4 := h c3 h1 h2
    apply mwin_other _ (Ne.symm h3)
    have hch : ch = 2 := by omega
    subst hch
    by_cases h5 : c3 < c2
    · rw [if_pos h5] at h4
      rw [if_pos (by omega)]
      exact mwin_up h4 (fun k => by omega)
    · rw [if_neg h5] at h4
      rw [if_neg (by omega)]
      exact mwin_up h4 (fun k => by omega)
theorem rblk_good {b : Int → Int} {E ch bl many i : Int} {x : R4} {g2 : Int → Int} {t : Int} (h1 : x.1 = g2) (h2 : x.2.2.1 = t) (h3 : x.2.2.2 = -1) : rblk b E ch bl many i x = ((rblkR b E ch bl many i (mahead x.2.1 ch i) g2 t).1, (if (rblkR b E ch bl many i (mahead x.2.1 ch i) g2 t).2.2 = -1 then upI x.2.1 i (bmean (rblkR b E ch bl many i (mahead x.2.1 ch i) g2 t).1 ch bl many i) else x.2.1), (rblkR b E ch bl many i (mahead x.2.1 ch i) g2 t).2.1, (rblkR b E ch bl many i (mahead x.2.1 ch i) g2 t).2.2) := by
  unfold rblk
  rw [if_pos h3, h1, h2]
theorem rdE_x {b : Int → Int} {E : Int} {g mf : Int → Int} (h5 : (hP5 b E).2 = -1) (i : Int) (hi : 0 ≤ i ∧ i < nblk (hC b E) (hB b E) (hN b E)) {e : Int} (he : (rallN b E (hC b E) (hB b E) (hN b E) (g, mf, (hP5 b E).1, -1) (i + 1).toNat).2.2.2 = e) (hn : ¬ e = -1) : rdE b E g mf = e := by
  have hA : rdA b E g mf = rallN b E (hC b E) (hB b E) (hN b E) (g, mf, (hP5 b E).1, -1) (i + 1).toNat := by
    unfold rdA
    rw [show (nblk (hC b E) (hB b E) (hN b E)).toNat = (i + 1).toNat + ((nblk (hC b E) (hB b E) (hN b E)).toNat - (i + 1).toNat) by omega]
    exact rall_stick _ (by rw [he]; exact hn) _
  unfold rdE
  rw [if_pos h5, hA, he]
  have e1 : ∀ q, nwE b E q e 2 5 5 = e := fun q => nwE_s hn
  rw [e1]
  unfold flE
  rw [if_neg hn]
theorem rdE_e {b : Int → Int} {E : Int} {g mf : Int → Int} {t : Int} (h5 : (hP5 b E).2 = -1) (h1 : (rdA b E g mf).2.2.1 = t) (h2 : (rdA b E g mf).2.2.2 = -1) : rdE b E g mf = flE b E (nwQ b E t (-1) 2) (nwE b E t (-1) 2 5 5) := by
  unfold rdE
  rw [if_pos h5, h1, h2]
theorem flE_s {b : Int → Int} {E q er : Int} (h : ¬ er = -1) : flE b E q er = er := by
  unfold flE
  rw [if_neg h]
theorem up8_id {q : Int} (h : q % 8 = 0) : up8 q = q := by unfold up8; omega
theorem up8_lt {q t : Int} (h1 : q ≤ t) (h2 : t ≤ up8 q) (h : ¬ t % 8 = 0) : t < up8 q := by
  have := up8_rng q
  omega
theorem up8_eq {q t : Int} (h1 : q ≤ t) (h2 : t ≤ up8 q) (h : t % 8 = 0) : t = up8 q := by
  unfold up8 at *
  omega
theorem fr_next {fr bl : Int} (hb : 1 ≤ bl) : (fr + bl) / bl = fr / bl + 1 := by
  rw [Int.add_ediv_of_dvd_right (Int.dvd_refl bl), Int.ediv_self (by omega)]
