/-! what the face answers -/
def blkV (f : Int → Int) (ch bl many : Int) (mf : Int → Int) (bc : Int) (ff kk : Int → Int) (i wh : Int) : Int :=
  if i < 0 ∨ bc ≤ i then -1 else if wh = 0 then i % ch else if wh = 1 then ff i else if wh = 2 then kk i else if wh = 3 then (if ff i = 4 then 4 else cost f ch bl many (mahead mf ch i) i (ff i) (kk i)) else -1
def cosV (f : Int → Int) (ch bl many : Int) (mf : Int → Int) (bc i fn k : Int) : Int :=
  if i < 0 ∨ bc ≤ i ∨ fn < 0 ∨ 3 < fn ∨ k < 0 ∨ 15 < k then -1 else cost f ch bl many (mahead mf ch i) i fn k
def cntV (a0 a1 a2 a3 a4 a5 wh : Int) : Int := if wh = 0 then a0 else if wh = 1 then a1 else if wh = 2 then a2 else if wh = 3 then a3 else if wh = 4 then a4 else if wh = 5 then a5 else -1
theorem rdA_ok {r : Int → Int} {E : Int} {g mf : Int → Int} (hE : 0 ≤ E ∧ E ≤ 24000) (hg : ∀ j, -32768 ≤ g j ∧ g j ≤ 32767) (hm : ∀ j, -32768 ≤ mf j ∧ mf j ≤ 32767) (h5 : (hP5 r E).2 = -1) : okA E (rdA r E g mf) := by
  have hp := (hP_ok r hE).2.2.2.2
  rw [h5] at hp
  have hn := h_rng r hE
  have hb := nblk_rng (ch := hC r E) (bl := hB r E) (many := hN r E) hn.1 hn.2.1.1 hn.2.2.1
  exact rall_ok hE hn.1 hn.2.1 hn.2.2.1.1 ⟨hg, hm, hp⟩ _ (by omega)
theorem rdE_rng {r : Int → Int} {E : Int} {g mf : Int → Int} (hE : 0 ≤ E ∧ E ≤ 24000) (hg : ∀ j, -32768 ≤ g j ∧ g j ≤ 32767) (hm : ∀ j, -32768 ≤ mf j ∧ mf j ≤ 32767) : -1 ≤ rdE r E g mf ∧ rdE r E g mf ≤ 24010 := by
  unfold rdE
  by_cases h5 : (hP5 r E).2 = -1
  · rw [if_pos h5]
    exact flE_rng (nw_ok hE (rdA_ok hE hg hm h5).2.2 (by decide)) hE.2
  · rw [if_neg h5]
    exact (hP_ok r hE).2.2.2.2.2.1
theorem blkV_3 {f : Int → Int} {ch bl many : Int} {mf : Int → Int} {bc : Int} {ff kk : Int → Int} {i wh : Int} (h : ¬ (i < 0 ∨ bc ≤ i)) (hw : wh = 3) : blkV f ch bl many mf bc ff kk i wh = (if ff i = 4 then 4 else cost f ch bl many (mahead mf ch i) i (ff i) (kk i)) := by
  subst hw
  unfold blkV
  rw [if_neg h, if_neg (by decide), if_neg (by decide), if_neg (by decide), if_pos rfl]
