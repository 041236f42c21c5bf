/-! the filling's end, and all blocks -/
theorem flN_s {r : Int → Int} {u t : Int} (h : t < u) (hc : cbit r t = 0) : flN r (u - t).toNat t = flN r (u - (t + 1)).toNat (t + 1) := by
  rw [show (u - t).toNat = (u - (t + 1)).toNat + 1 by omega, flN, if_pos hc]
theorem flN_1 {r : Int → Int} {u t : Int} (h : t < u) (hc : ¬ cbit r t = 0) : flN r (u - t).toNat t = t := by
  rw [show (u - t).toNat = (u - (t + 1)).toNat + 1 by omega, flN, if_neg hc]
theorem flN_0 {r : Int → Int} {u t : Int} (h : u ≤ t) : flN r (u - t).toNat t = -1 := by
  rw [show (u - t).toNat = 0 by omega, flN]
theorem up8_rng (q : Int) : q ≤ up8 q ∧ up8 q ≤ q + 7 ∧ up8 q % 8 = 0 := by unfold up8; omega
def flI (r : Int → Int) (q er t er2 : Int) : Prop :=
  (er = -1 ∧ er2 = -1 ∧ q ≤ t ∧ t ≤ up8 q ∧ flN r (up8 q - t).toNat t = flN r (up8 q - q).toNat q) ∨ (er = -1 ∧ 0 ≤ er2 ∧ flN r (up8 q - q).toNat q = er2) ∨ (¬ er = -1 ∧ er2 = er)
theorem flI_0 {r : Int → Int} {q er : Int} : flI r q er q er := by
  by_cases h : er = -1
  · subst h
    exact Or.inl ⟨rfl, rfl, Int.le_refl _, (up8_rng q).1, rfl⟩
  · exact Or.inr (Or.inr ⟨h, rfl⟩)
theorem flI_r {r : Int → Int} {q er t : Int} (h : flI r q er t (-1)) : er = -1 ∧ q ≤ t ∧ t ≤ up8 q ∧ flN r (up8 q - t).toNat t = flN r (up8 q - q).toNat q := by
  rcases h with ⟨h1, -, h2⟩ | ⟨-, h1, -⟩ | ⟨h1, h2⟩
  · exact ⟨h1, h2⟩
  · omega
  · omega
theorem flI_e {r : Int → Int} {E q er t er2 : Int} (h : flI r q er t er2) (he : ¬ er2 = -1) : er2 = flE r E q er := by
  unfold flE
  rcases h with ⟨-, h1, -⟩ | ⟨h1, h2, h3⟩ | ⟨h1, h2⟩
  · exact absurd h1 he
  · rw [if_pos h1, h3, if_neg he]
  · rw [if_neg h1, h2]
theorem flI_go {r : Int → Int} {q er t : Int} (h : flI r q er t (-1)) (ht : t < up8 q) (hc : cbit r t = 0) : flI r q er (t + 1) (-1) := by
  obtain ⟨h1, h2, h3, h4⟩ := flI_r h
  exact Or.inl ⟨h1, rfl, by omega, by omega, by rw [← h4, flN_s ht hc]⟩
theorem flI_no {r : Int → Int} {q er t : Int} (h : flI r q er t (-1)) (h0 : 0 ≤ t) (ht : t < up8 q) (hc : ¬ cbit r t = 0) : flI r q er (t + 1) t := by
  obtain ⟨h1, h2, h3, h4⟩ := flI_r h
  exact Or.inr (Or.inl ⟨h1, h0, by rw [← h4, flN_1 ht hc]⟩)
theorem flI_x {r : Int → Int} {E q er t : Int} (h : flI r q er t (-1)) (ht : up8 q ≤ t) : t = up8 q ∧ flE r E q er = (if up8 q < E then up8 q else -1) := by
  obtain ⟨h1, h2, h3, h4⟩ := flI_r h
  have e : t = up8 q := by omega
  refine ⟨e, ?_⟩
  unfold flE
  rw [if_pos h1, ← h4, flN_0 (by omega), if_pos rfl]
theorem flN_rng (r : Int → Int) : ∀ (n : Nat) (q : Int), 0 ≤ q → -1 ≤ flN r n q ∧ flN r n q ≤ q + n
  | 0, q, h => by show -1 ≤ (-1 : Int) ∧ (-1 : Int) ≤ q + 0; omega
  | n + 1, q, h => by
    have := flN_rng r n (q + 1) (by omega)
    rw [flN]
    split <;> omega
theorem flE_rng {r : Int → Int} {E q er : Int} (h : okP E q er) (hE : E ≤ 24000) : -1 ≤ flE r E q er ∧ flE r E q er ≤ 24010 := by
  obtain ⟨h1, h2, h3⟩ := h
  have h4 := up8_rng q
  have h5 := flN_rng r (up8 q - q).toNat q h1.1
  unfold flE
  by_cases he : er = -1
  · have h6 := h3 he
    rw [if_pos he]
    split
    · split <;> omega
    · omega
  · rw [if_neg he]
    omega
abbrev R4 : Type := (Int → Int) × (Int → Int) × Int × Int
def rblk (r : Int → Int) (E ch bl many i : Int) (x : R4) : R4 :=
  if x.2.2.2 = -1 then ((rblkR r E ch bl many i (mahead x.2.1 ch i) x.1 x.2.2.1).1, (if (rblkR r E ch bl many i (mahead x.2.1 ch i) x.1 x.2.2.1).2.2 = -1 then upI x.2.1 i (bmean (rblkR r E ch bl many i (mahead x.2.1 ch i) x.1 x.2.2.1).1 ch bl many i) else x.2.1), (rblkR r E ch bl many i (mahead x.2.1 ch i) x.1 x.2.2.1).2.1, (rblkR r E ch bl many i (mahead x.2.1 ch i) x.1 x.2.2.1).2.2)
  else x
def rallN (r : Int → Int) (E ch bl many : Int) (x : R4) : Nat → R4
  | 0 => x
  | i + 1 => rblk r E ch bl many i (rallN r E ch bl many x i)
def rdA (r : Int → Int) (E : Int) (g mf : Int → Int) : R4 := rallN r E (hC r E) (hB r E) (hN r E) (g, mf, (hP5 r E).1, -1) (nblk (hC r E) (hB r E) (hN r E)).toNat
def rdE (r : Int → Int) (E : Int) (g mf : Int → Int) : Int :=
  if (hP5 r E).2 = -1 then flE r E (nwQ r E (rdA r E g mf).2.2.1 (rdA r E g mf).2.2.2 2) (nwE r E (rdA r E g mf).2.2.1 (rdA r E g mf).2.2.2 2 5 5) else (hP5 r E).2
theorem rall_s {r : Int → Int} {E ch bl many i : Int} {x : R4} (h : 0 ≤ i) : rallN r E ch bl many x (i + 1).toNat = rblk r E ch bl many i (rallN r E ch bl many x i.toNat) := by
  rw [show (i + 1).toNat = i.toNat + 1 by omega, rallN, Int.toNat_of_nonneg h]
theorem rall_stick {r : Int → Int} {E ch bl many : Int} {x : R4} (j : Nat) (h : ¬ (rallN r E ch bl many x j).2.2.2 = -1) : ∀ d : Nat, rallN r E ch bl many x (j + d) = rallN r E ch bl many x j
  | 0 => rfl
  | d + 1 => by
    show rblk _ _ _ _ _ _ (rallN r E ch bl many x (j + d)) = _
    rw [rall_stick j h d, rblk, if_neg h]
def okA (E : Int) (x : R4) : Prop := (∀ j, -32768 ≤ x.1 j ∧ x.1 j ≤ 32767) ∧ (∀ j, -32768 ≤ x.2.1 j ∧ x.2.1 j ≤ 32767) ∧ okP E x.2.2.1 x.2.2.2
theorem rblk_ok {r : Int → Int} {E ch bl many i : Int} {x : R4} (hE : 0 ≤ E ∧ E ≤ 24000) (hs : 1 ≤ bsize ch bl many i) (h : okA E x) : okA E (rblk r E ch bl many i x) := by
  obtain ⟨h1, h2, h3⟩ := h
  unfold rblk
  by_cases he : x.2.2.2 = -1
  · rw [if_pos he]
    have hb := rb_ok (r := r) hE ⟨h3.1.1, h3.2.2 he⟩
    have hR : okR E (rblkR r E ch bl many i (mahead x.2.1 ch i) x.1 x.2.2.1) := rlp_ok hE hb.2.2.2 (mahead_rng h2 ch i) ⟨h1, hb.2.1⟩ _
    refine ⟨hR.1, ?_, hR.2⟩
    dsimp only
    split
    · exact upI_rng h2 (bmean_rng hR.1 hs)
    · exact h2
  · rw [if_neg he]
    exact ⟨h1, h2, h3⟩
theorem rall_ok {r : Int → Int} {E ch bl many : Int} {x : R4} (hE : 0 ≤ E ∧ E ≤ 24000) (hc : 1 ≤ ch ∧ ch ≤ 2) (hb : 1 ≤ bl ∧ bl ≤ 64) (hm : 0 ≤ many) (h : okA E x) : ∀ i : Nat, (i : Int) ≤ nblk ch bl many → okA E (rallN r E ch bl many x i)
  | 0, _ => h
  | i + 1, hi => rblk_ok hE (bsize_rng hb (nblk_in hc hb.1 hm (by omega) (by omega)).2).1 (rall_ok hE hc hb hm h i (by omega))
