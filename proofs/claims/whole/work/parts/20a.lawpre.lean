/-! what the law's walk needs -/
section JS
variable {p : Program} {l : Launch} {e : Env} {R : Room} {s : State} {m : MethodId} {args : Array Value} {below : List Frame} {meth : Method} {c : Code} {X : GX} {A : Nat → Prop} {nL cells slots : Nat} {Q : State → Prop} {ws ws' : va_W} {lv lv' : List (Nat × Value)} {pc : Nat} {st : List Value} {cc : ByteArray} {own : String}
theorem J_icmp_eqY (cx : Cx p s m args meth c X A nL cc own) {a b : Int} {off : Int} {tgt : Nat} (hdg : decode cc pc = .ok (.if_icmp .eq off, 3)) (ht : (pc : Int) + off = (tgt : Int)) (hab : a = b) (kt : J p l e R s m args below meth c X A nL cells slots Q ws lv tgt st) : J p l e R s m args below meth c X A nL cells slots Q ws lv pc (.int (iI b) :: .int (iI a) :: st) :=
  fun H locs ls hP hD hS hl => lv_icmp_eq cx.1 cx.2.1 hdg ht (fun _ => kt H locs ls hP hD hS hl) (fun h => absurd (by rw [hab]) h)
theorem J_sld (cx : Cx p s m args meth c X A nL cc own) {b L : Nat} {sc : Int → Int} (hX : va_X b L (aI sc) s s.heap) (hbl : b < s.heap.size) (hbA : ¬ A b) {i : Int} (hi : 0 ≤ i ∧ i < (L : Int)) (hL : (L : Int) < 2147483648) (hdg : decode cc pc = .ok (.iaload, 1)) (k : J p l e R s m args below meth c X A nL cells slots Q ws lv (pc + 1) (.int (iI (sc i)) :: st)) : J p l e R s m args below meth c X A nL cells slots Q ws lv pc (.int (iI i) :: .ref b :: st) :=
  fun H locs ls hP hD hS hl => va_sld cx.1 cx.2.1 hX hbl hbA hS (iI_in hi hL) hdg (by rw [aI_rd (by omega)]; exact k H locs ls hP hD hS hl)
theorem J_slen (cx : Cx p s m args meth c X A nL cc own) {b L : Nat} {sc : Int → Int} (hX : va_X b L (aI sc) s s.heap) (hbl : b < s.heap.size) (hbA : ¬ A b) (hdg : decode cc pc = .ok (.arraylength, 1)) (k : J p l e R s m args below meth c X A nL cells slots Q ws lv (pc + 1) (.int (iI (L : Int)) :: st)) : J p l e R s m args below meth c X A nL cells slots Q ws lv pc (.ref b :: st) :=
  fun H locs ls hP hD hS hl => va_slen cx.1 cx.2.1 hX hbl hbA hS hdg (k H locs ls hP hD hS hl)
end JS
/-! writing: how long, and of bits -/
theorem mu_rng {f : Int → Int} (hf : ∀ j, -32768 ≤ f j ∧ f j ≤ 32767) {ch bl many i : Int} (hc : 1 ≤ ch ∧ ch ≤ 2) (hb : 1 ≤ bl ∧ bl ≤ 64) (hm : 0 ≤ many) (hi : i ≤ nblk ch bl many) : -32768 ≤ muOf f ch bl many i ∧ muOf f ch bl many i ≤ 32767 := by
  have e : muOf f ch bl many i = mahead (ovr (bmean f ch bl many) (fun _ => 0) i) ch i := mahead_cg hc.1 (fun j h1 h2 => (ovr_in ⟨h1, h2⟩).symm)
  rw [e]
  exact mahead_rng (ovr_rng (fun j h1 h2 => bmean_rng hf (bsize_rng hb (nblk_in hc hb.1 hm h1 (by omega)).2).1) (fun _ => by decide)) ch i
theorem cho_ok {f : Int → Int} (hf : ∀ j, -32768 ≤ f j ∧ f j ≤ 32767) {ch bl many i : Int} (hc : 1 ≤ ch ∧ ch ≤ 2) (hb : 1 ≤ bl ∧ bl ≤ 64) (hm : 0 ≤ many) (h0 : 0 ≤ i) (hi : i < nblk ch bl many) : cF f ch bl many i = 4 ∨ ((0 ≤ cF f ch bl many i ∧ cF f ch bl many i ≤ 3) ∧ (0 ≤ cK f ch bl many i ∧ cK f ch bl many i ≤ 15)) :=
  (ch_ok hf (mu_rng hf hc hb hm (by omega)) (bsize_rng hb (nblk_in hc hb.1 hm h0 hi).2)).imp (fun h => h.1) id
theorem pall_rng {f : Int → Int} (hf : ∀ j, -32768 ≤ f j ∧ f j ≤ 32767) {ch bl many : Int} (hc : 1 ≤ ch ∧ ch ≤ 2) (hb : 1 ≤ bl ∧ bl ≤ 64) (hm : 0 ≤ many) (x : BB) : ∀ i : Nat, (i : Int) ≤ nblk ch bl many → x.2 ≤ (pallN f ch bl many i x).2 ∧ (pallN f ch bl many i x).2 ≤ x.2 + 27 * ssN ch bl many i ∧ ssN ch bl many i ≤ many * ch
  | 0, _ => by
    have : 0 ≤ many * ch := Int.mul_nonneg hm (by omega)
    exact ⟨Int.le_refl _, by show x.2 ≤ x.2 + 27 * 0; omega, this⟩
  | i + 1, hi => by
    have ih := pall_rng hf hc hb hm x i (by omega)
    have hn := nblk_in (i := (i : Int)) hc hb.1 hm (by omega) (by omega)
    have hs := bsize_rng hb hn.2
    have hmu := mu_rng hf hc hb hm (i := (i : Int)) (by omega)
    have h1 := cB_le hf hmu hs
    have h2 := ss_le hc hb.1 (i := (i : Int)) (by omega) hn.2 hn.1
    rw [Int.toNat_natCast] at h2
    rw [pallN, ssN, pblk_n hf hmu hs]
    omega
theorem pwrite_rng {f : Int → Int} (hf : ∀ j, -32768 ≤ f j ∧ f j ≤ 32767) {ch bl many : Int} (hc : 1 ≤ ch ∧ ch ≤ 2) (hb : 1 ≤ bl ∧ bl ≤ 64) (hm : 0 ≤ many ∧ many ≤ 400) (w : Int → Int) : 0 ≤ (pwrite f ch bl many w).2 ∧ (pwrite f ch bl many w).2 ≤ 24000 := by
  have h1 := phead_n hc hb hm w
  have hn := nblk_rng hc hb.1 hm
  have h2 := pall_rng hf hc hb hm.1 (phead ch bl many w) (nblk ch bl many).toNat (by omega)
  have h3 : many * ch ≤ 400 * 2 := Int.mul_le_mul hm.2 hc.2 (by omega) (by decide)
  have h4 := pnum_n (k := 2) (v := 5) (by decide) (by decide) (pallN f ch bl many (nblk ch bl many).toNat (phead ch bl many w))
  rw [show nbits 2 5 = 4 from rfl] at h4
  have h5 := pfill_n (pnum 2 5 (pallN f ch bl many (nblk ch bl many).toNat (phead ch bl many w))) (by omega)
  unfold pwrite
  omega
theorem pall_01 {f : Int → Int} {ch bl many : Int} {x : BB} (h : b01 x.1) : ∀ i : Nat, b01 (pallN f ch bl many i x).1
  | 0 => h
  | i + 1 => pblkB_01 (pall_01 h i)
theorem pwrite_01 {f : Int → Int} {ch bl many : Int} {w : Int → Int} (h : b01 w) : b01 (pwrite f ch bl many w).1 :=
  pzer_01 _ (pnum_01 _ _ (pall_01 (pnum_01 _ _ (pnum_01 _ _ (pnum_01 _ _ (plow_01 _ _ (plow_01 (x := (w, 0)) _ _ h))))) _))
theorem pk_255 {w : Int → Int} (h : b01 w) (t : Int) : 0 ≤ pk w t 8 ∧ pk w t 8 ≤ 255 := by
  have := pk_rng h t 8
  rw [show (2 : Int) ^ 8 = 256 from rfl] at this
  exact ⟨this.1, by have := this.2; unfold pk; exact Int.lt_add_one_iff.mp this⟩
def w8f (b : Int → Int) : Int → Int := fun j => w8 (b j)
theorem w8f_0 : (fun _ => 0 : Int → Int) = w8f (fun _ => 0) := rfl
theorem w8f_rng (b : Int → Int) : ∀ j, -128 ≤ w8f b j ∧ w8f b j < 128 := fun j => w8_rng _
theorem cbit_w8f (b : Int → Int) : cbit (w8f b) = cbit b := cbit_w8 b
theorem feed_eq {b : Int → Int} {F v : Int} {C : Prop} [Decidable C] : (if C then upI (w8f b) F (w8 v) else w8f b) = w8f (if C then upI b F v else b) := by
  by_cases h : C
  · rw [if_pos h, if_pos h]
    funext j
    unfold w8f
    by_cases hj : j = F
    · subst hj; rw [upI_s, upI_s]
    · rw [upI_n hj, upI_n hj]
  · rw [if_neg h, if_neg h]
theorem take_eq {b o w : Int → Int} {N : Int} (ho : ∀ j, 0 ≤ j → j < N → o j = w8 (pk w (8 * j) 8)) : cpyI o (w8f b) N = w8f (ovr (fun j => pk w (8 * j) 8) b N) := by
  funext j
  unfold cpyI w8f ovr
  by_cases h : 0 ≤ j ∧ j < N
  · rw [if_pos h, if_pos h]; exact ho j h.1 h.2
  · rw [if_neg h, if_neg h]
theorem at_eq {o w : Int → Int} {N i : Int} (hw : b01 w) (ho : ∀ j, 0 ≤ j → j < N → o j = w8 (pk w (8 * j) 8)) : (if i < 0 ∨ N ≤ i then -1 else o i % 256) = (if i < 0 ∨ N ≤ i then -1 else pk w (8 * i) 8) := by
  by_cases h : i < 0 ∨ N ≤ i
  · rw [if_pos h, if_pos h]
  · rw [if_neg h, if_neg h, ho i (by omega) (by omega), w8_255]
    have := pk_255 hw (8 * i)
    omega
theorem blk_eq {f : Int → Int} {ch bl many : Int} {mf : Int → Int} {bc : Int} {ff kk cf : Int → Int} {i wh : Int} (hc : 1 ≤ ch) (hff : ∀ i, 0 ≤ i → i < bc → ff i = cF f ch bl many i ∧ kk i = cK f ch bl many i ∧ mf i = bmean f ch bl many i) (hoc : okC f ch bl many cf bc) : blkV f ch bl many mf bc ff kk i wh = (if i < 0 ∨ bc ≤ i ∨ wh < 0 ∨ 3 < wh then -1 else cf (4 * i + wh)) := by
  unfold blkV
  by_cases h : i < 0 ∨ bc ≤ i
  · rw [if_pos h, if_pos (by omega)]
  · rw [if_neg h]
    have h0 := hff i (by omega) (by omega)
    have h1 := hoc i (by omega) (by omega)
    by_cases w0 : wh = 0
    · subst w0; rw [if_pos rfl, if_neg (by omega), Int.add_zero, h1.1]
    by_cases w1 : wh = 1
    · subst w1; rw [if_neg (by omega), if_pos rfl, if_neg (by omega), h0.1, h1.2.1]
    by_cases w2 : wh = 2
    · subst w2; rw [if_neg (by omega), if_neg (by omega), if_pos rfl, if_neg (by omega), h0.2.1, h1.2.2.1]
    by_cases w3 : wh = 3
    · subst w3
      rw [if_neg (show ¬ (3 : Int) = 0 by decide), if_neg (show ¬ (3 : Int) = 1 by decide), if_neg (show ¬ (3 : Int) = 2 by decide), if_pos rfl, if_neg (show ¬ (i < 0 ∨ bc ≤ i ∨ (3 : Int) < 0 ∨ (3 : Int) < 3) by omega), h1.2.2.2, h0.1, h0.2.1, mahead_cg (mf' := bmean f ch bl many) hc (fun j a1 a2 => (hff j a1 (by omega)).2.2)]
      rfl
    · rw [if_neg w0, if_neg w1, if_neg w2, if_neg w3, if_pos (by omega)]
theorem cos_eq {f : Int → Int} {ch bl many lc lw lm : Int} {mf : Int → Int} {bc i fn k : Int} (hc : 1 ≤ ch) (hmf : ∀ i, 0 ≤ i → i < bc → mf i = bmean f ch bl many i) (hst : 0 < bc → lc = ch ∧ lw = bl ∧ lm = many) : cosV f ch bl many mf bc i fn k = (if i < 0 ∨ bc ≤ i ∨ fn < 0 ∨ 3 < fn ∨ k < 0 ∨ 15 < k then -1 else cost f lc lw lm (muOf f lc lw lm i) i fn k) := by
  unfold cosV
  by_cases h : i < 0 ∨ bc ≤ i ∨ fn < 0 ∨ 3 < fn ∨ k < 0 ∨ 15 < k
  · rw [if_pos h, if_pos h]
  · rw [if_neg h, if_neg h]
    obtain ⟨e1, e2, e3⟩ := hst (by omega)
    subst e1 e2 e3
    rw [mahead_cg (mf' := bmean f lc lw lm) hc (fun j a1 a2 => hmf j a1 (by omega))]
    rfl
theorem same_eq {tf f1 rf : Int → Int} {ch n ch1 n1 : Int} (hn : 0 ≤ n1) (h : ∀ j, 0 ≤ j → j < n1 → f1 j = rf j) : sameV tf ch n f1 ch1 n1 = sameV tf ch n rf ch1 n1 := by
  have e : eqU tf f1 n1.toNat = eqU tf rf n1.toNat := by
    rw [Bool.eq_iff_iff, eqU_iff, eqU_iff]
    exact ⟨fun h2 j a1 a2 => by rw [h2 j a1 a2]; exact h j a1 (by omega), fun h2 j a1 a2 => by rw [h2 j a1 a2]; exact (h j a1 (by omega)).symm⟩
  unfold sameV
  rw [e]
theorem val_eq {f1 rf : Int → Int} {n1 i : Int} (h : ∀ j, 0 ≤ j → j < n1 → f1 j = rf j) : (if i < 0 ∨ n1 ≤ i then -99999 else f1 i) = (if i < 0 ∨ n1 ≤ i then -99999 else rf i) := by
  by_cases h2 : i < 0 ∨ n1 ≤ i
  · rw [if_pos h2, if_pos h2]
  · rw [if_neg h2, if_neg h2]; exact h i (by omega) (by omega)
theorem many_eq {n ch : Int} (hc : 1 ≤ ch) : n / ch * ch / ch = n / ch := Int.mul_ediv_cancel _ (by omega)
theorem cpy_rng {g o : Int → Int} {N : Int} (hg : ∀ j, -32768 ≤ g j ∧ g j ≤ 32767) (ho : ∀ j, -32768 ≤ o j ∧ o j ≤ 32767) : ∀ j, -32768 ≤ cpyI g o N j ∧ cpyI g o N j ≤ 32767 := by
  intro j
  unfold cpyI
  split
  · exact hg j
  · exact ho j
theorem row_in {o w : Int → Int} {n j : Int} (h0 : 0 ≤ j) (h1 : j < n / 8) : rowOf o w n j = w8 (pk w (8 * j) 8) := by
  unfold rowOf
  rw [if_pos ⟨h0, h1⟩]
