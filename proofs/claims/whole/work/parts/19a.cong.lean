/-! a row of bytes reads alike, signed or not -/
theorem cbit_w8 (b : Int → Int) : cbit (fun j => w8 (b j)) = cbit b := by
  funext t
  unfold cbit
  show w8 (b (t / 8)) / p2 (7 - t % 8) % 2 = b (t / 8) / p2 (7 - t % 8) % 2
  generalize b (t / 8) = z
  have h : t % 8 = 0 ∨ t % 8 = 1 ∨ t % 8 = 2 ∨ t % 8 = 3 ∨ t % 8 = 4 ∨ t % 8 = 5 ∨ t % 8 = 6 ∨ t % 8 = 7 := by omega
  rcases h with h | h | h | h | h | h | h | h <;> rw [h] <;> unfold w8
  · rw [show p2 (7 - 0) = 128 from rfl]; omega
  · rw [show p2 (7 - 1) = 64 from rfl]; omega
  · rw [show p2 (7 - 2) = 32 from rfl]; omega
  · rw [show p2 (7 - 3) = 16 from rfl]; omega
  · rw [show p2 (7 - 4) = 8 from rfl]; omega
  · rw [show p2 (7 - 5) = 4 from rfl]; omega
  · rw [show p2 (7 - 6) = 2 from rfl]; omega
  · rw [show p2 (7 - 7) = 1 from rfl]; omega
theorem fzN_c {r b : Int → Int} (h : cbit r = cbit b) : ∀ (n : Nat) (q : Int), fzN r n q = fzN b n q
  | 0, _ => rfl
  | n + 1, q => by rw [fzN, fzN, h, fzN_c h n (q + 1)]
theorem fz_c {r b : Int → Int} (h : cbit r = cbit b) (E q : Int) : fz r E q = fz b E q := fzN_c h _ _
theorem nnv_c {r b : Int → Int} (h : cbit r = cbit b) (E q k : Int) : nnv r E q k = nnv b E q k := by unfold nnv; rw [fz_c h, h]
theorem nnp_c {r b : Int → Int} (h : cbit r = cbit b) (E q k : Int) : nnp r E q k = nnp b E q k := by unfold nnp; rw [fz_c h]
theorem flN_c {r b : Int → Int} (h : cbit r = cbit b) : ∀ (n : Nat) (q : Int), flN r n q = flN b n q
  | 0, _ => rfl
  | n + 1, q => by rw [flN, flN, h, flN_c h n (q + 1)]
theorem nwV_c {r b : Int → Int} (h : cbit r = cbit b) (E q er k lo hi : Int) : nwV r E q er k lo hi = nwV b E q er k lo hi := by unfold nwV; rw [nnv_c h]
theorem nwQ_c {r b : Int → Int} (h : cbit r = cbit b) (E q er k : Int) : nwQ r E q er k = nwQ b E q er k := by unfold nwQ; rw [nnp_c h]
theorem nwE_c {r b : Int → Int} (h : cbit r = cbit b) (E q er k lo hi : Int) : nwE r E q er k lo hi = nwE b E q er k lo hi := by unfold nwE; rw [nnv_c h]
theorem nbV_c {r b : Int → Int} (h : cbit r = cbit b) (E q : Int) : nbV r E q = nbV b E q := by unfold nbV; rw [h]
theorem nbE_c {r b : Int → Int} (h : cbit r = cbit b) (E q er du : Int) : nbE r E q er du = nbE b E q er du := by unfold nbE; rw [nbV_c h]
theorem nbQ_c {r b : Int → Int} (h : cbit r = cbit b) (E q er : Int) : nbQ r E q er = nbQ b E q er := rfl
theorem flE_c {r b : Int → Int} (h : cbit r = cbit b) (E q er : Int) : flE r E q er = flE b E q er := by unfold flE; rw [flN_c h]
theorem hP1_c {r b : Int → Int} (h : cbit r = cbit b) (E : Int) : hP1 r E = hP1 b E := by unfold hP1; rw [nbQ_c h, nbE_c h]
theorem hP2_c {r b : Int → Int} (h : cbit r = cbit b) (E : Int) : hP2 r E = hP2 b E := by unfold hP2; rw [nbQ_c h, nbE_c h, hP1_c h]
theorem hC_c {r b : Int → Int} (h : cbit r = cbit b) (E : Int) : hC r E = hC b E := by unfold hC; rw [nwV_c h, hP2_c h]
theorem hP3_c {r b : Int → Int} (h : cbit r = cbit b) (E : Int) : hP3 r E = hP3 b E := by unfold hP3; rw [nwQ_c h, nwE_c h, hP2_c h]
theorem hB_c {r b : Int → Int} (h : cbit r = cbit b) (E : Int) : hB r E = hB b E := by unfold hB; rw [nwV_c h, hP3_c h]
theorem hP4_c {r b : Int → Int} (h : cbit r = cbit b) (E : Int) : hP4 r E = hP4 b E := by unfold hP4; rw [nwQ_c h, nwE_c h, hP3_c h]
theorem hN_c {r b : Int → Int} (h : cbit r = cbit b) (E : Int) : hN r E = hN b E := by unfold hN; rw [nwV_c h, hP4_c h]
theorem hP5_c {r b : Int → Int} (h : cbit r = cbit b) (E : Int) : hP5 r E = hP5 b E := by unfold hP5; rw [nwQ_c h, nwE_c h, hP4_c h]
theorem rstp_c {r b : Int → Int} (h : cbit r = cbit b) (E ch fn k mu pl : Int) (x : R3) : rstp r E ch fn k mu pl x = rstp b E ch fn k mu pl x := by unfold rstp; rw [nnv_c h, nnp_c h]
theorem rlpN_c {r b : Int → Int} (h : cbit r = cbit b) (E ch fn k mu p0 : Int) (x : R3) : ∀ n : Nat, rlpN r E ch fn k mu p0 x n = rlpN b E ch fn k mu p0 x n
  | 0 => rfl
  | n + 1 => by rw [rlpN, rlpN, rstp_c h, rlpN_c h E ch fn k mu p0 x n]
theorem rbF_c {r b : Int → Int} (h : cbit r = cbit b) (E q : Int) : rbF r E q = rbF b E q := nwV_c h _ _ _ _ _ _
theorem rbQ1_c {r b : Int → Int} (h : cbit r = cbit b) (E q : Int) : rbQ1 r E q = rbQ1 b E q := nwQ_c h _ _ _ _
theorem rbE1_c {r b : Int → Int} (h : cbit r = cbit b) (E q : Int) : rbE1 r E q = rbE1 b E q := nwE_c h _ _ _ _ _ _
theorem rbK_c {r b : Int → Int} (h : cbit r = cbit b) (E q : Int) : rbK r E q = rbK b E q := by unfold rbK; rw [rbF_c h, rbQ1_c h, rbE1_c h, nwV_c h]
theorem rbQ2_c {r b : Int → Int} (h : cbit r = cbit b) (E q : Int) : rbQ2 r E q = rbQ2 b E q := by unfold rbQ2; rw [rbF_c h, rbQ1_c h, rbE1_c h, nwQ_c h]
theorem rbE2_c {r b : Int → Int} (h : cbit r = cbit b) (E q : Int) : rbE2 r E q = rbE2 b E q := by unfold rbE2; rw [rbF_c h, rbQ1_c h, rbE1_c h, nwE_c h]
theorem rblkR_c {r b : Int → Int} (h : cbit r = cbit b) (E ch bl many i mu : Int) (g : Int → Int) (q : Int) : rblkR r E ch bl many i mu g q = rblkR b E ch bl many i mu g q := by
  unfold rblkR; rw [rbF_c h, rbK_c h, rbQ2_c h, rbE2_c h, rlpN_c h]
theorem rblk_c {r b : Int → Int} (h : cbit r = cbit b) (E ch bl many i : Int) (x : R4) : rblk r E ch bl many i x = rblk b E ch bl many i x := by unfold rblk; rw [rblkR_c h]
theorem rallN_c {r b : Int → Int} (h : cbit r = cbit b) (E ch bl many : Int) (x : R4) : ∀ n : Nat, rallN r E ch bl many x n = rallN b E ch bl many x n
  | 0 => rfl
  | n + 1 => by rw [rallN, rallN, rblk_c h, rallN_c h E ch bl many x n]
theorem rdA_c {r b : Int → Int} (h : cbit r = cbit b) (E : Int) (g mf : Int → Int) : rdA r E g mf = rdA b E g mf := by unfold rdA; rw [hC_c h, hB_c h, hN_c h, hP5_c h, rallN_c h]
theorem rdE_c {r b : Int → Int} (h : cbit r = cbit b) (E : Int) (g mf : Int → Int) : rdE r E g mf = rdE b E g mf := by unfold rdE; rw [hP5_c h, rdA_c h, nwQ_c h, nwE_c h, flE_c h]
/-! reading does not see what lay in the rows before -/
def limB (ch bl i c : Int) : Int := (if c < i % ch then i / ch + 1 else i / ch) * bl
def agB (ch bl many i j : Int) (g g' : Int → Int) : Prop := ∀ c t, 0 ≤ c → c < ch → 0 ≤ t → t < many → (t < limB ch bl i c ∨ (c = i % ch ∧ t < i / ch * bl + j)) → g (t * ch + c) = g' (t * ch + c)
theorem pl_tc {ch bl i j : Int} : bfirst ch bl i + j * ch = (i / ch * bl + j) * ch + i % ch := by unfold bfirst; rw [Int.add_mul]; omega
theorem agB_bef {ch bl many i j k : Int} {g g' : Int → Int} (hc : 1 ≤ ch) (h : agB ch bl many i j g g') (hk : 1 ≤ k) (hj : i / ch * bl + j ≤ many) : bef g (bfirst ch bl i + j * ch - k * ch) = bef g' (bfirst ch bl i + j * ch - k * ch) := by
  have hm := Int.emod_nonneg i (show ch ≠ 0 by omega)
  have hm2 := Int.emod_lt_of_pos i (show 0 < ch by omega)
  have e : bfirst ch bl i + j * ch - k * ch = (i / ch * bl + j - k) * ch + i % ch := by rw [pl_tc, Int.sub_mul]; omega
  rw [e]
  unfold bef
  by_cases h0 : (i / ch * bl + j - k) * ch + i % ch < 0
  · rw [if_pos h0, if_pos h0]
  · rw [if_neg h0, if_neg h0]
    have h1 : 0 ≤ i / ch * bl + j - k := by
      by_cases h2 : 0 ≤ i / ch * bl + j - k
      · exact h2
      · exfalso
        have h3 : (i / ch * bl + j - k) * ch ≤ (-1) * ch := Int.mul_le_mul_of_nonneg_right (by omega) (by omega)
        omega
    exact h _ _ hm hm2 h1 (by omega) (Or.inr ⟨rfl, by omega⟩)
theorem tah_ag {ch bl many i j fn mu : Int} {g g' : Int → Int} (hc : 1 ≤ ch) (h : agB ch bl many i j g g') (hj : i / ch * bl + j ≤ many) : tah g ch fn (bfirst ch bl i + j * ch) mu = tah g' ch fn (bfirst ch bl i + j * ch) mu := by
  have h1 := agB_bef hc h (k := 1) (by omega) hj
  have h2 := agB_bef hc h (k := 2) (by omega) hj
  have h3 := agB_bef hc h (k := 3) (by omega) hj
  rw [Int.one_mul] at h1
  unfold tah
  rw [h1, h2, h3]
theorem agB_up {ch bl many i j v : Int} {g g' : Int → Int} (h : agB ch bl many i j g g') : agB ch bl many i (j + 1) (upI g (bfirst ch bl i + j * ch) v) (upI g' (bfirst ch bl i + j * ch) v) := by
  intro c t h1 h2 h3 h4 h5
  by_cases he : t * ch + c = bfirst ch bl i + j * ch
  · rw [he, upI_s, upI_s]
  · rw [upI_n he, upI_n he]
    refine h c t h1 h2 h3 h4 ?_
    rcases h5 with h5 | ⟨h5, h6⟩
    · exact Or.inl h5
    · refine Or.inr ⟨h5, ?_⟩
      by_cases h7 : t = i / ch * bl + j
      · exact absurd (by rw [pl_tc, ← h7, h5]) he
      · omega
def pR (ch bl many i j : Int) (x y : R3) : Prop := x.2 = y.2 ∧ (x.2.2 = -1 → agB ch bl many i j x.1 y.1)
theorem rstp_ag {r : Int → Int} {E ch bl many i j fn k mu : Int} {x y : R3} (hE : 0 ≤ E) (hq : 0 ≤ x.2.1) (hc : 1 ≤ ch) (h : pR ch bl many i j x y) (hj : i / ch * bl + j ≤ many) : pR ch bl many i (j + 1) (rstp r E ch fn k mu (bfirst ch bl i + j * ch) x) (rstp r E ch fn k mu (bfirst ch bl i + j * ch) y) := by
  obtain ⟨g, q, er⟩ := x
  obtain ⟨g', q', er'⟩ := y
  obtain ⟨h1, h2⟩ := h
  have h3 : q = q' := congrArg Prod.fst h1
  have h4 : er = er' := congrArg Prod.snd h1
  subst h3; subst h4
  dsimp only at h2 hq
  unfold rstp
  by_cases he : er = -1
  · have ha := h2 he
    rw [if_pos he, if_pos he]
    by_cases hf : fn = 4
    · rw [if_pos hf, if_pos hf]
      exact ⟨rfl, fun _ => agB_up ha⟩
    · rw [if_neg hf, if_neg hf]
      dsimp only
      by_cases hn : nnv r E q k = -1
      · rw [if_pos hn, if_pos hn]
        exact ⟨rfl, fun h5 => by dsimp only at h5; omega⟩
      · rw [if_neg hn, if_neg hn, tah_ag hc ha hj]
        by_cases hs : smpB (tah g' ch fn (bfirst ch bl i + j * ch) mu + unfI (nnv r E q k)) = 1
        · rw [if_pos hs, if_pos hs]
          exact ⟨rfl, fun _ => agB_up ha⟩
        · rw [if_neg hs, if_neg hs]
          exact ⟨rfl, fun h5 => by dsimp only at h5; omega⟩
  · rw [if_neg he, if_neg he]
    exact ⟨rfl, fun h5 => absurd h5 he⟩
theorem rlp_ag {r : Int → Int} {E ch bl many i fn k mu : Int} {x y : R3} (hE : 0 ≤ E ∧ E ≤ 24000) (hc : 1 ≤ ch) (hk : 0 ≤ k ∧ k ≤ 15) (hmu : -32768 ≤ mu ∧ mu ≤ 32767) (hx : okR E x) (h : pR ch bl many i 0 x y) : ∀ j : Nat, i / ch * bl + (j : Int) ≤ many → pR ch bl many i (j : Int) (rlpN r E ch fn k mu (bfirst ch bl i) x j) (rlpN r E ch fn k mu (bfirst ch bl i) y j)
  | 0, _ => h
  | j + 1, hj => by
    have h1 := rlp_ag (r := r) (fn := fn) hE hc hk hmu hx h j (by omega)
    have h2 := rlp_ok (r := r) (ch := ch) (fn := fn) (p0 := bfirst ch bl i) hE hk hmu hx j
    exact rstp_ag hE.1 h2.2.1.1 hc h1 (by omega)
theorem bsz_le {ch bl many i : Int} : i / ch * bl + bsize ch bl many i ≤ many := by unfold bsize mnI; split <;> omega
theorem agB_next {ch bl many i : Int} {g g' : Int → Int} (hc : 1 ≤ ch ∧ ch ≤ 2) (hi : 0 ≤ i) (h : agB ch bl many i (bsize ch bl many i) g g') : agB ch bl many (i + 1) 0 g g' := by
  intro c t h1 h2 h3 h4 h5
  refine h c t h1 h2 h3 h4 ?_
  have hs : t < i / ch * bl + bl → t < i / ch * bl + bsize ch bl many i := by unfold bsize mnI; split <;> omega
  unfold limB at h5 ⊢
  have hcc : ch = 1 ∨ ch = 2 := by omega
  rcases hcc with rfl | rfl
  · have e1 : (i + 1) / 1 = i / 1 + 1 := by omega
    rw [e1, if_neg (by omega), Int.add_mul] at h5
    right
    refine ⟨by omega, hs ?_⟩
    omega
  · by_cases he : i % 2 = 0
    · have e1 : (i + 1) / 2 = i / 2 := by omega
      have e2 : (i + 1) % 2 = 1 := by omega
      rw [e1, e2] at h5
      by_cases hc0 : c = 0
      · subst hc0
        right
        refine ⟨he.symm, hs ?_⟩
        rw [if_pos (by decide), Int.add_mul] at h5
        omega
      · left
        rw [if_neg (by omega)] at h5 ⊢
        omega
    · have e1 : (i + 1) / 2 = i / 2 + 1 := by omega
      have e2 : (i + 1) % 2 = 0 := by omega
      have e3 : i % 2 = 1 := by omega
      rw [e1, e2, if_neg (by omega), Int.add_mul] at h5
      by_cases hc0 : c = 0
      · left
        rw [if_pos (by omega), Int.add_mul]
        omega
      · right
        refine ⟨by omega, hs ?_⟩
        omega
theorem bsumN_ag {ch bl many i : Int} {g g' : Int → Int} (hc : 1 ≤ ch) (hi : 0 ≤ i / ch * bl) (h : agB ch bl many i (bsize ch bl many i) g g') : ∀ n : Nat, (n : Int) ≤ bsize ch bl many i → bsumN g ch (bfirst ch bl i) n = bsumN g' ch (bfirst ch bl i) n
  | 0, _ => rfl
  | n + 1, hn => by
    have hz := bsz_le (ch := ch) (bl := bl) (many := many) (i := i)
    rw [bsumN, bsumN, bsumN_ag hc hi h n (by omega), pl_tc]
    rw [h (i % ch) (i / ch * bl + n) (Int.emod_nonneg i (by omega)) (Int.emod_lt_of_pos i (by omega)) (by omega) (by omega) (Or.inr ⟨rfl, by omega⟩)]
theorem bmean_ag {ch bl many i : Int} {g g' : Int → Int} (hc : 1 ≤ ch) (hi : 0 ≤ i / ch * bl) (hs : 0 ≤ bsize ch bl many i) (h : agB ch bl many i (bsize ch bl many i) g g') : bmean g ch bl many i = bmean g' ch bl many i := by
  unfold bmean bsum
  rw [bsumN_ag hc hi h _ (by omega)]
def pA (ch bl many i : Int) (x y : R4) : Prop := x.2.2 = y.2.2 ∧ (x.2.2.2 = -1 → agB ch bl many i 0 x.1 y.1 ∧ ∀ j, 0 ≤ j → j < i → x.2.1 j = y.2.1 j)
theorem rblk_ag {r : Int → Int} {E ch bl many i : Int} {x y : R4} (hE : 0 ≤ E ∧ E ≤ 24000) (hc : 1 ≤ ch ∧ ch ≤ 2) (hi : 0 ≤ i) (hib : 0 ≤ i / ch * bl) (hs : 1 ≤ bsize ch bl many i) (hx : okA E x) (h : pA ch bl many i x y) : pA ch bl many (i + 1) (rblk r E ch bl many i x) (rblk r E ch bl many i y) := by
  obtain ⟨g, mf, q, er⟩ := x
  obtain ⟨g', mf', q', er'⟩ := y
  obtain ⟨h1, h2⟩ := h
  have h3 : q = q' := congrArg Prod.fst h1
  have h4 : er = er' := congrArg Prod.snd h1
  subst h3; subst h4
  obtain ⟨k1, k2, k3⟩ := hx
  dsimp only at h2 k1 k2 k3
  unfold rblk
  by_cases he : er = -1
  · rw [if_pos he, if_pos he]
    obtain ⟨ha, hm⟩ := h2 he
    dsimp only
    rw [← mahead_cg hc.1 hm]
    have hb := rb_ok (r := r) hE ⟨k3.1.1, k3.2.2 he⟩
    have hR := rlp_ag (r := r) (fn := rbF r E q) (k := rbK r E q) (mu := mahead mf ch i) (x := (g, rbQ2 r E q, rbE2 r E q)) (y := (g', rbQ2 r E q, rbE2 r E q)) hE hc.1 hb.2.2.2 (mahead_rng k2 ch i) ⟨k1, hb.2.1⟩ ⟨rfl, fun _ => ha⟩ (bsize ch bl many i).toNat (by have := bsz_le (ch := ch) (bl := bl) (many := many) (i := i); omega)
    rw [show (((bsize ch bl many i).toNat : Nat) : Int) = bsize ch bl many i by omega] at hR
    change pR ch bl many i (bsize ch bl many i) (rblkR r E ch bl many i (mahead mf ch i) g q) (rblkR r E ch bl many i (mahead mf ch i) g' q) at hR
    obtain ⟨hR1, hR2⟩ := hR
    refine ⟨hR1, fun h5 => ?_⟩
    dsimp only at h5 ⊢
    have h6 : (rblkR r E ch bl many i (mahead mf ch i) g' q).2.2 = -1 := by rw [← hR1]; exact h5
    rw [if_pos h5, if_pos h6]
    have hB := hR2 h5
    refine ⟨agB_next hc hi hB, fun j a1 a2 => ?_⟩
    by_cases hji : j = i
    · subst hji
      rw [upI_s, upI_s]
      exact bmean_ag hc.1 hib (by omega) hB
    · rw [upI_n hji, upI_n hji]
      exact hm j a1 (by omega)
  · rw [if_neg he, if_neg he]
    exact ⟨rfl, fun h5 => absurd h5 he⟩
theorem rall_ag {r : Int → Int} {E ch bl many : Int} {x y : R4} (hE : 0 ≤ E ∧ E ≤ 24000) (hc : 1 ≤ ch ∧ ch ≤ 2) (hb : 1 ≤ bl ∧ bl ≤ 64) (hm : 0 ≤ many) (hx : okA E x) (h : pA ch bl many 0 x y) : ∀ i : Nat, (i : Int) ≤ nblk ch bl many → pA ch bl many (i : Int) (rallN r E ch bl many x i) (rallN r E ch bl many y i)
  | 0, _ => h
  | i + 1, hi => by
    have hn := nblk_in (i := (i : Int)) hc hb.1 hm (by omega) (by omega)
    exact rblk_ag hE hc (by omega) hn.1 (bsize_rng hb hn.2).1 (rall_ok hE hc hb hm hx i (by omega)) (rall_ag hE hc hb hm hx h i (by omega))
theorem pA_0 {ch bl many : Int} {g mf g' mf' : Int → Int} {q er : Int} (hc : 1 ≤ ch) : pA ch bl many 0 (g, mf, q, er) (g', mf', q, er) := by
  refine ⟨rfl, fun _ => ⟨fun c t h1 h2 h3 h4 h5 => ?_, fun j h1 h2 => absurd h1 (by omega)⟩⟩
  exfalso
  unfold limB at h5
  rw [Int.zero_emod, Int.zero_ediv, if_neg (by omega), Int.zero_mul] at h5
  omega
theorem rd_ag (b : Int → Int) {E : Int} {g mf g' mf' : Int → Int} (hE : 0 ≤ E ∧ E ≤ 24000) (hg : ∀ j, -32768 ≤ g j ∧ g j ≤ 32767) (hm : ∀ j, -32768 ≤ mf j ∧ mf j ≤ 32767) (h5 : (hP5 b E).2 = -1) : (rdA b E g mf).2.2 = (rdA b E g' mf').2.2 ∧ ((rdA b E g mf).2.2.2 = -1 → ∀ j, 0 ≤ j → j < hN b E * hC b E → (rdA b E g mf).1 j = (rdA b E g' mf').1 j) := by
  have hn := h_rng b hE
  have hp := (hP_ok b hE).2.2.2.2
  rw [h5] at hp
  have hb := nblk_rng (ch := hC b E) (bl := hB b E) (many := hN b E) hn.1 hn.2.1.1 hn.2.2.1
  have hA := rall_ag (r := b) hE hn.1 hn.2.1 hn.2.2.1.1 (x := (g, mf, (hP5 b E).1, -1)) (y := (g', mf', (hP5 b E).1, -1)) ⟨hg, hm, hp⟩ (pA_0 hn.1.1) (nblk (hC b E) (hB b E) (hN b E)).toNat (by omega)
  rw [show (((nblk (hC b E) (hB b E) (hN b E)).toNat : Nat) : Int) = nblk (hC b E) (hB b E) (hN b E) by omega] at hA
  change pA (hC b E) (hB b E) (hN b E) (nblk (hC b E) (hB b E) (hN b E)) (rdA b E g mf) (rdA b E g' mf') at hA
  refine ⟨hA.1, fun h6 j h7 h8 => ?_⟩
  have hG := (hA.2 h6).1
  have hd : (hN b E + hB b E - 1) / hB b E * hB b E ≥ hN b E := by
    have h9 := Int.emod_add_mul_ediv (hN b E + hB b E - 1) (hB b E)
    have h10 := Int.emod_lt_of_pos (hN b E + hB b E - 1) (show 0 < hB b E by omega)
    rw [Int.mul_comm] at h9
    omega
  have hjj := Int.emod_add_mul_ediv j (hC b E)
  have hm1 := Int.emod_nonneg j (show hC b E ≠ 0 by omega)
  have hm2 := Int.emod_lt_of_pos j (show 0 < hC b E by omega)
  have hd0 : 0 ≤ j / hC b E := Int.ediv_nonneg h7 (by omega)
  have hd1 : j / hC b E < hN b E := Int.ediv_lt_of_lt_mul (by omega) h8
  have hq := hG (j % hC b E) (j / hC b E) hm1 hm2 hd0 hd1 (by
    left
    unfold limB nblk
    rw [Int.mul_emod_left, if_neg (by omega), Int.mul_ediv_cancel _ (by omega)]
    omega)
  rw [Int.mul_comm (j / hC b E), Int.add_comm, hjj] at hq
  exact hq
theorem rdE_y {b : Int → Int} {E : Int} {g mf : Int → Int} (h : rdE b E g mf = -1) : (hP5 b E).2 = -1 ∧ (rdA b E g mf).2.2.2 = -1 := by
  unfold rdE at h
  by_cases h5 : (hP5 b E).2 = -1
  · refine ⟨h5, ?_⟩
    rw [if_pos h5] at h
    by_cases h6 : (rdA b E g mf).2.2.2 = -1
    · exact h6
    · rw [nwE, if_neg h6, flE, if_neg h6] at h
      exact h
  · rw [if_neg h5] at h
    exact absurd h h5
theorem rdE_ag (b : Int → Int) {E : Int} {g mf g' mf' : Int → Int} (hE : 0 ≤ E ∧ E ≤ 24000) (hg : ∀ j, -32768 ≤ g j ∧ g j ≤ 32767) (hm : ∀ j, -32768 ≤ mf j ∧ mf j ≤ 32767) : rdE b E g mf = rdE b E g' mf' := by
  unfold rdE
  by_cases h5 : (hP5 b E).2 = -1
  · rw [if_pos h5, if_pos h5, (rd_ag b (g' := g') (mf' := mf') hE hg hm h5).1]
  · rw [if_neg h5, if_neg h5]
theorem rdA_ag (b : Int → Int) {E : Int} {g mf g' mf' : Int → Int} (hE : 0 ≤ E ∧ E ≤ 24000) (hg : ∀ j, -32768 ≤ g j ∧ g j ≤ 32767) (hm : ∀ j, -32768 ≤ mf j ∧ mf j ≤ 32767) (h : rdE b E g mf = -1) : ∀ j, 0 ≤ j → j < hN b E * hC b E → (rdA b E g mf).1 j = (rdA b E g' mf').1 j :=
  (rd_ag b hE hg hm (rdE_y h).1).2 (rdE_y h).2
