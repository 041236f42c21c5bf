/-! the writer's numbers: rests, costs, the choice, and how long it all is -/
theorem upI_upI (f : Int → Int) (i a b : Int) : upI (upI f i a) i b = upI f i b := by
  funext j
  unfold upI
  split <;> rfl
theorem bef_rng {f : Int → Int} (hf : ∀ j, -32768 ≤ f j ∧ f j ≤ 32767) (q : Int) : -32768 ≤ bef f q ∧ bef f q ≤ 32767 := by
  unfold bef
  split
  · omega
  · exact hf _
theorem tah_rng {f : Int → Int} (hf : ∀ j, -32768 ≤ f j ∧ f j ≤ 32767) {mu : Int} (hmu : -32768 ≤ mu ∧ mu ≤ 32767) (ch fn q : Int) : -230000 ≤ tah f ch fn q mu ∧ tah f ch fn q mu ≤ 230000 := by
  have h1 := bef_rng hf (q - ch)
  have h2 := bef_rng hf (q - 2 * ch)
  have h3 := bef_rng hf (q - 3 * ch)
  unfold tah
  split
  · omega
  · split
    · omega
    · split <;> omega
theorem mahead_rng {mf : Int → Int} (hm : ∀ j, -32768 ≤ mf j ∧ mf j ≤ 32767) (ch i : Int) : -32768 ≤ mahead mf ch i ∧ mahead mf ch i ≤ 32767 := by
  have h1 := mb_rng hm ch i 1
  have h2 := mb_rng hm ch i 2
  have h3 := mb_rng hm ch i 3
  have h4 := mb_rng hm ch i 4
  exact rmean_rng (by decide) (by omega)
theorem foldI_rng {v B : Int} (h : -B ≤ v ∧ v ≤ B) : 0 ≤ foldI v ∧ foldI v ≤ 2 * B := by
  unfold foldI
  split <;> omega
theorem rst_rng {f : Int → Int} (hf : ∀ j, -32768 ≤ f j ∧ f j ≤ 32767) {mu : Int} (hmu : -32768 ≤ mu ∧ mu ≤ 32767) (ch fn q : Int) : 0 ≤ rst f ch fn q mu ∧ rst f ch fn q mu ≤ 600000 := by
  have h1 := tah_rng hf hmu ch fn q
  have h2 := hf q
  unfold rst
  have h3 := foldI_rng (v := f q - tah f ch fn q mu) (B := 300000) (by omega)
  omega
theorem rests_0 (o f : Int → Int) (ch fn q mu : Int) : rests o f ch fn q mu 0 = o := by
  funext j
  unfold rests
  rw [if_neg (by omega)]
theorem rests_s {o f : Int → Int} {ch fn q mu j : Int} (h : 0 ≤ j) : upI (rests o f ch fn q mu j) j (foldI (f (q + j * ch) - tah f ch fn (q + j * ch) mu)) = rests o f ch fn q mu (j + 1) := by
  funext t
  by_cases ht : t = j
  · subst ht
    rw [upI_s]
    unfold rests
    rw [if_pos (by omega)]
    rfl
  · rw [upI_n ht]
    unfold rests
    by_cases h2 : 0 ≤ t ∧ t < j
    · rw [if_pos h2, if_pos (by omega)]
    · rw [if_neg h2, if_neg (by omega)]
theorem rests_at {o f : Int → Int} {ch fn q mu m j : Int} (h : 0 ≤ j ∧ j < m) : rests o f ch fn q mu m j = rst f ch fn (q + j * ch) mu := by
  unfold rests
  rw [if_pos h]
theorem zsum_cg {r r' : Int → Int} {k : Int} : ∀ (m : Nat), (∀ j : Int, 0 ≤ j → j < m → r j = r' j) → zsumN r k m = zsumN r' k m
  | 0, _ => rfl
  | m + 1, h => by rw [zsumN, zsumN, zsum_cg m (fun j h1 h2 => h j h1 (by omega)), h m (by omega) (by omega)]
theorem zsum_rests {o f : Int → Int} {ch fn q mu k m : Int} : zsum (rests o f ch fn q mu m) k m = zsum (fun j => rst f ch fn (q + j * ch) mu) k m := by
  unfold zsum
  apply zsum_cg
  intro j h1 h2
  exact rests_at ⟨h1, by omega⟩
theorem ediv_p2 {a k : Int} (ha : 0 ≤ a) : 0 ≤ a / p2 k ∧ a / p2 k ≤ a :=
  ⟨Int.ediv_nonneg ha (Int.le_of_lt (p2_pos k)), Int.ediv_le_self _ ha⟩
theorem zsumN_rng {r : Int → Int} {k B : Int} : ∀ (m : Nat), (∀ j : Int, 0 ≤ j → j < m → 0 ≤ r j / p2 k ∧ r j / p2 k ≤ B) → 0 ≤ zsumN r k m ∧ zsumN r k m ≤ B * m
  | 0, _ => ⟨Int.le_refl _, by show (0 : Int) ≤ B * 0; omega⟩
  | m + 1, h => by
    have h1 := zsumN_rng m (fun j h1 h2 => h j h1 (by omega))
    have h2 := h m (by omega) (by omega)
    rw [zsumN, show ((m + 1 : Nat) : Int) = (m : Int) + 1 by omega, Int.mul_add]
    omega
theorem zsum_rng {r : Int → Int} {k B m : Int} (hm : 0 ≤ m) (h : ∀ j : Int, 0 ≤ j → j < m → 0 ≤ r j / p2 k ∧ r j / p2 k ≤ B) : 0 ≤ zsum r k m ∧ zsum r k m ≤ B * m := by
  have h1 := zsumN_rng (r := r) (k := k) (B := B) m.toNat (fun j h2 h3 => h j h2 (by omega))
  rw [Int.toNat_of_nonneg hm] at h1
  exact h1
/-- a stretch of the sum is no more than the whole -/
theorem zsumN_mono {r : Int → Int} {k : Int} (m : Nat) (h : ∀ j : Int, 0 ≤ j → 0 ≤ r j / p2 k) : ∀ d : Nat, zsumN r k m ≤ zsumN r k (m + d)
  | 0 => Int.le_refl _
  | d + 1 => by
    have h1 := zsumN_mono m h d
    have h2 := h ((m + d : Nat) : Int) (by omega)
    show _ ≤ zsumN r k (m + d) + r ((m + d : Nat) : Int) / p2 k
    omega
theorem zsum_mono {r : Int → Int} {k j m : Int} (hj : 0 ≤ j) (hm : j ≤ m) (h : ∀ j : Int, 0 ≤ j → 0 ≤ r j / p2 k) : zsum r k j ≤ zsum r k m := by
  have h1 := zsumN_mono (r := r) (k := k) j.toNat h (m.toNat - j.toNat)
  unfold zsum
  rw [show j.toNat + (m.toNat - j.toNat) = m.toNat by omega] at h1
  exact h1
theorem cost_rng {f : Int → Int} (hf : ∀ j, -32768 ≤ f j ∧ f j ≤ 32767) {mu : Int} (hmu : -32768 ≤ mu ∧ mu ≤ 32767) {ch bl many i fn k : Int} (hs : 1 ≤ bsize ch bl many i ∧ bsize ch bl many i ≤ 64) (hfn : 0 ≤ fn ∧ fn ≤ 3) (hk : 0 ≤ k ∧ k ≤ 15) : 0 ≤ cost f ch bl many mu i fn k ∧ cost f ch bl many mu i fn k < 100000000 := by
  have h1 := zsum_rng (r := fun j => rst f ch fn (bfirst ch bl i + j * ch) mu) (k := k) (B := 600000) (m := bsize ch bl many i) (by omega) (fun j _ _ => by
    have h2 := rst_rng hf hmu ch fn (bfirst ch bl i + j * ch)
    have h3 := ediv_p2 (k := k) h2.1
    omega)
  unfold cost bcost nbits
  have e2 : p2 2 = 4 := rfl
  have e3 : p2 3 = 8 := rfl
  have h4 : bsize ch bl many i * (1 + k) ≤ 64 * 16 := Int.mul_le_mul hs.2 (by omega) (by omega) (by decide)
  have h5 : 0 ≤ bsize ch bl many i * (1 + k) := Int.mul_nonneg (by omega) (by omega)
  rw [e2, e3]
  omega
/-! the choice -/
theorem cb_le (C : Int → Int → Int) (n : Nat) : (cbestN C (n + 1)).2.2 ≤ C ((n / 16 : Nat) : Int) ((n % 16 : Nat) : Int) ∧ (cbestN C (n + 1)).2.2 ≤ (cbestN C n).2.2 := by
  rw [cbestN, cstep]
  split
  · exact ⟨Int.le_refl _, by dsimp only; omega⟩
  · omega
theorem cb_stay (C : Int → Int → Int) (n : Nat) : ∀ d : Nat, (∀ t : Nat, n ≤ t → t < n + d → (cbestN C n).2.2 ≤ C ((t / 16 : Nat) : Int) ((t % 16 : Nat) : Int)) → cbestN C (n + d) = cbestN C n
  | 0, _ => rfl
  | d + 1, h => by
    have h1 := cb_stay C n d (fun t h1 h2 => h t h1 (by omega))
    show cstep C (((n + d) / 16 : Nat) : Int) (((n + d) % 16 : Nat) : Int) (cbestN C (n + d)) = _
    rw [h1, cstep, if_neg]
    have := h (n + d) (by omega) (by omega)
    omega
theorem cb_min (C : Int → Int → Int) (n : Nat) : ∀ d : Nat, (cbestN C (n + 1 + d)).2.2 ≤ C ((n / 16 : Nat) : Int) ((n % 16 : Nat) : Int)
  | 0 => (cb_le C n).1
  | d + 1 => Int.le_trans (cb_le C (n + 1 + d)).2 (cb_min C n d)
theorem cb_val (C : Int → Int → Int) (h0 : C 0 0 < 2147483647) : ∀ n : Nat, n < 64 → (cbestN C (n + 1)).2.2 = C (cbestN C (n + 1)).1 (cbestN C (n + 1)).2.1 ∧ (0 ≤ (cbestN C (n + 1)).1 ∧ (cbestN C (n + 1)).1 ≤ 3) ∧ (0 ≤ (cbestN C (n + 1)).2.1 ∧ (cbestN C (n + 1)).2.1 ≤ 15)
  | 0, _ => by
    show (cstep C 0 0 (4, -1, 2147483647)).2.2 = _ ∧ _
    have e : cbestN C (0 + 1) = (0, 0, C 0 0) := by
      show cstep C 0 0 (4, -1, 2147483647) = _
      rw [cstep, if_pos h0]
    have e2 : cstep C 0 0 (4, -1, 2147483647) = (0, 0, C 0 0) := by rw [cstep, if_pos h0]
    rw [e, e2]
    exact ⟨rfl, ⟨Int.le_refl _, by show (0 : Int) ≤ 3; decide⟩, ⟨Int.le_refl _, by show (0 : Int) ≤ 15; decide⟩⟩
  | n + 1, hn => by
    have ih := cb_val C h0 n (by omega)
    rw [cbestN, cstep]
    split
    · exact ⟨rfl, by dsimp only; omega, by dsimp only; omega⟩
    · exact ih
def chS (C : Int → Int → Int) (ff kk : Int → Int) (i N : Int) (ff2 kk2 : Int → Int) (fe : Int) : Prop :=
  (N = 0 ∧ ff2 = ff ∧ kk2 = kk ∧ fe = 2147483647) ∨ (0 < N ∧ ff2 = upI ff i (cbestN C N.toNat).1 ∧ kk2 = upI kk i (cbestN C N.toNat).2.1 ∧ fe = (cbestN C N.toNat).2.2)
theorem chS_fe {C : Int → Int → Int} {ff kk ff2 kk2 : Int → Int} {i N fe : Int} (h : chS C ff kk i N ff2 kk2 fe) : (cbestN C N.toNat).2.2 = fe := by
  rcases h with ⟨rfl, -, -, h⟩ | ⟨-, -, -, h⟩
  · rw [h]; rfl
  · exact h.symm
theorem cb_idx {N fn k : Int} (hfn : 0 ≤ fn) (hk : 0 ≤ k ∧ k ≤ 15) (hN : N = 16 * fn + k) : ((N.toNat / 16 : Nat) : Int) = fn ∧ ((N.toNat % 16 : Nat) : Int) = k := by omega
theorem chS_lt {C : Int → Int → Int} {ff kk ff2 kk2 : Int → Int} {i N fe fn k : Int} (h : chS C ff kk i N ff2 kk2 fe) (hfn : 0 ≤ fn) (hk : 0 ≤ k ∧ k ≤ 15) (hN : N = 16 * fn + k) (hc : C fn k < fe) : chS C ff kk i (N + 1) (upI ff2 i fn) (upI kk2 i k) (C fn k) := by
  have e := chS_fe h
  obtain ⟨e1, e2⟩ := cb_idx hfn hk hN
  have e3 : cbestN C (N + 1).toNat = (fn, k, C fn k) := by
    rw [show (N + 1).toNat = N.toNat + 1 by omega, cbestN, cstep, e1, e2, e, if_pos hc]
  refine Or.inr ⟨by omega, ?_, ?_, ?_⟩
  · rw [e3]
    rcases h with ⟨-, h, -⟩ | ⟨-, h, -⟩ <;> rw [h]
    rw [upI_upI]
  · rw [e3]
    rcases h with ⟨-, -, h, -⟩ | ⟨-, -, h, -⟩ <;> rw [h]
    rw [upI_upI]
  · rw [e3]
theorem chS_ge {C : Int → Int → Int} {ff kk ff2 kk2 : Int → Int} {i N fe fn k : Int} (h : chS C ff kk i N ff2 kk2 fe) (hfn : 0 ≤ fn) (hk : 0 ≤ k ∧ k ≤ 15) (hN : N = 16 * fn + k) (hc : fe ≤ C fn k) (hm : C fn k < 2147483647) : chS C ff kk i (N + 1) ff2 kk2 fe := by
  have e := chS_fe h
  obtain ⟨e1, e2⟩ := cb_idx hfn hk hN
  have e3 : cbestN C (N + 1).toNat = cbestN C N.toNat := by
    rw [show (N + 1).toNat = N.toNat + 1 by omega, cbestN, cstep, e1, e2, e, if_neg (by omega)]
  rcases h with ⟨-, -, -, h⟩ | ⟨h0, h⟩
  · omega
  · refine Or.inr ⟨by omega, ?_⟩
    rw [e3]
    exact h
theorem chS_skip {C : Int → Int → Int} {ff kk ff2 kk2 : Int → Int} {i N fe fn k : Int} (h : chS C ff kk i (N + 1) ff2 kk2 fe) (hfn : 0 ≤ fn) (hk : 0 ≤ k ∧ k ≤ 15) (hN : N = 16 * fn + k) (hc : ∀ t, k < t → t ≤ 15 → C fn k ≤ C fn t) : chS C ff kk i (16 * (fn + 1)) ff2 kk2 fe := by
  obtain ⟨e1, e2⟩ := cb_idx hfn hk hN
  have h1 := (cb_le C N.toNat).1
  rw [e1, e2] at h1
  have e3 : cbestN C (16 * (fn + 1)).toNat = cbestN C (N + 1).toNat := by
    rw [show (16 * (fn + 1)).toNat = N.toNat + 1 + (15 - k).toNat by omega, show (N + 1).toNat = N.toNat + 1 by omega]
    apply cb_stay
    intro t h2 h3
    have e5 : ((t / 16 : Nat) : Int) = fn := by omega
    rw [e5]
    exact Int.le_trans h1 (hc _ (by omega) (by omega))
  rcases h with ⟨h0, -⟩ | ⟨-, h⟩
  · omega
  · refine Or.inr ⟨by omega, ?_⟩
    rw [e3]
    exact h
/-- what a block is written with -/
def chZ (f : Int → Int) (ch bl many mu i : Int) : Int := zsum (fun j => rst f ch 0 (bfirst ch bl i + j * ch) mu) 0 (bsize ch bl many i)
def chF (f : Int → Int) (ch bl many mu i : Int) : Int := if chZ f ch bl many mu i = 0 then 4 else (cbestN (cost f ch bl many mu i) 64).1
def chK (f : Int → Int) (ch bl many mu i : Int) : Int := if chZ f ch bl many mu i = 0 then -1 else (cbestN (cost f ch bl many mu i) 64).2.1
def chB (f : Int → Int) (ch bl many mu i : Int) : Int := if chF f ch bl many mu i = 4 then 4 else cost f ch bl many mu i (chF f ch bl many mu i) (chK f ch bl many mu i)
theorem cost_up {f : Int → Int} (hf : ∀ j, -32768 ≤ f j ∧ f j ≤ 32767) {mu : Int} (hmu : -32768 ≤ mu ∧ mu ≤ 32767) {ch bl many i fn k t : Int} (hs : 1 ≤ bsize ch bl many i ∧ bsize ch bl many i ≤ 64) (hk : 0 ≤ k) (hkt : k < t) (hz : zsum (fun j => rst f ch fn (bfirst ch bl i + j * ch) mu) k (bsize ch bl many i) = 0) : cost f ch bl many mu i fn k ≤ cost f ch bl many mu i fn t := by
  have h1 := zsum_rng (r := fun j => rst f ch fn (bfirst ch bl i + j * ch) mu) (k := t) (B := 600000) (m := bsize ch bl many i) (by omega) (fun j _ _ => by
    have h2 := rst_rng hf hmu ch fn (bfirst ch bl i + j * ch)
    have h3 := ediv_p2 (k := t) h2.1
    omega)
  unfold cost bcost nbits
  have e3 : p2 3 = 8 := rfl
  have h4 : bsize ch bl many i * (1 + k) ≤ bsize ch bl many i * (1 + t) := Int.mul_le_mul_of_nonneg_left (by omega) (by omega)
  rw [e3, hz]
  omega
theorem ch_ok {f : Int → Int} (hf : ∀ j, -32768 ≤ f j ∧ f j ≤ 32767) {mu : Int} (hmu : -32768 ≤ mu ∧ mu ≤ 32767) {ch bl many i : Int} (hs : 1 ≤ bsize ch bl many i ∧ bsize ch bl many i ≤ 64) :
    (chF f ch bl many mu i = 4 ∧ chK f ch bl many mu i = -1) ∨ ((0 ≤ chF f ch bl many mu i ∧ chF f ch bl many mu i ≤ 3) ∧ (0 ≤ chK f ch bl many mu i ∧ chK f ch bl many mu i ≤ 15)) := by
  unfold chF chK
  by_cases hz : chZ f ch bl many mu i = 0
  · rw [if_pos hz, if_pos hz]
    exact Or.inl ⟨rfl, rfl⟩
  · rw [if_neg hz, if_neg hz]
    have h0 := (cost_rng hf hmu (ch := ch) (bl := bl) (many := many) (i := i) (fn := 0) (k := 0) hs (by decide) (by decide)).2
    have hv := cb_val (cost f ch bl many mu i) (by omega) 63 (by decide)
    rw [show (63 + 1 : Nat) = 64 from rfl] at hv
    exact Or.inr hv.2
theorem chB_le {f : Int → Int} (hf : ∀ j, -32768 ≤ f j ∧ f j ≤ 32767) {mu : Int} (hmu : -32768 ≤ mu ∧ mu ≤ 32767) {ch bl many i : Int} (hs : 1 ≤ bsize ch bl many i ∧ bsize ch bl many i ≤ 64) : 0 ≤ chB f ch bl many mu i ∧ chB f ch bl many mu i ≤ 27 * bsize ch bl many i := by
  unfold chB
  by_cases h4 : chF f ch bl many mu i = 4
  · rw [if_pos h4]
    omega
  · rw [if_neg h4]
    have hz : ¬ chZ f ch bl many mu i = 0 := fun hz => h4 (by unfold chF; rw [if_pos hz])
    have h0 := (cost_rng hf hmu (ch := ch) (bl := bl) (many := many) (i := i) (fn := 0) (k := 0) hs (by decide) (by decide)).2
    have hv := cb_val (cost f ch bl many mu i) (by omega) 63 (by decide)
    rw [show (63 + 1 : Nat) = 64 from rfl] at hv
    have hm := cb_min (cost f ch bl many mu i) 15 48
    rw [show (15 + 1 + 48 : Nat) = 64 from rfl, show ((15 / 16 : Nat) : Int) = 0 from rfl, show ((15 % 16 : Nat) : Int) = 15 from rfl] at hm
    have eF : chF f ch bl many mu i = (cbestN (cost f ch bl many mu i) 64).1 := by unfold chF; rw [if_neg hz]
    have eK : chK f ch bl many mu i = (cbestN (cost f ch bl many mu i) 64).2.1 := by unfold chK; rw [if_neg hz]
    have h1 := zsum_rng (r := fun j => rst f ch 0 (bfirst ch bl i + j * ch) mu) (k := 15) (B := 3) (m := bsize ch bl many i) (by omega) (fun j _ _ => by
      have h2 := hf (bfirst ch bl i + j * ch)
      have h3 : 0 ≤ rst f ch 0 (bfirst ch bl i + j * ch) mu ∧ rst f ch 0 (bfirst ch bl i + j * ch) mu ≤ 2 * 65535 := by
        unfold rst tah
        rw [if_neg (by decide), if_neg (by decide), if_neg (by decide)]
        exact foldI_rng (by omega)
      have e : p2 15 = 32768 := rfl
      rw [e]
      omega)
    have hc : cost f ch bl many mu i 0 15 ≤ 27 * bsize ch bl many i := by
      unfold cost bcost nbits
      have e2 : p2 2 = 4 := rfl
      have e3 : p2 3 = 8 := rfl
      rw [e2, e3]
      omega
    have hr := cost_rng hf hmu (ch := ch) (bl := bl) (many := many) (i := i) hs hv.2.1 hv.2.2
    rw [eF, eK]
    have hv1 := hv.1
    omega
theorem nnv_bad {r : Int → Int} {E q k : Int} (h : (if E - (fz r E q + 1) < k then -1 else pk (cbit r) (fz r E q + 1) k) = -1) (hp : 0 ≤ pk (cbit r) (fz r E q + 1) k) : -1 = nnv r E q k := by
  unfold nnv
  split
  · rfl
  · rename_i h1
    rw [if_neg h1] at h
    omega
theorem nnv_good {r : Int → Int} {E q k : Int} (h : ¬ (if E - (fz r E q + 1) < k then -1 else pk (cbit r) (fz r E q + 1) k) = -1) : (fz r E q - q) * p2 k + (if E - (fz r E q + 1) < k then -1 else pk (cbit r) (fz r E q + 1) k) = nnv r E q k := by
  unfold nnv
  by_cases h1 : E - (fz r E q + 1) < k
  · rw [if_pos h1] at h
    exact absurd rfl h
  · rw [if_neg h1, if_neg h1]
