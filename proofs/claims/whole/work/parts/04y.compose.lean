/-! a block's bits, all blocks, the whole stream -/
def pblkB (f : Int → Int) (ch bl many mu i fn k : Int) (x : BB) : BB :=
  if fn = 4 then pnum 2 fn x else prest (fun j => rst f ch fn (bfirst ch bl i + j * ch) mu) k (bsize ch bl many i) (pnum 3 k (pnum 2 fn x))
def muOf (f : Int → Int) (ch bl many i : Int) : Int := mahead (bmean f ch bl many) ch i
def cF (f : Int → Int) (ch bl many i : Int) : Int := chF f ch bl many (muOf f ch bl many i) i
def cK (f : Int → Int) (ch bl many i : Int) : Int := chK f ch bl many (muOf f ch bl many i) i
def cB (f : Int → Int) (ch bl many i : Int) : Int := chB f ch bl many (muOf f ch bl many i) i
def pblk (f : Int → Int) (ch bl many i : Int) (x : BB) : BB := pblkB f ch bl many (muOf f ch bl many i) i (cF f ch bl many i) (cK f ch bl many i) x
def pallN (f : Int → Int) (ch bl many : Int) : Nat → BB → BB
  | 0, x => x
  | i + 1, x => pblk f ch bl many i (pallN f ch bl many i x)
def phead (ch bl many : Int) (w : Int → Int) : BB := pnum 6 many (pnum 4 bl (pnum 2 ch (plow 66 (8 : Int).toNat (plow 83 (8 : Int).toNat (w, 0)))))
def pfill (x : BB) : BB := pzer ((8 - x.2 % 8) % 8).toNat x
def pwrite (f : Int → Int) (ch bl many : Int) (w : Int → Int) : BB := pfill (pnum 2 5 (pallN f ch bl many (nblk ch bl many).toNat (phead ch bl many w)))
def ovr (g o : Int → Int) (N : Int) : Int → Int := fun j => if 0 ≤ j ∧ j < N then g j else o j
theorem ovr_0 (g o : Int → Int) : ovr g o 0 = o := by
  funext j
  unfold ovr
  rw [if_neg (by omega)]
theorem ovr_s {g o : Int → Int} {i : Int} (h : 0 ≤ i) : upI (ovr g o i) i (g i) = ovr g o (i + 1) := by
  funext t
  by_cases ht : t = i
  · subst ht
    rw [upI_s]
    unfold ovr
    rw [if_pos (by omega)]
  · rw [upI_n ht]
    unfold ovr
    by_cases h2 : 0 ≤ t ∧ t < i
    · rw [if_pos h2, if_pos (by omega)]
    · rw [if_neg h2, if_neg (by omega)]
theorem ovr_in {g o : Int → Int} {N j : Int} (h : 0 ≤ j ∧ j < N) : ovr g o N j = g j := by
  unfold ovr
  rw [if_pos h]
theorem ovr_rng {g o : Int → Int} {N : Int} (hg : ∀ j, 0 ≤ j → j < N → -32768 ≤ g j ∧ g j ≤ 32767) (ho : ∀ j, -32768 ≤ o j ∧ o j ≤ 32767) : ∀ j, -32768 ≤ ovr g o N j ∧ ovr g o N j ≤ 32767 := by
  intro j
  unfold ovr
  split
  · rename_i h
    exact hg j h.1 h.2
  · exact ho j
theorem mb_cg {mf mf' : Int → Int} {ch i k : Int} (h : ∀ j, 0 ≤ j → j < i → mf j = mf' j) (hk : 1 ≤ k) (hc : 1 ≤ ch) : mb mf ch i k = mb mf' ch i k := by
  unfold mb
  have hp : 1 * 1 ≤ k * ch := Int.mul_le_mul hk hc (by decide) (by omega)
  split
  · rfl
  · exact h _ (by omega) (by omega)
theorem mahead_cg {mf mf' : Int → Int} {ch i : Int} (hc : 1 ≤ ch) (h : ∀ j, 0 ≤ j → j < i → mf j = mf' j) : mahead mf ch i = mahead mf' ch i := by
  unfold mahead
  rw [mb_cg h (by decide) hc, mb_cg h (by decide) hc, mb_cg h (by decide) hc, mb_cg h (by decide) hc]
theorem nblk_in {ch bl many i : Int} (hc : 1 ≤ ch ∧ ch ≤ 2) (hb : 1 ≤ bl) (hm : 0 ≤ many) (h0 : 0 ≤ i) (h1 : i < nblk ch bl many) : 0 ≤ i / ch * bl ∧ i / ch * bl < many := by
  unfold nblk at h1
  have hq := Int.ediv_mul_le (many + bl - 1) (Int.ne_of_gt (show 0 < bl by omega))
  have h2 : 0 ≤ i / ch := Int.ediv_nonneg h0 (by omega)
  have h3 : i / ch < (many + bl - 1) / bl := Int.ediv_lt_of_lt_mul (by omega) h1
  have h4 : (i / ch + 1) * bl ≤ (many + bl - 1) / bl * bl := Int.mul_le_mul_of_nonneg_right (by omega) (by omega)
  rw [Int.add_mul] at h4
  exact ⟨Int.mul_nonneg h2 (by omega), by omega⟩
theorem nblk_rng {ch bl many : Int} (hc : 1 ≤ ch ∧ ch ≤ 2) (hb : 1 ≤ bl) (hm : 0 ≤ many ∧ many ≤ 400) : 0 ≤ nblk ch bl many ∧ nblk ch bl many ≤ 800 := by
  unfold nblk
  have h1 : 0 ≤ (many + bl - 1) / bl := Int.ediv_nonneg (by omega) (by omega)
  have h3 : (many + bl - 1) / bl < many + 1 := Int.ediv_lt_of_lt_mul (by omega) (by
    have h5 : many * 1 ≤ many * bl := Int.mul_le_mul_of_nonneg_left hb hm.1
    rw [Int.add_mul]
    omega)
  have h4 : (many + bl - 1) / bl * ch ≤ 400 * 2 := Int.mul_le_mul (by omega) hc.2 (by omega) (by decide)
  have h5 : 0 ≤ (many + bl - 1) / bl * ch := Int.mul_nonneg h1 (by omega)
  omega
def ssN (ch bl many : Int) : Nat → Int
  | 0 => 0
  | i + 1 => ssN ch bl many i + bsize ch bl many i
theorem ss_at {ch bl many : Int} (hc : 1 ≤ ch ∧ ch ≤ 2) (hb : 1 ≤ bl) : ∀ i : Nat, (i : Int) / ch * bl < many → 0 ≤ (i : Int) / ch * bl → ssN ch bl many i = (i : Int) / ch * bl * ch + (i : Int) % ch * bsize ch bl many i
  | 0, _, _ => by
    show (0 : Int) = ((0 : Nat) : Int) / ch * bl * ch + ((0 : Nat) : Int) % ch * _
    simp
  | i + 1, h1, h2 => by
    have hle : (i : Int) / ch * bl ≤ ((i + 1 : Nat) : Int) / ch * bl := by
      rcases (show ch = 1 ∨ ch = 2 by omega) with e | e <;> subst e
      · exact Int.mul_le_mul_of_nonneg_right (by omega) (by omega)
      · exact Int.mul_le_mul_of_nonneg_right (by omega) (by omega)
    have h0 : 0 ≤ (i : Int) / ch * bl := Int.mul_nonneg (Int.ediv_nonneg (by omega) (by omega)) (by omega)
    have ih := ss_at (many := many) hc hb i (by omega) h0
    rw [ssN, ih]
    rcases (show ch = 1 ∨ ch = 2 by omega) with e | e <;> subst e
    · have e1 : ((i + 1 : Nat) : Int) / 1 * bl = (i : Int) / 1 * bl + bl := by
        rw [show ((i + 1 : Nat) : Int) / 1 = (i : Int) / 1 + 1 by omega, Int.add_mul, Int.one_mul]
      have e2 : bsize 1 bl many i = bl := by
        unfold bsize mnI
        rw [if_neg (by omega)]
      rw [e1, e2, show (i : Int) % 1 = 0 by omega, show ((i + 1 : Nat) : Int) % 1 = 0 by omega]
      omega
    · rcases (show i % 2 = 0 ∨ i % 2 = 1 by omega) with hp | hp
      · have e1 : ((i + 1 : Nat) : Int) / 2 = (i : Int) / 2 := by omega
        have e2 : bsize 2 bl many ((i + 1 : Nat) : Int) = bsize 2 bl many i := by
          unfold bsize
          rw [e1]
        rw [e2, e1, show (i : Int) % 2 = 0 by omega, show ((i + 1 : Nat) : Int) % 2 = 1 by omega]
        omega
      · have e1 : ((i + 1 : Nat) : Int) / 2 * bl = (i : Int) / 2 * bl + bl := by
          rw [show ((i + 1 : Nat) : Int) / 2 = (i : Int) / 2 + 1 by omega, Int.add_mul, Int.one_mul]
        have e2 : bsize 2 bl many i = bl := by
          unfold bsize mnI
          rw [if_neg (by omega)]
        rw [e1, e2, show (i : Int) % 2 = 1 by omega, show ((i + 1 : Nat) : Int) % 2 = 0 by omega]
        omega
theorem ss_le {ch bl many : Int} (hc : 1 ≤ ch ∧ ch ≤ 2) (hb : 1 ≤ bl) {i : Int} (h0 : 0 ≤ i) (h1 : i / ch * bl < many) (h2 : 0 ≤ i / ch * bl) : 0 ≤ ssN ch bl many i.toNat ∧ ssN ch bl many i.toNat + bsize ch bl many i ≤ many * ch := by
  have h := ss_at hc hb i.toNat (many := many) (by rw [Int.toNat_of_nonneg h0]; exact h1) (by rw [Int.toNat_of_nonneg h0]; exact h2)
  rw [Int.toNat_of_nonneg h0] at h
  rw [h]
  have h3 : 0 ≤ bsize ch bl many i ∧ bsize ch bl many i ≤ many - i / ch * bl := by
    unfold bsize mnI
    split <;> omega
  rcases (show ch = 1 ∨ ch = 2 by omega) with e | e <;> subst e
  · rw [show i % 1 = 0 by omega]
    omega
  · rcases (show i % 2 = 0 ∨ i % 2 = 1 by omega) with hp | hp <;> rw [hp] <;> omega
theorem ss_s {ch bl many i : Int} (h : 0 ≤ i) : ssN ch bl many (i + 1).toNat = ssN ch bl many i.toNat + bsize ch bl many i := by
  rw [show (i + 1).toNat = i.toNat + 1 by omega, ssN, Int.toNat_of_nonneg h]
theorem pall_s {f : Int → Int} {ch bl many i : Int} {x : BB} (h : 0 ≤ i) : pblk f ch bl many i (pallN f ch bl many i.toNat x) = pallN f ch bl many (i + 1).toNat x := by
  rw [show (i + 1).toNat = i.toNat + 1 by omega, pallN, Int.toNat_of_nonneg h]
theorem prest_n {r : Int → Int} {k : Int} (hk : 0 ≤ k) (hr : ∀ j, 0 ≤ j → 0 ≤ r j) (x : BB) : ∀ m : Nat, (prestN r k m x).2 = x.2 + zsumN r k m + m * (1 + k)
  | 0 => by show x.2 = x.2 + 0 + 0 * (1 + k); omega
  | m + 1 => by
    rw [prestN, pnum_n hk (hr m (by omega)), prest_n hk hr x m, zsumN, nbits, show ((m + 1 : Nat) : Int) = (m : Int) + 1 by omega, Int.add_mul]
    omega
theorem prest_nI {r : Int → Int} {k m : Int} (hk : 0 ≤ k) (hm : 0 ≤ m) (hr : ∀ j, 0 ≤ j → 0 ≤ r j) (x : BB) : (prest r k m x).2 = x.2 + zsum r k m + m * (1 + k) := by
  have h := prest_n hk hr x m.toNat
  rw [Int.toNat_of_nonneg hm] at h
  exact h
theorem pblkB_n {f : Int → Int} (hf : ∀ j, -32768 ≤ f j ∧ f j ≤ 32767) {mu : Int} (hmu : -32768 ≤ mu ∧ mu ≤ 32767) {ch bl many i fn k : Int} (hs : 1 ≤ bsize ch bl many i) (h : fn = 4 ∨ ((0 ≤ fn ∧ fn ≤ 3) ∧ (0 ≤ k ∧ k ≤ 15))) (x : BB) : (pblkB f ch bl many mu i fn k x).2 = x.2 + (if fn = 4 then 4 else cost f ch bl many mu i fn k) := by
  unfold pblkB
  rcases h with rfl | h
  · rw [if_pos rfl, if_pos rfl, pnum_n (by decide) (by decide)]
    rfl
  · rw [if_neg (by omega), if_neg (by omega), prest_nI h.2.1 (by omega) (fun j _ => (rst_rng hf hmu ch fn _).1), pnum_n (by decide) h.2.1, pnum_n (by decide) h.1.1]
    unfold cost bcost
    omega
theorem prest_01 {r : Int → Int} {k : Int} {x : BB} (h : b01 x.1) : ∀ m : Nat, b01 (prestN r k m x).1
  | 0 => h
  | m + 1 => pnum_01 _ _ (prest_01 h m)
theorem pblkB_01 {f : Int → Int} {ch bl many mu i fn k : Int} {x : BB} (h : b01 x.1) : b01 (pblkB f ch bl many mu i fn k x).1 := by
  unfold pblkB
  split
  · exact pnum_01 _ _ h
  · exact prest_01 (pnum_01 _ _ (pnum_01 _ _ h)) _
theorem phead_n {ch bl many : Int} (hc : 1 ≤ ch ∧ ch ≤ 2) (hb : 1 ≤ bl ∧ bl ≤ 64) (hm : 0 ≤ many ∧ many ≤ 400) (w : Int → Int) : 0 ≤ (phead ch bl many w).2 ∧ (phead ch bl many w).2 ≤ 41 := by
  unfold phead
  rw [pnum_n (by decide) (by omega), pnum_n (by decide) (by omega), pnum_n (by decide) (by omega), plow_nI (by decide), plow_nI (by decide)]
  unfold nbits
  have e2 : p2 2 = 4 := rfl
  have e4 : p2 4 = 16 := rfl
  have e6 : p2 6 = 64 := rfl
  rw [e2, e4, e6]
  show 0 ≤ (0 : Int) + 8 + 8 + _ + _ + _ ∧ (0 : Int) + 8 + 8 + _ + _ + _ ≤ 41
  omega
theorem bmean_rng {f : Int → Int} (hf : ∀ j, -32768 ≤ f j ∧ f j ≤ 32767) {ch bl many i : Int} (hs : 1 ≤ bsize ch bl many i) : -32768 ≤ bmean f ch bl many i ∧ bmean f ch bl many i ≤ 32767 := by
  unfold bmean
  have h := bsum_rngI hf ch (bfirst ch bl i) (k := bsize ch bl many i) (by omega)
  exact rmean_rng hs h
theorem pblk_n {f : Int → Int} (hf : ∀ j, -32768 ≤ f j ∧ f j ≤ 32767) {ch bl many i : Int} (hmu : -32768 ≤ muOf f ch bl many i ∧ muOf f ch bl many i ≤ 32767) (hs : 1 ≤ bsize ch bl many i ∧ bsize ch bl many i ≤ 64) (x : BB) : (pblk f ch bl many i x).2 = x.2 + cB f ch bl many i := by
  unfold pblk cF cK
  have h := ch_ok hf hmu hs
  rw [pblkB_n hf hmu hs.1 (h.imp (fun h => h.1) id)]
  rfl
theorem cB_le {f : Int → Int} (hf : ∀ j, -32768 ≤ f j ∧ f j ≤ 32767) {ch bl many i : Int} (hmu : -32768 ≤ muOf f ch bl many i ∧ muOf f ch bl many i ≤ 32767) (hs : 1 ≤ bsize ch bl many i ∧ bsize ch bl many i ≤ 64) : 0 ≤ cB f ch bl many i ∧ cB f ch bl many i ≤ 27 * bsize ch bl many i := chB_le hf hmu hs
