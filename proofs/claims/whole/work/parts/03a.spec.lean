/-! The document's numbers, as both sides compute them -/
def smpB (v : Int) : Int := if -32768 ≤ v ∧ v ≤ 32767 then 1 else 0
def nbits (k v : Int) : Int := v / p2 k + 1 + k
def foldI (v : Int) : Int := if v < 0 then -2 * v - 1 else 2 * v
def unfI (u : Int) : Int := if u % 2 = 0 then u / 2 else -(u / 2) - 1
def rmean (sum m : Int) : Int := (sum + m / 2) / m
def mnI (a b : Int) : Int := if b < a then b else a
def bef (f : Int → Int) (p : Int) : Int := if p < 0 then 0 else f p
def smpA (f : Int → Int) (n p : Int) : Int := if p < 0 ∨ n ≤ p then 0 else f p
def tah (f : Int → Int) (ch fn p mean : Int) : Int :=
  if fn = 1 then bef f (p - ch) else if fn = 2 then 2 * bef f (p - ch) - bef f (p - 2 * ch)
  else if fn = 3 then 3 * bef f (p - ch) - 3 * bef f (p - 2 * ch) + bef f (p - 3 * ch) else mean
def bfirst (ch bl i : Int) : Int := i / ch * bl * ch + i % ch
def bsize (ch bl many i : Int) : Int := mnI bl (many - i / ch * bl)
def nblk (ch bl many : Int) : Int := (many + bl - 1) / bl * ch
def bsumN (f : Int → Int) (ch p : Int) : Nat → Int
  | 0 => 0
  | j + 1 => bsumN f ch p j + f (p + j * ch)
def bsum (f : Int → Int) (ch p m : Int) : Int := bsumN f ch p m.toNat
def bmean (f : Int → Int) (ch bl many i : Int) : Int := rmean (bsum f ch (bfirst ch bl i) (bsize ch bl many i)) (bsize ch bl many i)
def mb (mf : Int → Int) (ch i k : Int) : Int := if i - k * ch < 0 then 0 else mf (i - k * ch)
def mahead (mf : Int → Int) (ch i : Int) : Int := rmean (mb mf ch i 1 + mb mf ch i 2 + mb mf ch i 3 + mb mf ch i 4) 4
def rst (f : Int → Int) (ch fn p mean : Int) : Int := foldI (f p - tah f ch fn p mean)
/-- the row of rests: m of them laid over an older row -/
def rests (o f : Int → Int) (ch fn p mean m : Int) : Int → Int := fun j => if 0 ≤ j ∧ j < m then rst f ch fn (p + j * ch) mean else o j
def zsumN (r : Int → Int) (k : Int) : Nat → Int
  | 0 => 0
  | j + 1 => zsumN r k j + r j / p2 k
def zsum (r : Int → Int) (k m : Int) : Int := zsumN r k m.toNat
def bcost (fn k z m : Int) : Int := nbits 2 fn + nbits 3 k + z + m * (1 + k)
/-- the cost of block i with function and k -/
def cost (f : Int → Int) (ch bl many mean i fn k : Int) : Int :=
  bcost fn k (zsum (fun j => rst f ch fn (bfirst ch bl i + j * ch) mean) k (bsize ch bl many i)) (bsize ch bl many i)
def cstep (c : Int → Int → Int) (fn k : Int) (s : Int × Int × Int) : Int × Int × Int := if c fn k < s.2.2 then (fn, k, c fn k) else s
def cbestN (c : Int → Int → Int) : Nat → Int × Int × Int
  | 0 => (4, -1, 2147483647)
  | n + 1 => cstep c ((n / 16 : Nat) : Int) ((n % 16 : Nat) : Int) (cbestN c n)
def cbest (c : Int → Int → Int) (fn k : Int) : Int × Int × Int := cbestN c (16 * fn + k).toNat
/-! rows of bits -/
abbrev BB : Type := (Int → Int) × Int
def pbit (b : Int) (x : BB) : BB := (upI x.1 x.2 b, x.2 + 1)
def pzer : Nat → BB → BB
  | 0, x => x
  | n + 1, x => pbit 0 (pzer n x)
def plow (v : Int) : Nat → BB → BB
  | 0, x => x
  | k + 1, x => plow v k (pbit (v / p2 k % 2) x)
def pnum (k v : Int) (x : BB) : BB := plow v k.toNat (pbit 1 (pzer (v / p2 k).toNat x))
def prestN (r : Int → Int) (k : Int) : Nat → BB → BB
  | 0, x => x
  | j + 1, x => pnum k (r j) (prestN r k j x)
def prest (r : Int → Int) (k m : Int) (x : BB) : BB := prestN r k m.toNat x
def pkN (w : Int → Int) (s : Int) : Nat → Int
  | 0 => 0
  | k + 1 => 2 * pkN w s k + w (s + k)
def pk (w : Int → Int) (s k : Int) : Int := pkN w s k.toNat
/-- bytes out of bits, over an older row -/
def rowOf (o w : Int → Int) (n : Int) : Int → Int := fun j => if 0 ≤ j ∧ j < n / 8 then w8 (pk w (8 * j) 8) else o j
def cpyI (f g : Int → Int) (n : Int) : Int → Int := fun j => if 0 ≤ j ∧ j < n then f j else g j
/-! reading -/
def cbit (b : Int → Int) (t : Int) : Int := b (t / 8) / p2 (7 - t % 8) % 2
def fzN (b : Int → Int) : Nat → Int → Int
  | 0, p => p
  | n + 1, p => if cbit b p = 0 then fzN b n (p + 1) else p
def fz (b : Int → Int) (E p : Int) : Int := fzN b (E - p).toNat p
def nnv (b : Int → Int) (E p k : Int) : Int := if E - (fz b E p + 1) < k then -1 else (fz b E p - p) * p2 k + pk (cbit b) (fz b E p + 1) k
def nnp (b : Int → Int) (E p k : Int) : Int := if E - (fz b E p + 1) < k then fz b E p + 1 else fz b E p + 1 + k
def judgeE (E p v lo hi : Int) : Int := if v = -1 then E else if v < lo ∨ hi < v then p else -1
theorem bsum_0 (f : Int → Int) (ch p : Int) : bsum f ch p 0 = 0 := rfl
theorem bsum_s {f : Int → Int} {ch p j : Int} (h : 0 ≤ j) : bsum f ch p (j + 1) = bsum f ch p j + f (p + j * ch) := by
  unfold bsum
  have e : (j + 1).toNat = j.toNat + 1 := by omega
  rw [e, bsumN, Int.toNat_of_nonneg h]
theorem zsum_0 (r : Int → Int) (k : Int) : zsum r k 0 = 0 := rfl
theorem zsum_s {r : Int → Int} {k j : Int} (h : 0 ≤ j) : zsum r k (j + 1) = zsum r k j + r j / p2 k := by
  unfold zsum
  have e : (j + 1).toNat = j.toNat + 1 := by omega
  rw [e, zsumN, Int.toNat_of_nonneg h]
theorem prest_0 (r : Int → Int) (k : Int) (x : BB) : prest r k 0 x = x := rfl
theorem prest_s {r : Int → Int} {k j : Int} {x : BB} (h : 0 ≤ j) : prest r k (j + 1) x = pnum k (r j) (prest r k j x) := by
  unfold prest
  have e : (j + 1).toNat = j.toNat + 1 := by omega
  rw [e, prestN, Int.toNat_of_nonneg h]
theorem pk_0 (w : Int → Int) (s : Int) : pk w s 0 = 0 := rfl
theorem pk_s {w : Int → Int} {s k : Int} (h : 0 ≤ k) : pk w s (k + 1) = 2 * pk w s k + w (s + k) := by
  unfold pk
  have e : (k + 1).toNat = k.toNat + 1 := by omega
  rw [e, pkN, Int.toNat_of_nonneg h]
theorem pzer_s' (n : Nat) (x : BB) : pzer (n + 1) x = pzer n (pbit 0 x) := by
  induction n with
  | zero => rfl
  | succ n ih => rw [pzer, ih, pzer]
theorem pzer_n (n : Nat) (x : BB) : (pzer n x).2 = x.2 + n := by
  induction n with
  | zero => simp [pzer]
  | succ n ih => simp only [pzer, pbit, ih]; omega
theorem plow_n (v : Int) (k : Nat) (x : BB) : (plow v k x).2 = x.2 + k := by
  induction k generalizing x with
  | zero => simp [plow]
  | succ k ih => simp only [plow, ih, pbit]; omega
theorem plow_0 (k : Nat) (x : BB) : plow 0 k x = pzer k x := by
  induction k generalizing x with
  | zero => rfl
  | succ k ih => rw [plow, ih, pzer_s', show (0 : Int) / p2 (k : Int) % 2 = 0 by simp]
theorem pnum_n {k v : Int} (hk : 0 ≤ k) (hv : 0 ≤ v) (x : BB) : (pnum k v x).2 = x.2 + nbits k v := by
  unfold pnum nbits
  have h := Int.ediv_nonneg hv (Int.le_of_lt (p2_pos k))
  rw [plow_n, pbit, pzer_n]
  show x.2 + ((v / p2 k).toNat : Int) + 1 + (k.toNat : Int) = _
  omega
/-- all bits are bits -/
def b01 (w : Int → Int) : Prop := ∀ t, w t = 0 ∨ w t = 1
theorem pbit_01 {b : Int} {x : BB} (h : b01 x.1) (hb : b = 0 ∨ b = 1) : b01 (pbit b x).1 := by
  intro t
  by_cases ht : t = x.2
  · subst ht; show upI x.1 x.2 b x.2 = 0 ∨ upI x.1 x.2 b x.2 = 1; rw [upI_s]; exact hb
  · show upI x.1 x.2 b t = 0 ∨ upI x.1 x.2 b t = 1
    rw [upI_n ht]; exact h t
theorem pzer_01 {x : BB} (n : Nat) (h : b01 x.1) : b01 (pzer n x).1 := by
  induction n with
  | zero => exact h
  | succ n ih => exact pbit_01 ih (Or.inl rfl)
theorem plow_01 {x : BB} (v : Int) (n : Nat) (h : b01 x.1) : b01 (plow v n x).1 := by
  induction n generalizing x with
  | zero => exact h
  | succ n ih => exact ih (pbit_01 h (by omega))
theorem pnum_01 {x : BB} (k v : Int) (h : b01 x.1) : b01 (pnum k v x).1 := plow_01 _ _ (pbit_01 (pzer_01 _ h) (Or.inr rfl))
theorem pk_cg {w w' : Int → Int} {s : Int} : ∀ (k : Nat), (∀ j : Int, s ≤ j → j < s + k → w j = w' j) → pkN w s k = pkN w' s k
  | 0, _ => rfl
  | k + 1, h => by
    rw [pkN, pkN, pk_cg k (fun j h1 h2 => h j h1 (by omega)), h (s + k) (by omega) (by omega)]
theorem pk_rng {w : Int → Int} (h : b01 w) (s : Int) (k : Nat) : 0 ≤ pkN w s k ∧ pkN w s k < 2 ^ k := by
  induction k with
  | zero => exact ⟨Int.le_refl _, by show (0 : Int) < 2 ^ 0; decide⟩
  | succ k ih =>
    rw [pkN, Int.pow_succ]
    rcases h (s + k) with e | e <;> rw [e] <;> omega
