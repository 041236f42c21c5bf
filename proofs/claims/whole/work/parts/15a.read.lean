section JO
variable {p : Program} {l : Launch} {e : Env} {R : Room} {s : State} {m : MethodId} {args : Array Value} {below : List Frame} {meth : Method} {c : Code} {X : GX} {A : Nat → Prop} {nL cells slots : Nat} {Q : State → Prop} {ws ws' : va_W} {lv lv' : List (Nat × Value)} {pc : Nat} {st : List Value} {cc : ByteArray} {own : String}
theorem J_loop8 {T0 T1 T2 T3 T4 T5 T6 T7 : Type} (fw : T0 → T1 → T2 → T3 → T4 → T5 → T6 → T7 → va_W) (fl : T0 → T1 → T2 → T3 → T4 → T5 → T6 → T7 → List (Nat × Value)) (I : T0 → T1 → T2 → T3 → T4 → T5 → T6 → T7 → Prop) (μ : T0 → T1 → T2 → T3 → T4 → T5 → T6 → T7 → Nat) (z0 : T0) (z1 : T1) (z2 : T2) (z3 : T3) (z4 : T4) (z5 : T5) (z6 : T6) (z7 : T7) (h0 : I z0 z1 z2 z3 z4 z5 z6 z7) (step : ∀ (a0 : T0) (a1 : T1) (a2 : T2) (a3 : T3) (a4 : T4) (a5 : T5) (a6 : T6) (a7 : T7), I a0 a1 a2 a3 a4 a5 a6 a7 → (∀ (b0 : T0) (b1 : T1) (b2 : T2) (b3 : T3) (b4 : T4) (b5 : T5) (b6 : T6) (b7 : T7), I b0 b1 b2 b3 b4 b5 b6 b7 → μ b0 b1 b2 b3 b4 b5 b6 b7 < μ a0 a1 a2 a3 a4 a5 a6 a7 → J p l e R s m args below meth c X A nL cells slots Q (fw b0 b1 b2 b3 b4 b5 b6 b7) (fl b0 b1 b2 b3 b4 b5 b6 b7) pc st) → J p l e R s m args below meth c X A nL cells slots Q (fw a0 a1 a2 a3 a4 a5 a6 a7) (fl a0 a1 a2 a3 a4 a5 a6 a7) pc st) : J p l e R s m args below meth c X A nL cells slots Q (fw z0 z1 z2 z3 z4 z5 z6 z7) (fl z0 z1 z2 z3 z4 z5 z6 z7) pc st := by
  have key : ∀ (k : Nat) (a0 : T0) (a1 : T1) (a2 : T2) (a3 : T3) (a4 : T4) (a5 : T5) (a6 : T6) (a7 : T7), I a0 a1 a2 a3 a4 a5 a6 a7 → μ a0 a1 a2 a3 a4 a5 a6 a7 < k → J p l e R s m args below meth c X A nL cells slots Q (fw a0 a1 a2 a3 a4 a5 a6 a7) (fl a0 a1 a2 a3 a4 a5 a6 a7) pc st := by
    intro k
    induction k with
    | zero => intro a0 a1 a2 a3 a4 a5 a6 a7 _ h; exact absurd h (Nat.not_lt_zero _)
    | succ k ih => intro a0 a1 a2 a3 a4 a5 a6 a7 h1 h2; exact step a0 a1 a2 a3 a4 a5 a6 a7 h1 (fun b0 b1 b2 b3 b4 b5 b6 b7 h3 h4 => ih b0 b1 b2 b3 b4 b5 b6 b7 h3 (by omega))
  exact key _ z0 z1 z2 z3 z4 z5 z6 z7 h0 (Nat.lt_succ_self _)
theorem J_loop9 {T0 T1 T2 T3 T4 T5 T6 T7 T8 : Type} (fw : T0 → T1 → T2 → T3 → T4 → T5 → T6 → T7 → T8 → va_W) (fl : T0 → T1 → T2 → T3 → T4 → T5 → T6 → T7 → T8 → List (Nat × Value)) (I : T0 → T1 → T2 → T3 → T4 → T5 → T6 → T7 → T8 → Prop) (μ : T0 → T1 → T2 → T3 → T4 → T5 → T6 → T7 → T8 → Nat) (z0 : T0) (z1 : T1) (z2 : T2) (z3 : T3) (z4 : T4) (z5 : T5) (z6 : T6) (z7 : T7) (z8 : T8) (h0 : I z0 z1 z2 z3 z4 z5 z6 z7 z8) (step : ∀ (a0 : T0) (a1 : T1) (a2 : T2) (a3 : T3) (a4 : T4) (a5 : T5) (a6 : T6) (a7 : T7) (a8 : T8), I a0 a1 a2 a3 a4 a5 a6 a7 a8 → (∀ (b0 : T0) (b1 : T1) (b2 : T2) (b3 : T3) (b4 : T4) (b5 : T5) (b6 : T6) (b7 : T7) (b8 : T8), I b0 b1 b2 b3 b4 b5 b6 b7 b8 → μ b0 b1 b2 b3 b4 b5 b6 b7 b8 < μ a0 a1 a2 a3 a4 a5 a6 a7 a8 → J p l e R s m args below meth c X A nL cells slots Q (fw b0 b1 b2 b3 b4 b5 b6 b7 b8) (fl b0 b1 b2 b3 b4 b5 b6 b7 b8) pc st) → J p l e R s m args below meth c X A nL cells slots Q (fw a0 a1 a2 a3 a4 a5 a6 a7 a8) (fl a0 a1 a2 a3 a4 a5 a6 a7 a8) pc st) : J p l e R s m args below meth c X A nL cells slots Q (fw z0 z1 z2 z3 z4 z5 z6 z7 z8) (fl z0 z1 z2 z3 z4 z5 z6 z7 z8) pc st := by
  have key : ∀ (k : Nat) (a0 : T0) (a1 : T1) (a2 : T2) (a3 : T3) (a4 : T4) (a5 : T5) (a6 : T6) (a7 : T7) (a8 : T8), I a0 a1 a2 a3 a4 a5 a6 a7 a8 → μ a0 a1 a2 a3 a4 a5 a6 a7 a8 < k → J p l e R s m args below meth c X A nL cells slots Q (fw a0 a1 a2 a3 a4 a5 a6 a7 a8) (fl a0 a1 a2 a3 a4 a5 a6 a7 a8) pc st := by
    intro k
    induction k with
    | zero => intro a0 a1 a2 a3 a4 a5 a6 a7 a8 _ h; exact absurd h (Nat.not_lt_zero _)
    | succ k ih => intro a0 a1 a2 a3 a4 a5 a6 a7 a8 h1 h2; exact step a0 a1 a2 a3 a4 a5 a6 a7 a8 h1 (fun b0 b1 b2 b3 b4 b5 b6 b7 b8 h3 h4 => ih b0 b1 b2 b3 b4 b5 b6 b7 b8 h3 (by omega))
  exact key _ z0 z1 z2 z3 z4 z5 z6 z7 z8 h0 (Nat.lt_succ_self _)
theorem J_loop10 {T0 T1 T2 T3 T4 T5 T6 T7 T8 T9 : Type} (fw : T0 → T1 → T2 → T3 → T4 → T5 → T6 → T7 → T8 → T9 → va_W) (fl : T0 → T1 → T2 → T3 → T4 → T5 → T6 → T7 → T8 → T9 → List (Nat × Value)) (I : T0 → T1 → T2 → T3 → T4 → T5 → T6 → T7 → T8 → T9 → Prop) (μ : T0 → T1 → T2 → T3 → T4 → T5 → T6 → T7 → T8 → T9 → Nat) (z0 : T0) (z1 : T1) (z2 : T2) (z3 : T3) (z4 : T4) (z5 : T5) (z6 : T6) (z7 : T7) (z8 : T8) (z9 : T9) (h0 : I z0 z1 z2 z3 z4 z5 z6 z7 z8 z9) (step : ∀ (a0 : T0) (a1 : T1) (a2 : T2) (a3 : T3) (a4 : T4) (a5 : T5) (a6 : T6) (a7 : T7) (a8 : T8) (a9 : T9), I a0 a1 a2 a3 a4 a5 a6 a7 a8 a9 → (∀ (b0 : T0) (b1 : T1) (b2 : T2) (b3 : T3) (b4 : T4) (b5 : T5) (b6 : T6) (b7 : T7) (b8 : T8) (b9 : T9), I b0 b1 b2 b3 b4 b5 b6 b7 b8 b9 → μ b0 b1 b2 b3 b4 b5 b6 b7 b8 b9 < μ a0 a1 a2 a3 a4 a5 a6 a7 a8 a9 → J p l e R s m args below meth c X A nL cells slots Q (fw b0 b1 b2 b3 b4 b5 b6 b7 b8 b9) (fl b0 b1 b2 b3 b4 b5 b6 b7 b8 b9) pc st) → J p l e R s m args below meth c X A nL cells slots Q (fw a0 a1 a2 a3 a4 a5 a6 a7 a8 a9) (fl a0 a1 a2 a3 a4 a5 a6 a7 a8 a9) pc st) : J p l e R s m args below meth c X A nL cells slots Q (fw z0 z1 z2 z3 z4 z5 z6 z7 z8 z9) (fl z0 z1 z2 z3 z4 z5 z6 z7 z8 z9) pc st := by
  have key : ∀ (k : Nat) (a0 : T0) (a1 : T1) (a2 : T2) (a3 : T3) (a4 : T4) (a5 : T5) (a6 : T6) (a7 : T7) (a8 : T8) (a9 : T9), I a0 a1 a2 a3 a4 a5 a6 a7 a8 a9 → μ a0 a1 a2 a3 a4 a5 a6 a7 a8 a9 < k → J p l e R s m args below meth c X A nL cells slots Q (fw a0 a1 a2 a3 a4 a5 a6 a7 a8 a9) (fl a0 a1 a2 a3 a4 a5 a6 a7 a8 a9) pc st := by
    intro k
    induction k with
    | zero => intro a0 a1 a2 a3 a4 a5 a6 a7 a8 a9 _ h; exact absurd h (Nat.not_lt_zero _)
    | succ k ih => intro a0 a1 a2 a3 a4 a5 a6 a7 a8 a9 h1 h2; exact step a0 a1 a2 a3 a4 a5 a6 a7 a8 a9 h1 (fun b0 b1 b2 b3 b4 b5 b6 b7 b8 b9 h3 h4 => ih b0 b1 b2 b3 b4 b5 b6 b7 b8 b9 h3 (by omega))
  exact key _ z0 z1 z2 z3 z4 z5 z6 z7 z8 z9 h0 (Nat.lt_succ_self _)
theorem J_loop11 {T0 T1 T2 T3 T4 T5 T6 T7 T8 T9 T10 : Type} (fw : T0 → T1 → T2 → T3 → T4 → T5 → T6 → T7 → T8 → T9 → T10 → va_W) (fl : T0 → T1 → T2 → T3 → T4 → T5 → T6 → T7 → T8 → T9 → T10 → List (Nat × Value)) (I : T0 → T1 → T2 → T3 → T4 → T5 → T6 → T7 → T8 → T9 → T10 → Prop) (μ : T0 → T1 → T2 → T3 → T4 → T5 → T6 → T7 → T8 → T9 → T10 → Nat) (z0 : T0) (z1 : T1) (z2 : T2) (z3 : T3) (z4 : T4) (z5 : T5) (z6 : T6) (z7 : T7) (z8 : T8) (z9 : T9) (z10 : T10) (h0 : I z0 z1 z2 z3 z4 z5 z6 z7 z8 z9 z10) (step : ∀ (a0 : T0) (a1 : T1) (a2 : T2) (a3 : T3) (a4 : T4) (a5 : T5) (a6 : T6) (a7 : T7) (a8 : T8) (a9 : T9) (a10 : T10), I a0 a1 a2 a3 a4 a5 a6 a7 a8 a9 a10 → (∀ (b0 : T0) (b1 : T1) (b2 : T2) (b3 : T3) (b4 : T4) (b5 : T5) (b6 : T6) (b7 : T7) (b8 : T8) (b9 : T9) (b10 : T10), I b0 b1 b2 b3 b4 b5 b6 b7 b8 b9 b10 → μ b0 b1 b2 b3 b4 b5 b6 b7 b8 b9 b10 < μ a0 a1 a2 a3 a4 a5 a6 a7 a8 a9 a10 → J p l e R s m args below meth c X A nL cells slots Q (fw b0 b1 b2 b3 b4 b5 b6 b7 b8 b9 b10) (fl b0 b1 b2 b3 b4 b5 b6 b7 b8 b9 b10) pc st) → J p l e R s m args below meth c X A nL cells slots Q (fw a0 a1 a2 a3 a4 a5 a6 a7 a8 a9 a10) (fl a0 a1 a2 a3 a4 a5 a6 a7 a8 a9 a10) pc st) : J p l e R s m args below meth c X A nL cells slots Q (fw z0 z1 z2 z3 z4 z5 z6 z7 z8 z9 z10) (fl z0 z1 z2 z3 z4 z5 z6 z7 z8 z9 z10) pc st := by
  have key : ∀ (k : Nat) (a0 : T0) (a1 : T1) (a2 : T2) (a3 : T3) (a4 : T4) (a5 : T5) (a6 : T6) (a7 : T7) (a8 : T8) (a9 : T9) (a10 : T10), I a0 a1 a2 a3 a4 a5 a6 a7 a8 a9 a10 → μ a0 a1 a2 a3 a4 a5 a6 a7 a8 a9 a10 < k → J p l e R s m args below meth c X A nL cells slots Q (fw a0 a1 a2 a3 a4 a5 a6 a7 a8 a9 a10) (fl a0 a1 a2 a3 a4 a5 a6 a7 a8 a9 a10) pc st := by
    intro k
    induction k with
    | zero => intro a0 a1 a2 a3 a4 a5 a6 a7 a8 a9 a10 _ h; exact absurd h (Nat.not_lt_zero _)
    | succ k ih => intro a0 a1 a2 a3 a4 a5 a6 a7 a8 a9 a10 h1 h2; exact step a0 a1 a2 a3 a4 a5 a6 a7 a8 a9 a10 h1 (fun b0 b1 b2 b3 b4 b5 b6 b7 b8 b9 b10 h3 h4 => ih b0 b1 b2 b3 b4 b5 b6 b7 b8 b9 b10 h3 (by omega))
  exact key _ z0 z1 z2 z3 z4 z5 z6 z7 z8 z9 z10 h0 (Nat.lt_succ_self _)
end JO
/-! reading: numbers within bounds, blocks, the filling at the end -/
def nwV (r : Int → Int) (E q er k lo hi : Int) : Int := if er = -1 then (if judgeE E q (nnv r E q k) lo hi = -1 then nnv r E q k else lo) else lo
def nwQ (r : Int → Int) (E q er k : Int) : Int := if er = -1 then nnp r E q k else q
def nwE (r : Int → Int) (E q er k lo hi : Int) : Int := if er = -1 then judgeE E q (nnv r E q k) lo hi else er
def nbV (r : Int → Int) (E q : Int) : Int := if E - q < 8 then -1 else pk (cbit r) q 8
def nbQ (r : Int → Int) (E q er : Int) : Int := if er = -1 then (if E - q < 8 then q else q + 8) else q
def nbE (r : Int → Int) (E q er due : Int) : Int := if er = -1 then judgeE E q (nbV r E q) due due else er
theorem nnv_rng (r : Int → Int) {E q k : Int} (hE : 0 ≤ E ∧ E ≤ 24000) (hq : 0 ≤ q ∧ q ≤ E) (hk : 0 ≤ k ∧ k ≤ 15) : -1 ≤ nnv r E q k ∧ nnv r E q k ≤ 786464767 := by
  have h1 := fz_rng r (E := E) (q := q) hq.2
  have h2 := pkc_rng r (fz r E q + 1) hk
  have h3 := mul_p2 (a := fz r E q - q) (k := k) (by omega) hk
  unfold nnv
  split <;> omega
theorem nnp_rng (r : Int → Int) {E q k : Int} (hq : 0 ≤ q ∧ q ≤ E) (hk : 0 ≤ k ∧ k ≤ 15) : q < nnp r E q k ∧ nnp r E q k ≤ E + 1 ∧ (¬ nnv r E q k = -1 → nnp r E q k ≤ E) := by
  have h1 := fz_rng r (E := E) (q := q) hq.2
  unfold nnp
  split
  · rename_i h
    refine ⟨by omega, by omega, fun h2 => absurd ?_ h2⟩
    unfold nnv
    rw [if_pos h]
  · omega
theorem judge_rng {E q v lo hi : Int} (hE : 0 ≤ E ∧ E ≤ 24000) (hq : 0 ≤ q ∧ q ≤ 24010) : -1 ≤ judgeE E q v lo hi ∧ judgeE E q v lo hi ≤ 24010 := by
  unfold judgeE
  split
  · omega
  · split <;> omega
theorem judge_ok {E q v lo hi : Int} (hE : 0 ≤ E) (hq : 0 ≤ q) (h : judgeE E q v lo hi = -1) : ¬ v = -1 ∧ lo ≤ v ∧ v ≤ hi := by
  unfold judgeE at h
  split at h
  · omega
  · split at h
    · omega
    · omega
/-- the reader's place: where it is, and whether it is right yet -/
def okP (E q er : Int) : Prop := (0 ≤ q ∧ q ≤ 24010) ∧ (-1 ≤ er ∧ er ≤ 24010) ∧ (er = -1 → q ≤ E)
theorem nw_ok {r : Int → Int} {E q er k lo hi : Int} (hE : 0 ≤ E ∧ E ≤ 24000) (h : okP E q er) (hk : 0 ≤ k ∧ k ≤ 15) : okP E (nwQ r E q er k) (nwE r E q er k lo hi) := by
  obtain ⟨h1, h2, h3⟩ := h
  unfold nwQ nwE
  by_cases he : er = -1
  · have hp := nnp_rng r (E := E) (q := q) (k := k) ⟨h1.1, h3 he⟩ hk
    have hj := judge_rng (E := E) (q := q) (v := nnv r E q k) (lo := lo) (hi := hi) hE h1
    rw [if_pos he, if_pos he]
    refine ⟨by omega, hj, fun h5 => ?_⟩
    exact hp.2.2 (judge_ok hE.1 h1.1 h5).1
  · rw [if_neg he, if_neg he]
    exact ⟨h1, h2, h3⟩
theorem nwV_rng {r : Int → Int} {E q er k lo hi : Int} (hE : 0 ≤ E ∧ E ≤ 24000) (h : okP E q er) (hlo : 0 ≤ lo ∧ lo ≤ hi) : lo ≤ nwV r E q er k lo hi ∧ nwV r E q er k lo hi ≤ hi := by
  unfold nwV
  split
  · split
    · rename_i h5
      have := judge_ok hE.1 h.1.1 h5
      omega
    · omega
  · omega
theorem nb_ok {r : Int → Int} {E q er due : Int} (hE : 0 ≤ E ∧ E ≤ 24000) (h : okP E q er) : okP E (nbQ r E q er) (nbE r E q er due) := by
  obtain ⟨h1, h2, h3⟩ := h
  unfold nbQ nbE
  by_cases he : er = -1
  · have hj := judge_rng (E := E) (q := q) (v := nbV r E q) (lo := due) (hi := due) hE h1
    rw [if_pos he, if_pos he]
    refine ⟨by split <;> omega, hj, fun h5 => ?_⟩
    have h6 := (judge_ok hE.1 h1.1 h5).1
    unfold nbV at h6
    split
    · rename_i h7
      rw [if_pos h7] at h6
      exact absurd rfl h6
    · omega
  · rw [if_neg he, if_neg he]
    exact ⟨h1, h2, h3⟩
/-! the head -/
def hP1 (r : Int → Int) (E : Int) : Int × Int := (nbQ r E 0 (-1), nbE r E 0 (-1) 83)
def hP2 (r : Int → Int) (E : Int) : Int × Int := (nbQ r E (hP1 r E).1 (hP1 r E).2, nbE r E (hP1 r E).1 (hP1 r E).2 66)
def hC (r : Int → Int) (E : Int) : Int := nwV r E (hP2 r E).1 (hP2 r E).2 2 1 2
def hP3 (r : Int → Int) (E : Int) : Int × Int := (nwQ r E (hP2 r E).1 (hP2 r E).2 2, nwE r E (hP2 r E).1 (hP2 r E).2 2 1 2)
def hB (r : Int → Int) (E : Int) : Int := nwV r E (hP3 r E).1 (hP3 r E).2 4 1 64
def hP4 (r : Int → Int) (E : Int) : Int × Int := (nwQ r E (hP3 r E).1 (hP3 r E).2 4, nwE r E (hP3 r E).1 (hP3 r E).2 4 1 64)
def hN (r : Int → Int) (E : Int) : Int := nwV r E (hP4 r E).1 (hP4 r E).2 6 0 400
def hP5 (r : Int → Int) (E : Int) : Int × Int := (nwQ r E (hP4 r E).1 (hP4 r E).2 6, nwE r E (hP4 r E).1 (hP4 r E).2 6 0 400)
theorem hP_ok (r : Int → Int) {E : Int} (hE : 0 ≤ E ∧ E ≤ 24000) : okP E (hP1 r E).1 (hP1 r E).2 ∧ okP E (hP2 r E).1 (hP2 r E).2 ∧ okP E (hP3 r E).1 (hP3 r E).2 ∧ okP E (hP4 r E).1 (hP4 r E).2 ∧ okP E (hP5 r E).1 (hP5 r E).2 := by
  have h0 : okP E 0 (-1) := ⟨by omega, by omega, fun _ => hE.1⟩
  have h1 : okP E (hP1 r E).1 (hP1 r E).2 := nb_ok hE h0
  have h2 : okP E (hP2 r E).1 (hP2 r E).2 := nb_ok hE h1
  have h3 : okP E (hP3 r E).1 (hP3 r E).2 := nw_ok hE h2 (by decide)
  have h4 : okP E (hP4 r E).1 (hP4 r E).2 := nw_ok hE h3 (by decide)
  exact ⟨h1, h2, h3, h4, nw_ok hE h4 (by decide)⟩
theorem h_rng (r : Int → Int) {E : Int} (hE : 0 ≤ E ∧ E ≤ 24000) : (1 ≤ hC r E ∧ hC r E ≤ 2) ∧ (1 ≤ hB r E ∧ hB r E ≤ 64) ∧ (0 ≤ hN r E ∧ hN r E ≤ 400) ∧ (0 ≤ hN r E * hC r E ∧ hN r E * hC r E ≤ 800) ∧ hN r E * hC r E / hC r E = hN r E := by
  obtain ⟨h1, h2, h3, h4, h5⟩ := hP_ok r hE
  have a : 1 ≤ hC r E ∧ hC r E ≤ 2 := nwV_rng hE h2 (by decide)
  have b : 1 ≤ hB r E ∧ hB r E ≤ 64 := nwV_rng hE h3 (by decide)
  have c : 0 ≤ hN r E ∧ hN r E ≤ 400 := nwV_rng hE h4 (by decide)
  refine ⟨a, b, c, ?_, Int.mul_ediv_cancel _ (by omega)⟩
  rcases (show hC r E = 1 ∨ hC r E = 2 by omega) with e | e <;> rw [e] <;> omega
/-! a block -/
abbrev R3 : Type := (Int → Int) × Int × Int
def rstp (r : Int → Int) (E ch fn k mu pl : Int) (x : R3) : R3 :=
  if x.2.2 = -1 then
    (if fn = 4 then (upI x.1 pl mu, x.2.1, -1)
     else if nnv r E x.2.1 k = -1 then (x.1, nnp r E x.2.1 k, E)
     else if smpB (tah x.1 ch fn pl mu + unfI (nnv r E x.2.1 k)) = 1 then (upI x.1 pl (tah x.1 ch fn pl mu + unfI (nnv r E x.2.1 k)), nnp r E x.2.1 k, -1)
     else (x.1, nnp r E x.2.1 k, x.2.1))
  else x
def rlpN (r : Int → Int) (E ch fn k mu p0 : Int) (x : R3) : Nat → R3
  | 0 => x
  | j + 1 => rstp r E ch fn k mu (p0 + j * ch) (rlpN r E ch fn k mu p0 x j)
def rbF (r : Int → Int) (E q : Int) : Int := nwV r E q (-1) 2 0 4
def rbQ1 (r : Int → Int) (E q : Int) : Int := nwQ r E q (-1) 2
def rbE1 (r : Int → Int) (E q : Int) : Int := nwE r E q (-1) 2 0 4
def rbK (r : Int → Int) (E q : Int) : Int := if rbF r E q = 4 then 0 else nwV r E (rbQ1 r E q) (rbE1 r E q) 3 0 15
def rbQ2 (r : Int → Int) (E q : Int) : Int := if rbF r E q = 4 then rbQ1 r E q else nwQ r E (rbQ1 r E q) (rbE1 r E q) 3
def rbE2 (r : Int → Int) (E q : Int) : Int := if rbF r E q = 4 then rbE1 r E q else nwE r E (rbQ1 r E q) (rbE1 r E q) 3 0 15
def rblkR (r : Int → Int) (E ch bl many i mu : Int) (g : Int → Int) (q : Int) : R3 :=
  rlpN r E ch (rbF r E q) (rbK r E q) mu (bfirst ch bl i) (g, rbQ2 r E q, rbE2 r E q) (bsize ch bl many i).toNat
theorem rb_ok {r : Int → Int} {E q : Int} (hE : 0 ≤ E ∧ E ≤ 24000) (hq : 0 ≤ q ∧ q ≤ E) : okP E (rbQ1 r E q) (rbE1 r E q) ∧ okP E (rbQ2 r E q) (rbE2 r E q) ∧ (0 ≤ rbF r E q ∧ rbF r E q ≤ 4) ∧ (0 ≤ rbK r E q ∧ rbK r E q ≤ 15) := by
  have h0 : okP E q (-1) := ⟨by omega, by omega, fun _ => hq.2⟩
  have h1 : okP E (rbQ1 r E q) (rbE1 r E q) := nw_ok hE h0 (by decide)
  have h2 := nw_ok (r := r) (k := 3) (lo := 0) (hi := 15) hE h1 (by decide)
  refine ⟨h1, ?_, nwV_rng hE h0 (by decide), ?_⟩
  · unfold rbQ2 rbE2
    split
    · exact h1
    · exact h2
  · unfold rbK
    split
    · decide
    · exact nwV_rng hE h1 (by decide)
theorem rlp_stick {r : Int → Int} {E ch fn k mu p0 : Int} {x : R3} (j : Nat) (h : ¬ (rlpN r E ch fn k mu p0 x j).2.2 = -1) : ∀ d : Nat, rlpN r E ch fn k mu p0 x (j + d) = rlpN r E ch fn k mu p0 x j
  | 0 => rfl
  | d + 1 => by
    show rstp _ _ _ _ _ _ _ (rlpN r E ch fn k mu p0 x (j + d)) = _
    rw [rlp_stick j h d, rstp, if_neg h]
theorem rlp_s {r : Int → Int} {E ch fn k mu p0 : Int} {x : R3} {j : Int} (h : 0 ≤ j) : rlpN r E ch fn k mu p0 x (j + 1).toNat = rstp r E ch fn k mu (p0 + j * ch) (rlpN r E ch fn k mu p0 x j.toNat) := by
  rw [show (j + 1).toNat = j.toNat + 1 by omega, rlpN, Int.toNat_of_nonneg h]
theorem rstp_4 {r g : Int → Int} {E ch k mu pl t : Int} : rstp r E ch 4 k mu pl (g, t, -1) = (upI g pl mu, t, -1) := by
  unfold rstp
  rw [if_pos rfl, if_pos rfl]
theorem rstp_over {r g : Int → Int} {E ch fn k mu pl t : Int} (hf : ¬ fn = 4) (h : nnv r E t k = -1) : rstp r E ch fn k mu pl (g, t, -1) = (g, nnp r E t k, E) := by
  unfold rstp
  rw [if_pos rfl, if_neg hf, if_pos h]
theorem rstp_good {r g : Int → Int} {E ch fn k mu pl t : Int} (hf : ¬ fn = 4) (h : ¬ nnv r E t k = -1) (hs : smpB (tah g ch fn pl mu + unfI (nnv r E t k)) = 1) : rstp r E ch fn k mu pl (g, t, -1) = (upI g pl (tah g ch fn pl mu + unfI (nnv r E t k)), nnp r E t k, -1) := by
  unfold rstp
  rw [if_pos rfl, if_neg hf, if_neg h, if_pos hs]
theorem rstp_bad {r g : Int → Int} {E ch fn k mu pl t : Int} (hf : ¬ fn = 4) (h : ¬ nnv r E t k = -1) (hs : ¬ smpB (tah g ch fn pl mu + unfI (nnv r E t k)) = 1) : rstp r E ch fn k mu pl (g, t, -1) = (g, nnp r E t k, t) := by
  unfold rstp
  rw [if_pos rfl, if_neg hf, if_neg h, if_neg hs]
/-- what a block's reading keeps -/
def okR (E : Int) (x : R3) : Prop := (∀ j, -32768 ≤ x.1 j ∧ x.1 j ≤ 32767) ∧ okP E x.2.1 x.2.2
theorem upI_rng {g : Int → Int} (hg : ∀ j, -32768 ≤ g j ∧ g j ≤ 32767) {i v : Int} (hv : -32768 ≤ v ∧ v ≤ 32767) : ∀ j, -32768 ≤ upI g i v j ∧ upI g i v j ≤ 32767 := by
  intro j
  unfold upI
  split
  · exact hv
  · exact hg j
theorem smpB_1 {v : Int} (h : smpB v = 1) : -32768 ≤ v ∧ v ≤ 32767 := by
  unfold smpB at h
  split at h
  · omega
  · omega
theorem rstp_ok {r : Int → Int} {E ch fn k mu pl : Int} {x : R3} (hE : 0 ≤ E ∧ E ≤ 24000) (hk : 0 ≤ k ∧ k ≤ 15) (hmu : -32768 ≤ mu ∧ mu ≤ 32767) (h : okR E x) : okR E (rstp r E ch fn k mu pl x) := by
  obtain ⟨h1, h2, h3, h4⟩ := h
  unfold rstp
  by_cases he : x.2.2 = -1
  · rw [if_pos he]
    have hp := nnp_rng r (E := E) (q := x.2.1) (k := k) ⟨h2.1, h4 he⟩ hk
    split
    · exact ⟨upI_rng h1 hmu, h2, by dsimp only; omega, fun _ => h4 he⟩
    · split
      · exact ⟨h1, by dsimp only; omega, by dsimp only; omega, by dsimp only; omega⟩
      · rename_i hv
        split
        · rename_i hs
          exact ⟨upI_rng h1 (smpB_1 hs), by dsimp only; omega, by dsimp only; omega, fun _ => hp.2.2 hv⟩
        · exact ⟨h1, by dsimp only; omega, by dsimp only; omega, by dsimp only; omega⟩
  · rw [if_neg he]
    exact ⟨h1, h2, h3, h4⟩
theorem rlp_ok {r : Int → Int} {E ch fn k mu p0 : Int} {x : R3} (hE : 0 ≤ E ∧ E ≤ 24000) (hk : 0 ≤ k ∧ k ≤ 15) (hmu : -32768 ≤ mu ∧ mu ≤ 32767) (h : okR E x) : ∀ j : Nat, okR E (rlpN r E ch fn k mu p0 x j)
  | 0 => h
  | j + 1 => rstp_ok hE hk hmu (rlp_ok hE hk hmu h j)
theorem unfI_rng {u : Int} (h : 0 ≤ u ∧ u < 2147483648) : -1073741824 ≤ unfI u ∧ unfI u ≤ 1073741823 := by
  unfold unfI
  split <;> omega
/-! the filling -/
def flN (r : Int → Int) : Nat → Int → Int
  | 0, _ => -1
  | n + 1, q => if cbit r q = 0 then flN r n (q + 1) else q
def up8 (q : Int) : Int := q + 7 - (q + 7) % 8
def flE (r : Int → Int) (E q er : Int) : Int := if er = -1 then (if flN r (up8 q - q).toNat q = -1 then (if up8 q < E then up8 q else -1) else flN r (up8 q - q).toNat q) else er
theorem smpB_n0 {v : Int} (h : ¬ smpB v = 0) : smpB v = 1 := by
  unfold smpB at h ⊢
  by_cases h1 : -32768 ≤ v ∧ v ≤ 32767
  · rw [if_pos h1]
  · rw [if_neg h1] at h
    exact absurd rfl h
theorem smpB_0 {v : Int} (h : smpB v = 0) : ¬ smpB v = 1 := by omega
