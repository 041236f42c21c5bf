set_option maxHeartbeats 4000000 in
set_option maxRecDepth 100000 in
theorem mX6_putBlock (l : Launch) (X : GX) (h : Nat) (hs : Nat) (hm2 : Nat) (gb : Nat) (af : Nat) (ak : Nat) (ar : Nat) (rc : Int) (bc : Int) (as_ : Nat) (f : Int → Int) (ch : Int) (bl : Int) (n : Int) (am : Nat) (mf : Int → Int) (rs : Int → Int) (ff : Int → Int) (kk : Int → Int) (i : Int) (gr : Nat) (ga : Nat) (o : Int → Int) (x : BB) (hc : 1 ≤ ch ∧ ch ≤ 2) (hn : 0 ≤ n ∧ n ≤ 800) (hb : 1 ≤ bl ∧ bl ≤ 64) (hi : 0 ≤ i ∧ i < 800) (hib : 0 ≤ i / ch * bl ∧ i / ch * bl < n / ch) (hf : ∀ j, -32768 ≤ f j ∧ f j ≤ 32767) (hm : ∀ j, -32768 ≤ mf j ∧ mf j ≤ 32767) (hch : (ff i = 4) ∨ ((0 ≤ ff i ∧ ff i ≤ 3) ∧ (0 ≤ kk i ∧ kk i ≤ 15))) (hx : 0 ≤ x.2 ∧ x.2 + (if ff i = 4 then 4 else cost f ch bl (n / ch) (mahead mf ch i) i (ff i) (kk i)) ≤ 24000) : Ct l yX6_putBlock cX6_putBlock 5 none 4 93 0 0 X [.ref h, .int (iI i)] [(h, .inr (6, [.ref hs, .ref hm2, .ref gb, .ref af, .ref ak, .ref ar, .int (iI rc), .int (iI bc)])), (hs, .inr (4, [.ref as_, .int (iI ch), .int (iI bl), .int (iI n)])), (as_, .inl (X.2.1, 800, .inl (aI f))), (hm2, .inr (3, [.ref am])), (am, .inl (X.2.1, 800, .inl (aI mf))), (af, .inl (X.2.1, 800, .inl (aI ff))), (ak, .inl (X.2.1, 800, .inl (aI kk))), (ar, .inl (X.2.1, 64, .inl (aI rs))), (gb, .inr (1, [.ref gr, .int (iI (pk x.1 (8 * (x.2 / 8)) (x.2 % 8))), .int (iI (x.2 % 8))])), (gr, .inr (2, [.ref ga, .int (iI (x.2 / 8))])), (ga, .inl (X.2.2, 3000, .inl (aI (rowOf o x.1 x.2))))] (fun v u => ∃ (r' : Int → Int) (rc' : Int), v = none ∧ u = [(h, .inr (6, [.ref hs, .ref hm2, .ref gb, .ref af, .ref ak, .ref ar, .int (iI rc'), .int (iI bc)])), (hs, .inr (4, [.ref as_, .int (iI ch), .int (iI bl), .int (iI n)])), (as_, .inl (X.2.1, 800, .inl (aI f))), (hm2, .inr (3, [.ref am])), (am, .inl (X.2.1, 800, .inl (aI mf))), (af, .inl (X.2.1, 800, .inl (aI ff))), (ak, .inl (X.2.1, 800, .inl (aI kk))), (ar, .inl (X.2.1, 64, .inl (aI r'))), (gb, .inr (1, [.ref gr, .int (iI (pk (pblkB f ch bl (n / ch) (mahead mf ch i) i (ff i) (kk i) x).1 (8 * ((pblkB f ch bl (n / ch) (mahead mf ch i) i (ff i) (kk i) x).2 / 8)) ((pblkB f ch bl (n / ch) (mahead mf ch i) i (ff i) (kk i) x).2 % 8))), .int (iI ((pblkB f ch bl (n / ch) (mahead mf ch i) i (ff i) (kk i) x).2 % 8))])), (gr, .inr (2, [.ref ga, .int (iI ((pblkB f ch bl (n / ch) (mahead mf ch i) i (ff i) (kk i) x).2 / 8))])), (ga, .inl (X.2.2, 3000, .inl (aI (rowOf o (pblkB f ch bl (n / ch) (mahead mf ch i) i (ff i) (kk i) x).1 (pblkB f ch bl (n / ch) (mahead mf ch i) i (ff i) (kk i) x).2))))]) := by
  refine Ct_of (own := RX6) (lv := [(0, .ref h), (1, .int (iI i))]) (by decide +kernel) rfl (Nat.le_of_ble_eq_true rfl) rfl ?_
  intro p e s m args below meth c A cx hr hin
  have hbs := bsize_rng (i := i) (ch := ch) (bl := bl) (many := n / ch) hb hib.2
  have hd1 := half_rng hc hn
  have hmu := mahead_rng hm ch i
  have hrr : ∀ j, 0 ≤ rst f ch (ff i) (bfirst ch bl i + j * ch) (mahead mf ch i) ∧ rst f ch (ff i) (bfirst ch bl i + j * ch) (mahead mf ch i) ≤ 600000 := fun j => rst_rng hf hmu ch (ff i) _
  have hzr : ∀ k, 0 ≤ zsum (fun j => rst f ch (ff i) (bfirst ch bl i + j * ch) (mahead mf ch i)) k (bsize ch bl (n / ch) i) := fun k => (zsum_rng (B := 600000) (by omega) (fun j _ _ => by have h5 := hrr j; have h6 := ediv_p2 (k := k) h5.1; omega)).1
  have e2 : nbits 2 (ff i) = ff i / 4 + 1 + 2 := rfl
  have e3 : nbits 3 (kk i) = kk i / 8 + 1 + 3 := rfl
  have ecost : cost f ch bl (n / ch) (mahead mf ch i) i (ff i) (kk i) = nbits 2 (ff i) + nbits 3 (kk i) + zsum (fun j => rst f ch (ff i) (bfirst ch bl i + j * ch) (mahead mf ch i)) (kk i) (bsize ch bl (n / ch) i) + (bsize ch bl (n / ch) i) * (1 + kk i) := rfl
  have hx4 : ¬ ff i = 4 → x.2 + cost f ch bl (n / ch) (mahead mf ch i) i (ff i) (kk i) ≤ 24000 ∧ (0 ≤ ff i ∧ ff i ≤ 3) ∧ (0 ≤ kk i ∧ kk i ≤ 15) ∧ 0 ≤ (bsize ch bl (n / ch) i) * (1 + kk i) := by intro h5; rw [if_neg h5] at hx; exact ⟨hx.2, by omega, by omega, Int.mul_nonneg (by omega) (by omega)⟩
  have hx5 : ff i = 4 → x.2 + 4 ≤ 24000 := by intro h5; rw [if_pos h5] at hx; exact hx.2
  have hzk := hzr (kk i)
  have hx6 : x.2 + nbits 2 (ff i) ≤ 24000 := by by_cases h5 : ff i = 4; (have := hx5 h5; omega); (have := hx4 h5; omega)
  have hn2 : 0 ≤ ff i → (pnum 2 (ff i) x).2 = x.2 + nbits 2 (ff i) := fun h5 => pnum_n (by decide) h5 x
  refine J_aload_n cx dX6_putBlock_0 rfl 0 rfl ?_
  refine J_get cx inC6 0 rfl rfl 3 (by decide) T103 rfl rfl dX6_putBlock_1 ?_
  refine J_iload_n cx dX6_putBlock_4 rfl 1 rfl ?_
  refine J_iald cx 5 rfl (by omega) (by decide) dX6_putBlock_5 ?_
  refine J_istore_n (lv' := [(2, .int (iI (ff i))), (0, .ref h), (1, .int (iI i))]) cx dX6_putBlock_6 rfl (by decide) rfl ?_
  refine J_aload_n cx dX6_putBlock_7 rfl 1 rfl ?_
  refine J_get cx inC6 0 rfl rfl 2 (by decide) T101 rfl rfl dX6_putBlock_8 ?_
  refine J_iconst cx dX6_putBlock_11 ?_
  refine J_iload_n cx dX6_putBlock_12 rfl 0 rfl ?_
  refine J_callV (C := RX1) (T := TX1) (N := 3) cx (As := [.int (iI 2), .int (iI (ff i))]) (rest := []) (mX1_putNumber l X gb gr ga o x 2 (ff i) (by omega) (by omega) (by omega)) T266 T263 T264 T265 T5 ⟨rfl, hd_X1_putNumber⟩ rfl ⟨Nat.le_of_ble_eq_true rfl, Nat.le_of_ble_eq_true rfl⟩ (Nat.le_of_ble_eq_true rfl) ⟨Nat.le_of_ble_eq_true rfl, Nat.le_of_ble_eq_true rfl⟩ [8, 9, 10] [0, 1, 2, 3, 4, 5, 6, 7] rfl rfl rfl rfl rfl (by decide) 8 rfl rfl dX6_putBlock_13 rfl (J_f (ws' := [(h, .inr (6, [.ref hs, .ref hm2, .ref gb, .ref af, .ref ak, .ref ar, .int (iI rc), .int (iI bc)])), (hs, .inr (4, [.ref as_, .int (iI ch), .int (iI bl), .int (iI n)])), (as_, .inl (X.2.1, 800, .inl (aI f))), (hm2, .inr (3, [.ref am])), (am, .inl (X.2.1, 800, .inl (aI mf))), (af, .inl (X.2.1, 800, .inl (aI ff))), (ak, .inl (X.2.1, 800, .inl (aI kk))), (ar, .inl (X.2.1, 64, .inl (aI rs))), (gb, .inr (1, [.ref gr, .int (iI (pk (pnum 2 (ff i) x).1 (8 * ((pnum 2 (ff i) x).2 / 8)) ((pnum 2 (ff i) x).2 % 8))), .int (iI ((pnum 2 (ff i) x).2 % 8))])), (gr, .inr (2, [.ref ga, .int (iI ((pnum 2 (ff i) x).2 / 8))])), (ga, .inl (X.2.2, 3000, .inl (aI (rowOf o (pnum 2 (ff i) x).1 (pnum 2 (ff i) x).2))))]) (st' := []) [0, 1, 2, 3, 4, 5, 6, 7, 8, 9, 10] rfl rfl rfl rfl ?_)
  refine J_iload_n cx dX6_putBlock_16 rfl 0 rfl ?_
  refine J_iconst cx dX6_putBlock_17 ?_
  refine J_icmp_ne (tgt := 22) cx dX6_putBlock_18 (by decide) (by omega) (by decide) (fun h_18 => ?_) (fun h_18 => ?_)
  · skip
    have hx7 := hx4 h_18
    have hn3 : (pnum 3 (kk i) (pnum 2 (ff i) x)).2 = (pnum 2 (ff i) x).2 + nbits 3 (kk i) := pnum_n (by decide) (by omega) _
    have hn2 := hn2 (by omega)
    refine J_aload_n cx dX6_putBlock_22 rfl 1 rfl ?_
    refine J_get cx inC6 0 rfl rfl 4 (by decide) T105 rfl rfl dX6_putBlock_23 ?_
    refine J_iload_n cx dX6_putBlock_26 rfl 2 rfl ?_
    refine J_iald cx 6 rfl (by omega) (by decide) dX6_putBlock_27 ?_
    refine J_istore_n (lv' := [(3, .int (iI (kk i))), (2, .int (iI (ff i))), (0, .ref h), (1, .int (iI i))]) cx dX6_putBlock_28 rfl (by decide) rfl ?_
    refine J_aload_n cx dX6_putBlock_29 rfl 2 rfl ?_
    refine J_get cx inC6 0 rfl rfl 2 (by decide) T101 rfl rfl dX6_putBlock_30 ?_
    refine J_iconst cx dX6_putBlock_33 ?_
    refine J_iload_n cx dX6_putBlock_34 rfl 0 rfl ?_
    refine J_callV (C := RX1) (T := TX1) (N := 3) cx (As := [.int (iI 3), .int (iI (kk i))]) (rest := []) (mX1_putNumber l X gb gr ga o (pnum 2 (ff i) x) 3 (kk i) (by omega) (by omega) (by omega)) T266 T263 T264 T265 T5 ⟨rfl, hd_X1_putNumber⟩ rfl ⟨Nat.le_of_ble_eq_true rfl, Nat.le_of_ble_eq_true rfl⟩ (Nat.le_of_ble_eq_true rfl) ⟨Nat.le_of_ble_eq_true rfl, Nat.le_of_ble_eq_true rfl⟩ [8, 9, 10] [0, 1, 2, 3, 4, 5, 6, 7] rfl rfl rfl rfl rfl (by decide) 8 rfl rfl dX6_putBlock_35 rfl (J_f (ws' := [(h, .inr (6, [.ref hs, .ref hm2, .ref gb, .ref af, .ref ak, .ref ar, .int (iI rc), .int (iI bc)])), (hs, .inr (4, [.ref as_, .int (iI ch), .int (iI bl), .int (iI n)])), (as_, .inl (X.2.1, 800, .inl (aI f))), (hm2, .inr (3, [.ref am])), (am, .inl (X.2.1, 800, .inl (aI mf))), (af, .inl (X.2.1, 800, .inl (aI ff))), (ak, .inl (X.2.1, 800, .inl (aI kk))), (ar, .inl (X.2.1, 64, .inl (aI rs))), (gb, .inr (1, [.ref gr, .int (iI (pk (pnum 3 (kk i) (pnum 2 (ff i) x)).1 (8 * ((pnum 3 (kk i) (pnum 2 (ff i) x)).2 / 8)) ((pnum 3 (kk i) (pnum 2 (ff i) x)).2 % 8))), .int (iI ((pnum 3 (kk i) (pnum 2 (ff i) x)).2 % 8))])), (gr, .inr (2, [.ref ga, .int (iI ((pnum 3 (kk i) (pnum 2 (ff i) x)).2 / 8))])), (ga, .inl (X.2.2, 3000, .inl (aI (rowOf o (pnum 3 (kk i) (pnum 2 (ff i) x)).1 (pnum 3 (kk i) (pnum 2 (ff i) x)).2))))]) (st' := []) [0, 1, 2, 3, 4, 5, 6, 7, 8, 9, 10] rfl rfl rfl rfl ?_)
    refine J_aload_n cx dX6_putBlock_38 rfl 2 rfl ?_
    refine J_iload_n cx dX6_putBlock_39 rfl 3 rfl ?_
    refine J_iload_n cx dX6_putBlock_40 rfl 1 rfl ?_
    refine J_callV (C := RX6) (T := TX6) (N := 8) cx (As := [.int (iI i), .int (iI (ff i))]) (rest := []) (mX6_findRests l X h hs hm2 gb af ak ar rc bc as_ f ch bl n am mf rs i (ff i) (by omega) (by omega) (by omega) (by omega) (by omega) (hf) (hm) (by omega)) T307 T304 T306 S1 T3 ⟨rfl, hd_X6_findRests⟩ rfl ⟨Nat.le_of_ble_eq_true rfl, Nat.le_of_ble_eq_true rfl⟩ (Nat.le_of_ble_eq_true rfl) ⟨Nat.le_of_ble_eq_true rfl, Nat.le_of_ble_eq_true rfl⟩ [0, 1, 2, 3, 4, 7] [5, 6, 8, 9, 10] rfl rfl rfl rfl rfl (by decide) 0 rfl rfl dX6_putBlock_41 rfl (J_f (ws' := [(h, .inr (6, [.ref hs, .ref hm2, .ref gb, .ref af, .ref ak, .ref ar, .int (iI (bsize ch bl (n / ch) i)), .int (iI bc)])), (hs, .inr (4, [.ref as_, .int (iI ch), .int (iI bl), .int (iI n)])), (as_, .inl (X.2.1, 800, .inl (aI f))), (hm2, .inr (3, [.ref am])), (am, .inl (X.2.1, 800, .inl (aI mf))), (af, .inl (X.2.1, 800, .inl (aI ff))), (ak, .inl (X.2.1, 800, .inl (aI kk))), (ar, .inl (X.2.1, 64, .inl (aI (rests rs f ch (ff i) (bfirst ch bl i) (mahead mf ch i) (bsize ch bl (n / ch) i))))), (gb, .inr (1, [.ref gr, .int (iI (pk (pnum 3 (kk i) (pnum 2 (ff i) x)).1 (8 * ((pnum 3 (kk i) (pnum 2 (ff i) x)).2 / 8)) ((pnum 3 (kk i) (pnum 2 (ff i) x)).2 % 8))), .int (iI ((pnum 3 (kk i) (pnum 2 (ff i) x)).2 % 8))])), (gr, .inr (2, [.ref ga, .int (iI ((pnum 3 (kk i) (pnum 2 (ff i) x)).2 / 8))])), (ga, .inl (X.2.2, 3000, .inl (aI (rowOf o (pnum 3 (kk i) (pnum 2 (ff i) x)).1 (pnum 3 (kk i) (pnum 2 (ff i) x)).2))))]) (st' := []) [5, 6, 7, 8, 9, 0, 1, 10, 2, 3, 4] rfl rfl rfl rfl ?_)
    refine J_iconst cx dX6_putBlock_44 ?_
    refine J_istore (lv' := [(4, .int (iI 0)), (3, .int (iI (kk i))), (2, .int (iI (ff i))), (0, .ref h), (1, .int (iI i))]) cx dX6_putBlock_45 (by decide) rfl ?_
    refine J_loop2 (fun (j : Int) (y : BB) => [(h, .inr (6, [.ref hs, .ref hm2, .ref gb, .ref af, .ref ak, .ref ar, .int (iI (bsize ch bl (n / ch) i)), .int (iI bc)])), (hs, .inr (4, [.ref as_, .int (iI ch), .int (iI bl), .int (iI n)])), (as_, .inl (X.2.1, 800, .inl (aI f))), (hm2, .inr (3, [.ref am])), (am, .inl (X.2.1, 800, .inl (aI mf))), (af, .inl (X.2.1, 800, .inl (aI ff))), (ak, .inl (X.2.1, 800, .inl (aI kk))), (ar, .inl (X.2.1, 64, .inl (aI (rests rs f ch (ff i) (bfirst ch bl i) (mahead mf ch i) (bsize ch bl (n / ch) i))))), (gb, .inr (1, [.ref gr, .int (iI (pk y.1 (8 * (y.2 / 8)) (y.2 % 8))), .int (iI (y.2 % 8))])), (gr, .inr (2, [.ref ga, .int (iI (y.2 / 8))])), (ga, .inl (X.2.2, 3000, .inl (aI (rowOf o y.1 y.2))))]) (fun (j : Int) (y : BB) => [(4, .int (iI j)), (3, .int (iI (kk i))), (2, .int (iI (ff i))), (0, .ref h), (1, .int (iI i))]) (fun (j : Int) (y : BB) => (0 ≤ j ∧ j ≤ bsize ch bl (n / ch) i) ∧ (y = prest (fun j => rst f ch (ff i) (bfirst ch bl i + j * ch) (mahead mf ch i)) (kk i) j (pnum 3 (kk i) (pnum 2 (ff i) x))) ∧ (y.2 = (pnum 3 (kk i) (pnum 2 (ff i) x)).2 + zsum (fun j => rst f ch (ff i) (bfirst ch bl i + j * ch) (mahead mf ch i)) (kk i) j + j * (1 + kk i))) (fun (j : Int) (y : BB) => (bsize ch bl (n / ch) i - j).toNat) 0 (pnum 3 (kk i) (pnum 2 (ff i) x)) ⟨(by omega), (rfl), (by rw [zsum_0]; omega)⟩ ?_
    intro j y hI ih_47
    obtain ⟨hj, hy, hyn⟩ := hI
    try dsimp only at hj hy hyn
    refine J_iload cx dX6_putBlock_47 0 rfl ?_
    refine J_aload_n cx dX6_putBlock_49 rfl 3 rfl ?_
    refine J_get cx inC6 0 rfl rfl 6 (by decide) T108 rfl rfl dX6_putBlock_50 ?_
    refine J_icmp_ge (tgt := 77) cx dX6_putBlock_53 (by decide) (by omega) (by omega) (fun h_53 => ?_) (fun h_53 => ?_)
    · skip
      have hyy : y = pblkB f ch bl (n / ch) (mahead mf ch i) i (ff i) (kk i) x := by rw [hy, show j = bsize ch bl (n / ch) i by omega]; unfold pblkB; rw [if_neg h_18]
      subst hyy
      exact J_vret cx hr dX6_putBlock_77 (⟨_, _, rfl, rfl⟩)
    · skip
      have hm1 := zsum_mono (r := (fun j => rst f ch (ff i) (bfirst ch bl i + j * ch) (mahead mf ch i))) (k := kk i) (j := j + 1) (m := bsize ch bl (n / ch) i) (by omega) (by omega) (fun j _ => (ediv_p2 (hrr j).1).1)
      rw [zsum_s (by omega)] at hm1
      have hm9 : (j + 1) * (1 + kk i) ≤ (bsize ch bl (n / ch) i) * (1 + kk i) := Int.mul_le_mul_of_nonneg_right (by omega) (by omega)
      rw [Int.add_mul] at hm9
      have hrj := hrr j
      have hnb : nbits (kk i) (rst f ch (ff i) (bfirst ch bl i + j * ch) (mahead mf ch i)) = rst f ch (ff i) (bfirst ch bl i + j * ch) (mahead mf ch i) / p2 (kk i) + 1 + kk i := rfl
      have hpp : 0 ≤ j * (1 + kk i) := Int.mul_nonneg (by omega) (by omega)
      have hz5 := (zsum_rng (r := (fun j => rst f ch (ff i) (bfirst ch bl i + j * ch) (mahead mf ch i))) (k := kk i) (B := 600000) (m := j) (by omega) (fun j _ _ => by have h5 := hrr j; have h6 := ediv_p2 (k := kk i) h5.1; omega)).1
      try dsimp only at hm1
      refine J_aload_n cx dX6_putBlock_56 rfl 3 rfl ?_
      refine J_get cx inC6 0 rfl rfl 2 (by decide) T101 rfl rfl dX6_putBlock_57 ?_
      refine J_iload_n cx dX6_putBlock_60 rfl 1 rfl ?_
      refine J_aload_n cx dX6_putBlock_61 rfl 3 rfl ?_
      refine J_get cx inC6 0 rfl rfl 5 (by decide) T107 rfl rfl dX6_putBlock_62 ?_
      refine J_iload cx dX6_putBlock_65 0 rfl ?_
      refine J_iald cx 7 rfl (by omega) (by decide) dX6_putBlock_67 ?_
      refine J_top (b := (rst f ch (ff i) (bfirst ch bl i + j * ch) (mahead mf ch i))) (rests_at ⟨by omega, by omega⟩) ?_
      refine J_callV (C := RX1) (T := TX1) (N := 3) cx (As := [.int (iI (kk i)), .int (iI (rst f ch (ff i) (bfirst ch bl i + j * ch) (mahead mf ch i)))]) (rest := []) (mX1_putNumber l X gb gr ga o y (kk i) (rst f ch (ff i) (bfirst ch bl i + j * ch) (mahead mf ch i)) (by omega) (by omega) (by omega)) T266 T263 T264 T265 T5 ⟨rfl, hd_X1_putNumber⟩ rfl ⟨Nat.le_of_ble_eq_true rfl, Nat.le_of_ble_eq_true rfl⟩ (Nat.le_of_ble_eq_true rfl) ⟨Nat.le_of_ble_eq_true rfl, Nat.le_of_ble_eq_true rfl⟩ [8, 9, 10] [0, 1, 2, 3, 4, 5, 6, 7] rfl rfl rfl rfl rfl (by decide) 8 rfl rfl dX6_putBlock_68 rfl (J_f (ws' := [(h, .inr (6, [.ref hs, .ref hm2, .ref gb, .ref af, .ref ak, .ref ar, .int (iI (bsize ch bl (n / ch) i)), .int (iI bc)])), (hs, .inr (4, [.ref as_, .int (iI ch), .int (iI bl), .int (iI n)])), (as_, .inl (X.2.1, 800, .inl (aI f))), (hm2, .inr (3, [.ref am])), (am, .inl (X.2.1, 800, .inl (aI mf))), (af, .inl (X.2.1, 800, .inl (aI ff))), (ak, .inl (X.2.1, 800, .inl (aI kk))), (ar, .inl (X.2.1, 64, .inl (aI (rests rs f ch (ff i) (bfirst ch bl i) (mahead mf ch i) (bsize ch bl (n / ch) i))))), (gb, .inr (1, [.ref gr, .int (iI (pk (pnum (kk i) (rst f ch (ff i) (bfirst ch bl i + j * ch) (mahead mf ch i)) y).1 (8 * ((pnum (kk i) (rst f ch (ff i) (bfirst ch bl i + j * ch) (mahead mf ch i)) y).2 / 8)) ((pnum (kk i) (rst f ch (ff i) (bfirst ch bl i + j * ch) (mahead mf ch i)) y).2 % 8))), .int (iI ((pnum (kk i) (rst f ch (ff i) (bfirst ch bl i + j * ch) (mahead mf ch i)) y).2 % 8))])), (gr, .inr (2, [.ref ga, .int (iI ((pnum (kk i) (rst f ch (ff i) (bfirst ch bl i + j * ch) (mahead mf ch i)) y).2 / 8))])), (ga, .inl (X.2.2, 3000, .inl (aI (rowOf o (pnum (kk i) (rst f ch (ff i) (bfirst ch bl i + j * ch) (mahead mf ch i)) y).1 (pnum (kk i) (rst f ch (ff i) (bfirst ch bl i + j * ch) (mahead mf ch i)) y).2))))]) (st' := []) [0, 1, 2, 3, 4, 5, 6, 7, 8, 9, 10] rfl rfl rfl rfl ?_)
      refine J_iinc (q := 0) (lv' := [(4, .int (iI (j + 1))), (3, .int (iI (kk i))), (2, .int (iI (ff i))), (0, .ref h), (1, .int (iI i))]) cx dX6_putBlock_71 rfl (by decide) rfl ?_
      refine J_goto (tgt := 47) cx dX6_putBlock_74 (by decide) ?_
      exact ih_47 (j + 1) (pnum (kk i) (rst f ch (ff i) (bfirst ch bl i + j * ch) (mahead mf ch i)) y) ⟨(by omega), (by rw [prest_s (by omega), hy]), (by rw [pnum_n (by omega) (by omega), zsum_s (by omega), Int.add_mul]; omega)⟩ (by omega)
  · skip
    refine J_ws (ws' := [(h, .inr (6, [.ref hs, .ref hm2, .ref gb, .ref af, .ref ak, .ref ar, .int (iI rc), .int (iI bc)])), (hs, .inr (4, [.ref as_, .int (iI ch), .int (iI bl), .int (iI n)])), (as_, .inl (X.2.1, 800, .inl (aI f))), (hm2, .inr (3, [.ref am])), (am, .inl (X.2.1, 800, .inl (aI mf))), (af, .inl (X.2.1, 800, .inl (aI ff))), (ak, .inl (X.2.1, 800, .inl (aI kk))), (ar, .inl (X.2.1, 64, .inl (aI rs))), (gb, .inr (1, [.ref gr, .int (iI (pk (pblkB f ch bl (n / ch) (mahead mf ch i) i (ff i) (kk i) x).1 (8 * ((pblkB f ch bl (n / ch) (mahead mf ch i) i (ff i) (kk i) x).2 / 8)) ((pblkB f ch bl (n / ch) (mahead mf ch i) i (ff i) (kk i) x).2 % 8))), .int (iI ((pblkB f ch bl (n / ch) (mahead mf ch i) i (ff i) (kk i) x).2 % 8))])), (gr, .inr (2, [.ref ga, .int (iI ((pblkB f ch bl (n / ch) (mahead mf ch i) i (ff i) (kk i) x).2 / 8))])), (ga, .inl (X.2.2, 3000, .inl (aI (rowOf o (pblkB f ch bl (n / ch) (mahead mf ch i) i (ff i) (kk i) x).1 (pblkB f ch bl (n / ch) (mahead mf ch i) i (ff i) (kk i) x).2))))]) (by rw [show pnum 2 (ff i) x = pblkB f ch bl (n / ch) (mahead mf ch i) i (ff i) (kk i) x from (by unfold pblkB; rw [if_pos h_18])]) ?_
    exact J_vret cx hr dX6_putBlock_21 (⟨rs, rc, rfl, rfl⟩)
