set_option maxHeartbeats 4000000 in
set_option maxRecDepth 100000 in
theorem mX6_choose (l : Launch) (X : GX) (h : Nat) (hs : Nat) (hm2 : Nat) (gb : Nat) (af : Nat) (ak : Nat) (ar : Nat) (rc : Int) (bc : Int) (as_ : Nat) (f : Int → Int) (ch : Int) (bl : Int) (n : Int) (am : Nat) (mf : Int → Int) (rs : Int → Int) (ff : Int → Int) (kk : Int → Int) (i : Int) (hc : 1 ≤ ch ∧ ch ≤ 2) (hn : 0 ≤ n ∧ n ≤ 800) (hb : 1 ≤ bl ∧ bl ≤ 64) (hi : 0 ≤ i ∧ i < 800) (hib : 0 ≤ i / ch * bl ∧ i / ch * bl < n / ch) (hf : ∀ j, -32768 ≤ f j ∧ f j ≤ 32767) (hm : ∀ j, -32768 ≤ mf j ∧ mf j ≤ 32767) : Ct l yX6_choose cX6_choose 7 none 4 93 0 0 X [.ref h, .int (iI i)] [(h, .inr (6, [.ref hs, .ref hm2, .ref gb, .ref af, .ref ak, .ref ar, .int (iI rc), .int (iI bc)])), (hs, .inr (4, [.ref as_, .int (iI ch), .int (iI bl), .int (iI n)])), (as_, .inl (X.2.1, 800, .inl (aI f))), (hm2, .inr (3, [.ref am])), (am, .inl (X.2.1, 800, .inl (aI mf))), (af, .inl (X.2.1, 800, .inl (aI ff))), (ak, .inl (X.2.1, 800, .inl (aI kk))), (ar, .inl (X.2.1, 64, .inl (aI rs)))] (fun v u => ∃ r' : Int → Int, v = none ∧ u = [(h, .inr (6, [.ref hs, .ref hm2, .ref gb, .ref af, .ref ak, .ref ar, .int (iI (bsize ch bl (n / ch) i)), .int (iI bc)])), (hs, .inr (4, [.ref as_, .int (iI ch), .int (iI bl), .int (iI n)])), (as_, .inl (X.2.1, 800, .inl (aI f))), (hm2, .inr (3, [.ref am])), (am, .inl (X.2.1, 800, .inl (aI mf))), (af, .inl (X.2.1, 800, .inl (aI (upI ff i (chF f ch bl (n / ch) (mahead mf ch i) i))))), (ak, .inl (X.2.1, 800, .inl (aI (upI kk i (chK f ch bl (n / ch) (mahead mf ch i) i))))), (ar, .inl (X.2.1, 64, .inl (aI r')))]) := by
  refine Ct_of (own := RX6) (lv := [(0, .ref h), (1, .int (iI i))]) (by decide +kernel) rfl (Nat.le_of_ble_eq_true rfl) rfl ?_
  intro p e s m args below meth c A cx hr hin
  have hbs := bsize_rng (i := i) (ch := ch) (bl := bl) (many := n / ch) hb hib.2
  have hd1 := half_rng hc hn
  have hmu := mahead_rng hm ch i
  have hcr : ∀ fn k, 0 ≤ fn ∧ fn ≤ 3 → 0 ≤ k ∧ k ≤ 15 → 0 ≤ cost f ch bl (n / ch) (mahead mf ch i) i fn k ∧ cost f ch bl (n / ch) (mahead mf ch i) i fn k < 100000000 := fun fn k h5 h6 => cost_rng hf hmu hbs h5 h6
  have hzr : ∀ fn k, 0 ≤ zsum (fun j => rst f ch fn (bfirst ch bl i + j * ch) (mahead mf ch i)) k (bsize ch bl (n / ch) i) ∧ zsum (fun j => rst f ch fn (bfirst ch bl i + j * ch) (mahead mf ch i)) k (bsize ch bl (n / ch) i) ≤ 600000 * (bsize ch bl (n / ch) i) := fun fn k => zsum_rng (by omega) (fun j _ _ => by have h5 := rst_rng hf hmu ch fn (bfirst ch bl i + j * ch); have h6 := ediv_p2 (k := k) h5.1; omega)
  have hz0 : 0 ≤ chZ f ch bl (n / ch) (mahead mf ch i) i ∧ chZ f ch bl (n / ch) (mahead mf ch i) i ≤ 600000 * (bsize ch bl (n / ch) i) := hzr 0 0
  refine J_aload_n cx dX6_choose_0 rfl 0 rfl ?_
  refine J_iload_n cx dX6_choose_1 rfl 1 rfl ?_
  refine J_iconst cx dX6_choose_2 ?_
  refine J_callV (C := RX6) (T := TX6) (N := 8) cx (As := [.int (iI i), .int (iI 0)]) (rest := []) (mX6_findRests l X h hs hm2 gb af ak ar rc bc as_ f ch bl n am mf rs i 0 (by omega) (by omega) (by omega) (by omega) (by omega) (hf) (hm) (by omega)) T307 T304 T306 S1 T3 ⟨rfl, hd_X6_findRests⟩ rfl ⟨Nat.le_of_ble_eq_true rfl, Nat.le_of_ble_eq_true rfl⟩ (Nat.le_of_ble_eq_true rfl) ⟨Nat.le_of_ble_eq_true rfl, Nat.le_of_ble_eq_true rfl⟩ [0, 1, 2, 3, 4, 7] [5, 6] rfl rfl rfl rfl rfl (by decide) 0 rfl rfl dX6_choose_3 rfl (J_f (ws' := [(h, .inr (6, [.ref hs, .ref hm2, .ref gb, .ref af, .ref ak, .ref ar, .int (iI (bsize ch bl (n / ch) i)), .int (iI bc)])), (hs, .inr (4, [.ref as_, .int (iI ch), .int (iI bl), .int (iI n)])), (as_, .inl (X.2.1, 800, .inl (aI f))), (hm2, .inr (3, [.ref am])), (am, .inl (X.2.1, 800, .inl (aI mf))), (af, .inl (X.2.1, 800, .inl (aI ff))), (ak, .inl (X.2.1, 800, .inl (aI kk))), (ar, .inl (X.2.1, 64, .inl (aI (rests rs f ch 0 (bfirst ch bl i) (mahead mf ch i) (bsize ch bl (n / ch) i)))))]) (st' := []) [2, 3, 4, 5, 6, 0, 1, 7] rfl rfl rfl rfl ?_)
  refine J_aload_n cx dX6_choose_6 rfl 0 rfl ?_
  refine J_iconst cx dX6_choose_7 ?_
  refine J_callV (C := RX6) (T := TX6) (N := 8) cx (As := [.int (iI 0)]) (rest := []) (mX6_zerosFor l X h hs hm2 gb af ak ar (bsize ch bl (n / ch) i) bc (rests rs f ch 0 (bfirst ch bl i) (mahead mf ch i) (bsize ch bl (n / ch) i)) 0 (by omega) (by omega) (fun j h5 h6 => by rw [rests_at ⟨h5, h6⟩]; exact rst_rng hf hmu ch _ _)) T326 T323 T325 S2 T3 ⟨rfl, hd_X6_zerosFor⟩ rfl ⟨Nat.le_of_ble_eq_true rfl, Nat.le_of_ble_eq_true rfl⟩ (Nat.le_of_ble_eq_true rfl) ⟨Nat.le_of_ble_eq_true rfl, Nat.le_of_ble_eq_true rfl⟩ [0, 7] [1, 2, 3, 4, 5, 6] rfl rfl rfl rfl rfl (by decide) 0 rfl rfl dX6_choose_8 rfl (J_f (ws' := [(h, .inr (6, [.ref hs, .ref hm2, .ref gb, .ref af, .ref ak, .ref ar, .int (iI (bsize ch bl (n / ch) i)), .int (iI bc)])), (hs, .inr (4, [.ref as_, .int (iI ch), .int (iI bl), .int (iI n)])), (as_, .inl (X.2.1, 800, .inl (aI f))), (hm2, .inr (3, [.ref am])), (am, .inl (X.2.1, 800, .inl (aI mf))), (af, .inl (X.2.1, 800, .inl (aI ff))), (ak, .inl (X.2.1, 800, .inl (aI kk))), (ar, .inl (X.2.1, 64, .inl (aI (rests rs f ch 0 (bfirst ch bl i) (mahead mf ch i) (bsize ch bl (n / ch) i)))))]) (st' := [.int (iI (zsum (rests rs f ch 0 (bfirst ch bl i) (mahead mf ch i) (bsize ch bl (n / ch) i)) 0 (bsize ch bl (n / ch) i)))]) [6, 0, 1, 2, 3, 4, 5, 7] rfl rfl rfl rfl ?_)
  refine J_top (b := (chZ f ch bl (n / ch) (mahead mf ch i) i)) (zsum_rests) ?_
  refine J_if_ne (tgt := 29) cx dX6_choose_11 (by decide) (by omega) (fun h_11 => ?_) (fun h_11 => ?_)
  · skip
    refine J_ldc cx T327 dX6_choose_29 ?_
    refine J_istore_n (lv' := [(2, .int (iI 2147483647)), (0, .ref h), (1, .int (iI i))]) cx dX6_choose_31 rfl (by decide) rfl ?_
    refine J_iconst cx dX6_choose_32 ?_
    refine J_istore_n (lv' := [(3, .int (iI 0)), (2, .int (iI 2147483647)), (0, .ref h), (1, .int (iI i))]) cx dX6_choose_33 rfl (by decide) rfl ?_
    refine J_loop5 (fun (fn : Int) (fe : Int) (ff2 : Int → Int) (kk2 : Int → Int) (r2 : Int → Int) => [(h, .inr (6, [.ref hs, .ref hm2, .ref gb, .ref af, .ref ak, .ref ar, .int (iI (bsize ch bl (n / ch) i)), .int (iI bc)])), (hs, .inr (4, [.ref as_, .int (iI ch), .int (iI bl), .int (iI n)])), (as_, .inl (X.2.1, 800, .inl (aI f))), (hm2, .inr (3, [.ref am])), (am, .inl (X.2.1, 800, .inl (aI mf))), (af, .inl (X.2.1, 800, .inl (aI ff2))), (ak, .inl (X.2.1, 800, .inl (aI kk2))), (ar, .inl (X.2.1, 64, .inl (aI r2)))]) (fun (fn : Int) (fe : Int) (ff2 : Int → Int) (kk2 : Int → Int) (r2 : Int → Int) => [(3, .int (iI fn)), (2, .int (iI fe)), (0, .ref h), (1, .int (iI i))]) (fun (fn : Int) (fe : Int) (ff2 : Int → Int) (kk2 : Int → Int) (r2 : Int → Int) => (0 ≤ fn ∧ fn ≤ 4) ∧ (0 ≤ fe ∧ fe ≤ 2147483647) ∧ (chS (cost f ch bl (n / ch) (mahead mf ch i) i) ff kk i (16 * fn) ff2 kk2 fe)) (fun (fn : Int) (fe : Int) (ff2 : Int → Int) (kk2 : Int → Int) (r2 : Int → Int) => (4 - fn).toNat) 0 2147483647 ff kk (rests rs f ch 0 (bfirst ch bl i) (mahead mf ch i) (bsize ch bl (n / ch) i)) ⟨(by omega), (by decide), (Or.inl ⟨by decide, rfl, rfl, rfl⟩)⟩ ?_
    intro fn fe ff2 kk2 r2 hI ih_34
    obtain ⟨hfn, hfe, hst⟩ := hI
    try dsimp only at hfn hfe hst
    refine J_iload_n cx dX6_choose_34 rfl 0 rfl ?_
    refine J_iconst cx dX6_choose_35 ?_
    refine J_icmp_ge (tgt := 118) cx dX6_choose_36 (by decide) (by omega) (by decide) (fun h_36 => ?_) (fun h_36 => ?_)
    · skip
      have hfn4 : fn = 4 := by omega
      have e12 : ff2 = upI ff i (chF f ch bl (n / ch) (mahead mf ch i) i) ∧ kk2 = upI kk i (chK f ch bl (n / ch) (mahead mf ch i) i) := by rcases hst with ⟨h5, -⟩ | ⟨-, e1, e2, -⟩; omega; (rw [e1, e2, hfn4]; unfold chF chK; rw [if_neg h_11, if_neg h_11]; exact ⟨rfl, rfl⟩)
      obtain ⟨e1, e2⟩ := e12
      subst e1
      subst e2
      exact J_vret cx hr dX6_choose_118 (⟨r2, rfl, rfl⟩)
    · skip
      refine J_aload_n cx dX6_choose_39 rfl 2 rfl ?_
      refine J_iload_n cx dX6_choose_40 rfl 3 rfl ?_
      refine J_iload_n cx dX6_choose_41 rfl 0 rfl ?_
      refine J_callV (C := RX6) (T := TX6) (N := 8) cx (As := [.int (iI i), .int (iI fn)]) (rest := []) (mX6_findRests l X h hs hm2 gb af ak ar (bsize ch bl (n / ch) i) bc as_ f ch bl n am mf r2 i fn (by omega) (by omega) (by omega) (by omega) (by omega) (hf) (hm) (by omega)) T307 T304 T306 S1 T3 ⟨rfl, hd_X6_findRests⟩ rfl ⟨Nat.le_of_ble_eq_true rfl, Nat.le_of_ble_eq_true rfl⟩ (Nat.le_of_ble_eq_true rfl) ⟨Nat.le_of_ble_eq_true rfl, Nat.le_of_ble_eq_true rfl⟩ [0, 1, 2, 3, 4, 7] [5, 6] rfl rfl rfl rfl rfl (by decide) 0 rfl rfl dX6_choose_42 rfl (J_f (ws' := [(h, .inr (6, [.ref hs, .ref hm2, .ref gb, .ref af, .ref ak, .ref ar, .int (iI (bsize ch bl (n / ch) i)), .int (iI bc)])), (hs, .inr (4, [.ref as_, .int (iI ch), .int (iI bl), .int (iI n)])), (as_, .inl (X.2.1, 800, .inl (aI f))), (hm2, .inr (3, [.ref am])), (am, .inl (X.2.1, 800, .inl (aI mf))), (af, .inl (X.2.1, 800, .inl (aI ff2))), (ak, .inl (X.2.1, 800, .inl (aI kk2))), (ar, .inl (X.2.1, 64, .inl (aI (rests r2 f ch fn (bfirst ch bl i) (mahead mf ch i) (bsize ch bl (n / ch) i)))))]) (st' := []) [2, 3, 4, 5, 6, 0, 1, 7] rfl rfl rfl rfl ?_)
      refine J_iconst cx dX6_choose_45 ?_
      refine J_istore (lv' := [(4, .int (iI 0)), (3, .int (iI fn)), (2, .int (iI fe)), (0, .ref h), (1, .int (iI i))]) cx dX6_choose_46 (by decide) rfl ?_
      refine J_loop4 (fun (k : Int) (fe2 : Int) (ff3 : Int → Int) (kk3 : Int → Int) => [(h, .inr (6, [.ref hs, .ref hm2, .ref gb, .ref af, .ref ak, .ref ar, .int (iI (bsize ch bl (n / ch) i)), .int (iI bc)])), (hs, .inr (4, [.ref as_, .int (iI ch), .int (iI bl), .int (iI n)])), (as_, .inl (X.2.1, 800, .inl (aI f))), (hm2, .inr (3, [.ref am])), (am, .inl (X.2.1, 800, .inl (aI mf))), (af, .inl (X.2.1, 800, .inl (aI ff3))), (ak, .inl (X.2.1, 800, .inl (aI kk3))), (ar, .inl (X.2.1, 64, .inl (aI (rests r2 f ch fn (bfirst ch bl i) (mahead mf ch i) (bsize ch bl (n / ch) i)))))]) (fun (k : Int) (fe2 : Int) (ff3 : Int → Int) (kk3 : Int → Int) => [(4, .int (iI k)), (3, .int (iI fn)), (2, .int (iI fe2)), (0, .ref h), (1, .int (iI i))]) (fun (k : Int) (fe2 : Int) (ff3 : Int → Int) (kk3 : Int → Int) => (0 ≤ k ∧ k ≤ 16) ∧ (0 ≤ fe2 ∧ fe2 ≤ 2147483647) ∧ (chS (cost f ch bl (n / ch) (mahead mf ch i) i) ff kk i (16 * fn + k) ff3 kk3 fe2)) (fun (k : Int) (fe2 : Int) (ff3 : Int → Int) (kk3 : Int → Int) => (16 - k).toNat) 0 fe ff2 kk2 ⟨(by omega), (by omega), (by rw [Int.add_zero]; exact hst)⟩ ?_
      intro k fe2 ff3 kk3 hI ih_48
      obtain ⟨hk, hfe2, hst2⟩ := hI
      try dsimp only at hk hfe2 hst2
      refine J_iload cx dX6_choose_48 0 rfl ?_
      refine J_bipush cx dX6_choose_50 (by decide) ?_
      refine J_icmp_gt (tgt := 112) cx dX6_choose_52 (by decide) (by omega) (by decide) (fun h_52 => ?_) (fun h_52 => ?_)
      · skip
        refine J_iinc (q := 1) (lv' := [(3, .int (iI (fn + 1))), (4, .int (iI k)), (2, .int (iI fe2)), (0, .ref h), (1, .int (iI i))]) cx dX6_choose_112 rfl (by decide) rfl ?_
        refine J_goto (tgt := 34) cx dX6_choose_115 (by decide) ?_
        refine J_lv (lv' := [(3, .int (iI (fn + 1))), (2, .int (iI fe2)), (0, .ref h), (1, .int (iI i))]) [0, 2, 3, 4] rfl ?_
        exact ih_34 (fn + 1) fe2 ff3 kk3 (rests r2 f ch fn (bfirst ch bl i) (mahead mf ch i) (bsize ch bl (n / ch) i)) ⟨(by omega), (by have := hcr fn k; omega), (by first | (rw [show 16 * (fn + 1) = 16 * fn + k by omega]; exact hst2) | exact chS_skip (N := 16 * fn + k) (by first | exact chS_lt hst2 (by omega) (by omega) rfl (by omega) | exact chS_ge hst2 (by omega) (by omega) rfl (by omega) (by have := hcr fn k (by omega) (by omega); omega)) (by omega) (by omega) rfl (fun t h5 h6 => cost_up hf hmu hbs (by omega) h5 h_100))⟩ (by omega)
      · skip
        refine J_aload_n cx dX6_choose_55 rfl 3 rfl ?_
        refine J_iload cx dX6_choose_56 0 rfl ?_
        refine J_callV (C := RX6) (T := TX6) (N := 8) cx (As := [.int (iI k)]) (rest := []) (mX6_zerosFor l X h hs hm2 gb af ak ar (bsize ch bl (n / ch) i) bc (rests r2 f ch fn (bfirst ch bl i) (mahead mf ch i) (bsize ch bl (n / ch) i)) k (by omega) (by omega) (fun j h5 h6 => by rw [rests_at ⟨h5, h6⟩]; exact rst_rng hf hmu ch _ _)) T326 T323 T325 S2 T3 ⟨rfl, hd_X6_zerosFor⟩ rfl ⟨Nat.le_of_ble_eq_true rfl, Nat.le_of_ble_eq_true rfl⟩ (Nat.le_of_ble_eq_true rfl) ⟨Nat.le_of_ble_eq_true rfl, Nat.le_of_ble_eq_true rfl⟩ [0, 7] [1, 2, 3, 4, 5, 6] rfl rfl rfl rfl rfl (by decide) 0 rfl rfl dX6_choose_58 rfl (J_f (ws' := [(h, .inr (6, [.ref hs, .ref hm2, .ref gb, .ref af, .ref ak, .ref ar, .int (iI (bsize ch bl (n / ch) i)), .int (iI bc)])), (hs, .inr (4, [.ref as_, .int (iI ch), .int (iI bl), .int (iI n)])), (as_, .inl (X.2.1, 800, .inl (aI f))), (hm2, .inr (3, [.ref am])), (am, .inl (X.2.1, 800, .inl (aI mf))), (af, .inl (X.2.1, 800, .inl (aI ff3))), (ak, .inl (X.2.1, 800, .inl (aI kk3))), (ar, .inl (X.2.1, 64, .inl (aI (rests r2 f ch fn (bfirst ch bl i) (mahead mf ch i) (bsize ch bl (n / ch) i)))))]) (st' := [.int (iI (zsum (rests r2 f ch fn (bfirst ch bl i) (mahead mf ch i) (bsize ch bl (n / ch) i)) k (bsize ch bl (n / ch) i)))]) [6, 0, 1, 2, 3, 4, 5, 7] rfl rfl rfl rfl ?_)
        refine J_top (b := (zsum (fun j => rst f ch fn (bfirst ch bl i + j * ch) (mahead mf ch i)) k (bsize ch bl (n / ch) i))) (zsum_rests) ?_
        refine J_istore (lv' := [(5, .int (iI (zsum (fun j => rst f ch fn (bfirst ch bl i + j * ch) (mahead mf ch i)) k (bsize ch bl (n / ch) i)))), (4, .int (iI k)), (3, .int (iI fn)), (2, .int (iI fe2)), (0, .ref h), (1, .int (iI i))]) cx dX6_choose_61 (by decide) rfl ?_
        refine J_aload_n cx dX6_choose_63 rfl 4 rfl ?_
        refine J_iload_n cx dX6_choose_64 rfl 2 rfl ?_
        refine J_iload cx dX6_choose_65 1 rfl ?_
        refine J_iload cx dX6_choose_67 0 rfl ?_
        refine J_callV (C := RX6) (T := TX6) (N := 8) cx (As := [.int (iI fn), .int (iI k), .int (iI (zsum (fun j => rst f ch fn (bfirst ch bl i + j * ch) (mahead mf ch i)) k (bsize ch bl (n / ch) i)))]) (rest := []) (mX6_bitsWith l X h hs hm2 gb af ak ar (bsize ch bl (n / ch) i) bc fn k (zsum (fun j => rst f ch fn (bfirst ch bl i + j * ch) (mahead mf ch i)) k (bsize ch bl (n / ch) i)) (by omega) (by omega)) T331 T328 T330 S3 T3 ⟨rfl, hd_X6_bitsWith⟩ rfl ⟨Nat.le_of_ble_eq_true rfl, Nat.le_of_ble_eq_true rfl⟩ (Nat.le_of_ble_eq_true rfl) ⟨Nat.le_of_ble_eq_true rfl, Nat.le_of_ble_eq_true rfl⟩ [0] [1, 2, 3, 4, 5, 6, 7] rfl rfl rfl rfl rfl (by decide) 0 rfl rfl dX6_choose_69 rfl (J_f (ws' := [(h, .inr (6, [.ref hs, .ref hm2, .ref gb, .ref af, .ref ak, .ref ar, .int (iI (bsize ch bl (n / ch) i)), .int (iI bc)])), (hs, .inr (4, [.ref as_, .int (iI ch), .int (iI bl), .int (iI n)])), (as_, .inl (X.2.1, 800, .inl (aI f))), (hm2, .inr (3, [.ref am])), (am, .inl (X.2.1, 800, .inl (aI mf))), (af, .inl (X.2.1, 800, .inl (aI ff3))), (ak, .inl (X.2.1, 800, .inl (aI kk3))), (ar, .inl (X.2.1, 64, .inl (aI (rests r2 f ch fn (bfirst ch bl i) (mahead mf ch i) (bsize ch bl (n / ch) i)))))]) (st' := [.int (iI (bcost fn k (zsum (fun j => rst f ch fn (bfirst ch bl i + j * ch) (mahead mf ch i)) k (bsize ch bl (n / ch) i)) (bsize ch bl (n / ch) i)))]) [7, 0, 1, 2, 3, 4, 5, 6] rfl rfl rfl rfl ?_)
        refine J_top (b := (cost f ch bl (n / ch) (mahead mf ch i) i fn k)) (rfl) ?_
        refine J_istore (lv' := [(6, .int (iI (cost f ch bl (n / ch) (mahead mf ch i) i fn k))), (5, .int (iI (zsum (fun j => rst f ch fn (bfirst ch bl i + j * ch) (mahead mf ch i)) k (bsize ch bl (n / ch) i)))), (4, .int (iI k)), (3, .int (iI fn)), (2, .int (iI fe2)), (0, .ref h), (1, .int (iI i))]) cx dX6_choose_72 (by decide) rfl ?_
        refine J_iload cx dX6_choose_74 0 rfl ?_
        refine J_iload_n cx dX6_choose_76 rfl 4 rfl ?_
        refine J_icmp_ge (tgt := 98) cx dX6_choose_77 (by decide) (by have := hcr fn k (by omega) (by omega); omega) (by omega) (fun h_77 => ?_) (fun h_77 => ?_)
        · skip
          refine J_iload cx dX6_choose_98 1 rfl ?_
          refine J_if_ne (tgt := 106) cx dX6_choose_100 (by decide) (by have := hzr fn k; omega) (fun h_100 => ?_) (fun h_100 => ?_)
          · skip
            refine J_iinc (q := 2) (lv' := [(4, .int (iI (k + 1))), (6, .int (iI (cost f ch bl (n / ch) (mahead mf ch i) i fn k))), (5, .int (iI (zsum (fun j => rst f ch fn (bfirst ch bl i + j * ch) (mahead mf ch i)) k (bsize ch bl (n / ch) i)))), (3, .int (iI fn)), (2, .int (iI fe2)), (0, .ref h), (1, .int (iI i))]) cx dX6_choose_106 rfl (by decide) rfl ?_
            refine J_goto (tgt := 48) cx dX6_choose_109 (by decide) ?_
            refine J_lv (lv' := [(4, .int (iI (k + 1))), (3, .int (iI fn)), (2, .int (iI fe2)), (0, .ref h), (1, .int (iI i))]) [0, 3, 4, 5, 6] rfl ?_
            exact ih_48 (k + 1) fe2 ff3 kk3 ⟨(by omega), (by have := hcr fn k; omega), (by rw [← Int.add_assoc]; first | exact chS_lt hst2 (by omega) (by omega) rfl (by omega) | exact chS_ge hst2 (by omega) (by omega) rfl (by omega) (by have := hcr fn k (by omega) (by omega); omega))⟩ (by omega)
          · skip
            refine J_goto (tgt := 112) cx dX6_choose_103 (by decide) ?_
            refine J_iinc (q := 3) (lv' := [(3, .int (iI (fn + 1))), (6, .int (iI (cost f ch bl (n / ch) (mahead mf ch i) i fn k))), (5, .int (iI (zsum (fun j => rst f ch fn (bfirst ch bl i + j * ch) (mahead mf ch i)) k (bsize ch bl (n / ch) i)))), (4, .int (iI k)), (2, .int (iI fe2)), (0, .ref h), (1, .int (iI i))]) cx dX6_choose_112 rfl (by decide) rfl ?_
            refine J_goto (tgt := 34) cx dX6_choose_115 (by decide) ?_
            refine J_lv (lv' := [(3, .int (iI (fn + 1))), (2, .int (iI fe2)), (0, .ref h), (1, .int (iI i))]) [0, 4, 5, 6] rfl ?_
            exact ih_34 (fn + 1) fe2 ff3 kk3 (rests r2 f ch fn (bfirst ch bl i) (mahead mf ch i) (bsize ch bl (n / ch) i)) ⟨(by omega), (by have := hcr fn k; omega), (by first | (rw [show 16 * (fn + 1) = 16 * fn + k by omega]; exact hst2) | exact chS_skip (N := 16 * fn + k) (by first | exact chS_lt hst2 (by omega) (by omega) rfl (by omega) | exact chS_ge hst2 (by omega) (by omega) rfl (by omega) (by have := hcr fn k (by omega) (by omega); omega)) (by omega) (by omega) rfl (fun t h5 h6 => cost_up hf hmu hbs (by omega) h5 h_100))⟩ (by omega)
        · skip
          refine J_iload cx dX6_choose_80 0 rfl ?_
          refine J_istore_n (lv' := [(2, .int (iI (cost f ch bl (n / ch) (mahead mf ch i) i fn k))), (6, .int (iI (cost f ch bl (n / ch) (mahead mf ch i) i fn k))), (5, .int (iI (zsum (fun j => rst f ch fn (bfirst ch bl i + j * ch) (mahead mf ch i)) k (bsize ch bl (n / ch) i)))), (4, .int (iI k)), (3, .int (iI fn)), (0, .ref h), (1, .int (iI i))]) cx dX6_choose_82 rfl (by decide) rfl ?_
          refine J_aload_n cx dX6_choose_83 rfl 5 rfl ?_
          refine J_get cx inC6 0 rfl rfl 3 (by decide) T103 rfl rfl dX6_choose_84 ?_
          refine J_iload_n cx dX6_choose_87 rfl 6 rfl ?_
          refine J_iload_n cx dX6_choose_88 rfl 4 rfl ?_
          refine J_iast (ws' := [(h, .inr (6, [.ref hs, .ref hm2, .ref gb, .ref af, .ref ak, .ref ar, .int (iI (bsize ch bl (n / ch) i)), .int (iI bc)])), (hs, .inr (4, [.ref as_, .int (iI ch), .int (iI bl), .int (iI n)])), (as_, .inl (X.2.1, 800, .inl (aI f))), (hm2, .inr (3, [.ref am])), (am, .inl (X.2.1, 800, .inl (aI mf))), (af, .inl (X.2.1, 800, .inl (aI (upI ff3 i fn)))), (ak, .inl (X.2.1, 800, .inl (aI kk3))), (ar, .inl (X.2.1, 64, .inl (aI (rests r2 f ch fn (bfirst ch bl i) (mahead mf ch i) (bsize ch bl (n / ch) i)))))]) cx 5 rfl (by omega) (by decide) rfl dX6_choose_89 ?_
          refine J_aload_n cx dX6_choose_90 rfl 5 rfl ?_
          refine J_get cx inC6 0 rfl rfl 4 (by decide) T105 rfl rfl dX6_choose_91 ?_
          refine J_iload_n cx dX6_choose_94 rfl 6 rfl ?_
          refine J_iload cx dX6_choose_95 3 rfl ?_
          refine J_iast (ws' := [(h, .inr (6, [.ref hs, .ref hm2, .ref gb, .ref af, .ref ak, .ref ar, .int (iI (bsize ch bl (n / ch) i)), .int (iI bc)])), (hs, .inr (4, [.ref as_, .int (iI ch), .int (iI bl), .int (iI n)])), (as_, .inl (X.2.1, 800, .inl (aI f))), (hm2, .inr (3, [.ref am])), (am, .inl (X.2.1, 800, .inl (aI mf))), (af, .inl (X.2.1, 800, .inl (aI (upI ff3 i fn)))), (ak, .inl (X.2.1, 800, .inl (aI (upI kk3 i k)))), (ar, .inl (X.2.1, 64, .inl (aI (rests r2 f ch fn (bfirst ch bl i) (mahead mf ch i) (bsize ch bl (n / ch) i)))))]) cx 6 rfl (by omega) (by decide) rfl dX6_choose_97 ?_
          refine J_iload cx dX6_choose_98 2 rfl ?_
          refine J_if_ne (tgt := 106) cx dX6_choose_100 (by decide) (by have := hzr fn k; omega) (fun h_100 => ?_) (fun h_100 => ?_)
          · skip
            refine J_iinc (q := 3) (lv' := [(4, .int (iI (k + 1))), (2, .int (iI (cost f ch bl (n / ch) (mahead mf ch i) i fn k))), (6, .int (iI (cost f ch bl (n / ch) (mahead mf ch i) i fn k))), (5, .int (iI (zsum (fun j => rst f ch fn (bfirst ch bl i + j * ch) (mahead mf ch i)) k (bsize ch bl (n / ch) i)))), (3, .int (iI fn)), (0, .ref h), (1, .int (iI i))]) cx dX6_choose_106 rfl (by decide) rfl ?_
            refine J_goto (tgt := 48) cx dX6_choose_109 (by decide) ?_
            refine J_lv (lv' := [(4, .int (iI (k + 1))), (3, .int (iI fn)), (2, .int (iI (cost f ch bl (n / ch) (mahead mf ch i) i fn k))), (0, .ref h), (1, .int (iI i))]) [0, 4, 1, 5, 6] rfl ?_
            exact ih_48 (k + 1) (cost f ch bl (n / ch) (mahead mf ch i) i fn k) (upI ff3 i fn) (upI kk3 i k) ⟨(by omega), (by have := hcr fn k; omega), (by rw [← Int.add_assoc]; first | exact chS_lt hst2 (by omega) (by omega) rfl (by omega) | exact chS_ge hst2 (by omega) (by omega) rfl (by omega) (by have := hcr fn k (by omega) (by omega); omega))⟩ (by omega)
          · skip
            refine J_goto (tgt := 112) cx dX6_choose_103 (by decide) ?_
            refine J_iinc (q := 4) (lv' := [(3, .int (iI (fn + 1))), (2, .int (iI (cost f ch bl (n / ch) (mahead mf ch i) i fn k))), (6, .int (iI (cost f ch bl (n / ch) (mahead mf ch i) i fn k))), (5, .int (iI (zsum (fun j => rst f ch fn (bfirst ch bl i + j * ch) (mahead mf ch i)) k (bsize ch bl (n / ch) i)))), (4, .int (iI k)), (0, .ref h), (1, .int (iI i))]) cx dX6_choose_112 rfl (by decide) rfl ?_
            refine J_goto (tgt := 34) cx dX6_choose_115 (by decide) ?_
            refine J_lv (lv' := [(3, .int (iI (fn + 1))), (2, .int (iI (cost f ch bl (n / ch) (mahead mf ch i) i fn k))), (0, .ref h), (1, .int (iI i))]) [0, 1, 5, 6] rfl ?_
            exact ih_34 (fn + 1) (cost f ch bl (n / ch) (mahead mf ch i) i fn k) (upI ff3 i fn) (upI kk3 i k) (rests r2 f ch fn (bfirst ch bl i) (mahead mf ch i) (bsize ch bl (n / ch) i)) ⟨(by omega), (by have := hcr fn k; omega), (by first | (rw [show 16 * (fn + 1) = 16 * fn + k by omega]; exact hst2) | exact chS_skip (N := 16 * fn + k) (by first | exact chS_lt hst2 (by omega) (by omega) rfl (by omega) | exact chS_ge hst2 (by omega) (by omega) rfl (by omega) (by have := hcr fn k (by omega) (by omega); omega)) (by omega) (by omega) rfl (fun t h5 h6 => cost_up hf hmu hbs (by omega) h5 h_100))⟩ (by omega)
  · skip
    refine J_aload_n cx dX6_choose_14 rfl 0 rfl ?_
    refine J_get cx inC6 0 rfl rfl 3 (by decide) T103 rfl rfl dX6_choose_15 ?_
    refine J_iload_n cx dX6_choose_18 rfl 1 rfl ?_
    refine J_iconst cx dX6_choose_19 ?_
    refine J_iast (ws' := [(h, .inr (6, [.ref hs, .ref hm2, .ref gb, .ref af, .ref ak, .ref ar, .int (iI (bsize ch bl (n / ch) i)), .int (iI bc)])), (hs, .inr (4, [.ref as_, .int (iI ch), .int (iI bl), .int (iI n)])), (as_, .inl (X.2.1, 800, .inl (aI f))), (hm2, .inr (3, [.ref am])), (am, .inl (X.2.1, 800, .inl (aI mf))), (af, .inl (X.2.1, 800, .inl (aI (upI ff i 4)))), (ak, .inl (X.2.1, 800, .inl (aI kk))), (ar, .inl (X.2.1, 64, .inl (aI (rests rs f ch 0 (bfirst ch bl i) (mahead mf ch i) (bsize ch bl (n / ch) i)))))]) cx 5 rfl (by omega) (by decide) rfl dX6_choose_20 ?_
    refine J_aload_n cx dX6_choose_21 rfl 0 rfl ?_
    refine J_get cx inC6 0 rfl rfl 4 (by decide) T105 rfl rfl dX6_choose_22 ?_
    refine J_iload_n cx dX6_choose_25 rfl 1 rfl ?_
    refine J_iconst cx dX6_choose_26 ?_
    refine J_iast (ws' := [(h, .inr (6, [.ref hs, .ref hm2, .ref gb, .ref af, .ref ak, .ref ar, .int (iI (bsize ch bl (n / ch) i)), .int (iI bc)])), (hs, .inr (4, [.ref as_, .int (iI ch), .int (iI bl), .int (iI n)])), (as_, .inl (X.2.1, 800, .inl (aI f))), (hm2, .inr (3, [.ref am])), (am, .inl (X.2.1, 800, .inl (aI mf))), (af, .inl (X.2.1, 800, .inl (aI (upI ff i 4)))), (ak, .inl (X.2.1, 800, .inl (aI (upI kk i (-1))))), (ar, .inl (X.2.1, 64, .inl (aI (rests rs f ch 0 (bfirst ch bl i) (mahead mf ch i) (bsize ch bl (n / ch) i)))))]) cx 6 rfl (by omega) (by decide) rfl dX6_choose_27 ?_
    exact J_vret cx hr dX6_choose_28 (by have eF : chF f ch bl (n / ch) (mahead mf ch i) i = 4 := (by unfold chF; rw [if_pos h_11]); have eK : chK f ch bl (n / ch) (mahead mf ch i) i = -1 := (by unfold chK; rw [if_pos h_11]); rw [eF, eK]; exact ⟨_, rfl, rfl⟩)
