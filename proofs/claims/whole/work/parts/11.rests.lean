set_option maxHeartbeats 4000000 in
set_option maxRecDepth 100000 in
theorem mX6_findRests (l : Launch) (X : GX) (h : Nat) (hs : Nat) (hm2 : Nat) (gb : Nat) (af : Nat) (ak : Nat) (ar : Nat) (rc : Int) (bc : Int) (as_ : Nat) (f : Int → Int) (ch : Int) (bl : Int) (n : Int) (am : Nat) (mf : Int → Int) (rs : Int → Int) (i : Int) (fn : Int) (hc : 1 ≤ ch ∧ ch ≤ 2) (hn : 0 ≤ n ∧ n ≤ 800) (hb : 1 ≤ bl ∧ bl ≤ 64) (hi : 0 ≤ i ∧ i < 800) (hib : 0 ≤ i / ch * bl ∧ i / ch * bl < n / ch) (hf : ∀ j, -32768 ≤ f j ∧ f j ≤ 32767) (hm : ∀ j, -32768 ≤ mf j ∧ mf j ≤ 32767) (hfn : 0 ≤ fn ∧ fn ≤ 4) : Ct l yX6_findRests cX6_findRests 6 none 3 68 0 0 X [.ref h, .int (iI i), .int (iI fn)] [(h, .inr (6, [.ref hs, .ref hm2, .ref gb, .ref af, .ref ak, .ref ar, .int (iI rc), .int (iI bc)])), (hs, .inr (4, [.ref as_, .int (iI ch), .int (iI bl), .int (iI n)])), (as_, .inl (X.2.1, 800, .inl (aI f))), (hm2, .inr (3, [.ref am])), (am, .inl (X.2.1, 800, .inl (aI mf))), (ar, .inl (X.2.1, 64, .inl (aI rs)))] (fun1 none [(h, .inr (6, [.ref hs, .ref hm2, .ref gb, .ref af, .ref ak, .ref ar, .int (iI (bsize ch bl (n / ch) i)), .int (iI bc)])), (hs, .inr (4, [.ref as_, .int (iI ch), .int (iI bl), .int (iI n)])), (as_, .inl (X.2.1, 800, .inl (aI f))), (hm2, .inr (3, [.ref am])), (am, .inl (X.2.1, 800, .inl (aI mf))), (ar, .inl (X.2.1, 64, .inl (aI (rests rs f ch fn (bfirst ch bl i) (mahead mf ch i) (bsize ch bl (n / ch) i)))))]) := by
  refine Ct_of (own := RX6) (lv := [(0, .ref h), (1, .int (iI i)), (2, .int (iI fn))]) (by decide +kernel) rfl (Nat.le_of_ble_eq_true rfl) rfl ?_
  intro p e s m args below meth c A cx hr hin
  have hbs := bsize_rng (i := i) (ch := ch) (bl := bl) (many := n / ch) hb hib.2
  have hd1 := half_rng hc hn
  have hmu := mahead_rng hm ch i
  refine J_aload_n cx dX6_findRests_0 rfl 0 rfl ?_
  refine J_get cx inC6 0 rfl rfl 1 (by decide) T100 rfl rfl dX6_findRests_1 ?_
  refine J_iload_n cx dX6_findRests_4 rfl 1 rfl ?_
  refine J_aload_n cx dX6_findRests_5 rfl 0 rfl ?_
  refine J_get cx inC6 0 rfl rfl 0 (by decide) T98 rfl rfl dX6_findRests_6 ?_
  refine J_getN cx inC4 1 rfl rfl 1 (by decide) T28 rfl rfl dX6_findRests_9 ?_
  refine J_callV (C := RX3) (T := TX3) (N := 1) cx (As := [.int (iI i), .int (iI ch)]) (rest := []) (mX3_ahead l X hm2 am mf i ch (by omega) (by omega) (hm)) T311 T308 T309 T310 T4 ⟨rfl, hd_X3_ahead⟩ rfl ⟨Nat.le_of_ble_eq_true rfl, Nat.le_of_ble_eq_true rfl⟩ (Nat.le_of_ble_eq_true rfl) ⟨Nat.le_of_ble_eq_true rfl, Nat.le_of_ble_eq_true rfl⟩ [3, 4] [0, 1, 2, 5] rfl rfl rfl rfl rfl (by decide) 3 rfl rfl dX6_findRests_12 rfl (J_f (ws' := [(h, .inr (6, [.ref hs, .ref hm2, .ref gb, .ref af, .ref ak, .ref ar, .int (iI rc), .int (iI bc)])), (hs, .inr (4, [.ref as_, .int (iI ch), .int (iI bl), .int (iI n)])), (as_, .inl (X.2.1, 800, .inl (aI f))), (hm2, .inr (3, [.ref am])), (am, .inl (X.2.1, 800, .inl (aI mf))), (ar, .inl (X.2.1, 64, .inl (aI rs)))]) (st' := [.int (iI (mahead mf ch i))]) [0, 1, 2, 4, 5, 3] rfl rfl rfl rfl ?_)
  refine J_istore_n (lv' := [(3, .int (iI (mahead mf ch i))), (0, .ref h), (1, .int (iI i)), (2, .int (iI fn))]) cx dX6_findRests_15 rfl (by decide) rfl ?_
  refine J_aload_n cx dX6_findRests_16 rfl 1 rfl ?_
  refine J_get cx inC6 0 rfl rfl 0 (by decide) T98 rfl rfl dX6_findRests_17 ?_
  refine J_iload_n cx dX6_findRests_20 rfl 2 rfl ?_
  refine J_callV (C := RX4) (T := TX4) (N := 4) cx (As := [.int (iI i)]) (rest := []) (mX4_firstPlace l X hs as_ f ch bl n i (by omega) (by omega)) T285 T312 T283 T284 T2 ⟨rfl, hd_X4_firstPlace⟩ rfl ⟨Nat.le_of_ble_eq_true rfl, Nat.le_of_ble_eq_true rfl⟩ (Nat.le_of_ble_eq_true rfl) ⟨Nat.le_of_ble_eq_true rfl, Nat.le_of_ble_eq_true rfl⟩ [1, 2] [0, 3, 4, 5] rfl rfl rfl rfl rfl (by decide) 1 rfl rfl dX6_findRests_21 rfl (J_f (ws' := [(h, .inr (6, [.ref hs, .ref hm2, .ref gb, .ref af, .ref ak, .ref ar, .int (iI rc), .int (iI bc)])), (hs, .inr (4, [.ref as_, .int (iI ch), .int (iI bl), .int (iI n)])), (as_, .inl (X.2.1, 800, .inl (aI f))), (hm2, .inr (3, [.ref am])), (am, .inl (X.2.1, 800, .inl (aI mf))), (ar, .inl (X.2.1, 64, .inl (aI rs)))]) (st' := [.int (iI (bfirst ch bl i))]) [0, 4, 5, 1, 2, 3] rfl rfl rfl rfl ?_)
  refine J_istore (lv' := [(4, .int (iI (bfirst ch bl i))), (3, .int (iI (mahead mf ch i))), (0, .ref h), (1, .int (iI i)), (2, .int (iI fn))]) cx dX6_findRests_24 (by decide) rfl ?_
  refine J_aload_n cx dX6_findRests_26 rfl 2 rfl ?_
  refine J_aload_n cx dX6_findRests_27 rfl 2 rfl ?_
  refine J_get cx inC6 0 rfl rfl 0 (by decide) T98 rfl rfl dX6_findRests_28 ?_
  refine J_iload_n cx dX6_findRests_31 rfl 3 rfl ?_
  refine J_callV (C := RX4) (T := TX4) (N := 4) cx (As := [.int (iI i)]) (rest := [.ref h]) (mX4_blockSize l X hs as_ f ch bl n i (by omega) (by omega) (by omega) (by omega) (by omega)) T276 T313 T274 T275 T2 ⟨rfl, hd_X4_blockSize⟩ rfl ⟨Nat.le_of_ble_eq_true rfl, Nat.le_of_ble_eq_true rfl⟩ (Nat.le_of_ble_eq_true rfl) ⟨Nat.le_of_ble_eq_true rfl, Nat.le_of_ble_eq_true rfl⟩ [1, 2] [0, 3, 4, 5] rfl rfl rfl rfl rfl (by decide) 1 rfl rfl dX6_findRests_32 rfl (J_f (ws' := [(h, .inr (6, [.ref hs, .ref hm2, .ref gb, .ref af, .ref ak, .ref ar, .int (iI rc), .int (iI bc)])), (hs, .inr (4, [.ref as_, .int (iI ch), .int (iI bl), .int (iI n)])), (as_, .inl (X.2.1, 800, .inl (aI f))), (hm2, .inr (3, [.ref am])), (am, .inl (X.2.1, 800, .inl (aI mf))), (ar, .inl (X.2.1, 64, .inl (aI rs)))]) (st' := [.int (iI (bsize ch bl (n / ch) i)), .ref h]) [0, 4, 5, 1, 2, 3] rfl rfl rfl rfl ?_)
  refine J_bipush cx dX6_findRests_35 (by decide) ?_
  refine J_callS cx (As := [.int (iI (bsize ch bl (n / ch) i)), .int (iI 64)]) (rest := [.ref h]) (mJ9_min_7cf53 l X (bsize ch bl (n / ch) i) 64 (by omega) (by omega)) T242 T240 T241 T11 hd_J9_min_7cf53 rfl ⟨Nat.le_of_ble_eq_true rfl, Nat.le_of_ble_eq_true rfl⟩ (Nat.le_of_ble_eq_true rfl) ⟨Nat.le_of_ble_eq_true rfl, Nat.le_of_ble_eq_true rfl⟩ [] [0, 1, 2, 3, 4, 5] rfl rfl rfl rfl rfl (by decide) dX6_findRests_37 rfl (J_f (ws' := [(h, .inr (6, [.ref hs, .ref hm2, .ref gb, .ref af, .ref ak, .ref ar, .int (iI rc), .int (iI bc)])), (hs, .inr (4, [.ref as_, .int (iI ch), .int (iI bl), .int (iI n)])), (as_, .inl (X.2.1, 800, .inl (aI f))), (hm2, .inr (3, [.ref am])), (am, .inl (X.2.1, 800, .inl (aI mf))), (ar, .inl (X.2.1, 64, .inl (aI rs)))]) (st' := [.int (iI (mnI (bsize ch bl (n / ch) i) 64)), .ref h]) [0, 1, 2, 3, 4, 5] rfl rfl rfl rfl ?_)
  refine J_top (b := (bsize ch bl (n / ch) i)) (by unfold mnI; rw [if_neg (by omega)]) ?_
  refine J_put (ty := .int) (ws' := [(h, .inr (6, [.ref hs, .ref hm2, .ref gb, .ref af, .ref ak, .ref ar, .int (iI (bsize ch bl (n / ch) i)), .int (iI bc)])), (hs, .inr (4, [.ref as_, .int (iI ch), .int (iI bl), .int (iI n)])), (as_, .inl (X.2.1, 800, .inl (aI f))), (hm2, .inr (3, [.ref am])), (am, .inl (X.2.1, 800, .inl (aI mf))), (ar, .inl (X.2.1, 64, .inl (aI rs)))]) cx inC6 tyX6_ok nmX6 0 rfl rfl 6 (by decide) T108 rfl rfl (by decide +kernel) (rfl) (rfl) (Nat.le_of_ble_eq_true rfl) rfl dX6_findRests_40 ?_
  refine J_iconst cx dX6_findRests_43 ?_
  refine J_istore (lv' := [(5, .int (iI 0)), (4, .int (iI (bfirst ch bl i))), (3, .int (iI (mahead mf ch i))), (0, .ref h), (1, .int (iI i)), (2, .int (iI fn))]) cx dX6_findRests_44 (by decide) rfl ?_
  refine J_loop3 (fun (j : Int) (pl : Int) (r2 : Int → Int) => [(h, .inr (6, [.ref hs, .ref hm2, .ref gb, .ref af, .ref ak, .ref ar, .int (iI (bsize ch bl (n / ch) i)), .int (iI bc)])), (hs, .inr (4, [.ref as_, .int (iI ch), .int (iI bl), .int (iI n)])), (as_, .inl (X.2.1, 800, .inl (aI f))), (hm2, .inr (3, [.ref am])), (am, .inl (X.2.1, 800, .inl (aI mf))), (ar, .inl (X.2.1, 64, .inl (aI r2)))]) (fun (j : Int) (pl : Int) (r2 : Int → Int) => [(5, .int (iI j)), (4, .int (iI pl)), (3, .int (iI (mahead mf ch i))), (0, .ref h), (1, .int (iI i)), (2, .int (iI fn))]) (fun (j : Int) (pl : Int) (r2 : Int → Int) => (0 ≤ j ∧ j ≤ bsize ch bl (n / ch) i) ∧ (pl = bfirst ch bl i + j * ch) ∧ (r2 = rests rs f ch fn (bfirst ch bl i) (mahead mf ch i) j)) (fun (j : Int) (pl : Int) (r2 : Int → Int) => (bsize ch bl (n / ch) i - j).toNat) 0 (bfirst ch bl i) rs ⟨(by omega), (by omega), ((rests_0 _ _ _ _ _ _).symm)⟩ ?_
  intro j pl r2 hI ih_46
  obtain ⟨hj, hpl, hr2⟩ := hI
  try dsimp only at hj hpl hr2
  refine J_iload cx dX6_findRests_46 0 rfl ?_
  refine J_aload_n cx dX6_findRests_48 rfl 3 rfl ?_
  refine J_get cx inC6 0 rfl rfl 6 (by decide) T108 rfl rfl dX6_findRests_49 ?_
  refine J_icmp_ge (tgt := 104) cx dX6_findRests_52 (by decide) (by omega) (by omega) (fun h_52 => ?_) (fun h_52 => ?_)
  · skip
    refine J_ws (ws' := [(h, .inr (6, [.ref hs, .ref hm2, .ref gb, .ref af, .ref ak, .ref ar, .int (iI (bsize ch bl (n / ch) i)), .int (iI bc)])), (hs, .inr (4, [.ref as_, .int (iI ch), .int (iI bl), .int (iI n)])), (as_, .inl (X.2.1, 800, .inl (aI f))), (hm2, .inr (3, [.ref am])), (am, .inl (X.2.1, 800, .inl (aI mf))), (ar, .inl (X.2.1, 64, .inl (aI (rests rs f ch fn (bfirst ch bl i) (mahead mf ch i) (bsize ch bl (n / ch) i)))))]) (by rw [← show (r2) = rests rs f ch fn (bfirst ch bl i) (mahead mf ch i) (bsize ch bl (n / ch) i) from by rw [hr2, show j = bsize ch bl (n / ch) i by omega]]) ?_
    exact J_vret cx hr dX6_findRests_104 ⟨rfl, rfl⟩
  · skip
    have h_in := blk_in (ch := ch) (bl := bl) (n := n) (i := i) (j := j) hc hn.1 hib.1 hi.1 (by omega) (by omega)
    rw [← hpl] at h_in
    refine J_aload_n cx dX6_findRests_55 rfl 3 rfl ?_
    refine J_get cx inC6 0 rfl rfl 5 (by decide) T107 rfl rfl dX6_findRests_56 ?_
    refine J_iload cx dX6_findRests_59 0 rfl ?_
    refine J_aload_n cx dX6_findRests_61 rfl 3 rfl ?_
    refine J_get cx inC6 0 rfl rfl 0 (by decide) T98 rfl rfl dX6_findRests_62 ?_
    refine J_iload cx dX6_findRests_65 1 rfl ?_
    refine J_callV (C := RX4) (T := TX4) (N := 4) cx (As := [.int (iI pl)]) (rest := [.int (iI j), .ref ar]) (mX4_sampleAt l X hs as_ f ch bl n pl (by omega) (by omega)) T293 T314 T291 T292 T2 ⟨rfl, hd_X4_sampleAt⟩ rfl ⟨Nat.le_of_ble_eq_true rfl, Nat.le_of_ble_eq_true rfl⟩ (Nat.le_of_ble_eq_true rfl) ⟨Nat.le_of_ble_eq_true rfl, Nat.le_of_ble_eq_true rfl⟩ [1, 2] [0, 3, 4, 5] rfl rfl rfl rfl rfl (by decide) 1 rfl rfl dX6_findRests_67 rfl (J_f (ws' := [(h, .inr (6, [.ref hs, .ref hm2, .ref gb, .ref af, .ref ak, .ref ar, .int (iI (bsize ch bl (n / ch) i)), .int (iI bc)])), (hs, .inr (4, [.ref as_, .int (iI ch), .int (iI bl), .int (iI n)])), (as_, .inl (X.2.1, 800, .inl (aI f))), (hm2, .inr (3, [.ref am])), (am, .inl (X.2.1, 800, .inl (aI mf))), (ar, .inl (X.2.1, 64, .inl (aI r2)))]) (st' := [.int (iI (smpA f n pl)), .int (iI j), .ref ar]) [0, 4, 5, 1, 2, 3] rfl rfl rfl rfl ?_)
    refine J_aload_n cx dX6_findRests_70 rfl 3 rfl ?_
    refine J_get cx inC6 0 rfl rfl 0 (by decide) T98 rfl rfl dX6_findRests_71 ?_
    refine J_iload_n cx dX6_findRests_74 rfl 5 rfl ?_
    refine J_iload cx dX6_findRests_75 1 rfl ?_
    refine J_iload_n cx dX6_findRests_77 rfl 2 rfl ?_
    refine J_callV (C := RX4) (T := TX4) (N := 4) cx (As := [.int (iI fn), .int (iI pl), .int (iI (mahead mf ch i))]) (rest := [.int (iI (smpA f n pl)), .int (iI j), .ref ar]) (mX4_toldAhead l X hs as_ f ch bl n fn pl (mahead mf ch i) (by omega) (by omega) (by omega) (by omega)) T318 T315 T316 T317 T2 ⟨rfl, hd_X4_toldAhead⟩ rfl ⟨Nat.le_of_ble_eq_true rfl, Nat.le_of_ble_eq_true rfl⟩ (Nat.le_of_ble_eq_true rfl) ⟨Nat.le_of_ble_eq_true rfl, Nat.le_of_ble_eq_true rfl⟩ [1, 2] [0, 3, 4, 5] rfl rfl rfl rfl rfl (by decide) 1 rfl rfl dX6_findRests_78 rfl (J_f (ws' := [(h, .inr (6, [.ref hs, .ref hm2, .ref gb, .ref af, .ref ak, .ref ar, .int (iI (bsize ch bl (n / ch) i)), .int (iI bc)])), (hs, .inr (4, [.ref as_, .int (iI ch), .int (iI bl), .int (iI n)])), (as_, .inl (X.2.1, 800, .inl (aI f))), (hm2, .inr (3, [.ref am])), (am, .inl (X.2.1, 800, .inl (aI mf))), (ar, .inl (X.2.1, 64, .inl (aI r2)))]) (st' := [.int (iI (tah f ch fn pl (mahead mf ch i))), .int (iI (smpA f n pl)), .int (iI j), .ref ar]) [0, 4, 5, 1, 2, 3] rfl rfl rfl rfl ?_)
    refine J_isub cx dX6_findRests_81 ?_
    refine J_callSN cx (As := [.int (iI ((smpA f n pl) - (tah f ch fn pl (mahead mf ch i))))]) (rest := [.int (iI j), .ref ar]) (mX7_fold l X ((smpA f n pl) - (tah f ch fn pl (mahead mf ch i))) (by have h5 := tah_rng hf hmu ch fn pl; have h6 := hf pl; rw [smpA_in h_in]; omega)) T322 T320 T321 T1 hd_X7_fold rfl ⟨Nat.le_of_ble_eq_true rfl, Nat.le_of_ble_eq_true rfl⟩ (Nat.le_of_ble_eq_true rfl) ⟨Nat.le_of_ble_eq_true rfl, Nat.le_of_ble_eq_true rfl⟩ [] [0, 1, 2, 3, 4, 5] rfl rfl rfl rfl rfl (by decide) dX6_findRests_82 rfl (J_f (ws' := [(h, .inr (6, [.ref hs, .ref hm2, .ref gb, .ref af, .ref ak, .ref ar, .int (iI (bsize ch bl (n / ch) i)), .int (iI bc)])), (hs, .inr (4, [.ref as_, .int (iI ch), .int (iI bl), .int (iI n)])), (as_, .inl (X.2.1, 800, .inl (aI f))), (hm2, .inr (3, [.ref am])), (am, .inl (X.2.1, 800, .inl (aI mf))), (ar, .inl (X.2.1, 64, .inl (aI r2)))]) (st' := [.int (iI (foldI ((smpA f n pl) - (tah f ch fn pl (mahead mf ch i))))), .int (iI j), .ref ar]) [0, 1, 2, 3, 4, 5] rfl rfl rfl rfl ?_)
    refine J_iast (ws' := [(h, .inr (6, [.ref hs, .ref hm2, .ref gb, .ref af, .ref ak, .ref ar, .int (iI (bsize ch bl (n / ch) i)), .int (iI bc)])), (hs, .inr (4, [.ref as_, .int (iI ch), .int (iI bl), .int (iI n)])), (as_, .inl (X.2.1, 800, .inl (aI f))), (hm2, .inr (3, [.ref am])), (am, .inl (X.2.1, 800, .inl (aI mf))), (ar, .inl (X.2.1, 64, .inl (aI (upI r2 j (foldI ((smpA f n pl) - (tah f ch fn pl (mahead mf ch i))))))))]) cx 5 rfl (by omega) (by decide) rfl dX6_findRests_85 ?_
    refine J_iload cx dX6_findRests_86 1 rfl ?_
    refine J_aload_n cx dX6_findRests_88 rfl 3 rfl ?_
    refine J_get cx inC6 0 rfl rfl 0 (by decide) T98 rfl rfl dX6_findRests_89 ?_
    refine J_getN cx inC4 1 rfl rfl 1 (by decide) T28 rfl rfl dX6_findRests_92 ?_
    refine J_iadd cx dX6_findRests_95 ?_
    refine J_istore (lv' := [(4, .int (iI (pl + ch))), (5, .int (iI j)), (3, .int (iI (mahead mf ch i))), (0, .ref h), (1, .int (iI i)), (2, .int (iI fn))]) cx dX6_findRests_96 (by decide) rfl ?_
    refine J_iinc (q := 1) (lv' := [(5, .int (iI (j + 1))), (4, .int (iI (pl + ch))), (3, .int (iI (mahead mf ch i))), (0, .ref h), (1, .int (iI i)), (2, .int (iI fn))]) cx dX6_findRests_98 rfl (by decide) rfl ?_
    refine J_goto (tgt := 46) cx dX6_findRests_101 (by decide) ?_
    exact ih_46 (j + 1) (pl + ch) (upI r2 j (foldI ((smpA f n pl) - (tah f ch fn pl (mahead mf ch i))))) ⟨(by omega), (by rw [hpl, Int.add_mul]; omega), (by rw [hr2, smpA_in h_in, hpl]; exact rests_s (by omega))⟩ (by omega)
set_option maxHeartbeats 4000000 in
set_option maxRecDepth 100000 in
theorem mX6_zerosFor (l : Launch) (X : GX) (h : Nat) (hs : Nat) (hm2 : Nat) (gb : Nat) (af : Nat) (ak : Nat) (ar : Nat) (rc : Int) (bc : Int) (rs : Int → Int) (k : Int) (hrc : 0 ≤ rc ∧ rc ≤ 64) (hk : 0 ≤ k ∧ k ≤ 15) (hrs : ∀ j, 0 ≤ j → j < rc → 0 ≤ rs j ∧ rs j ≤ 600000) : Ct l yX6_zerosFor cX6_zerosFor 4 (some .int) 0 0 0 0 X [.ref h, .int (iI k)] [(h, .inr (6, [.ref hs, .ref hm2, .ref gb, .ref af, .ref ak, .ref ar, .int (iI rc), .int (iI bc)])), (ar, .inl (X.2.1, 64, .inl (aI rs)))] (fun1 (some (.int (iI (zsum rs k rc)))) [(h, .inr (6, [.ref hs, .ref hm2, .ref gb, .ref af, .ref ak, .ref ar, .int (iI rc), .int (iI bc)])), (ar, .inl (X.2.1, 64, .inl (aI rs)))]) := by
  refine Ct_of (own := RX6) (lv := [(0, .ref h), (1, .int (iI k))]) (by decide +kernel) rfl (Nat.le_of_ble_eq_true rfl) rfl ?_
  intro p e s m args below meth c A cx hr hin
  refine J_iconst cx dX6_zerosFor_0 ?_
  refine J_istore_n (lv' := [(2, .int (iI 0)), (0, .ref h), (1, .int (iI k))]) cx dX6_zerosFor_1 rfl (by decide) rfl ?_
  refine J_iconst cx dX6_zerosFor_2 ?_
  refine J_istore_n (lv' := [(3, .int (iI 0)), (2, .int (iI 0)), (0, .ref h), (1, .int (iI k))]) cx dX6_zerosFor_3 rfl (by decide) rfl ?_
  refine J_loop2 (fun (z : Int) (j : Int) => [(h, .inr (6, [.ref hs, .ref hm2, .ref gb, .ref af, .ref ak, .ref ar, .int (iI rc), .int (iI bc)])), (ar, .inl (X.2.1, 64, .inl (aI rs)))]) (fun (z : Int) (j : Int) => [(3, .int (iI j)), (2, .int (iI z)), (0, .ref h), (1, .int (iI k))]) (fun (z : Int) (j : Int) => (0 ≤ j ∧ j ≤ rc) ∧ (z = zsum rs k j)) (fun (z : Int) (j : Int) => (rc - j).toNat) 0 0 ⟨(by omega), (rfl)⟩ ?_
  intro z j hI ih_4
  obtain ⟨hj, hz⟩ := hI
  try dsimp only at hj hz
  refine J_iload_n cx dX6_zerosFor_4 rfl 0 rfl ?_
  refine J_aload_n cx dX6_zerosFor_5 rfl 2 rfl ?_
  refine J_get cx inC6 0 rfl rfl 6 (by decide) T108 rfl rfl dX6_zerosFor_6 ?_
  refine J_icmp_ge (tgt := 29) cx dX6_zerosFor_9 (by decide) (by omega) (by omega) (fun h_9 => ?_) (fun h_9 => ?_)
  · skip
    refine J_iload_n cx dX6_zerosFor_29 rfl 1 rfl ?_
    refine J_top (b := (zsum rs k rc)) (by rw [hz, show j = rc by omega]) ?_
    exact J_iret cx hr dX6_zerosFor_30 ⟨rfl, rfl⟩
  · skip
    refine J_iload_n cx dX6_zerosFor_12 rfl 1 rfl ?_
    refine J_aload_n cx dX6_zerosFor_13 rfl 2 rfl ?_
    refine J_get cx inC6 0 rfl rfl 5 (by decide) T107 rfl rfl dX6_zerosFor_14 ?_
    refine J_iload_n cx dX6_zerosFor_17 rfl 0 rfl ?_
    refine J_iald cx 1 rfl (by omega) (by decide) dX6_zerosFor_18 ?_
    refine J_iload_n cx dX6_zerosFor_19 rfl 3 rfl ?_
    refine J_ishr cx dX6_zerosFor_20 (by have := hrs j (by omega) (by omega); omega) (by omega) ?_
    refine J_iadd cx dX6_zerosFor_21 ?_
    refine J_istore_n (lv' := [(2, .int (iI (z + ((rs j) / p2 k)))), (3, .int (iI j)), (0, .ref h), (1, .int (iI k))]) cx dX6_zerosFor_22 rfl (by decide) rfl ?_
    refine J_iinc (q := 1) (lv' := [(3, .int (iI (j + 1))), (2, .int (iI (z + ((rs j) / p2 k)))), (0, .ref h), (1, .int (iI k))]) cx dX6_zerosFor_23 rfl (by decide) rfl ?_
    refine J_goto (tgt := 4) cx dX6_zerosFor_26 (by decide) ?_
    exact ih_4 (z + ((rs j) / p2 k)) (j + 1) ⟨(by omega), (by rw [zsum_s (by omega), hz])⟩ (by omega)
set_option maxHeartbeats 4000000 in
set_option maxRecDepth 100000 in
theorem mX6_bitsWith (l : Launch) (X : GX) (h : Nat) (hs : Nat) (hm2 : Nat) (gb : Nat) (af : Nat) (ak : Nat) (ar : Nat) (rc : Int) (bc : Int) (fn : Int) (k : Int) (z : Int) (hfn : 0 ≤ fn ∧ fn ≤ 4) (hk : 0 ≤ k ∧ k ≤ 15) : Ct l yX6_bitsWith cX6_bitsWith 4 (some .int) 1 21 0 0 X [.ref h, .int (iI fn), .int (iI k), .int (iI z)] [(h, .inr (6, [.ref hs, .ref hm2, .ref gb, .ref af, .ref ak, .ref ar, .int (iI rc), .int (iI bc)]))] (fun1 (some (.int (iI (bcost fn k z rc)))) [(h, .inr (6, [.ref hs, .ref hm2, .ref gb, .ref af, .ref ak, .ref ar, .int (iI rc), .int (iI bc)]))]) := by
  refine Ct_of (own := RX6) (lv := [(0, .ref h), (1, .int (iI fn)), (2, .int (iI k)), (3, .int (iI z))]) (by decide +kernel) rfl (Nat.le_of_ble_eq_true rfl) rfl ?_
  intro p e s m args below meth c A cx hr hin
  refine J_iconst cx dX6_bitsWith_0 ?_
  refine J_iload_n cx dX6_bitsWith_1 rfl 1 rfl ?_
  refine J_callSN cx (As := [.int (iI 2), .int (iI fn)]) (rest := []) (mX7_numberBits l X 2 fn (by omega) (by omega)) T334 T332 T333 T1 hd_X7_numberBits rfl ⟨Nat.le_of_ble_eq_true rfl, Nat.le_of_ble_eq_true rfl⟩ (Nat.le_of_ble_eq_true rfl) ⟨Nat.le_of_ble_eq_true rfl, Nat.le_of_ble_eq_true rfl⟩ [] [0] rfl rfl rfl rfl rfl (by decide) dX6_bitsWith_2 rfl (J_f (ws' := [(h, .inr (6, [.ref hs, .ref hm2, .ref gb, .ref af, .ref ak, .ref ar, .int (iI rc), .int (iI bc)]))]) (st' := [.int (iI (nbits 2 fn))]) [0] rfl rfl rfl rfl ?_)
  refine J_iconst cx dX6_bitsWith_5 ?_
  refine J_iload_n cx dX6_bitsWith_6 rfl 2 rfl ?_
  refine J_callSN cx (As := [.int (iI 3), .int (iI k)]) (rest := [.int (iI (nbits 2 fn))]) (mX7_numberBits l X 3 k (by omega) (by omega)) T334 T332 T333 T1 hd_X7_numberBits rfl ⟨Nat.le_of_ble_eq_true rfl, Nat.le_of_ble_eq_true rfl⟩ (Nat.le_of_ble_eq_true rfl) ⟨Nat.le_of_ble_eq_true rfl, Nat.le_of_ble_eq_true rfl⟩ [] [0] rfl rfl rfl rfl rfl (by decide) dX6_bitsWith_7 rfl (J_f (ws' := [(h, .inr (6, [.ref hs, .ref hm2, .ref gb, .ref af, .ref ak, .ref ar, .int (iI rc), .int (iI bc)]))]) (st' := [.int (iI (nbits 3 k)), .int (iI (nbits 2 fn))]) [0] rfl rfl rfl rfl ?_)
  refine J_iadd cx dX6_bitsWith_10 ?_
  refine J_iload_n cx dX6_bitsWith_11 rfl 3 rfl ?_
  refine J_iadd cx dX6_bitsWith_12 ?_
  refine J_aload_n cx dX6_bitsWith_13 rfl 0 rfl ?_
  refine J_get cx inC6 0 rfl rfl 6 (by decide) T108 rfl rfl dX6_bitsWith_14 ?_
  refine J_iconst cx dX6_bitsWith_17 ?_
  refine J_iload_n cx dX6_bitsWith_18 rfl 2 rfl ?_
  refine J_iadd cx dX6_bitsWith_19 ?_
  refine J_imul cx dX6_bitsWith_20 ?_
  refine J_iadd cx dX6_bitsWith_21 ?_
  refine J_top (b := (bcost fn k z rc)) (rfl) ?_
  exact J_iret cx hr dX6_bitsWith_22 ⟨rfl, rfl⟩
set_option maxHeartbeats 4000000 in
set_option maxRecDepth 100000 in
theorem mX6_bitsFor (l : Launch) (X : GX) (h : Nat) (hs : Nat) (hm2 : Nat) (gb : Nat) (af : Nat) (ak : Nat) (ar : Nat) (rc : Int) (bc : Int) (as_ : Nat) (f : Int → Int) (ch : Int) (bl : Int) (n : Int) (am : Nat) (mf : Int → Int) (rs : Int → Int) (i : Int) (fn : Int) (k : Int) (hc : 1 ≤ ch ∧ ch ≤ 2) (hn : 0 ≤ n ∧ n ≤ 800) (hb : 1 ≤ bl ∧ bl ≤ 64) (hi : 0 ≤ i ∧ i < 800) (hib : 0 ≤ i / ch * bl ∧ i / ch * bl < n / ch) (hf : ∀ j, -32768 ≤ f j ∧ f j ≤ 32767) (hm : ∀ j, -32768 ≤ mf j ∧ mf j ≤ 32767) (hfn : 0 ≤ fn ∧ fn ≤ 3) (hk : 0 ≤ k ∧ k ≤ 15) : Ct l yX6_bitsFor cX6_bitsFor 4 (some .int) 4 93 0 0 X [.ref h, .int (iI i), .int (iI fn), .int (iI k)] [(h, .inr (6, [.ref hs, .ref hm2, .ref gb, .ref af, .ref ak, .ref ar, .int (iI rc), .int (iI bc)])), (hs, .inr (4, [.ref as_, .int (iI ch), .int (iI bl), .int (iI n)])), (as_, .inl (X.2.1, 800, .inl (aI f))), (hm2, .inr (3, [.ref am])), (am, .inl (X.2.1, 800, .inl (aI mf))), (ar, .inl (X.2.1, 64, .inl (aI rs)))] (fun1 (some (.int (iI (cost f ch bl (n / ch) (mahead mf ch i) i fn k)))) [(h, .inr (6, [.ref hs, .ref hm2, .ref gb, .ref af, .ref ak, .ref ar, .int (iI (bsize ch bl (n / ch) i)), .int (iI bc)])), (hs, .inr (4, [.ref as_, .int (iI ch), .int (iI bl), .int (iI n)])), (as_, .inl (X.2.1, 800, .inl (aI f))), (hm2, .inr (3, [.ref am])), (am, .inl (X.2.1, 800, .inl (aI mf))), (ar, .inl (X.2.1, 64, .inl (aI (rests rs f ch fn (bfirst ch bl i) (mahead mf ch i) (bsize ch bl (n / ch) i)))))]) := by
  refine Ct_of (own := RX6) (lv := [(0, .ref h), (1, .int (iI i)), (2, .int (iI fn)), (3, .int (iI k))]) (by decide +kernel) rfl (Nat.le_of_ble_eq_true rfl) rfl ?_
  intro p e s m args below meth c A cx hr hin
  have hbs := bsize_rng (i := i) (ch := ch) (bl := bl) (many := n / ch) hb hib.2
  have hd1 := half_rng hc hn
  have hmu := mahead_rng hm ch i
  refine J_aload_n cx dX6_bitsFor_0 rfl 0 rfl ?_
  refine J_iload_n cx dX6_bitsFor_1 rfl 1 rfl ?_
  refine J_iload_n cx dX6_bitsFor_2 rfl 2 rfl ?_
  refine J_callV (C := RX6) (T := TX6) (N := 8) cx (As := [.int (iI i), .int (iI fn)]) (rest := []) (mX6_findRests l X h hs hm2 gb af ak ar rc bc as_ f ch bl n am mf rs i fn (by omega) (by omega) (by omega) (by omega) (by omega) (hf) (hm) (by omega)) T307 T304 T306 S1 T3 ⟨rfl, hd_X6_findRests⟩ rfl ⟨Nat.le_of_ble_eq_true rfl, Nat.le_of_ble_eq_true rfl⟩ (Nat.le_of_ble_eq_true rfl) ⟨Nat.le_of_ble_eq_true rfl, Nat.le_of_ble_eq_true rfl⟩ [0, 1, 2, 3, 4, 5] [] rfl rfl rfl rfl rfl (by decide) 0 rfl rfl dX6_bitsFor_3 rfl (J_f (ws' := [(h, .inr (6, [.ref hs, .ref hm2, .ref gb, .ref af, .ref ak, .ref ar, .int (iI (bsize ch bl (n / ch) i)), .int (iI bc)])), (hs, .inr (4, [.ref as_, .int (iI ch), .int (iI bl), .int (iI n)])), (as_, .inl (X.2.1, 800, .inl (aI f))), (hm2, .inr (3, [.ref am])), (am, .inl (X.2.1, 800, .inl (aI mf))), (ar, .inl (X.2.1, 64, .inl (aI (rests rs f ch fn (bfirst ch bl i) (mahead mf ch i) (bsize ch bl (n / ch) i)))))]) (st' := []) [0, 1, 2, 3, 4, 5] rfl rfl rfl rfl ?_)
  refine J_aload_n cx dX6_bitsFor_6 rfl 0 rfl ?_
  refine J_iload_n cx dX6_bitsFor_7 rfl 2 rfl ?_
  refine J_iload_n cx dX6_bitsFor_8 rfl 3 rfl ?_
  refine J_aload_n cx dX6_bitsFor_9 rfl 0 rfl ?_
  refine J_iload_n cx dX6_bitsFor_10 rfl 3 rfl ?_
  refine J_callV (C := RX6) (T := TX6) (N := 8) cx (As := [.int (iI k)]) (rest := [.int (iI k), .int (iI fn), .ref h]) (mX6_zerosFor l X h hs hm2 gb af ak ar (bsize ch bl (n / ch) i) bc (rests rs f ch fn (bfirst ch bl i) (mahead mf ch i) (bsize ch bl (n / ch) i)) k (by omega) (by omega) (fun j h5 h6 => by rw [rests_at ⟨h5, h6⟩]; exact rst_rng hf hmu ch _ _)) T326 T323 T325 S2 T3 ⟨rfl, hd_X6_zerosFor⟩ rfl ⟨Nat.le_of_ble_eq_true rfl, Nat.le_of_ble_eq_true rfl⟩ (Nat.le_of_ble_eq_true rfl) ⟨Nat.le_of_ble_eq_true rfl, Nat.le_of_ble_eq_true rfl⟩ [0, 5] [1, 2, 3, 4] rfl rfl rfl rfl rfl (by decide) 0 rfl rfl dX6_bitsFor_11 rfl (J_f (ws' := [(h, .inr (6, [.ref hs, .ref hm2, .ref gb, .ref af, .ref ak, .ref ar, .int (iI (bsize ch bl (n / ch) i)), .int (iI bc)])), (hs, .inr (4, [.ref as_, .int (iI ch), .int (iI bl), .int (iI n)])), (as_, .inl (X.2.1, 800, .inl (aI f))), (hm2, .inr (3, [.ref am])), (am, .inl (X.2.1, 800, .inl (aI mf))), (ar, .inl (X.2.1, 64, .inl (aI (rests rs f ch fn (bfirst ch bl i) (mahead mf ch i) (bsize ch bl (n / ch) i)))))]) (st' := [.int (iI (zsum (rests rs f ch fn (bfirst ch bl i) (mahead mf ch i) (bsize ch bl (n / ch) i)) k (bsize ch bl (n / ch) i))), .int (iI k), .int (iI fn), .ref h]) [4, 0, 1, 2, 3, 5] rfl rfl rfl rfl ?_)
  refine J_callV (C := RX6) (T := TX6) (N := 8) cx (As := [.int (iI fn), .int (iI k), .int (iI (zsum (rests rs f ch fn (bfirst ch bl i) (mahead mf ch i) (bsize ch bl (n / ch) i)) k (bsize ch bl (n / ch) i)))]) (rest := []) (mX6_bitsWith l X h hs hm2 gb af ak ar (bsize ch bl (n / ch) i) bc fn k (zsum (rests rs f ch fn (bfirst ch bl i) (mahead mf ch i) (bsize ch bl (n / ch) i)) k (bsize ch bl (n / ch) i)) (by omega) (by omega)) T331 T328 T330 S3 T3 ⟨rfl, hd_X6_bitsWith⟩ rfl ⟨Nat.le_of_ble_eq_true rfl, Nat.le_of_ble_eq_true rfl⟩ (Nat.le_of_ble_eq_true rfl) ⟨Nat.le_of_ble_eq_true rfl, Nat.le_of_ble_eq_true rfl⟩ [0] [1, 2, 3, 4, 5] rfl rfl rfl rfl rfl (by decide) 0 rfl rfl dX6_bitsFor_14 rfl (J_f (ws' := [(h, .inr (6, [.ref hs, .ref hm2, .ref gb, .ref af, .ref ak, .ref ar, .int (iI (bsize ch bl (n / ch) i)), .int (iI bc)])), (hs, .inr (4, [.ref as_, .int (iI ch), .int (iI bl), .int (iI n)])), (as_, .inl (X.2.1, 800, .inl (aI f))), (hm2, .inr (3, [.ref am])), (am, .inl (X.2.1, 800, .inl (aI mf))), (ar, .inl (X.2.1, 64, .inl (aI (rests rs f ch fn (bfirst ch bl i) (mahead mf ch i) (bsize ch bl (n / ch) i)))))]) (st' := [.int (iI (bcost fn k (zsum (rests rs f ch fn (bfirst ch bl i) (mahead mf ch i) (bsize ch bl (n / ch) i)) k (bsize ch bl (n / ch) i)) (bsize ch bl (n / ch) i)))]) [5, 0, 1, 2, 3, 4] rfl rfl rfl rfl ?_)
  refine J_top (b := (cost f ch bl (n / ch) (mahead mf ch i) i fn k)) (by rw [zsum_rests]; rfl) ?_
  exact J_iret cx hr dX6_bitsFor_17 ⟨rfl, rfl⟩
set_option maxHeartbeats 4000000 in
set_option maxRecDepth 100000 in
theorem mX6_bitsTaken (l : Launch) (X : GX) (h : Nat) (hs : Nat) (hm2 : Nat) (gb : Nat) (af : Nat) (ak : Nat) (ar : Nat) (rc : Int) (bc : Int) (as_ : Nat) (f : Int → Int) (ch : Int) (bl : Int) (n : Int) (am : Nat) (mf : Int → Int) (rs : Int → Int) (ff : Int → Int) (kk : Int → Int) (i : Int) (hc : 1 ≤ ch ∧ ch ≤ 2) (hn : 0 ≤ n ∧ n ≤ 800) (hb : 1 ≤ bl ∧ bl ≤ 64) (hi : 0 ≤ i ∧ i < 800) (hib : 0 ≤ i / ch * bl ∧ i / ch * bl < n / ch) (hf : ∀ j, -32768 ≤ f j ∧ f j ≤ 32767) (hm : ∀ j, -32768 ≤ mf j ∧ mf j ≤ 32767) (hch : (ff i = 4) ∨ ((0 ≤ ff i ∧ ff i ≤ 3) ∧ (0 ≤ kk i ∧ kk i ≤ 15))) : Ct l yX6_bitsTaken cX6_bitsTaken 2 (some .int) 5 116 0 0 X [.ref h, .int (iI i)] [(h, .inr (6, [.ref hs, .ref hm2, .ref gb, .ref af, .ref ak, .ref ar, .int (iI rc), .int (iI bc)])), (hs, .inr (4, [.ref as_, .int (iI ch), .int (iI bl), .int (iI n)])), (as_, .inl (X.2.1, 800, .inl (aI f))), (hm2, .inr (3, [.ref am])), (am, .inl (X.2.1, 800, .inl (aI mf))), (af, .inl (X.2.1, 800, .inl (aI ff))), (ak, .inl (X.2.1, 800, .inl (aI kk))), (ar, .inl (X.2.1, 64, .inl (aI rs)))] (fun1 (some (.int (iI (if ff i = 4 then 4 else cost f ch bl (n / ch) (mahead mf ch i) i (ff i) (kk i))))) [(h, .inr (6, [.ref hs, .ref hm2, .ref gb, .ref af, .ref ak, .ref ar, .int (iI (if ff i = 4 then rc else bsize ch bl (n / ch) i)), .int (iI bc)])), (hs, .inr (4, [.ref as_, .int (iI ch), .int (iI bl), .int (iI n)])), (as_, .inl (X.2.1, 800, .inl (aI f))), (hm2, .inr (3, [.ref am])), (am, .inl (X.2.1, 800, .inl (aI mf))), (af, .inl (X.2.1, 800, .inl (aI ff))), (ak, .inl (X.2.1, 800, .inl (aI kk))), (ar, .inl (X.2.1, 64, .inl (aI (if ff i = 4 then rs else rests rs f ch (ff i) (bfirst ch bl i) (mahead mf ch i) (bsize ch bl (n / ch) i)))))]) := by
  refine Ct_of (own := RX6) (lv := [(0, .ref h), (1, .int (iI i))]) (by decide +kernel) rfl (Nat.le_of_ble_eq_true rfl) rfl ?_
  intro p e s m args below meth c A cx hr hin
  have hbs := bsize_rng (i := i) (ch := ch) (bl := bl) (many := n / ch) hb hib.2
  have hd1 := half_rng hc hn
  have hmu := mahead_rng hm ch i
  refine J_aload_n cx dX6_bitsTaken_0 rfl 0 rfl ?_
  refine J_get cx inC6 0 rfl rfl 3 (by decide) T103 rfl rfl dX6_bitsTaken_1 ?_
  refine J_iload_n cx dX6_bitsTaken_4 rfl 1 rfl ?_
  refine J_iald cx 5 rfl (by omega) (by decide) dX6_bitsTaken_5 ?_
  refine J_iconst cx dX6_bitsTaken_6 ?_
  refine J_icmp_ne (tgt := 18) cx dX6_bitsTaken_7 (by decide) (by omega) (by decide) (fun h_7 => ?_) (fun h_7 => ?_)
  · skip
    refine J_aload_n cx dX6_bitsTaken_18 rfl 0 rfl ?_
    refine J_iload_n cx dX6_bitsTaken_19 rfl 1 rfl ?_
    refine J_aload_n cx dX6_bitsTaken_20 rfl 0 rfl ?_
    refine J_get cx inC6 0 rfl rfl 3 (by decide) T103 rfl rfl dX6_bitsTaken_21 ?_
    refine J_iload_n cx dX6_bitsTaken_24 rfl 1 rfl ?_
    refine J_iald cx 5 rfl (by omega) (by decide) dX6_bitsTaken_25 ?_
    refine J_aload_n cx dX6_bitsTaken_26 rfl 0 rfl ?_
    refine J_get cx inC6 0 rfl rfl 4 (by decide) T105 rfl rfl dX6_bitsTaken_27 ?_
    refine J_iload_n cx dX6_bitsTaken_30 rfl 1 rfl ?_
    refine J_iald cx 6 rfl (by omega) (by decide) dX6_bitsTaken_31 ?_
    refine J_callV (C := RX6) (T := TX6) (N := 8) cx (As := [.int (iI i), .int (iI (ff i)), .int (iI (kk i))]) (rest := []) (mX6_bitsFor l X h hs hm2 gb af ak ar rc bc as_ f ch bl n am mf rs i (ff i) (kk i) (by omega) (by omega) (by omega) (by omega) (by omega) (hf) (hm) (by omega) (by omega)) T363 T360 T361 T362 T3 ⟨rfl, hd_X6_bitsFor⟩ rfl ⟨Nat.le_of_ble_eq_true rfl, Nat.le_of_ble_eq_true rfl⟩ (Nat.le_of_ble_eq_true rfl) ⟨Nat.le_of_ble_eq_true rfl, Nat.le_of_ble_eq_true rfl⟩ [0, 1, 2, 3, 4, 7] [5, 6] rfl rfl rfl rfl rfl (by decide) 0 rfl rfl dX6_bitsTaken_32 rfl (J_f (ws' := [(h, .inr (6, [.ref hs, .ref hm2, .ref gb, .ref af, .ref ak, .ref ar, .int (iI (bsize ch bl (n / ch) i)), .int (iI bc)])), (hs, .inr (4, [.ref as_, .int (iI ch), .int (iI bl), .int (iI n)])), (as_, .inl (X.2.1, 800, .inl (aI f))), (hm2, .inr (3, [.ref am])), (am, .inl (X.2.1, 800, .inl (aI mf))), (af, .inl (X.2.1, 800, .inl (aI ff))), (ak, .inl (X.2.1, 800, .inl (aI kk))), (ar, .inl (X.2.1, 64, .inl (aI (rests rs f ch (ff i) (bfirst ch bl i) (mahead mf ch i) (bsize ch bl (n / ch) i)))))]) (st' := [.int (iI (cost f ch bl (n / ch) (mahead mf ch i) i (ff i) (kk i)))]) [2, 3, 4, 5, 6, 0, 1, 7] rfl rfl rfl rfl ?_)
    refine J_ws (ws' := [(h, .inr (6, [.ref hs, .ref hm2, .ref gb, .ref af, .ref ak, .ref ar, .int (iI (if ff i = 4 then rc else bsize ch bl (n / ch) i)), .int (iI bc)])), (hs, .inr (4, [.ref as_, .int (iI ch), .int (iI bl), .int (iI n)])), (as_, .inl (X.2.1, 800, .inl (aI f))), (hm2, .inr (3, [.ref am])), (am, .inl (X.2.1, 800, .inl (aI mf))), (af, .inl (X.2.1, 800, .inl (aI ff))), (ak, .inl (X.2.1, 800, .inl (aI kk))), (ar, .inl (X.2.1, 64, .inl (aI (if ff i = 4 then rs else rests rs f ch (ff i) (bfirst ch bl i) (mahead mf ch i) (bsize ch bl (n / ch) i)))))]) (by rw [← show (bsize ch bl (n / ch) i) = if ff i = 4 then rc else bsize ch bl (n / ch) i from by first | rw [if_pos h_7] | rw [if_neg h_7], ← show (rests rs f ch (ff i) (bfirst ch bl i) (mahead mf ch i) (bsize ch bl (n / ch) i)) = if ff i = 4 then rs else rests rs f ch (ff i) (bfirst ch bl i) (mahead mf ch i) (bsize ch bl (n / ch) i) from by first | rw [if_pos h_7] | rw [if_neg h_7]]) ?_
    refine J_top (b := (if ff i = 4 then 4 else cost f ch bl (n / ch) (mahead mf ch i) i (ff i) (kk i))) (by first | (rw [if_pos h_7]; rfl) | rw [if_neg h_7]) ?_
    exact J_iret cx hr dX6_bitsTaken_35 ⟨rfl, rfl⟩
  · skip
    refine J_iconst cx dX6_bitsTaken_10 ?_
    refine J_iconst cx dX6_bitsTaken_11 ?_
    refine J_callSN cx (As := [.int (iI 2), .int (iI 4)]) (rest := []) (mX7_numberBits l X 2 4 (by omega) (by omega)) T334 T332 T333 T1 hd_X7_numberBits rfl ⟨Nat.le_of_ble_eq_true rfl, Nat.le_of_ble_eq_true rfl⟩ (Nat.le_of_ble_eq_true rfl) ⟨Nat.le_of_ble_eq_true rfl, Nat.le_of_ble_eq_true rfl⟩ [] [0, 1, 2, 3, 4, 5, 6, 7] rfl rfl rfl rfl rfl (by decide) dX6_bitsTaken_12 rfl (J_f (ws' := [(h, .inr (6, [.ref hs, .ref hm2, .ref gb, .ref af, .ref ak, .ref ar, .int (iI rc), .int (iI bc)])), (hs, .inr (4, [.ref as_, .int (iI ch), .int (iI bl), .int (iI n)])), (as_, .inl (X.2.1, 800, .inl (aI f))), (hm2, .inr (3, [.ref am])), (am, .inl (X.2.1, 800, .inl (aI mf))), (af, .inl (X.2.1, 800, .inl (aI ff))), (ak, .inl (X.2.1, 800, .inl (aI kk))), (ar, .inl (X.2.1, 64, .inl (aI rs)))]) (st' := [.int (iI (nbits 2 4))]) [0, 1, 2, 3, 4, 5, 6, 7] rfl rfl rfl rfl ?_)
    refine J_goto (tgt := 35) cx dX6_bitsTaken_15 (by decide) ?_
    refine J_ws (ws' := [(h, .inr (6, [.ref hs, .ref hm2, .ref gb, .ref af, .ref ak, .ref ar, .int (iI (if ff i = 4 then rc else bsize ch bl (n / ch) i)), .int (iI bc)])), (hs, .inr (4, [.ref as_, .int (iI ch), .int (iI bl), .int (iI n)])), (as_, .inl (X.2.1, 800, .inl (aI f))), (hm2, .inr (3, [.ref am])), (am, .inl (X.2.1, 800, .inl (aI mf))), (af, .inl (X.2.1, 800, .inl (aI ff))), (ak, .inl (X.2.1, 800, .inl (aI kk))), (ar, .inl (X.2.1, 64, .inl (aI (if ff i = 4 then rs else rests rs f ch (ff i) (bfirst ch bl i) (mahead mf ch i) (bsize ch bl (n / ch) i)))))]) (by rw [← show (rc) = if ff i = 4 then rc else bsize ch bl (n / ch) i from by first | rw [if_pos h_7] | rw [if_neg h_7], ← show (rs) = if ff i = 4 then rs else rests rs f ch (ff i) (bfirst ch bl i) (mahead mf ch i) (bsize ch bl (n / ch) i) from by first | rw [if_pos h_7] | rw [if_neg h_7]]) ?_
    refine J_top (b := (if ff i = 4 then 4 else cost f ch bl (n / ch) (mahead mf ch i) i (ff i) (kk i))) (by first | (rw [if_pos h_7]; rfl) | rw [if_neg h_7]) ?_
    exact J_iret cx hr dX6_bitsTaken_35 ⟨rfl, rfl⟩
