set_option maxHeartbeats 4000000 in
set_option maxRecDepth 100000 in
theorem mX3_ahead (l : Launch) (X : GX) (h : Nat) (a : Nat) (mf : Int → Int) (i : Int) (ch : Int) (hc : 1 ≤ ch ∧ ch ≤ 2) (hi : 0 ≤ i ∧ i < 800) (hm : ∀ j, -32768 ≤ mf j ∧ mf j ≤ 32767) : Ct l yX3_ahead cX3_ahead 6 (some .int) 2 43 0 0 X [.ref h, .int (iI i), .int (iI ch)] [(h, .inr (3, [.ref a])), (a, .inl (X.2.1, 800, .inl (aI mf)))] (fun1 (some (.int (iI (mahead mf ch i)))) [(h, .inr (3, [.ref a])), (a, .inl (X.2.1, 800, .inl (aI mf)))]) := by
  refine Ct_of (own := RX3) (lv := [(0, .ref h), (1, .int (iI i)), (2, .int (iI ch))]) (by decide +kernel) rfl (Nat.le_of_ble_eq_true rfl) rfl ?_
  intro p e s m args below meth c A cx hr hin
  refine J_iconst cx dX3_ahead_0 ?_
  refine J_istore_n (lv' := [(3, .int (iI 0)), (0, .ref h), (1, .int (iI i)), (2, .int (iI ch))]) cx dX3_ahead_1 rfl (by decide) rfl ?_
  refine J_iconst cx dX3_ahead_2 ?_
  refine J_istore (lv' := [(4, .int (iI 1)), (3, .int (iI 0)), (0, .ref h), (1, .int (iI i)), (2, .int (iI ch))]) cx dX3_ahead_3 (by decide) rfl ?_
  refine J_loop2 (fun (bk : Int) (sm : Int) => [(h, .inr (3, [.ref a])), (a, .inl (X.2.1, 800, .inl (aI mf)))]) (fun (bk : Int) (sm : Int) => [(4, .int (iI bk)), (3, .int (iI sm)), (0, .ref h), (1, .int (iI i)), (2, .int (iI ch))]) (fun (bk : Int) (sm : Int) => (1 ≤ bk ∧ bk ≤ 5) ∧ (sm = msum mf ch i (bk - 1))) (fun (bk : Int) (sm : Int) => (5 - bk).toNat) 1 0 ⟨(by omega), (rfl)⟩ ?_
  intro bk sm hI ih_5
  obtain ⟨hbk, hsm⟩ := hI
  try dsimp only at hbk hsm
  have hbc : 0 ≤ bk * ch := Int.mul_nonneg (by omega) (by omega)
  have hbc2 : bk * ch ≤ 5 * ch := Int.mul_le_mul_of_nonneg_right (by omega) (by omega)
  refine J_iload cx dX3_ahead_5 0 rfl ?_
  refine J_iconst cx dX3_ahead_7 ?_
  refine J_icmp_gt (tgt := 52) cx dX3_ahead_8 (by decide) (by omega) (by decide) (fun h_8 => ?_) (fun h_8 => ?_)
  · skip
    refine J_iload_n cx dX3_ahead_52 rfl 1 rfl ?_
    refine J_iconst cx dX3_ahead_53 ?_
    refine J_callSN cx (As := [.int (iI sm), .int (iI 4)]) (rest := []) (mX7_roundedMean l X sm 4 (by have h9 := msum_rng hm ch i (bk - 1).toNat; have h10 : sm = msumN mf ch i (bk - 1).toNat := hsm; omega) (by omega)) T296 T294 T295 T1 hd_X7_roundedMean rfl ⟨Nat.le_of_ble_eq_true rfl, Nat.le_of_ble_eq_true rfl⟩ (Nat.le_of_ble_eq_true rfl) ⟨Nat.le_of_ble_eq_true rfl, Nat.le_of_ble_eq_true rfl⟩ [] [0, 1] rfl rfl rfl rfl rfl (by decide) dX3_ahead_54 rfl (J_f (ws' := [(h, .inr (3, [.ref a])), (a, .inl (X.2.1, 800, .inl (aI mf)))]) (st' := [.int (iI (rmean sm 4))]) [0, 1] rfl rfl rfl rfl ?_)
    refine J_top (b := (mahead mf ch i)) (by rw [hsm, show bk - 1 = 4 by omega]; exact msum_4 mf ch i) ?_
    exact J_iret cx hr dX3_ahead_57 ⟨rfl, rfl⟩
  · skip
    refine J_iload_n cx dX3_ahead_11 rfl 3 rfl ?_
    refine J_iload cx dX3_ahead_12 0 rfl ?_
    refine J_iload_n cx dX3_ahead_14 rfl 4 rfl ?_
    refine J_imul cx dX3_ahead_15 ?_
    refine J_isub cx dX3_ahead_16 ?_
    refine J_istore (lv' := [(5, .int (iI (i - (bk * ch)))), (4, .int (iI bk)), (3, .int (iI sm)), (0, .ref h), (1, .int (iI i)), (2, .int (iI ch))]) cx dX3_ahead_17 (by decide) rfl ?_
    refine J_iload_n cx dX3_ahead_19 rfl 2 rfl ?_
    refine J_iload cx dX3_ahead_20 0 rfl ?_
    refine J_if_lt (tgt := 33) cx dX3_ahead_22 (by decide) (by omega) (fun h_22 => ?_) (fun h_22 => ?_)
    · skip
      refine J_iconst cx dX3_ahead_33 ?_
      refine J_goto (tgt := 44) cx dX3_ahead_34 (by decide) ?_
      refine J_iadd cx dX3_ahead_44 ?_
      refine J_istore_n (lv' := [(3, .int (iI (sm + 0))), (5, .int (iI (i - (bk * ch)))), (4, .int (iI bk)), (0, .ref h), (1, .int (iI i)), (2, .int (iI ch))]) cx dX3_ahead_45 rfl (by decide) rfl ?_
      refine J_iinc (q := 2) (lv' := [(4, .int (iI (bk + 1))), (3, .int (iI (sm + 0))), (5, .int (iI (i - (bk * ch)))), (0, .ref h), (1, .int (iI i)), (2, .int (iI ch))]) cx dX3_ahead_46 rfl (by decide) rfl ?_
      refine J_goto (tgt := 5) cx dX3_ahead_49 (by decide) ?_
      refine J_lv (lv' := [(4, .int (iI (bk + 1))), (3, .int (iI (sm + 0))), (0, .ref h), (1, .int (iI i)), (2, .int (iI ch))]) [0, 1, 3, 4, 5] rfl ?_
      exact ih_5 (bk + 1) (sm + 0) ⟨(by omega), (by have e := msum_s (mf := mf) (ch := ch) (i := i) (k := bk - 1) (by omega); rw [Int.sub_add_cancel] at e; rw [show bk + 1 - 1 = bk by omega, e, ← hsm, mb]; split <;> omega)⟩ (by omega)
    · skip
      refine J_iload cx dX3_ahead_25 0 rfl ?_
      refine J_sipush cx dX3_ahead_27 (by decide) ?_
      refine J_icmp_lt (tgt := 37) cx dX3_ahead_30 (by decide) (by omega) (by decide) (fun h_30 => ?_) (fun h_30 => ?_)
      · skip
        refine J_aload_n cx dX3_ahead_37 rfl 3 rfl ?_
        refine J_get cx inC3 0 rfl rfl 0 (by decide) T60 rfl rfl dX3_ahead_38 ?_
        refine J_iload cx dX3_ahead_41 0 rfl ?_
        refine J_iald cx 1 rfl (by omega) (by decide) dX3_ahead_43 ?_
        refine J_iadd cx dX3_ahead_44 ?_
        refine J_istore_n (lv' := [(3, .int (iI (sm + (mf (i - (bk * ch)))))), (5, .int (iI (i - (bk * ch)))), (4, .int (iI bk)), (0, .ref h), (1, .int (iI i)), (2, .int (iI ch))]) cx dX3_ahead_45 rfl (by decide) rfl ?_
        refine J_iinc (q := 2) (lv' := [(4, .int (iI (bk + 1))), (3, .int (iI (sm + (mf (i - (bk * ch)))))), (5, .int (iI (i - (bk * ch)))), (0, .ref h), (1, .int (iI i)), (2, .int (iI ch))]) cx dX3_ahead_46 rfl (by decide) rfl ?_
        refine J_goto (tgt := 5) cx dX3_ahead_49 (by decide) ?_
        refine J_lv (lv' := [(4, .int (iI (bk + 1))), (3, .int (iI (sm + (mf (i - (bk * ch)))))), (0, .ref h), (1, .int (iI i)), (2, .int (iI ch))]) [0, 1, 3, 4, 5] rfl ?_
        exact ih_5 (bk + 1) (sm + (mf (i - (bk * ch)))) ⟨(by omega), (by have e := msum_s (mf := mf) (ch := ch) (i := i) (k := bk - 1) (by omega); rw [Int.sub_add_cancel] at e; rw [show bk + 1 - 1 = bk by omega, e, ← hsm, mb]; split <;> omega)⟩ (by omega)
      · exfalso; omega
set_option maxHeartbeats 4000000 in
set_option maxRecDepth 100000 in
theorem mX3_settle (l : Launch) (X : GX) (h : Nat) (a : Nat) (mf : Int → Int) (h2 : Nat) (a2 : Nat) (f : Int → Int) (ch : Int) (bl : Int) (n : Int) (i : Int) (hc : 1 ≤ ch ∧ ch ≤ 2) (hn : 0 ≤ n ∧ n ≤ 800) (hb : 1 ≤ bl ∧ bl ≤ 64) (hi : 0 ≤ i ∧ i < 800) (hib : 0 ≤ i / ch * bl ∧ i / ch * bl < n / ch) (hf : ∀ j, -32768 ≤ f j ∧ f j ≤ 32767) : Ct l yX3_settle cX3_settle 7 none 2 43 0 0 X [.ref h, .int (iI i), .ref h2] [(h, .inr (3, [.ref a])), (a, .inl (X.2.1, 800, .inl (aI mf))), (h2, .inr (4, [.ref a2, .int (iI ch), .int (iI bl), .int (iI n)])), (a2, .inl (X.2.1, 800, .inl (aI f)))] (fun1 none [(h, .inr (3, [.ref a])), (a, .inl (X.2.1, 800, .inl (aI (upI mf i (bmean f ch bl (n / ch) i))))), (h2, .inr (4, [.ref a2, .int (iI ch), .int (iI bl), .int (iI n)])), (a2, .inl (X.2.1, 800, .inl (aI f)))]) := by
  refine Ct_of (own := RX3) (lv := [(0, .ref h), (1, .int (iI i)), (2, .ref h2)]) (by decide +kernel) rfl (Nat.le_of_ble_eq_true rfl) rfl ?_
  intro p e s m args below meth c A cx hr hin
  have hbs := bsize_rng (i := i) (ch := ch) (bl := bl) (many := n / ch) hb hib.2
  have hd1 := half_rng hc hn
  refine J_aload_n cx dX3_settle_0 rfl 2 rfl ?_
  refine J_iload_n cx dX3_settle_1 rfl 1 rfl ?_
  refine J_callV (C := RX4) (T := TX4) (N := 4) cx (As := [.int (iI i)]) (rest := []) (mX4_blockSize l X h2 a2 f ch bl n i (by omega) (by omega) (by omega) (by omega) (by omega)) T276 T273 T274 T275 T2 ⟨rfl, hd_X4_blockSize⟩ rfl ⟨Nat.le_of_ble_eq_true rfl, Nat.le_of_ble_eq_true rfl⟩ (Nat.le_of_ble_eq_true rfl) ⟨Nat.le_of_ble_eq_true rfl, Nat.le_of_ble_eq_true rfl⟩ [2, 3] [0, 1] rfl rfl rfl rfl rfl (by decide) 2 rfl rfl dX3_settle_2 rfl (J_f (ws' := [(h, .inr (3, [.ref a])), (a, .inl (X.2.1, 800, .inl (aI mf))), (h2, .inr (4, [.ref a2, .int (iI ch), .int (iI bl), .int (iI n)])), (a2, .inl (X.2.1, 800, .inl (aI f)))]) (st' := [.int (iI (bsize ch bl (n / ch) i))]) [0, 1, 2, 3] rfl rfl rfl rfl ?_)
  refine J_istore_n (lv' := [(3, .int (iI (bsize ch bl (n / ch) i))), (0, .ref h), (1, .int (iI i)), (2, .ref h2)]) cx dX3_settle_5 rfl (by decide) rfl ?_
  refine J_aload_n cx dX3_settle_6 rfl 3 rfl ?_
  refine J_iload_n cx dX3_settle_7 rfl 2 rfl ?_
  refine J_callV (C := RX4) (T := TX4) (N := 4) cx (As := [.int (iI i)]) (rest := []) (mX4_firstPlace l X h2 a2 f ch bl n i (by omega) (by omega)) T285 T282 T283 T284 T2 ⟨rfl, hd_X4_firstPlace⟩ rfl ⟨Nat.le_of_ble_eq_true rfl, Nat.le_of_ble_eq_true rfl⟩ (Nat.le_of_ble_eq_true rfl) ⟨Nat.le_of_ble_eq_true rfl, Nat.le_of_ble_eq_true rfl⟩ [2, 3] [0, 1] rfl rfl rfl rfl rfl (by decide) 2 rfl rfl dX3_settle_8 rfl (J_f (ws' := [(h, .inr (3, [.ref a])), (a, .inl (X.2.1, 800, .inl (aI mf))), (h2, .inr (4, [.ref a2, .int (iI ch), .int (iI bl), .int (iI n)])), (a2, .inl (X.2.1, 800, .inl (aI f)))]) (st' := [.int (iI (bfirst ch bl i))]) [0, 1, 2, 3] rfl rfl rfl rfl ?_)
  refine J_istore (lv' := [(4, .int (iI (bfirst ch bl i))), (3, .int (iI (bsize ch bl (n / ch) i))), (0, .ref h), (1, .int (iI i)), (2, .ref h2)]) cx dX3_settle_11 (by decide) rfl ?_
  refine J_iconst cx dX3_settle_13 ?_
  refine J_istore (lv' := [(5, .int (iI 0)), (4, .int (iI (bfirst ch bl i))), (3, .int (iI (bsize ch bl (n / ch) i))), (0, .ref h), (1, .int (iI i)), (2, .ref h2)]) cx dX3_settle_14 (by decide) rfl ?_
  refine J_iconst cx dX3_settle_16 ?_
  refine J_istore (lv' := [(6, .int (iI 0)), (5, .int (iI 0)), (4, .int (iI (bfirst ch bl i))), (3, .int (iI (bsize ch bl (n / ch) i))), (0, .ref h), (1, .int (iI i)), (2, .ref h2)]) cx dX3_settle_17 (by decide) rfl ?_
  refine J_loop2 (fun (j : Int) (sm : Int) => [(h, .inr (3, [.ref a])), (a, .inl (X.2.1, 800, .inl (aI mf))), (h2, .inr (4, [.ref a2, .int (iI ch), .int (iI bl), .int (iI n)])), (a2, .inl (X.2.1, 800, .inl (aI f)))]) (fun (j : Int) (sm : Int) => [(6, .int (iI j)), (5, .int (iI sm)), (4, .int (iI (bfirst ch bl i))), (3, .int (iI (bsize ch bl (n / ch) i))), (0, .ref h), (1, .int (iI i)), (2, .ref h2)]) (fun (j : Int) (sm : Int) => (0 ≤ j ∧ j ≤ bsize ch bl (n / ch) i) ∧ (sm = bsum f ch (bfirst ch bl i) j)) (fun (j : Int) (sm : Int) => (bsize ch bl (n / ch) i - j).toNat) 0 0 ⟨(by omega), (rfl)⟩ ?_
  intro j sm hI ih_19
  obtain ⟨hj, hsm⟩ := hI
  try dsimp only at hj hsm
  refine J_iload cx dX3_settle_19 0 rfl ?_
  refine J_iload_n cx dX3_settle_21 rfl 3 rfl ?_
  refine J_icmp_ge (tgt := 50) cx dX3_settle_22 (by decide) (by omega) (by omega) (fun h_22 => ?_) (fun h_22 => ?_)
  · skip
    refine J_iload_n cx dX3_settle_50 rfl 5 rfl ?_
    refine J_if_lt (tgt := 73) cx dX3_settle_51 (by decide) (by omega) (fun h_51 => ?_) (fun h_51 => ?_)
    · exfalso; omega
    · skip
      refine J_iload_n cx dX3_settle_54 rfl 5 rfl ?_
      refine J_sipush cx dX3_settle_55 (by decide) ?_
      refine J_icmp_ge (tgt := 73) cx dX3_settle_58 (by decide) (by omega) (by decide) (fun h_58 => ?_) (fun h_58 => ?_)
      · exfalso; omega
      · skip
        refine J_aload_n cx dX3_settle_61 rfl 4 rfl ?_
        refine J_get cx inC3 0 rfl rfl 0 (by decide) T60 rfl rfl dX3_settle_62 ?_
        refine J_iload_n cx dX3_settle_65 rfl 5 rfl ?_
        refine J_iload cx dX3_settle_66 1 rfl ?_
        refine J_iload_n cx dX3_settle_68 rfl 3 rfl ?_
        refine J_callSN cx (As := [.int (iI sm), .int (iI (bsize ch bl (n / ch) i))]) (rest := [.int (iI i), .ref a]) (mX7_roundedMean l X sm (bsize ch bl (n / ch) i) (by have h9 := bsum_rngI hf ch (bfirst ch bl i) (k := j) (by omega); omega) (by omega)) T296 T294 T295 T1 hd_X7_roundedMean rfl ⟨Nat.le_of_ble_eq_true rfl, Nat.le_of_ble_eq_true rfl⟩ (Nat.le_of_ble_eq_true rfl) ⟨Nat.le_of_ble_eq_true rfl, Nat.le_of_ble_eq_true rfl⟩ [] [0, 1, 2, 3] rfl rfl rfl rfl rfl (by decide) dX3_settle_69 rfl (J_f (ws' := [(h, .inr (3, [.ref a])), (a, .inl (X.2.1, 800, .inl (aI mf))), (h2, .inr (4, [.ref a2, .int (iI ch), .int (iI bl), .int (iI n)])), (a2, .inl (X.2.1, 800, .inl (aI f)))]) (st' := [.int (iI (rmean sm (bsize ch bl (n / ch) i))), .int (iI i), .ref a]) [0, 1, 2, 3] rfl rfl rfl rfl ?_)
        refine J_iast (ws' := [(h, .inr (3, [.ref a])), (a, .inl (X.2.1, 800, .inl (aI (upI mf i (rmean sm (bsize ch bl (n / ch) i)))))), (h2, .inr (4, [.ref a2, .int (iI ch), .int (iI bl), .int (iI n)])), (a2, .inl (X.2.1, 800, .inl (aI f)))]) cx 1 rfl (by omega) (by decide) rfl dX3_settle_72 ?_
        refine J_ws (ws' := [(h, .inr (3, [.ref a])), (a, .inl (X.2.1, 800, .inl (aI (upI mf i (bmean f ch bl (n / ch) i))))), (h2, .inr (4, [.ref a2, .int (iI ch), .int (iI bl), .int (iI n)])), (a2, .inl (X.2.1, 800, .inl (aI f)))]) (by rw [← show (upI mf i (rmean sm (bsize ch bl (n / ch) i))) = upI mf i (bmean f ch bl (n / ch) i) from by rw [hsm, show j = bsize ch bl (n / ch) i by omega]; rfl]) ?_
        exact J_vret cx hr dX3_settle_73 ⟨rfl, rfl⟩
  · skip
    have h_in := blk_in (ch := ch) (bl := bl) (n := n) (i := i) (j := j) hc hn.1 hib.1 hi.1 (by omega) (by omega)
    refine J_iload cx dX3_settle_25 1 rfl ?_
    refine J_aload_n cx dX3_settle_27 rfl 6 rfl ?_
    refine J_iload cx dX3_settle_28 2 rfl ?_
    refine J_iload cx dX3_settle_30 0 rfl ?_
    refine J_aload_n cx dX3_settle_32 rfl 6 rfl ?_
    refine J_getN cx inC4 2 rfl rfl 1 (by decide) T29 rfl rfl dX3_settle_33 ?_
    refine J_imul cx dX3_settle_36 ?_
    refine J_iadd cx dX3_settle_37 ?_
    refine J_callV (C := RX4) (T := TX4) (N := 4) cx (As := [.int (iI ((bfirst ch bl i) + (j * ch)))]) (rest := [.int (iI sm)]) (mX4_sampleAt l X h2 a2 f ch bl n ((bfirst ch bl i) + (j * ch)) (by omega) (by omega)) T293 T290 T291 T292 T2 ⟨rfl, hd_X4_sampleAt⟩ rfl ⟨Nat.le_of_ble_eq_true rfl, Nat.le_of_ble_eq_true rfl⟩ (Nat.le_of_ble_eq_true rfl) ⟨Nat.le_of_ble_eq_true rfl, Nat.le_of_ble_eq_true rfl⟩ [2, 3] [0, 1] rfl rfl rfl rfl rfl (by decide) 2 rfl rfl dX3_settle_38 rfl (J_f (ws' := [(h, .inr (3, [.ref a])), (a, .inl (X.2.1, 800, .inl (aI mf))), (h2, .inr (4, [.ref a2, .int (iI ch), .int (iI bl), .int (iI n)])), (a2, .inl (X.2.1, 800, .inl (aI f)))]) (st' := [.int (iI (smpA f n ((bfirst ch bl i) + (j * ch)))), .int (iI sm)]) [0, 1, 2, 3] rfl rfl rfl rfl ?_)
    refine J_iadd cx dX3_settle_41 ?_
    refine J_istore (lv' := [(5, .int (iI (sm + (smpA f n ((bfirst ch bl i) + (j * ch)))))), (6, .int (iI j)), (4, .int (iI (bfirst ch bl i))), (3, .int (iI (bsize ch bl (n / ch) i))), (0, .ref h), (1, .int (iI i)), (2, .ref h2)]) cx dX3_settle_42 (by decide) rfl ?_
    refine J_iinc (q := 1) (lv' := [(6, .int (iI (j + 1))), (5, .int (iI (sm + (smpA f n ((bfirst ch bl i) + (j * ch)))))), (4, .int (iI (bfirst ch bl i))), (3, .int (iI (bsize ch bl (n / ch) i))), (0, .ref h), (1, .int (iI i)), (2, .ref h2)]) cx dX3_settle_44 rfl (by decide) rfl ?_
    refine J_goto (tgt := 19) cx dX3_settle_47 (by decide) ?_
    exact ih_19 (j + 1) (sm + (smpA f n ((bfirst ch bl i) + (j * ch)))) ⟨(by omega), (by rw [bsum_s (by omega), hsm, smpA_in h_in])⟩ (by omega)
