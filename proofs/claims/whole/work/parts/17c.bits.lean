set_option maxHeartbeats 4000000 in
set_option maxRecDepth 100000 in
theorem mX8_putBit (l : Launch) (X : GX) (mo : Nat) (mc : Int) (mw : Int) (mt : Int) (as_ : Nat) (aw : Nat) (bk : Int) (ac : Nat) (lc : Int) (lw : Int) (lm : Int) (al : Nat) (F : Int) (aco : Nat) (rn : Int) (rc : Int) (ars : Nat) (q : Int) (bg : Int) (ov : Int) (wg : Int) (acm : Nat) (ame : Nat) (x : BB) (b : Int) (hx : 0 ≤ x.2 ∧ x.2 < 64000) (hb0 : b = 0 ∨ b = 1) : Ct l yX8_putBit cX8_putBit 2 none 0 0 0 0 X [.ref mo, .int (iI b)] [(mo, .inr (8, [.int (iI mc), .int (iI mw), .int (iI mt), .ref as_, .int (iI x.2), .ref aw, .int (iI bk), .ref ac, .int (iI lc), .int (iI lw), .int (iI lm), .ref al, .int (iI F), .ref aco, .int (iI rn), .int (iI rc), .ref ars, .int (iI q), .int (iI bg), .int (iI ov), .int (iI wg), .ref acm, .ref ame])), (aw, .inl (X.2.2, 64000, .inl (aI x.1)))] (fun1 none [(mo, .inr (8, [.int (iI mc), .int (iI mw), .int (iI mt), .ref as_, .int (iI ((pbit b x).2)), .ref aw, .int (iI bk), .ref ac, .int (iI lc), .int (iI lw), .int (iI lm), .ref al, .int (iI F), .ref aco, .int (iI rn), .int (iI rc), .ref ars, .int (iI q), .int (iI bg), .int (iI ov), .int (iI wg), .ref acm, .ref ame])), (aw, .inl (X.2.2, 64000, .inl (aI ((pbit b x).1))))]) := by
  refine Ct_of (own := RX8) (lv := [(0, .ref mo), (1, .int (iI b))]) (by decide +kernel) rfl (Nat.le_of_ble_eq_true rfl) rfl ?_
  intro p e s m args below meth c A cx hr hin
  refine J_aload_n cx dX8_putBit_0 rfl 0 rfl ?_
  refine J_get cx inC8 0 rfl rfl 5 (by decide) T487 rfl rfl dX8_putBit_1 ?_
  refine J_aload_n cx dX8_putBit_4 rfl 0 rfl ?_
  refine J_get cx inC8 0 rfl rfl 4 (by decide) T486 rfl rfl dX8_putBit_5 ?_
  refine J_iload_n cx dX8_putBit_8 rfl 1 rfl ?_
  refine J_i2b cx dX8_putBit_9 ?_
  refine J_bast (ws' := [(mo, .inr (8, [.int (iI mc), .int (iI mw), .int (iI mt), .ref as_, .int (iI x.2), .ref aw, .int (iI bk), .ref ac, .int (iI lc), .int (iI lw), .int (iI lm), .ref al, .int (iI F), .ref aco, .int (iI rn), .int (iI rc), .ref ars, .int (iI q), .int (iI bg), .int (iI ov), .int (iI wg), .ref acm, .ref ame])), (aw, .inl (X.2.2, 64000, .inl (aI (upI x.1 x.2 (w8 (w8 b))))))]) cx 1 rfl (by omega) (by decide) rfl dX8_putBit_10 ?_
  refine J_aload_n cx dX8_putBit_11 rfl 0 rfl ?_
  refine J_dup cx dX8_putBit_12 rfl ?_
  refine J_get cx inC8 0 rfl rfl 4 (by decide) T486 rfl rfl dX8_putBit_13 ?_
  refine J_iconst cx dX8_putBit_16 ?_
  refine J_iadd cx dX8_putBit_17 ?_
  refine J_put (ty := .int) (ws' := [(mo, .inr (8, [.int (iI mc), .int (iI mw), .int (iI mt), .ref as_, .int (iI (x.2 + 1)), .ref aw, .int (iI bk), .ref ac, .int (iI lc), .int (iI lw), .int (iI lm), .ref al, .int (iI F), .ref aco, .int (iI rn), .int (iI rc), .ref ars, .int (iI q), .int (iI bg), .int (iI ov), .int (iI wg), .ref acm, .ref ame])), (aw, .inl (X.2.2, 64000, .inl (aI (upI x.1 x.2 (w8 (w8 b))))))]) cx inC8 tyX8_ok nmX8 0 rfl rfl 4 (by decide) T486 rfl rfl (by decide +kernel) (rfl) (rfl) (Nat.le_of_ble_eq_true rfl) rfl dX8_putBit_18 ?_
  refine J_ws (ws' := [(mo, .inr (8, [.int (iI mc), .int (iI mw), .int (iI mt), .ref as_, .int (iI ((pbit b x).2)), .ref aw, .int (iI bk), .ref ac, .int (iI lc), .int (iI lw), .int (iI lm), .ref al, .int (iI F), .ref aco, .int (iI rn), .int (iI rc), .ref ars, .int (iI q), .int (iI bg), .int (iI ov), .int (iI wg), .ref acm, .ref ame])), (aw, .inl (X.2.2, 64000, .inl (aI ((pbit b x).1))))]) (by rw [w8_id (z := b) (by omega), w8_id (z := b) (by omega)]; rfl) ?_
  exact J_vret cx hr dX8_putBit_21 ⟨rfl, rfl⟩
set_option maxHeartbeats 4000000 in
set_option maxRecDepth 100000 in
theorem mX8_putNumber (l : Launch) (X : GX) (mo : Nat) (mc : Int) (mw : Int) (mt : Int) (as_ : Nat) (aw : Nat) (bk : Int) (ac : Nat) (lc : Int) (lw : Int) (lm : Int) (al : Nat) (F : Int) (aco : Nat) (rn : Int) (rc : Int) (ars : Nat) (q : Int) (bg : Int) (ov : Int) (wg : Int) (acm : Nat) (ame : Nat) (x : BB) (k : Int) (v : Int) (hk : 0 ≤ k ∧ k ≤ 15) (hv : 0 ≤ v ∧ v < 2147483648) (hx : 0 ≤ x.2 ∧ x.2 + nbits k v ≤ 24000) : Ct l yX8_putNumber cX8_putNumber 4 none 1 21 0 0 X [.ref mo, .int (iI k), .int (iI v)] [(mo, .inr (8, [.int (iI mc), .int (iI mw), .int (iI mt), .ref as_, .int (iI x.2), .ref aw, .int (iI bk), .ref ac, .int (iI lc), .int (iI lw), .int (iI lm), .ref al, .int (iI F), .ref aco, .int (iI rn), .int (iI rc), .ref ars, .int (iI q), .int (iI bg), .int (iI ov), .int (iI wg), .ref acm, .ref ame])), (aw, .inl (X.2.2, 64000, .inl (aI x.1)))] (fun1 none [(mo, .inr (8, [.int (iI mc), .int (iI mw), .int (iI mt), .ref as_, .int (iI ((pnum k v x).2)), .ref aw, .int (iI bk), .ref ac, .int (iI lc), .int (iI lw), .int (iI lm), .ref al, .int (iI F), .ref aco, .int (iI rn), .int (iI rc), .ref ars, .int (iI q), .int (iI bg), .int (iI ov), .int (iI wg), .ref acm, .ref ame])), (aw, .inl (X.2.2, 64000, .inl (aI ((pnum k v x).1))))]) := by
  refine Ct_of (own := RX8) (lv := [(0, .ref mo), (1, .int (iI k)), (2, .int (iI v))]) (by decide +kernel) rfl (Nat.le_of_ble_eq_true rfl) rfl ?_
  intro p e s m args below meth c A cx hr hin
  have hz0 : 0 ≤ v / p2 k ∧ v / p2 k ≤ v := ediv_p2 hv.1
  have hnb : nbits k v = v / p2 k + 1 + k := rfl
  refine J_iload_n cx dX8_putNumber_0 rfl 2 rfl ?_
  refine J_iload_n cx dX8_putNumber_1 rfl 1 rfl ?_
  refine J_ishr cx dX8_putNumber_2 (by omega) (by omega) ?_
  refine J_istore_n (lv' := [(3, .int (iI (v / p2 k))), (0, .ref mo), (1, .int (iI k)), (2, .int (iI v))]) cx dX8_putNumber_3 rfl (by decide) rfl ?_
  refine J_loop2 (fun (i : Int) (y : BB) => [(mo, .inr (8, [.int (iI mc), .int (iI mw), .int (iI mt), .ref as_, .int (iI y.2), .ref aw, .int (iI bk), .ref ac, .int (iI lc), .int (iI lw), .int (iI lm), .ref al, .int (iI F), .ref aco, .int (iI rn), .int (iI rc), .ref ars, .int (iI q), .int (iI bg), .int (iI ov), .int (iI wg), .ref acm, .ref ame])), (aw, .inl (X.2.2, 64000, .inl (aI y.1)))]) (fun (i : Int) (y : BB) => [(3, .int (iI i)), (0, .ref mo), (1, .int (iI k)), (2, .int (iI v))]) (fun (i : Int) (y : BB) => (0 ≤ i ∧ i ≤ v / p2 k) ∧ (y = pzer (v / p2 k - i).toNat x) ∧ (y.2 = x.2 + (v / p2 k - i))) (fun (i : Int) (y : BB) => i.toNat) (v / p2 k) x ⟨(by omega), (by rw [Int.sub_self]; rfl), (by omega)⟩ ?_
  intro i y hI ih_4
  obtain ⟨hi, hy, hyn⟩ := hI
  try dsimp only at hi hy hyn
  refine J_iload_n cx dX8_putNumber_4 rfl 0 rfl ?_
  refine J_if_le (tgt := 19) cx dX8_putNumber_5 (by decide) (by omega) (fun h_5 => ?_) (fun h_5 => ?_)
  · skip
    have hyy : y = pzer (v / p2 k).toNat x := by rw [hy, show v / p2 k - i = v / p2 k by omega]
    subst hyy
    have hpz := pzer_nI hz0.1 x
    refine J_aload_n cx dX8_putNumber_19 rfl 1 rfl ?_
    refine J_iconst cx dX8_putNumber_20 ?_
    refine J_callV (C := RX8) (T := TX8) (N := 23) cx (As := [.int (iI 1)]) (rest := []) (mX8_putBit l X mo mc mw mt as_ aw bk ac lc lw lm al F aco rn rc ars q bg ov wg acm ame (pzer (v / p2 k).toNat x) 1 (by omega) (by omega)) T571 T568 T570 S13 T9 ⟨rfl, hd_X8_putBit⟩ rfl ⟨Nat.le_of_ble_eq_true rfl, Nat.le_of_ble_eq_true rfl⟩ (Nat.le_of_ble_eq_true rfl) ⟨Nat.le_of_ble_eq_true rfl, Nat.le_of_ble_eq_true rfl⟩ [0, 1] [] rfl rfl rfl rfl rfl (by decide) 0 rfl rfl dX8_putNumber_21 rfl (J_f (ws' := [(mo, .inr (8, [.int (iI mc), .int (iI mw), .int (iI mt), .ref as_, .int (iI ((pbit 1 (pzer (v / p2 k).toNat x)).2)), .ref aw, .int (iI bk), .ref ac, .int (iI lc), .int (iI lw), .int (iI lm), .ref al, .int (iI F), .ref aco, .int (iI rn), .int (iI rc), .ref ars, .int (iI q), .int (iI bg), .int (iI ov), .int (iI wg), .ref acm, .ref ame])), (aw, .inl (X.2.2, 64000, .inl (aI ((pbit 1 (pzer (v / p2 k).toNat x)).1))))]) (st' := []) [0, 1] rfl rfl rfl rfl ?_)
    refine J_iload_n cx dX8_putNumber_24 rfl 2 rfl ?_
    refine J_iconst cx dX8_putNumber_25 ?_
    refine J_isub cx dX8_putNumber_26 ?_
    refine J_istore_n (lv' := [(3, .int (iI (k - 1))), (0, .ref mo), (1, .int (iI k)), (2, .int (iI v))]) cx dX8_putNumber_27 rfl (by decide) rfl ?_
    refine J_loop2 (fun (sh : Int) (y : BB) => [(mo, .inr (8, [.int (iI mc), .int (iI mw), .int (iI mt), .ref as_, .int (iI y.2), .ref aw, .int (iI bk), .ref ac, .int (iI lc), .int (iI lw), .int (iI lm), .ref al, .int (iI F), .ref aco, .int (iI rn), .int (iI rc), .ref ars, .int (iI q), .int (iI bg), .int (iI ov), .int (iI wg), .ref acm, .ref ame])), (aw, .inl (X.2.2, 64000, .inl (aI y.1)))]) (fun (sh : Int) (y : BB) => [(3, .int (iI sh)), (0, .ref mo), (1, .int (iI k)), (2, .int (iI v))]) (fun (sh : Int) (y : BB) => (-1 ≤ sh ∧ sh < k) ∧ (plow v (sh + 1).toNat y = pnum k v x) ∧ (y.2 + sh + 1 = x.2 + nbits k v)) (fun (sh : Int) (y : BB) => (sh + 1).toNat) (k - 1) (pbit 1 (pzer (v / p2 k).toNat x)) ⟨(by omega), (by rw [Int.sub_add_cancel]; rfl), (by rw [pbit_2, pzer_nI (by omega)]; omega)⟩ ?_
    intro sh y hI ih_28
    obtain ⟨hsh, hy, hyn⟩ := hI
    try dsimp only at hsh hy hyn
    refine J_iload_n cx dX8_putNumber_28 rfl 0 rfl ?_
    refine J_if_lt (tgt := 47) cx dX8_putNumber_29 (by decide) (by omega) (fun h_29 => ?_) (fun h_29 => ?_)
    · skip
      have hyy : y = pnum k v x := by rw [← hy, show (sh + 1).toNat = 0 by omega]; rfl
      subst hyy
      exact J_vret cx hr dX8_putNumber_47 ⟨rfl, rfl⟩
    · skip
      refine J_aload_n cx dX8_putNumber_32 rfl 1 rfl ?_
      refine J_iload_n cx dX8_putNumber_33 rfl 3 rfl ?_
      refine J_iload_n cx dX8_putNumber_34 rfl 0 rfl ?_
      refine J_ishr cx dX8_putNumber_35 (by omega) (by omega) ?_
      refine J_iconst cx dX8_putNumber_36 ?_
      refine J_iand (r := (v / p2 sh) % 2) cx dX8_putNumber_37 (iI_and1 _) ?_
      refine J_callV (C := RX8) (T := TX8) (N := 23) cx (As := [.int (iI ((v / p2 sh) % 2))]) (rest := []) (mX8_putBit l X mo mc mw mt as_ aw bk ac lc lw lm al F aco rn rc ars q bg ov wg acm ame y ((v / p2 sh) % 2) (by omega) (by omega)) T571 T568 T570 S13 T9 ⟨rfl, hd_X8_putBit⟩ rfl ⟨Nat.le_of_ble_eq_true rfl, Nat.le_of_ble_eq_true rfl⟩ (Nat.le_of_ble_eq_true rfl) ⟨Nat.le_of_ble_eq_true rfl, Nat.le_of_ble_eq_true rfl⟩ [0, 1] [] rfl rfl rfl rfl rfl (by decide) 0 rfl rfl dX8_putNumber_38 rfl (J_f (ws' := [(mo, .inr (8, [.int (iI mc), .int (iI mw), .int (iI mt), .ref as_, .int (iI ((pbit ((v / p2 sh) % 2) y).2)), .ref aw, .int (iI bk), .ref ac, .int (iI lc), .int (iI lw), .int (iI lm), .ref al, .int (iI F), .ref aco, .int (iI rn), .int (iI rc), .ref ars, .int (iI q), .int (iI bg), .int (iI ov), .int (iI wg), .ref acm, .ref ame])), (aw, .inl (X.2.2, 64000, .inl (aI ((pbit ((v / p2 sh) % 2) y).1))))]) (st' := []) [0, 1] rfl rfl rfl rfl ?_)
      refine J_iinc (q := 0) (lv' := [(3, .int (iI (sh + (-1)))), (0, .ref mo), (1, .int (iI k)), (2, .int (iI v))]) cx dX8_putNumber_41 rfl (by decide) rfl ?_
      refine J_goto (tgt := 28) cx dX8_putNumber_44 (by decide) ?_
      exact ih_28 (sh + (-1)) (pbit ((v / p2 sh) % 2) y) ⟨(by omega), (by have e5 := plow_step (v := v) (y := y) (sh := sh) (by omega); rw [← hy, e5, show sh + -1 + 1 = sh by omega]), (by rw [pbit_2]; omega)⟩ (by omega)
  · skip
    refine J_aload_n cx dX8_putNumber_8 rfl 1 rfl ?_
    refine J_iconst cx dX8_putNumber_9 ?_
    refine J_callV (C := RX8) (T := TX8) (N := 23) cx (As := [.int (iI 0)]) (rest := []) (mX8_putBit l X mo mc mw mt as_ aw bk ac lc lw lm al F aco rn rc ars q bg ov wg acm ame y 0 (by omega) (by omega)) T571 T568 T570 S13 T9 ⟨rfl, hd_X8_putBit⟩ rfl ⟨Nat.le_of_ble_eq_true rfl, Nat.le_of_ble_eq_true rfl⟩ (Nat.le_of_ble_eq_true rfl) ⟨Nat.le_of_ble_eq_true rfl, Nat.le_of_ble_eq_true rfl⟩ [0, 1] [] rfl rfl rfl rfl rfl (by decide) 0 rfl rfl dX8_putNumber_10 rfl (J_f (ws' := [(mo, .inr (8, [.int (iI mc), .int (iI mw), .int (iI mt), .ref as_, .int (iI ((pbit 0 y).2)), .ref aw, .int (iI bk), .ref ac, .int (iI lc), .int (iI lw), .int (iI lm), .ref al, .int (iI F), .ref aco, .int (iI rn), .int (iI rc), .ref ars, .int (iI q), .int (iI bg), .int (iI ov), .int (iI wg), .ref acm, .ref ame])), (aw, .inl (X.2.2, 64000, .inl (aI ((pbit 0 y).1))))]) (st' := []) [0, 1] rfl rfl rfl rfl ?_)
    refine J_iinc (q := 0) (lv' := [(3, .int (iI (i + (-1)))), (0, .ref mo), (1, .int (iI k)), (2, .int (iI v))]) cx dX8_putNumber_13 rfl (by decide) rfl ?_
    refine J_goto (tgt := 4) cx dX8_putNumber_16 (by decide) ?_
    exact ih_4 (i + (-1)) (pbit 0 y) ⟨(by omega), (by rw [hy, show v / p2 k - (i + -1) = v / p2 k - i + 1 by omega]; exact pzer_step (by omega)), (by rw [pbit_2]; omega)⟩ (by omega)
set_option maxHeartbeats 4000000 in
set_option maxRecDepth 100000 in
theorem mX8_folded (l : Launch) (X : GX) (v : Int) (hv : -2147483648 ≤ v ∧ v < 2147483648) : Ct l yX8_folded cX8_folded 1 (some .int) 0 0 0 0 X [.int (iI v)] [] (fun1 (some (.int (iI (foldI v)))) []) := by
  refine Ct_of (own := RX8) (lv := [(0, .int (iI v))]) (by decide +kernel) rfl (Nat.le_of_ble_eq_true rfl) rfl ?_
  intro p e s m args below meth c A cx hr hin
  refine J_iload_n cx dX8_folded_0 rfl 0 rfl ?_
  refine J_if_ge (tgt := 13) cx dX8_folded_1 (by decide) (by omega) (fun h_1 => ?_) (fun h_1 => ?_)
  · skip
    refine J_iconst cx dX8_folded_13 ?_
    refine J_iload_n cx dX8_folded_14 rfl 0 rfl ?_
    refine J_imul cx dX8_folded_15 ?_
    refine J_top (b := (foldI v)) (by unfold foldI; split <;> omega) ?_
    exact J_iret cx hr dX8_folded_16 ⟨rfl, rfl⟩
  · skip
    refine J_bipush cx dX8_folded_4 (by decide) ?_
    refine J_iload_n cx dX8_folded_6 rfl 0 rfl ?_
    refine J_imul cx dX8_folded_7 ?_
    refine J_iconst cx dX8_folded_8 ?_
    refine J_isub cx dX8_folded_9 ?_
    refine J_goto (tgt := 16) cx dX8_folded_10 (by decide) ?_
    refine J_top (b := (foldI v)) (by unfold foldI; split <;> omega) ?_
    exact J_iret cx hr dX8_folded_16 ⟨rfl, rfl⟩
set_option maxHeartbeats 4000000 in
set_option maxRecDepth 100000 in
theorem mX8_lengthOf (l : Launch) (X : GX) (k : Int) (v : Int) (hk : 0 ≤ k ∧ k < 32) (hv : -2147483648 ≤ v ∧ v < 2147483648) : Ct l yX8_lengthOf cX8_lengthOf 2 (some .int) 0 0 0 0 X [.int (iI k), .int (iI v)] [] (fun1 (some (.int (iI (nbits k v)))) []) := by
  refine Ct_of (own := RX8) (lv := [(0, .int (iI k)), (1, .int (iI v))]) (by decide +kernel) rfl (Nat.le_of_ble_eq_true rfl) rfl ?_
  intro p e s m args below meth c A cx hr hin
  refine J_iload_n cx dX8_lengthOf_0 rfl 1 rfl ?_
  refine J_iload_n cx dX8_lengthOf_1 rfl 0 rfl ?_
  refine J_ishr cx dX8_lengthOf_2 (by omega) (by omega) ?_
  refine J_iconst cx dX8_lengthOf_3 ?_
  refine J_iadd cx dX8_lengthOf_4 ?_
  refine J_iload_n cx dX8_lengthOf_5 rfl 0 rfl ?_
  refine J_iadd cx dX8_lengthOf_6 ?_
  refine J_top (b := (nbits k v)) (rfl) ?_
  exact J_iret cx hr dX8_lengthOf_7 ⟨rfl, rfl⟩
set_option maxHeartbeats 4000000 in
set_option maxRecDepth 100000 in
theorem mX8_firstOf (l : Launch) (X : GX) (mo : Nat) (mc : Int) (mw : Int) (mt : Int) (as_ : Nat) (nb : Int) (aw : Nat) (bk : Int) (ac : Nat) (lc : Int) (lw : Int) (lm : Int) (al : Nat) (F : Int) (aco : Nat) (rn : Int) (rc : Int) (ars : Nat) (q : Int) (bg : Int) (ov : Int) (wg : Int) (acm : Nat) (ame : Nat) (nu : Int) (c2 : Int) : Ct l yX8_firstOf cX8_firstOf 3 (some .int) 0 0 0 0 X [.ref mo, .int (iI nu), .int (iI c2)] [(mo, .inr (8, [.int (iI mc), .int (iI mw), .int (iI mt), .ref as_, .int (iI nb), .ref aw, .int (iI bk), .ref ac, .int (iI lc), .int (iI lw), .int (iI lm), .ref al, .int (iI F), .ref aco, .int (iI rn), .int (iI rc), .ref ars, .int (iI q), .int (iI bg), .int (iI ov), .int (iI wg), .ref acm, .ref ame]))] (fun1 (some (.int (iI (nu * lw * lc + c2)))) [(mo, .inr (8, [.int (iI mc), .int (iI mw), .int (iI mt), .ref as_, .int (iI nb), .ref aw, .int (iI bk), .ref ac, .int (iI lc), .int (iI lw), .int (iI lm), .ref al, .int (iI F), .ref aco, .int (iI rn), .int (iI rc), .ref ars, .int (iI q), .int (iI bg), .int (iI ov), .int (iI wg), .ref acm, .ref ame]))]) := by
  refine Ct_of (own := RX8) (lv := [(0, .ref mo), (1, .int (iI nu)), (2, .int (iI c2))]) (by decide +kernel) rfl (Nat.le_of_ble_eq_true rfl) rfl ?_
  intro p e s m args below meth c A cx hr hin
  refine J_iload_n cx dX8_firstOf_0 rfl 1 rfl ?_
  refine J_aload_n cx dX8_firstOf_1 rfl 0 rfl ?_
  refine J_get cx inC8 0 rfl rfl 9 (by decide) T491 rfl rfl dX8_firstOf_2 ?_
  refine J_imul cx dX8_firstOf_5 ?_
  refine J_aload_n cx dX8_firstOf_6 rfl 0 rfl ?_
  refine J_get cx inC8 0 rfl rfl 8 (by decide) T490 rfl rfl dX8_firstOf_7 ?_
  refine J_imul cx dX8_firstOf_10 ?_
  refine J_iload_n cx dX8_firstOf_11 rfl 2 rfl ?_
  refine J_iadd cx dX8_firstOf_12 ?_
  refine J_top (b := (nu * lw * lc + c2)) (by omega) ?_
  exact J_iret cx hr dX8_firstOf_13 ⟨rfl, rfl⟩
set_option maxHeartbeats 4000000 in
set_option maxRecDepth 100000 in
theorem mX8_sizeOf (l : Launch) (X : GX) (mo : Nat) (mc : Int) (mw : Int) (mt : Int) (as_ : Nat) (nb : Int) (aw : Nat) (bk : Int) (ac : Nat) (lc : Int) (lw : Int) (lm : Int) (al : Nat) (F : Int) (aco : Nat) (rn : Int) (rc : Int) (ars : Nat) (q : Int) (bg : Int) (ov : Int) (wg : Int) (acm : Nat) (ame : Nat) (nu : Int) (hl : 1 ≤ lw ∧ lw ≤ 64) (hm4 : 0 ≤ lm ∧ lm ≤ 400) (hnl : 0 ≤ nu * lw ∧ nu * lw < 100000) : Ct l yX8_sizeOf cX8_sizeOf 3 (some .int) 0 0 0 0 X [.ref mo, .int (iI nu)] [(mo, .inr (8, [.int (iI mc), .int (iI mw), .int (iI mt), .ref as_, .int (iI nb), .ref aw, .int (iI bk), .ref ac, .int (iI lc), .int (iI lw), .int (iI lm), .ref al, .int (iI F), .ref aco, .int (iI rn), .int (iI rc), .ref ars, .int (iI q), .int (iI bg), .int (iI ov), .int (iI wg), .ref acm, .ref ame]))] (fun1 (some (.int (iI (mnI lw (lm - nu * lw))))) [(mo, .inr (8, [.int (iI mc), .int (iI mw), .int (iI mt), .ref as_, .int (iI nb), .ref aw, .int (iI bk), .ref ac, .int (iI lc), .int (iI lw), .int (iI lm), .ref al, .int (iI F), .ref aco, .int (iI rn), .int (iI rc), .ref ars, .int (iI q), .int (iI bg), .int (iI ov), .int (iI wg), .ref acm, .ref ame]))]) := by
  refine Ct_of (own := RX8) (lv := [(0, .ref mo), (1, .int (iI nu))]) (by decide +kernel) rfl (Nat.le_of_ble_eq_true rfl) rfl ?_
  intro p e s m args below meth c A cx hr hin
  refine J_aload_n cx dX8_sizeOf_0 rfl 0 rfl ?_
  refine J_get cx inC8 0 rfl rfl 10 (by decide) T492 rfl rfl dX8_sizeOf_1 ?_
  refine J_iload_n cx dX8_sizeOf_4 rfl 1 rfl ?_
  refine J_aload_n cx dX8_sizeOf_5 rfl 0 rfl ?_
  refine J_get cx inC8 0 rfl rfl 9 (by decide) T491 rfl rfl dX8_sizeOf_6 ?_
  refine J_imul cx dX8_sizeOf_9 ?_
  refine J_isub cx dX8_sizeOf_10 ?_
  refine J_istore_n (lv' := [(2, .int (iI (lm - (nu * lw)))), (0, .ref mo), (1, .int (iI nu))]) cx dX8_sizeOf_11 rfl (by decide) rfl ?_
  refine J_iload_n cx dX8_sizeOf_12 rfl 0 rfl ?_
  refine J_aload_n cx dX8_sizeOf_13 rfl 1 rfl ?_
  refine J_get cx inC8 0 rfl rfl 9 (by decide) T491 rfl rfl dX8_sizeOf_14 ?_
  refine J_icmp_ge (tgt := 24) cx dX8_sizeOf_17 (by decide) (by omega) (by omega) (fun h_17 => ?_) (fun h_17 => ?_)
  · skip
    refine J_aload_n cx dX8_sizeOf_24 rfl 1 rfl ?_
    refine J_get cx inC8 0 rfl rfl 9 (by decide) T491 rfl rfl dX8_sizeOf_25 ?_
    refine J_top (b := (mnI lw (lm - nu * lw))) (by unfold mnI; split <;> omega) ?_
    exact J_iret cx hr dX8_sizeOf_28 ⟨rfl, rfl⟩
  · skip
    refine J_iload_n cx dX8_sizeOf_20 rfl 0 rfl ?_
    refine J_goto (tgt := 28) cx dX8_sizeOf_21 (by decide) ?_
    refine J_top (b := (mnI lw (lm - nu * lw))) (by unfold mnI; split <;> omega) ?_
    exact J_iret cx hr dX8_sizeOf_28 ⟨rfl, rfl⟩
set_option maxHeartbeats 4000000 in
set_option maxRecDepth 100000 in
theorem mX8_costOf (l : Launch) (X : GX) (mo : Nat) (mc : Int) (mw : Int) (mt : Int) (as_ : Nat) (nb : Int) (aw : Nat) (bk : Int) (ac : Nat) (lc : Int) (lw : Int) (lm : Int) (al : Nat) (F : Int) (aco : Nat) (rn : Int) (rc : Int) (ars : Nat) (q : Int) (bg : Int) (ov : Int) (wg : Int) (acm : Nat) (ame : Nat) (f : Int → Int) (nu : Int) (c2 : Int) (fn : Int) (k : Int) (mu : Int) (hc : 1 ≤ lc ∧ lc ≤ 2) (hl : 1 ≤ lw ∧ lw ≤ 64) (hm4 : 0 ≤ lm ∧ lm ≤ 400) (hc2 : 0 ≤ c2 ∧ c2 < lc) (hnl : 0 ≤ nu * lw ∧ nu * lw < lm) (hf : ∀ j, -32768 ≤ f j ∧ f j ≤ 32767) (hfn : 0 ≤ fn ∧ fn ≤ 3) (hk : 0 ≤ k ∧ k ≤ 15) (hmu : -32768 ≤ mu ∧ mu ≤ 32767) : Ct l yX8_costOf cX8_costOf 9 (some .int) 2 51 0 0 X [.ref mo, .int (iI nu), .int (iI c2), .int (iI fn), .int (iI k), .int (iI mu)] [(mo, .inr (8, [.int (iI mc), .int (iI mw), .int (iI mt), .ref as_, .int (iI nb), .ref aw, .int (iI bk), .ref ac, .int (iI lc), .int (iI lw), .int (iI lm), .ref al, .int (iI F), .ref aco, .int (iI rn), .int (iI rc), .ref ars, .int (iI q), .int (iI bg), .int (iI ov), .int (iI wg), .ref acm, .ref ame])), (al, .inl (X.2.1, 800, .inl (aI f)))] (fun1 (some (.int (iI (cost f lc lw lm mu (nu * lc + c2) fn k)))) [(mo, .inr (8, [.int (iI mc), .int (iI mw), .int (iI mt), .ref as_, .int (iI nb), .ref aw, .int (iI bk), .ref ac, .int (iI lc), .int (iI lw), .int (iI lm), .ref al, .int (iI F), .ref aco, .int (iI rn), .int (iI rc), .ref ars, .int (iI q), .int (iI bg), .int (iI ov), .int (iI wg), .ref acm, .ref ame])), (al, .inl (X.2.1, 800, .inl (aI f)))]) := by
  refine Ct_of (own := RX8) (lv := [(0, .ref mo), (1, .int (iI nu)), (2, .int (iI c2)), (3, .int (iI fn)), (4, .int (iI k)), (5, .int (iI mu))]) (by decide +kernel) rfl (Nat.le_of_ble_eq_true rfl) rfl ?_
  intro p e s m args below meth c A cx hr hin
  have hbF := bf_nu (bl := lw) (nu := nu) hc hc2
  have hbS := bs_nu (bl := lw) (many := lm) (nu := nu) hc hc2
  have hs64 : 1 ≤ mnI lw (lm - nu * lw) ∧ mnI lw (lm - nu * lw) ≤ 64 := by unfold mnI; split <;> omega
  refine J_iconst cx dX8_costOf_0 ?_
  refine J_iload_n cx dX8_costOf_1 rfl 3 rfl ?_
  refine J_callS cx (As := [.int (iI 2), .int (iI fn)]) (rest := []) (mX8_lengthOf l X 2 fn (by omega) (by omega)) T605 T603 T604 T9 hd_X8_lengthOf rfl ⟨Nat.le_of_ble_eq_true rfl, Nat.le_of_ble_eq_true rfl⟩ (Nat.le_of_ble_eq_true rfl) ⟨Nat.le_of_ble_eq_true rfl, Nat.le_of_ble_eq_true rfl⟩ [] [0, 1] rfl rfl rfl rfl rfl (by decide) dX8_costOf_2 rfl (J_f (ws' := [(mo, .inr (8, [.int (iI mc), .int (iI mw), .int (iI mt), .ref as_, .int (iI nb), .ref aw, .int (iI bk), .ref ac, .int (iI lc), .int (iI lw), .int (iI lm), .ref al, .int (iI F), .ref aco, .int (iI rn), .int (iI rc), .ref ars, .int (iI q), .int (iI bg), .int (iI ov), .int (iI wg), .ref acm, .ref ame])), (al, .inl (X.2.1, 800, .inl (aI f)))]) (st' := [.int (iI (nbits 2 fn))]) [0, 1] rfl rfl rfl rfl ?_)
  refine J_iconst cx dX8_costOf_5 ?_
  refine J_iload cx dX8_costOf_6 4 rfl ?_
  refine J_callS cx (As := [.int (iI 3), .int (iI k)]) (rest := [.int (iI (nbits 2 fn))]) (mX8_lengthOf l X 3 k (by omega) (by omega)) T605 T603 T604 T9 hd_X8_lengthOf rfl ⟨Nat.le_of_ble_eq_true rfl, Nat.le_of_ble_eq_true rfl⟩ (Nat.le_of_ble_eq_true rfl) ⟨Nat.le_of_ble_eq_true rfl, Nat.le_of_ble_eq_true rfl⟩ [] [0, 1] rfl rfl rfl rfl rfl (by decide) dX8_costOf_8 rfl (J_f (ws' := [(mo, .inr (8, [.int (iI mc), .int (iI mw), .int (iI mt), .ref as_, .int (iI nb), .ref aw, .int (iI bk), .ref ac, .int (iI lc), .int (iI lw), .int (iI lm), .ref al, .int (iI F), .ref aco, .int (iI rn), .int (iI rc), .ref ars, .int (iI q), .int (iI bg), .int (iI ov), .int (iI wg), .ref acm, .ref ame])), (al, .inl (X.2.1, 800, .inl (aI f)))]) (st' := [.int (iI (nbits 3 k)), .int (iI (nbits 2 fn))]) [0, 1] rfl rfl rfl rfl ?_)
  refine J_iadd cx dX8_costOf_11 ?_
  refine J_istore (lv' := [(6, .int (iI ((nbits 2 fn) + (nbits 3 k)))), (0, .ref mo), (1, .int (iI nu)), (2, .int (iI c2)), (3, .int (iI fn)), (4, .int (iI k)), (5, .int (iI mu))]) cx dX8_costOf_12 (by decide) rfl ?_
  refine J_iconst cx dX8_costOf_14 ?_
  refine J_istore (lv' := [(7, .int (iI 0)), (6, .int (iI ((nbits 2 fn) + (nbits 3 k)))), (0, .ref mo), (1, .int (iI nu)), (2, .int (iI c2)), (3, .int (iI fn)), (4, .int (iI k)), (5, .int (iI mu))]) cx dX8_costOf_15 (by decide) rfl ?_
  refine J_loop2 (fun (sm : Int) (j : Int) => [(mo, .inr (8, [.int (iI mc), .int (iI mw), .int (iI mt), .ref as_, .int (iI nb), .ref aw, .int (iI bk), .ref ac, .int (iI lc), .int (iI lw), .int (iI lm), .ref al, .int (iI F), .ref aco, .int (iI rn), .int (iI rc), .ref ars, .int (iI q), .int (iI bg), .int (iI ov), .int (iI wg), .ref acm, .ref ame])), (al, .inl (X.2.1, 800, .inl (aI f)))]) (fun (sm : Int) (j : Int) => [(7, .int (iI j)), (6, .int (iI sm)), (0, .ref mo), (1, .int (iI nu)), (2, .int (iI c2)), (3, .int (iI fn)), (4, .int (iI k)), (5, .int (iI mu))]) (fun (sm : Int) (j : Int) => (0 ≤ j ∧ j ≤ mnI lw (lm - nu * lw)) ∧ (sm = nbits 2 fn + nbits 3 k + zsum (fun j => rst f lc fn (nu * lw * lc + c2 + j * lc) mu) k j + j * (1 + k))) (fun (sm : Int) (j : Int) => (mnI lw (lm - nu * lw) - j).toNat) ((nbits 2 fn) + (nbits 3 k)) 0 ⟨(by omega), (by rw [zsum_0]; omega)⟩ ?_
  intro sm j hI ih_17
  obtain ⟨hj, hsm⟩ := hI
  try dsimp only at hj hsm
  refine J_iload cx dX8_costOf_17 0 rfl ?_
  refine J_aload_n cx dX8_costOf_19 rfl 2 rfl ?_
  refine J_iload_n cx dX8_costOf_20 rfl 3 rfl ?_
  refine J_callV (C := RX8) (T := TX8) (N := 23) cx (As := [.int (iI nu)]) (rest := [.int (iI j)]) (mX8_sizeOf l X mo mc mw mt as_ nb aw bk ac lc lw lm al F aco rn rc ars q bg ov wg acm ame nu (by omega) (by omega) (by omega)) T594 T591 T593 S18 T9 ⟨rfl, hd_X8_sizeOf⟩ rfl ⟨Nat.le_of_ble_eq_true rfl, Nat.le_of_ble_eq_true rfl⟩ (Nat.le_of_ble_eq_true rfl) ⟨Nat.le_of_ble_eq_true rfl, Nat.le_of_ble_eq_true rfl⟩ [0] [1] rfl rfl rfl rfl rfl (by decide) 0 rfl rfl dX8_costOf_21 rfl (J_f (ws' := [(mo, .inr (8, [.int (iI mc), .int (iI mw), .int (iI mt), .ref as_, .int (iI nb), .ref aw, .int (iI bk), .ref ac, .int (iI lc), .int (iI lw), .int (iI lm), .ref al, .int (iI F), .ref aco, .int (iI rn), .int (iI rc), .ref ars, .int (iI q), .int (iI bg), .int (iI ov), .int (iI wg), .ref acm, .ref ame])), (al, .inl (X.2.1, 800, .inl (aI f)))]) (st' := [.int (iI (mnI lw (lm - nu * lw))), .int (iI j)]) [1, 0] rfl rfl rfl rfl ?_)
  refine J_icmp_ge (tgt := 86) cx dX8_costOf_24 (by decide) (by omega) (by omega) (fun h_24 => ?_) (fun h_24 => ?_)
  · skip
    refine J_iload cx dX8_costOf_86 1 rfl ?_
    refine J_top (b := (cost f lc lw lm mu (nu * lc + c2) fn k)) (by rw [hsm, show j = mnI lw (lm - nu * lw) by omega]; unfold cost bcost; rw [hbF, hbS]) ?_
    exact J_iret cx hr dX8_costOf_88 ⟨rfl, rfl⟩
  · skip
    have h_in := blk_inN hc hc2 (many := lm) (bl := lw) (nu := nu) (j := j) (by omega) hnl.1 (by omega) (by omega)
    have htr := tah_rng hf hmu lc fn (nu * lw * lc + c2 + j * lc)
    have hfp := hf (nu * lw * lc + c2 + j * lc)
    have hrr := rst_rng hf hmu lc fn (nu * lw * lc + c2 + j * lc)
    refine J_aload_n cx dX8_costOf_27 rfl 2 rfl ?_
    refine J_iload_n cx dX8_costOf_28 rfl 3 rfl ?_
    refine J_iload_n cx dX8_costOf_29 rfl 4 rfl ?_
    refine J_callV (C := RX8) (T := TX8) (N := 23) cx (As := [.int (iI nu), .int (iI c2)]) (rest := []) (mX8_firstOf l X mo mc mw mt as_ nb aw bk ac lc lw lm al F aco rn rc ars q bg ov wg acm ame nu c2 ) T598 T595 T597 S19 T9 ⟨rfl, hd_X8_firstOf⟩ rfl ⟨Nat.le_of_ble_eq_true rfl, Nat.le_of_ble_eq_true rfl⟩ (Nat.le_of_ble_eq_true rfl) ⟨Nat.le_of_ble_eq_true rfl, Nat.le_of_ble_eq_true rfl⟩ [0] [1] rfl rfl rfl rfl rfl (by decide) 0 rfl rfl dX8_costOf_30 rfl (J_f (ws' := [(mo, .inr (8, [.int (iI mc), .int (iI mw), .int (iI mt), .ref as_, .int (iI nb), .ref aw, .int (iI bk), .ref ac, .int (iI lc), .int (iI lw), .int (iI lm), .ref al, .int (iI F), .ref aco, .int (iI rn), .int (iI rc), .ref ars, .int (iI q), .int (iI bg), .int (iI ov), .int (iI wg), .ref acm, .ref ame])), (al, .inl (X.2.1, 800, .inl (aI f)))]) (st' := [.int (iI (nu * lw * lc + c2))]) [1, 0] rfl rfl rfl rfl ?_)
    refine J_iload cx dX8_costOf_33 0 rfl ?_
    refine J_aload_n cx dX8_costOf_35 rfl 2 rfl ?_
    refine J_get cx inC8 0 rfl rfl 8 (by decide) T490 rfl rfl dX8_costOf_36 ?_
    refine J_imul cx dX8_costOf_39 ?_
    refine J_iadd cx dX8_costOf_40 ?_
    refine J_istore (lv' := [(8, .int (iI ((nu * lw * lc + c2) + (j * lc)))), (7, .int (iI j)), (6, .int (iI sm)), (0, .ref mo), (1, .int (iI nu)), (2, .int (iI c2)), (3, .int (iI fn)), (4, .int (iI k)), (5, .int (iI mu))]) cx dX8_costOf_41 (by decide) rfl ?_
    refine J_iload cx dX8_costOf_43 2 rfl ?_
    refine J_iload cx dX8_costOf_45 7 rfl ?_
    refine J_aload_n cx dX8_costOf_47 rfl 3 rfl ?_
    refine J_get cx inC8 0 rfl rfl 11 (by decide) T493 rfl rfl dX8_costOf_48 ?_
    refine J_iload cx dX8_costOf_51 0 rfl ?_
    refine J_iald cx 1 rfl (by omega) (by decide) dX8_costOf_53 ?_
    refine J_iload_n cx dX8_costOf_54 rfl 6 rfl ?_
    refine J_aload_n cx dX8_costOf_55 rfl 3 rfl ?_
    refine J_get cx inC8 0 rfl rfl 11 (by decide) T493 rfl rfl dX8_costOf_56 ?_
    refine J_iload cx dX8_costOf_59 0 rfl ?_
    refine J_aload_n cx dX8_costOf_61 rfl 3 rfl ?_
    refine J_get cx inC8 0 rfl rfl 8 (by decide) T490 rfl rfl dX8_costOf_62 ?_
    refine J_iload cx dX8_costOf_65 8 rfl ?_
    refine J_callS cx (As := [.int (iI fn), .ref al, .int (iI ((nu * lw * lc + c2) + (j * lc))), .int (iI lc), .int (iI mu)]) (rest := [.int (iI (f ((nu * lw * lc + c2) + (j * lc)))), .int (iI k), .int (iI sm)]) (mX8_ahead l X fn al f ((nu * lw * lc + c2) + (j * lc)) lc mu (by omega) (by omega) (by omega)) T608 T606 T607 T9 hd_X8_ahead rfl ⟨Nat.le_of_ble_eq_true rfl, Nat.le_of_ble_eq_true rfl⟩ (Nat.le_of_ble_eq_true rfl) ⟨Nat.le_of_ble_eq_true rfl, Nat.le_of_ble_eq_true rfl⟩ [1] [0] rfl rfl rfl rfl rfl (by decide) dX8_costOf_67 rfl (J_f (ws' := [(mo, .inr (8, [.int (iI mc), .int (iI mw), .int (iI mt), .ref as_, .int (iI nb), .ref aw, .int (iI bk), .ref ac, .int (iI lc), .int (iI lw), .int (iI lm), .ref al, .int (iI F), .ref aco, .int (iI rn), .int (iI rc), .ref ars, .int (iI q), .int (iI bg), .int (iI ov), .int (iI wg), .ref acm, .ref ame])), (al, .inl (X.2.1, 800, .inl (aI f)))]) (st' := [.int (iI (tah f lc fn ((nu * lw * lc + c2) + (j * lc)) mu)), .int (iI (f ((nu * lw * lc + c2) + (j * lc)))), .int (iI k), .int (iI sm)]) [0, 1] rfl rfl rfl rfl ?_)
    refine J_isub cx dX8_costOf_70 ?_
    refine J_callS cx (As := [.int (iI ((f ((nu * lw * lc + c2) + (j * lc))) - (tah f lc fn ((nu * lw * lc + c2) + (j * lc)) mu)))]) (rest := [.int (iI k), .int (iI sm)]) (mX8_folded l X ((f ((nu * lw * lc + c2) + (j * lc))) - (tah f lc fn ((nu * lw * lc + c2) + (j * lc)) mu)) (by omega)) T614 T612 T613 T9 hd_X8_folded rfl ⟨Nat.le_of_ble_eq_true rfl, Nat.le_of_ble_eq_true rfl⟩ (Nat.le_of_ble_eq_true rfl) ⟨Nat.le_of_ble_eq_true rfl, Nat.le_of_ble_eq_true rfl⟩ [] [0, 1] rfl rfl rfl rfl rfl (by decide) dX8_costOf_71 rfl (J_f (ws' := [(mo, .inr (8, [.int (iI mc), .int (iI mw), .int (iI mt), .ref as_, .int (iI nb), .ref aw, .int (iI bk), .ref ac, .int (iI lc), .int (iI lw), .int (iI lm), .ref al, .int (iI F), .ref aco, .int (iI rn), .int (iI rc), .ref ars, .int (iI q), .int (iI bg), .int (iI ov), .int (iI wg), .ref acm, .ref ame])), (al, .inl (X.2.1, 800, .inl (aI f)))]) (st' := [.int (iI (foldI ((f ((nu * lw * lc + c2) + (j * lc))) - (tah f lc fn ((nu * lw * lc + c2) + (j * lc)) mu)))), .int (iI k), .int (iI sm)]) [0, 1] rfl rfl rfl rfl ?_)
    refine J_callS cx (As := [.int (iI k), .int (iI (foldI ((f ((nu * lw * lc + c2) + (j * lc))) - (tah f lc fn ((nu * lw * lc + c2) + (j * lc)) mu))))]) (rest := [.int (iI sm)]) (mX8_lengthOf l X k (foldI ((f ((nu * lw * lc + c2) + (j * lc))) - (tah f lc fn ((nu * lw * lc + c2) + (j * lc)) mu))) (by omega) (by (have h5 : 0 ≤ foldI (f (nu * lw * lc + c2 + j * lc) - tah f lc fn (nu * lw * lc + c2 + j * lc) mu) ∧ foldI (f (nu * lw * lc + c2 + j * lc) - tah f lc fn (nu * lw * lc + c2 + j * lc) mu) ≤ 600000 := hrr); omega)) T605 T603 T604 T9 hd_X8_lengthOf rfl ⟨Nat.le_of_ble_eq_true rfl, Nat.le_of_ble_eq_true rfl⟩ (Nat.le_of_ble_eq_true rfl) ⟨Nat.le_of_ble_eq_true rfl, Nat.le_of_ble_eq_true rfl⟩ [] [0, 1] rfl rfl rfl rfl rfl (by decide) dX8_costOf_74 rfl (J_f (ws' := [(mo, .inr (8, [.int (iI mc), .int (iI mw), .int (iI mt), .ref as_, .int (iI nb), .ref aw, .int (iI bk), .ref ac, .int (iI lc), .int (iI lw), .int (iI lm), .ref al, .int (iI F), .ref aco, .int (iI rn), .int (iI rc), .ref ars, .int (iI q), .int (iI bg), .int (iI ov), .int (iI wg), .ref acm, .ref ame])), (al, .inl (X.2.1, 800, .inl (aI f)))]) (st' := [.int (iI (nbits k (foldI ((f ((nu * lw * lc + c2) + (j * lc))) - (tah f lc fn ((nu * lw * lc + c2) + (j * lc)) mu))))), .int (iI sm)]) [0, 1] rfl rfl rfl rfl ?_)
    refine J_iadd cx dX8_costOf_77 ?_
    refine J_istore (lv' := [(6, .int (iI (sm + (nbits k (foldI ((f ((nu * lw * lc + c2) + (j * lc))) - (tah f lc fn ((nu * lw * lc + c2) + (j * lc)) mu))))))), (8, .int (iI ((nu * lw * lc + c2) + (j * lc)))), (7, .int (iI j)), (0, .ref mo), (1, .int (iI nu)), (2, .int (iI c2)), (3, .int (iI fn)), (4, .int (iI k)), (5, .int (iI mu))]) cx dX8_costOf_78 (by decide) rfl ?_
    refine J_iinc (q := 2) (lv' := [(7, .int (iI (j + 1))), (6, .int (iI (sm + (nbits k (foldI ((f ((nu * lw * lc + c2) + (j * lc))) - (tah f lc fn ((nu * lw * lc + c2) + (j * lc)) mu))))))), (8, .int (iI ((nu * lw * lc + c2) + (j * lc)))), (0, .ref mo), (1, .int (iI nu)), (2, .int (iI c2)), (3, .int (iI fn)), (4, .int (iI k)), (5, .int (iI mu))]) cx dX8_costOf_80 rfl (by decide) rfl ?_
    refine J_goto (tgt := 17) cx dX8_costOf_83 (by decide) ?_
    refine J_lv (lv' := [(7, .int (iI (j + 1))), (6, .int (iI (sm + (nbits k (foldI ((f ((nu * lw * lc + c2) + (j * lc))) - (tah f lc fn ((nu * lw * lc + c2) + (j * lc)) mu))))))), (0, .ref mo), (1, .int (iI nu)), (2, .int (iI c2)), (3, .int (iI fn)), (4, .int (iI k)), (5, .int (iI mu))]) [0, 1, 3, 4, 5, 6, 7, 8] rfl ?_
    exact ih_17 (sm + (nbits k (foldI ((f ((nu * lw * lc + c2) + (j * lc))) - (tah f lc fn ((nu * lw * lc + c2) + (j * lc)) mu))))) (j + 1) ⟨(by omega), (by rw [zsum_s (by omega), Int.add_mul, hsm]; unfold nbits rst; omega)⟩ (by omega)
set_option maxHeartbeats 4000000 in
set_option maxRecDepth 100000 in
theorem mX8_isMean (l : Launch) (X : GX) (mo : Nat) (mc : Int) (mw : Int) (mt : Int) (as_ : Nat) (nb : Int) (aw : Nat) (bk : Int) (ac : Nat) (lc : Int) (lw : Int) (lm : Int) (al : Nat) (F : Int) (aco : Nat) (rn : Int) (rc : Int) (ars : Nat) (q : Int) (bg : Int) (ov : Int) (wg : Int) (acm : Nat) (ame : Nat) (f : Int → Int) (nu : Int) (c2 : Int) (mu : Int) (hc : 1 ≤ lc ∧ lc ≤ 2) (hl : 1 ≤ lw ∧ lw ≤ 64) (hm4 : 0 ≤ lm ∧ lm ≤ 400) (hc2 : 0 ≤ c2 ∧ c2 < lc) (hnl : 0 ≤ nu * lw ∧ nu * lw < lm) (hf : ∀ j, -32768 ≤ f j ∧ f j ≤ 32767) (hmu : -32768 ≤ mu ∧ mu ≤ 32767) : Ct l yX8_isMean cX8_isMean 6 (some .boolean) 1 22 0 0 X [.ref mo, .int (iI nu), .int (iI c2), .int (iI mu)] [(mo, .inr (8, [.int (iI mc), .int (iI mw), .int (iI mt), .ref as_, .int (iI nb), .ref aw, .int (iI bk), .ref ac, .int (iI lc), .int (iI lw), .int (iI lm), .ref al, .int (iI F), .ref aco, .int (iI rn), .int (iI rc), .ref ars, .int (iI q), .int (iI bg), .int (iI ov), .int (iI wg), .ref acm, .ref ame])), (al, .inl (X.2.1, 800, .inl (aI f)))] (fun1 (some (.int (iI (emN f lc (nu * lw * lc + c2) mu (mnI lw (lm - nu * lw)).toNat)))) [(mo, .inr (8, [.int (iI mc), .int (iI mw), .int (iI mt), .ref as_, .int (iI nb), .ref aw, .int (iI bk), .ref ac, .int (iI lc), .int (iI lw), .int (iI lm), .ref al, .int (iI F), .ref aco, .int (iI rn), .int (iI rc), .ref ars, .int (iI q), .int (iI bg), .int (iI ov), .int (iI wg), .ref acm, .ref ame])), (al, .inl (X.2.1, 800, .inl (aI f)))]) := by
  refine Ct_of (own := RX8) (lv := [(0, .ref mo), (1, .int (iI nu)), (2, .int (iI c2)), (3, .int (iI mu))]) (by decide +kernel) rfl (Nat.le_of_ble_eq_true rfl) rfl ?_
  intro p e s m args below meth c A cx hr hin
  have hbF := bf_nu (bl := lw) (nu := nu) hc hc2
  have hbS := bs_nu (bl := lw) (many := lm) (nu := nu) hc hc2
  have hs64 : 1 ≤ mnI lw (lm - nu * lw) ∧ mnI lw (lm - nu * lw) ≤ 64 := by unfold mnI; split <;> omega
  refine J_iconst cx dX8_isMean_0 ?_
  refine J_istore (lv' := [(4, .int (iI 1)), (0, .ref mo), (1, .int (iI nu)), (2, .int (iI c2)), (3, .int (iI mu))]) cx dX8_isMean_1 (by decide) rfl ?_
  refine J_iconst cx dX8_isMean_3 ?_
  refine J_istore (lv' := [(5, .int (iI 0)), (4, .int (iI 1)), (0, .ref mo), (1, .int (iI nu)), (2, .int (iI c2)), (3, .int (iI mu))]) cx dX8_isMean_4 (by decide) rfl ?_
  refine J_loop2 (fun (is_ : Int) (j : Int) => [(mo, .inr (8, [.int (iI mc), .int (iI mw), .int (iI mt), .ref as_, .int (iI nb), .ref aw, .int (iI bk), .ref ac, .int (iI lc), .int (iI lw), .int (iI lm), .ref al, .int (iI F), .ref aco, .int (iI rn), .int (iI rc), .ref ars, .int (iI q), .int (iI bg), .int (iI ov), .int (iI wg), .ref acm, .ref ame])), (al, .inl (X.2.1, 800, .inl (aI f)))]) (fun (is_ : Int) (j : Int) => [(5, .int (iI j)), (4, .int (iI is_)), (0, .ref mo), (1, .int (iI nu)), (2, .int (iI c2)), (3, .int (iI mu))]) (fun (is_ : Int) (j : Int) => (0 ≤ j ∧ j ≤ mnI lw (lm - nu * lw)) ∧ (is_ = emN f lc (nu * lw * lc + c2) mu j.toNat)) (fun (is_ : Int) (j : Int) => (mnI lw (lm - nu * lw) - j).toNat) 1 0 ⟨(by omega), (rfl)⟩ ?_
  intro is_ j hI ih_6
  obtain ⟨hj, his⟩ := hI
  try dsimp only at hj his
  have h01 := em_01 f lc (nu * lw * lc + c2) mu j.toNat
  refine J_iload cx dX8_isMean_6 0 rfl ?_
  refine J_aload_n cx dX8_isMean_8 rfl 2 rfl ?_
  refine J_iload_n cx dX8_isMean_9 rfl 3 rfl ?_
  refine J_callV (C := RX8) (T := TX8) (N := 23) cx (As := [.int (iI nu)]) (rest := [.int (iI j)]) (mX8_sizeOf l X mo mc mw mt as_ nb aw bk ac lc lw lm al F aco rn rc ars q bg ov wg acm ame nu (by omega) (by omega) (by omega)) T594 T591 T593 S18 T9 ⟨rfl, hd_X8_sizeOf⟩ rfl ⟨Nat.le_of_ble_eq_true rfl, Nat.le_of_ble_eq_true rfl⟩ (Nat.le_of_ble_eq_true rfl) ⟨Nat.le_of_ble_eq_true rfl, Nat.le_of_ble_eq_true rfl⟩ [0] [1] rfl rfl rfl rfl rfl (by decide) 0 rfl rfl dX8_isMean_10 rfl (J_f (ws' := [(mo, .inr (8, [.int (iI mc), .int (iI mw), .int (iI mt), .ref as_, .int (iI nb), .ref aw, .int (iI bk), .ref ac, .int (iI lc), .int (iI lw), .int (iI lm), .ref al, .int (iI F), .ref aco, .int (iI rn), .int (iI rc), .ref ars, .int (iI q), .int (iI bg), .int (iI ov), .int (iI wg), .ref acm, .ref ame])), (al, .inl (X.2.1, 800, .inl (aI f)))]) (st' := [.int (iI (mnI lw (lm - nu * lw))), .int (iI j)]) [1, 0] rfl rfl rfl rfl ?_)
  refine J_icmp_ge (tgt := 57) cx dX8_isMean_13 (by decide) (by omega) (by omega) (fun h_13 => ?_) (fun h_13 => ?_)
  · skip
    refine J_iload cx dX8_isMean_57 1 rfl ?_
    refine J_top (b := (emN f lc (nu * lw * lc + c2) mu (mnI lw (lm - nu * lw)).toNat)) (by rw [his, show j = mnI lw (lm - nu * lw) by omega]) ?_
    exact J_zret cx hr (em_01 _ _ _ _ _) dX8_isMean_59 ⟨rfl, rfl⟩
  · skip
    refine J_iload cx dX8_isMean_16 1 rfl ?_
    refine J_if_eq (tgt := 48) cx dX8_isMean_18 (by decide) (by omega) (fun h_18 => ?_) (fun h_18 => ?_)
    · skip
      refine J_iconst cx dX8_isMean_48 ?_
      refine J_istore (lv' := [(4, .int (iI 0)), (5, .int (iI j)), (0, .ref mo), (1, .int (iI nu)), (2, .int (iI c2)), (3, .int (iI mu))]) cx dX8_isMean_49 (by decide) rfl ?_
      refine J_iinc (q := 1) (lv' := [(5, .int (iI (j + 1))), (4, .int (iI 0)), (0, .ref mo), (1, .int (iI nu)), (2, .int (iI c2)), (3, .int (iI mu))]) cx dX8_isMean_51 rfl (by decide) rfl ?_
      refine J_goto (tgt := 6) cx dX8_isMean_54 (by decide) ?_
      exact ih_6 0 (j + 1) ⟨(by omega), (by rw [em_s hj.1, ← his]; first | (rw [if_pos h_18]; done) | (rw [if_neg h_18, if_pos h_41]; done) | (rw [if_neg h_18, if_neg h_41]; done))⟩ (by omega)
    · skip
      have h_in := blk_inN hc hc2 (many := lm) (bl := lw) (nu := nu) (j := j) (by omega) hnl.1 (by omega) (by omega)
      have hfp := hf (nu * lw * lc + c2 + j * lc)
      refine J_aload_n cx dX8_isMean_21 rfl 2 rfl ?_
      refine J_get cx inC8 0 rfl rfl 11 (by decide) T493 rfl rfl dX8_isMean_22 ?_
      refine J_aload_n cx dX8_isMean_25 rfl 2 rfl ?_
      refine J_iload_n cx dX8_isMean_26 rfl 3 rfl ?_
      refine J_iload_n cx dX8_isMean_27 rfl 4 rfl ?_
      refine J_callV (C := RX8) (T := TX8) (N := 23) cx (As := [.int (iI nu), .int (iI c2)]) (rest := [.ref al]) (mX8_firstOf l X mo mc mw mt as_ nb aw bk ac lc lw lm al F aco rn rc ars q bg ov wg acm ame nu c2 ) T598 T595 T597 S19 T9 ⟨rfl, hd_X8_firstOf⟩ rfl ⟨Nat.le_of_ble_eq_true rfl, Nat.le_of_ble_eq_true rfl⟩ (Nat.le_of_ble_eq_true rfl) ⟨Nat.le_of_ble_eq_true rfl, Nat.le_of_ble_eq_true rfl⟩ [0] [1] rfl rfl rfl rfl rfl (by decide) 0 rfl rfl dX8_isMean_28 rfl (J_f (ws' := [(mo, .inr (8, [.int (iI mc), .int (iI mw), .int (iI mt), .ref as_, .int (iI nb), .ref aw, .int (iI bk), .ref ac, .int (iI lc), .int (iI lw), .int (iI lm), .ref al, .int (iI F), .ref aco, .int (iI rn), .int (iI rc), .ref ars, .int (iI q), .int (iI bg), .int (iI ov), .int (iI wg), .ref acm, .ref ame])), (al, .inl (X.2.1, 800, .inl (aI f)))]) (st' := [.int (iI (nu * lw * lc + c2)), .ref al]) [1, 0] rfl rfl rfl rfl ?_)
      refine J_iload cx dX8_isMean_31 0 rfl ?_
      refine J_aload_n cx dX8_isMean_33 rfl 2 rfl ?_
      refine J_get cx inC8 0 rfl rfl 8 (by decide) T490 rfl rfl dX8_isMean_34 ?_
      refine J_imul cx dX8_isMean_37 ?_
      refine J_iadd cx dX8_isMean_38 ?_
      refine J_iald cx 1 rfl (by omega) (by decide) dX8_isMean_39 ?_
      refine J_iload_n cx dX8_isMean_40 rfl 5 rfl ?_
      refine J_icmp_ne (tgt := 48) cx dX8_isMean_41 (by decide) (by omega) (by omega) (fun h_41 => ?_) (fun h_41 => ?_)
      · skip
        refine J_iconst cx dX8_isMean_48 ?_
        refine J_istore (lv' := [(4, .int (iI 0)), (5, .int (iI j)), (0, .ref mo), (1, .int (iI nu)), (2, .int (iI c2)), (3, .int (iI mu))]) cx dX8_isMean_49 (by decide) rfl ?_
        refine J_iinc (q := 1) (lv' := [(5, .int (iI (j + 1))), (4, .int (iI 0)), (0, .ref mo), (1, .int (iI nu)), (2, .int (iI c2)), (3, .int (iI mu))]) cx dX8_isMean_51 rfl (by decide) rfl ?_
        refine J_goto (tgt := 6) cx dX8_isMean_54 (by decide) ?_
        exact ih_6 0 (j + 1) ⟨(by omega), (by rw [em_s hj.1, ← his]; first | (rw [if_pos h_18]; done) | (rw [if_neg h_18, if_pos h_41]; done) | (rw [if_neg h_18, if_neg h_41]; done))⟩ (by omega)
      · skip
        refine J_iconst cx dX8_isMean_44 ?_
        refine J_goto (tgt := 49) cx dX8_isMean_45 (by decide) ?_
        refine J_istore (lv' := [(4, .int (iI 1)), (5, .int (iI j)), (0, .ref mo), (1, .int (iI nu)), (2, .int (iI c2)), (3, .int (iI mu))]) cx dX8_isMean_49 (by decide) rfl ?_
        refine J_iinc (q := 1) (lv' := [(5, .int (iI (j + 1))), (4, .int (iI 1)), (0, .ref mo), (1, .int (iI nu)), (2, .int (iI c2)), (3, .int (iI mu))]) cx dX8_isMean_51 rfl (by decide) rfl ?_
        refine J_goto (tgt := 6) cx dX8_isMean_54 (by decide) ?_
        exact ih_6 1 (j + 1) ⟨(by omega), (by rw [em_s hj.1, ← his]; first | (rw [if_pos h_18]; done) | (rw [if_neg h_18, if_pos h_41]; done) | (rw [if_neg h_18, if_neg h_41]; done))⟩ (by omega)
