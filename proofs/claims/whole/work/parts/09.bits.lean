set_option maxHeartbeats 4000000 in
set_option maxRecDepth 100000 in
theorem mX1_restart (l : Launch) (X : GX) (hb : Nat) (hr2 : Nat) (ha : Nat) (o : Int → Int) (pe : Int) (pb : Int) (n : Int) (w : Int → Int) : Ct l yX1_restart cX1_restart 1 none 1 20 0 0 X [.ref hb] [(hb, .inr (1, [.ref hr2, .int (iI pe), .int (iI pb)])), (hr2, .inr (2, [.ref ha, .int (iI n)])), (ha, .inl (X.2.2, 3000, .inl (aI o)))] (fun1 none [(hb, .inr (1, [.ref hr2, .int (iI (pk (w, 0).1 (8 * ((w, 0).2 / 8)) ((w, 0).2 % 8))), .int (iI ((w, 0).2 % 8))])), (hr2, .inr (2, [.ref ha, .int (iI ((w, 0).2 / 8))])), (ha, .inl (X.2.2, 3000, .inl (aI (rowOf o (w, 0).1 (w, 0).2))))]) := by
  refine Ct_of (own := RX1) (lv := [(0, .ref hb)]) (by decide +kernel) rfl (Nat.le_of_ble_eq_true rfl) rfl ?_
  intro p e s m args below meth c A cx hr hin
  refine J_aload_n cx dX1_restart_0 rfl 0 rfl ?_
  refine J_get cx inC1 0 rfl rfl 0 (by decide) T87 rfl rfl dX1_restart_1 ?_
  refine J_callV (C := RX2) (T := TX2) (N := 2) cx (As := []) (rest := []) (mX2_clear l X hr2 ha o n ) T250 T247 T248 T249 T6 ⟨rfl, hd_X2_clear⟩ rfl ⟨Nat.le_of_ble_eq_true rfl, Nat.le_of_ble_eq_true rfl⟩ (Nat.le_of_ble_eq_true rfl) ⟨Nat.le_of_ble_eq_true rfl, Nat.le_of_ble_eq_true rfl⟩ [1, 2] [0] rfl rfl rfl rfl rfl (by decide) 1 rfl rfl dX1_restart_4 rfl (J_f (ws' := [(hb, .inr (1, [.ref hr2, .int (iI pe), .int (iI pb)])), (hr2, .inr (2, [.ref ha, .int (iI 0)])), (ha, .inl (X.2.2, 3000, .inl (aI o)))]) (st' := []) [0, 1, 2] rfl rfl rfl rfl ?_)
  refine J_aload_n cx dX1_restart_7 rfl 0 rfl ?_
  refine J_iconst cx dX1_restart_8 ?_
  refine J_put (ty := .int) (ws' := [(hb, .inr (1, [.ref hr2, .int (iI 0), .int (iI pb)])), (hr2, .inr (2, [.ref ha, .int (iI 0)])), (ha, .inl (X.2.2, 3000, .inl (aI o)))]) cx inC1 tyX1_ok nmX1 0 rfl rfl 1 (by decide) T89 rfl rfl (by decide +kernel) (rfl) (rfl) (Nat.le_of_ble_eq_true rfl) rfl dX1_restart_9 ?_
  refine J_aload_n cx dX1_restart_12 rfl 0 rfl ?_
  refine J_iconst cx dX1_restart_13 ?_
  refine J_put (ty := .int) (ws' := [(hb, .inr (1, [.ref hr2, .int (iI 0), .int (iI 0)])), (hr2, .inr (2, [.ref ha, .int (iI 0)])), (ha, .inl (X.2.2, 3000, .inl (aI o)))]) cx inC1 tyX1_ok nmX1 0 rfl rfl 2 (by decide) T90 rfl rfl (by decide +kernel) (rfl) (rfl) (Nat.le_of_ble_eq_true rfl) rfl dX1_restart_14 ?_
  refine J_ws (ws' := [(hb, .inr (1, [.ref hr2, .int (iI (pk (w, 0).1 (8 * ((w, 0).2 / 8)) ((w, 0).2 % 8))), .int (iI ((w, 0).2 % 8))])), (hr2, .inr (2, [.ref ha, .int (iI ((w, 0).2 / 8))])), (ha, .inl (X.2.2, 3000, .inl (aI (rowOf o (w, 0).1 (w, 0).2))))]) (by rw [show rowOf o (w, 0).1 (w, 0).2 = o from by funext j; unfold rowOf; rw [if_neg (by show ¬ (0 ≤ j ∧ j < 0 / 8); omega)]]; rfl) ?_
  exact J_vret cx hr dX1_restart_17 ⟨rfl, rfl⟩
set_option maxHeartbeats 4000000 in
set_option maxRecDepth 100000 in
theorem mX1_putBit (l : Launch) (X : GX) (hb : Nat) (hr2 : Nat) (ha : Nat) (o : Int → Int) (x : BB) (b : Int) (hx : 0 ≤ x.2 ∧ x.2 < 24000) : Ct l yX1_putBit cX1_putBit 2 none 1 21 0 0 X [.ref hb, .int (iI b)] [(hb, .inr (1, [.ref hr2, .int (iI (pk x.1 (8 * (x.2 / 8)) (x.2 % 8))), .int (iI (x.2 % 8))])), (hr2, .inr (2, [.ref ha, .int (iI (x.2 / 8))])), (ha, .inl (X.2.2, 3000, .inl (aI (rowOf o x.1 x.2))))] (fun1 none [(hb, .inr (1, [.ref hr2, .int (iI (pk (pbit b x).1 (8 * ((pbit b x).2 / 8)) ((pbit b x).2 % 8))), .int (iI ((pbit b x).2 % 8))])), (hr2, .inr (2, [.ref ha, .int (iI ((pbit b x).2 / 8))])), (ha, .inl (X.2.2, 3000, .inl (aI (rowOf o (pbit b x).1 (pbit b x).2))))]) := by
  refine Ct_of (own := RX1) (lv := [(0, .ref hb), (1, .int (iI b))]) (by decide +kernel) rfl (Nat.le_of_ble_eq_true rfl) rfl ?_
  intro p e s m args below meth c A cx hr hin
  refine J_aload_n cx dX1_putBit_0 rfl 0 rfl ?_
  refine J_aload_n cx dX1_putBit_1 rfl 0 rfl ?_
  refine J_get cx inC1 0 rfl rfl 1 (by decide) T89 rfl rfl dX1_putBit_2 ?_
  refine J_iconst cx dX1_putBit_5 ?_
  refine J_imul cx dX1_putBit_6 ?_
  refine J_iload_n cx dX1_putBit_7 rfl 1 rfl ?_
  refine J_iadd cx dX1_putBit_8 ?_
  refine J_put (ty := .int) (ws' := [(hb, .inr (1, [.ref hr2, .int (iI (((pk x.1 (8 * (x.2 / 8)) (x.2 % 8)) * 2) + b)), .int (iI (x.2 % 8))])), (hr2, .inr (2, [.ref ha, .int (iI (x.2 / 8))])), (ha, .inl (X.2.2, 3000, .inl (aI (rowOf o x.1 x.2))))]) cx inC1 tyX1_ok nmX1 0 rfl rfl 1 (by decide) T89 rfl rfl (by decide +kernel) (rfl) (rfl) (Nat.le_of_ble_eq_true rfl) rfl dX1_putBit_9 ?_
  refine J_aload_n cx dX1_putBit_12 rfl 0 rfl ?_
  refine J_dup cx dX1_putBit_13 rfl ?_
  refine J_get cx inC1 0 rfl rfl 2 (by decide) T90 rfl rfl dX1_putBit_14 ?_
  refine J_iconst cx dX1_putBit_17 ?_
  refine J_iadd cx dX1_putBit_18 ?_
  refine J_put (ty := .int) (ws' := [(hb, .inr (1, [.ref hr2, .int (iI (((pk x.1 (8 * (x.2 / 8)) (x.2 % 8)) * 2) + b)), .int (iI ((x.2 % 8) + 1))])), (hr2, .inr (2, [.ref ha, .int (iI (x.2 / 8))])), (ha, .inl (X.2.2, 3000, .inl (aI (rowOf o x.1 x.2))))]) cx inC1 tyX1_ok nmX1 0 rfl rfl 2 (by decide) T90 rfl rfl (by decide +kernel) (rfl) (rfl) (Nat.le_of_ble_eq_true rfl) rfl dX1_putBit_19 ?_
  refine J_aload_n cx dX1_putBit_22 rfl 0 rfl ?_
  refine J_get cx inC1 0 rfl rfl 2 (by decide) T90 rfl rfl dX1_putBit_23 ?_
  refine J_bipush cx dX1_putBit_26 (by decide) ?_
  refine J_icmp_ne (tgt := 53) cx dX1_putBit_28 (by decide) (by omega) (by decide) (fun h_28 => ?_) (fun h_28 => ?_)
  · skip
    refine J_ws (ws' := [(hb, .inr (1, [.ref hr2, .int (iI (pk (pbit b x).1 (8 * ((pbit b x).2 / 8)) ((pbit b x).2 % 8))), .int (iI ((pbit b x).2 % 8))])), (hr2, .inr (2, [.ref ha, .int (iI ((pbit b x).2 / 8))])), (ha, .inl (X.2.2, 3000, .inl (aI (rowOf o (pbit b x).1 (pbit b x).2))))]) (by rw [← show (((pk x.1 (8 * (x.2 / 8)) (x.2 % 8)) * 2) + b) = pk (pbit b x).1 (8 * ((pbit b x).2 / 8)) ((pbit b x).2 % 8) from by first | exact bw_p1 b hx.1 h_28 | exact bw_p2 b hx.1 h_28, ← show ((x.2 % 8) + 1) = (pbit b x).2 % 8 from by rw [pbit_2]; omega, ← show (x.2 / 8) = (pbit b x).2 / 8 from by rw [pbit_2]; first | omega | (rw [if_pos (by omega)]; omega), ← show (rowOf o x.1 x.2) = rowOf o (pbit b x).1 (pbit b x).2 from by first | exact rowOf_1 o b hx.1 h_28 | (rw [if_pos (by omega)]; exact rowOf_2 o b hx.1 h_28)]) ?_
    exact J_vret cx hr dX1_putBit_53 ⟨rfl, rfl⟩
  · skip
    refine J_aload_n cx dX1_putBit_31 rfl 0 rfl ?_
    refine J_get cx inC1 0 rfl rfl 0 (by decide) T87 rfl rfl dX1_putBit_32 ?_
    refine J_aload_n cx dX1_putBit_35 rfl 0 rfl ?_
    refine J_get cx inC1 0 rfl rfl 1 (by decide) T89 rfl rfl dX1_putBit_36 ?_
    refine J_callV (C := RX2) (T := TX2) (N := 2) cx (As := [.int (iI (((pk x.1 (8 * (x.2 / 8)) (x.2 % 8)) * 2) + b))]) (rest := []) (mX2_append l X hr2 ha (rowOf o x.1 x.2) (x.2 / 8) (((pk x.1 (8 * (x.2 / 8)) (x.2 % 8)) * 2) + b) (by omega)) T262 T259 T260 T261 T6 ⟨rfl, hd_X2_append⟩ rfl ⟨Nat.le_of_ble_eq_true rfl, Nat.le_of_ble_eq_true rfl⟩ (Nat.le_of_ble_eq_true rfl) ⟨Nat.le_of_ble_eq_true rfl, Nat.le_of_ble_eq_true rfl⟩ [1, 2] [0] rfl rfl rfl rfl rfl (by decide) 1 rfl rfl dX1_putBit_39 rfl (J_f (ws' := [(hb, .inr (1, [.ref hr2, .int (iI (((pk x.1 (8 * (x.2 / 8)) (x.2 % 8)) * 2) + b)), .int (iI ((x.2 % 8) + 1))])), (hr2, .inr (2, [.ref ha, .int (iI (if (x.2 / 8) < 3000 then (x.2 / 8) + 1 else (x.2 / 8)))])), (ha, .inl (X.2.2, 3000, .inl (aI (if (x.2 / 8) < 3000 then upI (rowOf o x.1 x.2) (x.2 / 8) (w8 (((pk x.1 (8 * (x.2 / 8)) (x.2 % 8)) * 2) + b)) else (rowOf o x.1 x.2)))))]) (st' := [.int (iI (if (x.2 / 8) < 3000 then 1 else 0))]) [0, 1, 2] rfl rfl rfl rfl ?_)
    refine J_pop cx dX1_putBit_42 rfl ?_
    refine J_aload_n cx dX1_putBit_43 rfl 0 rfl ?_
    refine J_iconst cx dX1_putBit_44 ?_
    refine J_put (ty := .int) (ws' := [(hb, .inr (1, [.ref hr2, .int (iI 0), .int (iI ((x.2 % 8) + 1))])), (hr2, .inr (2, [.ref ha, .int (iI (if (x.2 / 8) < 3000 then (x.2 / 8) + 1 else (x.2 / 8)))])), (ha, .inl (X.2.2, 3000, .inl (aI (if (x.2 / 8) < 3000 then upI (rowOf o x.1 x.2) (x.2 / 8) (w8 (((pk x.1 (8 * (x.2 / 8)) (x.2 % 8)) * 2) + b)) else (rowOf o x.1 x.2)))))]) cx inC1 tyX1_ok nmX1 0 rfl rfl 1 (by decide) T89 rfl rfl (by decide +kernel) (rfl) (rfl) (Nat.le_of_ble_eq_true rfl) rfl dX1_putBit_45 ?_
    refine J_aload_n cx dX1_putBit_48 rfl 0 rfl ?_
    refine J_iconst cx dX1_putBit_49 ?_
    refine J_put (ty := .int) (ws' := [(hb, .inr (1, [.ref hr2, .int (iI 0), .int (iI 0)])), (hr2, .inr (2, [.ref ha, .int (iI (if (x.2 / 8) < 3000 then (x.2 / 8) + 1 else (x.2 / 8)))])), (ha, .inl (X.2.2, 3000, .inl (aI (if (x.2 / 8) < 3000 then upI (rowOf o x.1 x.2) (x.2 / 8) (w8 (((pk x.1 (8 * (x.2 / 8)) (x.2 % 8)) * 2) + b)) else (rowOf o x.1 x.2)))))]) cx inC1 tyX1_ok nmX1 0 rfl rfl 2 (by decide) T90 rfl rfl (by decide +kernel) (rfl) (rfl) (Nat.le_of_ble_eq_true rfl) rfl dX1_putBit_50 ?_
    refine J_ws (ws' := [(hb, .inr (1, [.ref hr2, .int (iI (pk (pbit b x).1 (8 * ((pbit b x).2 / 8)) ((pbit b x).2 % 8))), .int (iI ((pbit b x).2 % 8))])), (hr2, .inr (2, [.ref ha, .int (iI ((pbit b x).2 / 8))])), (ha, .inl (X.2.2, 3000, .inl (aI (rowOf o (pbit b x).1 (pbit b x).2))))]) (by rw [← show (0) = pk (pbit b x).1 (8 * ((pbit b x).2 / 8)) ((pbit b x).2 % 8) from by first | exact bw_p1 b hx.1 h_28 | exact bw_p2 b hx.1 h_28, ← show (0) = (pbit b x).2 % 8 from by rw [pbit_2]; omega, ← show (if (x.2 / 8) < 3000 then (x.2 / 8) + 1 else (x.2 / 8)) = (pbit b x).2 / 8 from by rw [pbit_2]; first | omega | (rw [if_pos (by omega)]; omega), ← show (if (x.2 / 8) < 3000 then upI (rowOf o x.1 x.2) (x.2 / 8) (w8 (((pk x.1 (8 * (x.2 / 8)) (x.2 % 8)) * 2) + b)) else (rowOf o x.1 x.2)) = rowOf o (pbit b x).1 (pbit b x).2 from by first | exact rowOf_1 o b hx.1 h_28 | (rw [if_pos (by omega)]; exact rowOf_2 o b hx.1 h_28)]) ?_
    exact J_vret cx hr dX1_putBit_53 ⟨rfl, rfl⟩
set_option maxHeartbeats 4000000 in
set_option maxRecDepth 100000 in
theorem mX1_putLowBits (l : Launch) (X : GX) (hb : Nat) (hr2 : Nat) (ha : Nat) (o : Int → Int) (x : BB) (k : Int) (v : Int) (hk : 0 ≤ k ∧ k ≤ 30) (hv : -2147483648 ≤ v ∧ v < 2147483648) (hx : 0 ≤ x.2 ∧ x.2 + k ≤ 24000) : Ct l yX1_putLowBits cX1_putLowBits 4 none 2 42 0 0 X [.ref hb, .int (iI k), .int (iI v)] [(hb, .inr (1, [.ref hr2, .int (iI (pk x.1 (8 * (x.2 / 8)) (x.2 % 8))), .int (iI (x.2 % 8))])), (hr2, .inr (2, [.ref ha, .int (iI (x.2 / 8))])), (ha, .inl (X.2.2, 3000, .inl (aI (rowOf o x.1 x.2))))] (fun1 none [(hb, .inr (1, [.ref hr2, .int (iI (pk (plow v k.toNat x).1 (8 * ((plow v k.toNat x).2 / 8)) ((plow v k.toNat x).2 % 8))), .int (iI ((plow v k.toNat x).2 % 8))])), (hr2, .inr (2, [.ref ha, .int (iI ((plow v k.toNat x).2 / 8))])), (ha, .inl (X.2.2, 3000, .inl (aI (rowOf o (plow v k.toNat x).1 (plow v k.toNat x).2))))]) := by
  refine Ct_of (own := RX1) (lv := [(0, .ref hb), (1, .int (iI k)), (2, .int (iI v))]) (by decide +kernel) rfl (Nat.le_of_ble_eq_true rfl) rfl ?_
  intro p e s m args below meth c A cx hr hin
  refine J_iload_n cx dX1_putLowBits_0 rfl 1 rfl ?_
  refine J_iconst cx dX1_putLowBits_1 ?_
  refine J_isub cx dX1_putLowBits_2 ?_
  refine J_istore_n (lv' := [(3, .int (iI (k - 1))), (0, .ref hb), (1, .int (iI k)), (2, .int (iI v))]) cx dX1_putLowBits_3 rfl (by decide) rfl ?_
  refine J_loop2 (fun (sh : Int) (y : BB) => [(hb, .inr (1, [.ref hr2, .int (iI (pk y.1 (8 * (y.2 / 8)) (y.2 % 8))), .int (iI (y.2 % 8))])), (hr2, .inr (2, [.ref ha, .int (iI (y.2 / 8))])), (ha, .inl (X.2.2, 3000, .inl (aI (rowOf o y.1 y.2))))]) (fun (sh : Int) (y : BB) => [(3, .int (iI sh)), (0, .ref hb), (1, .int (iI k)), (2, .int (iI v))]) (fun (sh : Int) (y : BB) => (-1 ≤ sh ∧ sh < k) ∧ (plow v (sh + 1).toNat y = plow v k.toNat x) ∧ (y.2 + sh + 1 = x.2 + k)) (fun (sh : Int) (y : BB) => (sh + 1).toNat) (k - 1) x ⟨(by omega), (by rw [Int.sub_add_cancel]), (by omega)⟩ ?_
  intro sh y hI ih_4
  obtain ⟨hsh, hy, hyn⟩ := hI
  try dsimp only at hsh hy hyn
  refine J_iload_n cx dX1_putLowBits_4 rfl 0 rfl ?_
  refine J_if_lt (tgt := 23) cx dX1_putLowBits_5 (by decide) (by omega) (fun h_5 => ?_) (fun h_5 => ?_)
  · skip
    have hyy : y = plow v k.toNat x := by rw [← hy, show (sh + 1).toNat = 0 by omega]; rfl
    subst hyy
    exact J_vret cx hr dX1_putLowBits_23 ⟨rfl, rfl⟩
  · skip
    refine J_aload_n cx dX1_putLowBits_8 rfl 1 rfl ?_
    refine J_iload_n cx dX1_putLowBits_9 rfl 3 rfl ?_
    refine J_iload_n cx dX1_putLowBits_10 rfl 0 rfl ?_
    refine J_ishr cx dX1_putLowBits_11 (by omega) (by omega) ?_
    refine J_iconst cx dX1_putLowBits_12 ?_
    refine J_iand (r := (v / p2 sh) % 2) cx dX1_putLowBits_13 (iI_and1 _) ?_
    refine J_callV (C := RX1) (T := TX1) (N := 3) cx (As := [.int (iI ((v / p2 sh) % 2))]) (rest := []) (mX1_putBit l X hb hr2 ha o y ((v / p2 sh) % 2) (by omega)) T258 T255 T256 T257 T5 ⟨rfl, hd_X1_putBit⟩ rfl ⟨Nat.le_of_ble_eq_true rfl, Nat.le_of_ble_eq_true rfl⟩ (Nat.le_of_ble_eq_true rfl) ⟨Nat.le_of_ble_eq_true rfl, Nat.le_of_ble_eq_true rfl⟩ [0, 1, 2] [] rfl rfl rfl rfl rfl (by decide) 0 rfl rfl dX1_putLowBits_14 rfl (J_f (ws' := [(hb, .inr (1, [.ref hr2, .int (iI (pk (pbit ((v / p2 sh) % 2) y).1 (8 * ((pbit ((v / p2 sh) % 2) y).2 / 8)) ((pbit ((v / p2 sh) % 2) y).2 % 8))), .int (iI ((pbit ((v / p2 sh) % 2) y).2 % 8))])), (hr2, .inr (2, [.ref ha, .int (iI ((pbit ((v / p2 sh) % 2) y).2 / 8))])), (ha, .inl (X.2.2, 3000, .inl (aI (rowOf o (pbit ((v / p2 sh) % 2) y).1 (pbit ((v / p2 sh) % 2) y).2))))]) (st' := []) [0, 1, 2] rfl rfl rfl rfl ?_)
    refine J_iinc (q := 0) (lv' := [(3, .int (iI (sh + (-1)))), (0, .ref hb), (1, .int (iI k)), (2, .int (iI v))]) cx dX1_putLowBits_17 rfl (by decide) rfl ?_
    refine J_goto (tgt := 4) cx dX1_putLowBits_20 (by decide) ?_
    exact ih_4 (sh + (-1)) (pbit ((v / p2 sh) % 2) y) ⟨(by omega), (by have e5 := plow_step (v := v) (y := y) (sh := sh) (by omega); rw [← hy, e5, show sh + -1 + 1 = sh by omega]), (by rw [pbit_2]; omega)⟩ (by omega)
set_option maxHeartbeats 4000000 in
set_option maxRecDepth 100000 in
theorem mX1_putNumber (l : Launch) (X : GX) (hb : Nat) (hr2 : Nat) (ha : Nat) (o : Int → Int) (x : BB) (k : Int) (v : Int) (hk : 0 ≤ k ∧ k ≤ 15) (hv : 0 ≤ v ∧ v < 2147483648) (hx : 0 ≤ x.2 ∧ x.2 + nbits k v ≤ 24000) : Ct l yX1_putNumber cX1_putNumber 5 none 3 65 0 0 X [.ref hb, .int (iI k), .int (iI v)] [(hb, .inr (1, [.ref hr2, .int (iI (pk x.1 (8 * (x.2 / 8)) (x.2 % 8))), .int (iI (x.2 % 8))])), (hr2, .inr (2, [.ref ha, .int (iI (x.2 / 8))])), (ha, .inl (X.2.2, 3000, .inl (aI (rowOf o x.1 x.2))))] (fun1 none [(hb, .inr (1, [.ref hr2, .int (iI (pk (pnum k v x).1 (8 * ((pnum k v x).2 / 8)) ((pnum k v x).2 % 8))), .int (iI ((pnum k v x).2 % 8))])), (hr2, .inr (2, [.ref ha, .int (iI ((pnum k v x).2 / 8))])), (ha, .inl (X.2.2, 3000, .inl (aI (rowOf o (pnum k v x).1 (pnum k v x).2))))]) := by
  refine Ct_of (own := RX1) (lv := [(0, .ref hb), (1, .int (iI k)), (2, .int (iI v))]) (by decide +kernel) rfl (Nat.le_of_ble_eq_true rfl) rfl ?_
  intro p e s m args below meth c A cx hr hin
  have hz0 : 0 ≤ v / p2 k := Int.ediv_nonneg hv.1 (Int.le_of_lt (p2_pos k))
  have hnb : nbits k v = v / p2 k + 1 + k := rfl
  refine J_iload_n cx dX1_putNumber_0 rfl 2 rfl ?_
  refine J_iload_n cx dX1_putNumber_1 rfl 1 rfl ?_
  refine J_ishr cx dX1_putNumber_2 (by omega) (by omega) ?_
  refine J_istore_n (lv' := [(3, .int (iI (v / p2 k))), (0, .ref hb), (1, .int (iI k)), (2, .int (iI v))]) cx dX1_putNumber_3 rfl (by decide) rfl ?_
  refine J_iconst cx dX1_putNumber_4 ?_
  refine J_istore (lv' := [(4, .int (iI 0)), (3, .int (iI (v / p2 k))), (0, .ref hb), (1, .int (iI k)), (2, .int (iI v))]) cx dX1_putNumber_5 (by decide) rfl ?_
  refine J_loop2 (fun (j : Int) (y : BB) => [(hb, .inr (1, [.ref hr2, .int (iI (pk y.1 (8 * (y.2 / 8)) (y.2 % 8))), .int (iI (y.2 % 8))])), (hr2, .inr (2, [.ref ha, .int (iI (y.2 / 8))])), (ha, .inl (X.2.2, 3000, .inl (aI (rowOf o y.1 y.2))))]) (fun (j : Int) (y : BB) => [(4, .int (iI j)), (3, .int (iI (v / p2 k))), (0, .ref hb), (1, .int (iI k)), (2, .int (iI v))]) (fun (j : Int) (y : BB) => (0 ≤ j ∧ j ≤ v / p2 k) ∧ (y = pzer j.toNat x) ∧ (y.2 = x.2 + j)) (fun (j : Int) (y : BB) => (v / p2 k - j).toNat) 0 x ⟨(by omega), (rfl), (by omega)⟩ ?_
  intro j y hI ih_7
  obtain ⟨hj, hy, hyn⟩ := hI
  try dsimp only at hj hy hyn
  refine J_iload cx dX1_putNumber_7 0 rfl ?_
  refine J_iload_n cx dX1_putNumber_9 rfl 1 rfl ?_
  refine J_icmp_ge (tgt := 24) cx dX1_putNumber_10 (by decide) (by omega) (by omega) (fun h_10 => ?_) (fun h_10 => ?_)
  · skip
    have hyy : y = pzer (v / p2 k).toNat x := by rw [hy, show j = v / p2 k by omega]
    subst hyy
    refine J_aload_n cx dX1_putNumber_24 rfl 2 rfl ?_
    refine J_iconst cx dX1_putNumber_25 ?_
    refine J_callV (C := RX1) (T := TX1) (N := 3) cx (As := [.int (iI 1)]) (rest := []) (mX1_putBit l X hb hr2 ha o (pzer (v / p2 k).toNat x) 1 (by omega)) T258 T255 T256 T257 T5 ⟨rfl, hd_X1_putBit⟩ rfl ⟨Nat.le_of_ble_eq_true rfl, Nat.le_of_ble_eq_true rfl⟩ (Nat.le_of_ble_eq_true rfl) ⟨Nat.le_of_ble_eq_true rfl, Nat.le_of_ble_eq_true rfl⟩ [0, 1, 2] [] rfl rfl rfl rfl rfl (by decide) 0 rfl rfl dX1_putNumber_26 rfl (J_f (ws' := [(hb, .inr (1, [.ref hr2, .int (iI (pk (pbit 1 (pzer (v / p2 k).toNat x)).1 (8 * ((pbit 1 (pzer (v / p2 k).toNat x)).2 / 8)) ((pbit 1 (pzer (v / p2 k).toNat x)).2 % 8))), .int (iI ((pbit 1 (pzer (v / p2 k).toNat x)).2 % 8))])), (hr2, .inr (2, [.ref ha, .int (iI ((pbit 1 (pzer (v / p2 k).toNat x)).2 / 8))])), (ha, .inl (X.2.2, 3000, .inl (aI (rowOf o (pbit 1 (pzer (v / p2 k).toNat x)).1 (pbit 1 (pzer (v / p2 k).toNat x)).2))))]) (st' := []) [0, 1, 2] rfl rfl rfl rfl ?_)
    refine J_aload_n cx dX1_putNumber_29 rfl 2 rfl ?_
    refine J_iload_n cx dX1_putNumber_30 rfl 3 rfl ?_
    refine J_iload_n cx dX1_putNumber_31 rfl 4 rfl ?_
    refine J_callV (C := RX1) (T := TX1) (N := 3) cx (As := [.int (iI k), .int (iI v)]) (rest := []) (mX1_putLowBits l X hb hr2 ha o (pbit 1 (pzer (v / p2 k).toNat x)) k v (by omega) (by omega) (by rw [pbit_2]; omega)) T254 T267 T252 T253 T5 ⟨rfl, hd_X1_putLowBits⟩ rfl ⟨Nat.le_of_ble_eq_true rfl, Nat.le_of_ble_eq_true rfl⟩ (Nat.le_of_ble_eq_true rfl) ⟨Nat.le_of_ble_eq_true rfl, Nat.le_of_ble_eq_true rfl⟩ [0, 1, 2] [] rfl rfl rfl rfl rfl (by decide) 0 rfl rfl dX1_putNumber_32 rfl (J_f (ws' := [(hb, .inr (1, [.ref hr2, .int (iI (pk (plow v k.toNat (pbit 1 (pzer (v / p2 k).toNat x))).1 (8 * ((plow v k.toNat (pbit 1 (pzer (v / p2 k).toNat x))).2 / 8)) ((plow v k.toNat (pbit 1 (pzer (v / p2 k).toNat x))).2 % 8))), .int (iI ((plow v k.toNat (pbit 1 (pzer (v / p2 k).toNat x))).2 % 8))])), (hr2, .inr (2, [.ref ha, .int (iI ((plow v k.toNat (pbit 1 (pzer (v / p2 k).toNat x))).2 / 8))])), (ha, .inl (X.2.2, 3000, .inl (aI (rowOf o (plow v k.toNat (pbit 1 (pzer (v / p2 k).toNat x))).1 (plow v k.toNat (pbit 1 (pzer (v / p2 k).toNat x))).2))))]) (st' := []) [0, 1, 2] rfl rfl rfl rfl ?_)
    refine J_ws (ws' := [(hb, .inr (1, [.ref hr2, .int (iI (pk (pnum k v x).1 (8 * ((pnum k v x).2 / 8)) ((pnum k v x).2 % 8))), .int (iI ((pnum k v x).2 % 8))])), (hr2, .inr (2, [.ref ha, .int (iI ((pnum k v x).2 / 8))])), (ha, .inl (X.2.2, 3000, .inl (aI (rowOf o (pnum k v x).1 (pnum k v x).2))))]) rfl ?_
    exact J_vret cx hr dX1_putNumber_35 ⟨rfl, rfl⟩
  · skip
    refine J_aload_n cx dX1_putNumber_13 rfl 2 rfl ?_
    refine J_iconst cx dX1_putNumber_14 ?_
    refine J_callV (C := RX1) (T := TX1) (N := 3) cx (As := [.int (iI 0)]) (rest := []) (mX1_putBit l X hb hr2 ha o y 0 (by omega)) T258 T255 T256 T257 T5 ⟨rfl, hd_X1_putBit⟩ rfl ⟨Nat.le_of_ble_eq_true rfl, Nat.le_of_ble_eq_true rfl⟩ (Nat.le_of_ble_eq_true rfl) ⟨Nat.le_of_ble_eq_true rfl, Nat.le_of_ble_eq_true rfl⟩ [0, 1, 2] [] rfl rfl rfl rfl rfl (by decide) 0 rfl rfl dX1_putNumber_15 rfl (J_f (ws' := [(hb, .inr (1, [.ref hr2, .int (iI (pk (pbit 0 y).1 (8 * ((pbit 0 y).2 / 8)) ((pbit 0 y).2 % 8))), .int (iI ((pbit 0 y).2 % 8))])), (hr2, .inr (2, [.ref ha, .int (iI ((pbit 0 y).2 / 8))])), (ha, .inl (X.2.2, 3000, .inl (aI (rowOf o (pbit 0 y).1 (pbit 0 y).2))))]) (st' := []) [0, 1, 2] rfl rfl rfl rfl ?_)
    refine J_iinc (q := 0) (lv' := [(4, .int (iI (j + 1))), (3, .int (iI (v / p2 k))), (0, .ref hb), (1, .int (iI k)), (2, .int (iI v))]) cx dX1_putNumber_18 rfl (by decide) rfl ?_
    refine J_goto (tgt := 7) cx dX1_putNumber_21 (by decide) ?_
    exact ih_7 (j + 1) (pbit 0 y) ⟨(by omega), (by rw [hy]; exact pzer_step (by omega)), (by rw [pbit_2]; omega)⟩ (by omega)
set_option maxHeartbeats 4000000 in
set_option maxRecDepth 100000 in
theorem mX1_fillByte (l : Launch) (X : GX) (hb : Nat) (hr2 : Nat) (ha : Nat) (o : Int → Int) (x : BB) (hx : 0 ≤ x.2 ∧ x.2 ≤ 23992) : Ct l yX1_fillByte cX1_fillByte 1 none 3 65 0 0 X [.ref hb] [(hb, .inr (1, [.ref hr2, .int (iI (pk x.1 (8 * (x.2 / 8)) (x.2 % 8))), .int (iI (x.2 % 8))])), (hr2, .inr (2, [.ref ha, .int (iI (x.2 / 8))])), (ha, .inl (X.2.2, 3000, .inl (aI (rowOf o x.1 x.2))))] (fun1 none [(hb, .inr (1, [.ref hr2, .int (iI (pk (pzer ((8 - x.2 % 8) % 8).toNat x).1 (8 * ((pzer ((8 - x.2 % 8) % 8).toNat x).2 / 8)) ((pzer ((8 - x.2 % 8) % 8).toNat x).2 % 8))), .int (iI ((pzer ((8 - x.2 % 8) % 8).toNat x).2 % 8))])), (hr2, .inr (2, [.ref ha, .int (iI ((pzer ((8 - x.2 % 8) % 8).toNat x).2 / 8))])), (ha, .inl (X.2.2, 3000, .inl (aI (rowOf o (pzer ((8 - x.2 % 8) % 8).toNat x).1 (pzer ((8 - x.2 % 8) % 8).toNat x).2))))]) := by
  refine Ct_of (own := RX1) (lv := [(0, .ref hb)]) (by decide +kernel) rfl (Nat.le_of_ble_eq_true rfl) rfl ?_
  intro p e s m args below meth c A cx hr hin
  refine J_aload_n cx dX1_fillByte_0 rfl 0 rfl ?_
  refine J_get cx inC1 0 rfl rfl 2 (by decide) T90 rfl rfl dX1_fillByte_1 ?_
  refine J_if_le (tgt := 19) cx dX1_fillByte_4 (by decide) (by omega) (fun h_4 => ?_) (fun h_4 => ?_)
  · skip
    refine J_ws (ws' := [(hb, .inr (1, [.ref hr2, .int (iI (pk (pzer ((8 - x.2 % 8) % 8).toNat x).1 (8 * ((pzer ((8 - x.2 % 8) % 8).toNat x).2 / 8)) ((pzer ((8 - x.2 % 8) % 8).toNat x).2 % 8))), .int (iI ((pzer ((8 - x.2 % 8) % 8).toNat x).2 % 8))])), (hr2, .inr (2, [.ref ha, .int (iI ((pzer ((8 - x.2 % 8) % 8).toNat x).2 / 8))])), (ha, .inl (X.2.2, 3000, .inl (aI (rowOf o (pzer ((8 - x.2 % 8) % 8).toNat x).1 (pzer ((8 - x.2 % 8) % 8).toNat x).2))))]) (by rw [show ((8 - x.2 % 8) % 8).toNat = 0 by omega]; rfl) ?_
    exact J_vret cx hr dX1_fillByte_19 ⟨rfl, rfl⟩
  · skip
    refine J_aload_n cx dX1_fillByte_7 rfl 0 rfl ?_
    refine J_bipush cx dX1_fillByte_8 (by decide) ?_
    refine J_aload_n cx dX1_fillByte_10 rfl 0 rfl ?_
    refine J_get cx inC1 0 rfl rfl 2 (by decide) T90 rfl rfl dX1_fillByte_11 ?_
    refine J_isub cx dX1_fillByte_14 ?_
    refine J_iconst cx dX1_fillByte_15 ?_
    refine J_callV (C := RX1) (T := TX1) (N := 3) cx (As := [.int (iI (8 - (x.2 % 8))), .int (iI 0)]) (rest := []) (mX1_putLowBits l X hb hr2 ha o x (8 - (x.2 % 8)) 0 (by omega) (by omega) (by omega)) T254 T267 T252 T253 T5 ⟨rfl, hd_X1_putLowBits⟩ rfl ⟨Nat.le_of_ble_eq_true rfl, Nat.le_of_ble_eq_true rfl⟩ (Nat.le_of_ble_eq_true rfl) ⟨Nat.le_of_ble_eq_true rfl, Nat.le_of_ble_eq_true rfl⟩ [0, 1, 2] [] rfl rfl rfl rfl rfl (by decide) 0 rfl rfl dX1_fillByte_16 rfl (J_f (ws' := [(hb, .inr (1, [.ref hr2, .int (iI (pk (plow 0 (8 - (x.2 % 8)).toNat x).1 (8 * ((plow 0 (8 - (x.2 % 8)).toNat x).2 / 8)) ((plow 0 (8 - (x.2 % 8)).toNat x).2 % 8))), .int (iI ((plow 0 (8 - (x.2 % 8)).toNat x).2 % 8))])), (hr2, .inr (2, [.ref ha, .int (iI ((plow 0 (8 - (x.2 % 8)).toNat x).2 / 8))])), (ha, .inl (X.2.2, 3000, .inl (aI (rowOf o (plow 0 (8 - (x.2 % 8)).toNat x).1 (plow 0 (8 - (x.2 % 8)).toNat x).2))))]) (st' := []) [0, 1, 2] rfl rfl rfl rfl ?_)
    refine J_ws (ws' := [(hb, .inr (1, [.ref hr2, .int (iI (pk (pzer ((8 - x.2 % 8) % 8).toNat x).1 (8 * ((pzer ((8 - x.2 % 8) % 8).toNat x).2 / 8)) ((pzer ((8 - x.2 % 8) % 8).toNat x).2 % 8))), .int (iI ((pzer ((8 - x.2 % 8) % 8).toNat x).2 % 8))])), (hr2, .inr (2, [.ref ha, .int (iI ((pzer ((8 - x.2 % 8) % 8).toNat x).2 / 8))])), (ha, .inl (X.2.2, 3000, .inl (aI (rowOf o (pzer ((8 - x.2 % 8) % 8).toNat x).1 (pzer ((8 - x.2 % 8) % 8).toNat x).2))))]) (by have e5 : plow 0 (8 - x.2 % 8).toNat x = pzer ((8 - x.2 % 8) % 8).toNat x := (by rw [plow_0]; congr 1; omega); rw [e5]) ?_
    exact J_vret cx hr dX1_fillByte_19 ⟨rfl, rfl⟩
