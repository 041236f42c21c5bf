set_option maxHeartbeats 4000000 in
set_option maxRecDepth 100000 in
theorem mX0_restart (l : Launch) (X : GX) (hb : Nat) (hr2 : Nat) (ha : Nat) (r : Int → Int) (q : Int) (E : Int) (F : Int) : Ct l yX0_restart cX0_restart 1 none 0 0 0 0 X [.ref hb] [(hb, .inr (0, [.ref hr2, .int (iI q), .int (iI E)])), (hr2, .inr (2, [.ref ha, .int (iI F)])), (ha, .inl (X.2.2, 3000, .inl (aI r)))] (fun1 none [(hb, .inr (0, [.ref hr2, .int (iI 0), .int (iI (8 * F))])), (hr2, .inr (2, [.ref ha, .int (iI F)])), (ha, .inl (X.2.2, 3000, .inl (aI r)))]) := by
  refine Ct_of (own := RX0) (lv := [(0, .ref hb)]) (by decide +kernel) rfl (Nat.le_of_ble_eq_true rfl) rfl ?_
  intro p e s m args below meth c A cx hr hin
  refine J_aload_n cx dX0_restart_0 rfl 0 rfl ?_
  refine J_iconst cx dX0_restart_1 ?_
  refine J_put (ty := .int) (ws' := [(hb, .inr (0, [.ref hr2, .int (iI 0), .int (iI E)])), (hr2, .inr (2, [.ref ha, .int (iI F)])), (ha, .inl (X.2.2, 3000, .inl (aI r)))]) cx inC0 tyX0_ok nmX0 0 rfl rfl 1 (by decide) T146 rfl rfl (by decide +kernel) (rfl) (rfl) (Nat.le_of_ble_eq_true rfl) rfl dX0_restart_2 ?_
  refine J_aload_n cx dX0_restart_5 rfl 0 rfl ?_
  refine J_bipush cx dX0_restart_6 (by decide) ?_
  refine J_aload_n cx dX0_restart_8 rfl 0 rfl ?_
  refine J_get cx inC0 0 rfl rfl 0 (by decide) T144 rfl rfl dX0_restart_9 ?_
  refine J_getN cx inC2 1 rfl rfl 1 (by decide) T79 rfl rfl dX0_restart_12 ?_
  refine J_imul cx dX0_restart_15 ?_
  refine J_put (ty := .int) (ws' := [(hb, .inr (0, [.ref hr2, .int (iI 0), .int (iI (8 * F))])), (hr2, .inr (2, [.ref ha, .int (iI F)])), (ha, .inl (X.2.2, 3000, .inl (aI r)))]) cx inC0 tyX0_ok nmX0 0 rfl rfl 2 (by decide) T148 rfl rfl (by decide +kernel) (rfl) (rfl) (Nat.le_of_ble_eq_true rfl) rfl dX0_restart_16 ?_
  exact J_vret cx hr dX0_restart_19 ⟨rfl, rfl⟩
set_option maxHeartbeats 4000000 in
set_option maxRecDepth 100000 in
theorem mX0_bitHere (l : Launch) (X : GX) (hb : Nat) (hr2 : Nat) (ha : Nat) (r : Int → Int) (q : Int) (E : Int) (F : Int) (hq : 0 ≤ q ∧ q ≤ 24100) (hE : 0 ≤ E ∧ E ≤ 24000) (hrr : ∀ j, -128 ≤ r j ∧ r j < 128) : Ct l yX0_bitHere cX0_bitHere 1 (some .int) 0 0 0 0 X [.ref hb] [(hb, .inr (0, [.ref hr2, .int (iI q), .int (iI E)])), (hr2, .inr (2, [.ref ha, .int (iI F)])), (ha, .inl (X.2.2, 3000, .inl (aI r)))] (fun1 (some (.int (iI (if q < E then cbit r q else 0)))) [(hb, .inr (0, [.ref hr2, .int (iI q), .int (iI E)])), (hr2, .inr (2, [.ref ha, .int (iI F)])), (ha, .inl (X.2.2, 3000, .inl (aI r)))]) := by
  refine Ct_of (own := RX0) (lv := [(0, .ref hb)]) (by decide +kernel) rfl (Nat.le_of_ble_eq_true rfl) rfl ?_
  intro p e s m args below meth c A cx hr hin
  refine J_aload_n cx dX0_bitHere_0 rfl 0 rfl ?_
  refine J_get cx inC0 0 rfl rfl 1 (by decide) T146 rfl rfl dX0_bitHere_1 ?_
  refine J_aload_n cx dX0_bitHere_4 rfl 0 rfl ?_
  refine J_get cx inC0 0 rfl rfl 2 (by decide) T148 rfl rfl dX0_bitHere_5 ?_
  refine J_icmp_ge (tgt := 41) cx dX0_bitHere_8 (by decide) (by omega) (by omega) (fun h_8 => ?_) (fun h_8 => ?_)
  · skip
    refine J_iconst cx dX0_bitHere_41 ?_
    refine J_top (b := (if q < E then cbit r q else 0)) (by first | (rw [if_neg (by omega)]; done) | (rw [if_pos (by omega), p2_3]; rfl)) ?_
    exact J_iret cx hr dX0_bitHere_42 ⟨rfl, rfl⟩
  · skip
    refine J_aload_n cx dX0_bitHere_11 rfl 0 rfl ?_
    refine J_get cx inC0 0 rfl rfl 0 (by decide) T144 rfl rfl dX0_bitHere_12 ?_
    refine J_getN cx inC2 1 rfl rfl 0 (by decide) T77 rfl rfl dX0_bitHere_15 ?_
    refine J_aload_n cx dX0_bitHere_18 rfl 0 rfl ?_
    refine J_get cx inC0 0 rfl rfl 1 (by decide) T146 rfl rfl dX0_bitHere_19 ?_
    refine J_iconst cx dX0_bitHere_22 ?_
    refine J_ishr cx dX0_bitHere_23 (by omega) (by omega) ?_
    refine J_bald cx 2 rfl (by rw [p2_3]; omega) (by decide) dX0_bitHere_24 ?_
    refine J_bipush cx dX0_bitHere_25 (by decide) ?_
    refine J_aload_n cx dX0_bitHere_27 rfl 0 rfl ?_
    refine J_get cx inC0 0 rfl rfl 1 (by decide) T146 rfl rfl dX0_bitHere_28 ?_
    refine J_bipush cx dX0_bitHere_31 (by decide) ?_
    refine J_iand (r := q % 8) cx dX0_bitHere_33 (iI_and7 _) ?_
    refine J_isub cx dX0_bitHere_34 ?_
    refine J_ishr cx dX0_bitHere_35 (by have := hrr (q / p2 3); omega) (by omega) ?_
    refine J_iconst cx dX0_bitHere_36 ?_
    refine J_iand (r := ((r (q / p2 3)) / p2 (7 - (q % 8))) % 2) cx dX0_bitHere_37 (iI_and1 _) ?_
    refine J_goto (tgt := 42) cx dX0_bitHere_38 (by decide) ?_
    refine J_top (b := (if q < E then cbit r q else 0)) (by first | (rw [if_neg (by omega)]; done) | (rw [if_pos (by omega), p2_3]; rfl)) ?_
    exact J_iret cx hr dX0_bitHere_42 ⟨rfl, rfl⟩
set_option maxHeartbeats 4000000 in
set_option maxRecDepth 100000 in
theorem mX0_nextLowBits (l : Launch) (X : GX) (hb : Nat) (hr2 : Nat) (ha : Nat) (r : Int → Int) (q : Int) (E : Int) (F : Int) (k : Int) (hq : 0 ≤ q ∧ q ≤ 24010) (hE : 0 ≤ E ∧ E ≤ 24000) (hrr : ∀ j, -128 ≤ r j ∧ r j < 128) (hk : 0 ≤ k ∧ k ≤ 15) : Ct l yX0_nextLowBits cX0_nextLowBits 4 (some .int) 1 20 0 0 X [.ref hb, .int (iI k)] [(hb, .inr (0, [.ref hr2, .int (iI q), .int (iI E)])), (hr2, .inr (2, [.ref ha, .int (iI F)])), (ha, .inl (X.2.2, 3000, .inl (aI r)))] (fun1 (some (.int (iI (if E - q < k then -1 else pk (cbit r) q k)))) [(hb, .inr (0, [.ref hr2, .int (iI (if E - q < k then q else q + k)), .int (iI E)])), (hr2, .inr (2, [.ref ha, .int (iI F)])), (ha, .inl (X.2.2, 3000, .inl (aI r)))]) := by
  refine Ct_of (own := RX0) (lv := [(0, .ref hb), (1, .int (iI k))]) (by decide +kernel) rfl (Nat.le_of_ble_eq_true rfl) rfl ?_
  intro p e s m args below meth c A cx hr hin
  refine J_aload_n cx dX0_nextLowBits_0 rfl 0 rfl ?_
  refine J_get cx inC0 0 rfl rfl 2 (by decide) T148 rfl rfl dX0_nextLowBits_1 ?_
  refine J_aload_n cx dX0_nextLowBits_4 rfl 0 rfl ?_
  refine J_get cx inC0 0 rfl rfl 1 (by decide) T146 rfl rfl dX0_nextLowBits_5 ?_
  refine J_isub cx dX0_nextLowBits_8 ?_
  refine J_iload_n cx dX0_nextLowBits_9 rfl 1 rfl ?_
  refine J_icmp_ge (tgt := 15) cx dX0_nextLowBits_10 (by decide) (by omega) (by omega) (fun h_10 => ?_) (fun h_10 => ?_)
  · skip
    refine J_iconst cx dX0_nextLowBits_15 ?_
    refine J_istore_n (lv' := [(2, .int (iI 0)), (0, .ref hb), (1, .int (iI k))]) cx dX0_nextLowBits_16 rfl (by decide) rfl ?_
    refine J_iconst cx dX0_nextLowBits_17 ?_
    refine J_istore_n (lv' := [(3, .int (iI 0)), (2, .int (iI 0)), (0, .ref hb), (1, .int (iI k))]) cx dX0_nextLowBits_18 rfl (by decide) rfl ?_
    refine J_loop3 (fun (v : Int) (j : Int) (t : Int) => [(hb, .inr (0, [.ref hr2, .int (iI t), .int (iI E)])), (hr2, .inr (2, [.ref ha, .int (iI F)])), (ha, .inl (X.2.2, 3000, .inl (aI r)))]) (fun (v : Int) (j : Int) (t : Int) => [(3, .int (iI j)), (2, .int (iI v)), (0, .ref hb), (1, .int (iI k))]) (fun (v : Int) (j : Int) (t : Int) => (0 ≤ j ∧ j ≤ k) ∧ (t = q + j) ∧ (v = pk (cbit r) q j)) (fun (v : Int) (j : Int) (t : Int) => (k - j).toNat) 0 0 q ⟨(by omega), (by omega), (rfl)⟩ ?_
    intro v j t hI ih_19
    obtain ⟨hj, ht, hv⟩ := hI
    try dsimp only at hj ht hv
    refine J_iload_n cx dX0_nextLowBits_19 rfl 0 rfl ?_
    refine J_iload_n cx dX0_nextLowBits_20 rfl 3 rfl ?_
    refine J_icmp_ge (tgt := 49) cx dX0_nextLowBits_21 (by decide) (by omega) (by omega) (fun h_21 => ?_) (fun h_21 => ?_)
    · skip
      refine J_iload_n cx dX0_nextLowBits_49 rfl 1 rfl ?_
      refine J_ws (ws' := [(hb, .inr (0, [.ref hr2, .int (iI (if E - q < k then q else q + k)), .int (iI E)])), (hr2, .inr (2, [.ref ha, .int (iI F)])), (ha, .inl (X.2.2, 3000, .inl (aI r)))]) (by rw [← show (t) = if E - q < k then q else q + k from by rw [if_neg (by omega)]; omega]) ?_
      refine J_top (b := (if E - q < k then -1 else pk (cbit r) q k)) (by rw [if_neg (by omega), hv, show j = k by omega]) ?_
      exact J_iret cx hr dX0_nextLowBits_50 ⟨rfl, rfl⟩
    · skip
      refine J_iload_n cx dX0_nextLowBits_24 rfl 1 rfl ?_
      refine J_iconst cx dX0_nextLowBits_25 ?_
      refine J_imul cx dX0_nextLowBits_26 ?_
      refine J_aload_n cx dX0_nextLowBits_27 rfl 2 rfl ?_
      refine J_callV (C := RX0) (T := TX0) (N := 3) cx (As := []) (rest := [.int (iI (v * 2))]) (mX0_bitHere l X hb hr2 ha r t E F (by omega) (by omega) (hrr)) T414 T411 T412 T413 T8 ⟨rfl, hd_X0_bitHere⟩ rfl ⟨Nat.le_of_ble_eq_true rfl, Nat.le_of_ble_eq_true rfl⟩ (Nat.le_of_ble_eq_true rfl) ⟨Nat.le_of_ble_eq_true rfl, Nat.le_of_ble_eq_true rfl⟩ [0, 1, 2] [] rfl rfl rfl rfl rfl (by decide) 0 rfl rfl dX0_nextLowBits_28 rfl (J_f (ws' := [(hb, .inr (0, [.ref hr2, .int (iI t), .int (iI E)])), (hr2, .inr (2, [.ref ha, .int (iI F)])), (ha, .inl (X.2.2, 3000, .inl (aI r)))]) (st' := [.int (iI (if t < E then cbit r t else 0)), .int (iI (v * 2))]) [0, 1, 2] rfl rfl rfl rfl ?_)
      refine J_top (b := (cbit r t)) (if_pos (by omega)) ?_
      refine J_iadd cx dX0_nextLowBits_31 ?_
      refine J_istore_n (lv' := [(2, .int (iI ((v * 2) + (cbit r t)))), (3, .int (iI j)), (0, .ref hb), (1, .int (iI k))]) cx dX0_nextLowBits_32 rfl (by decide) rfl ?_
      refine J_aload_n cx dX0_nextLowBits_33 rfl 2 rfl ?_
      refine J_dup cx dX0_nextLowBits_34 rfl ?_
      refine J_get cx inC0 0 rfl rfl 1 (by decide) T146 rfl rfl dX0_nextLowBits_35 ?_
      refine J_iconst cx dX0_nextLowBits_38 ?_
      refine J_iadd cx dX0_nextLowBits_39 ?_
      refine J_put (ty := .int) (ws' := [(hb, .inr (0, [.ref hr2, .int (iI (t + 1)), .int (iI E)])), (hr2, .inr (2, [.ref ha, .int (iI F)])), (ha, .inl (X.2.2, 3000, .inl (aI r)))]) cx inC0 tyX0_ok nmX0 0 rfl rfl 1 (by decide) T146 rfl rfl (by decide +kernel) (rfl) (rfl) (Nat.le_of_ble_eq_true rfl) rfl dX0_nextLowBits_40 ?_
      refine J_iinc (q := 1) (lv' := [(3, .int (iI (j + 1))), (2, .int (iI ((v * 2) + (cbit r t)))), (0, .ref hb), (1, .int (iI k))]) cx dX0_nextLowBits_43 rfl (by decide) rfl ?_
      refine J_goto (tgt := 19) cx dX0_nextLowBits_46 (by decide) ?_
      exact ih_19 ((v * 2) + (cbit r t)) (j + 1) (t + 1) ⟨(by omega), (by omega), (by rw [pk_s (by omega), ← hv, ← ht, Int.mul_comm])⟩ (by omega)
  · skip
    refine J_iconst cx dX0_nextLowBits_13 ?_
    refine J_ws (ws' := [(hb, .inr (0, [.ref hr2, .int (iI (if E - q < k then q else q + k)), .int (iI E)])), (hr2, .inr (2, [.ref ha, .int (iI F)])), (ha, .inl (X.2.2, 3000, .inl (aI r)))]) (by rw [← show (q) = if E - q < k then q else q + k from by rw [if_pos (by omega)]]) ?_
    refine J_top (b := (if E - q < k then -1 else pk (cbit r) q k)) (by rw [if_pos (by omega)]) ?_
    exact J_iret cx hr dX0_nextLowBits_14 ⟨rfl, rfl⟩
set_option maxHeartbeats 4000000 in
set_option maxRecDepth 100000 in
theorem mX0_nextNumber (l : Launch) (X : GX) (hb : Nat) (hr2 : Nat) (ha : Nat) (r : Int → Int) (q : Int) (E : Int) (F : Int) (k : Int) (hq : 0 ≤ q ∧ q ≤ E) (hE : 0 ≤ E ∧ E ≤ 24000) (hrr : ∀ j, -128 ≤ r j ∧ r j < 128) (hk : 0 ≤ k ∧ k ≤ 15) : Ct l yX0_nextNumber cX0_nextNumber 5 (some .int) 2 43 0 0 X [.ref hb, .int (iI k)] [(hb, .inr (0, [.ref hr2, .int (iI q), .int (iI E)])), (hr2, .inr (2, [.ref ha, .int (iI F)])), (ha, .inl (X.2.2, 3000, .inl (aI r)))] (fun1 (some (.int (iI (nnv r E q k)))) [(hb, .inr (0, [.ref hr2, .int (iI (nnp r E q k)), .int (iI E)])), (hr2, .inr (2, [.ref ha, .int (iI F)])), (ha, .inl (X.2.2, 3000, .inl (aI r)))]) := by
  refine Ct_of (own := RX0) (lv := [(0, .ref hb), (1, .int (iI k))]) (by decide +kernel) rfl (Nat.le_of_ble_eq_true rfl) rfl ?_
  intro p e s m args below meth c A cx hr hin
  have hfz := fz_rng r (E := E) (q := q) hq.2
  have hpk := pkc_rng r (fz r E q + 1) hk
  have hmu := mul_p2 (a := fz r E q - q) (k := k) (by omega) hk
  refine J_aload_n cx dX0_nextNumber_0 rfl 0 rfl ?_
  refine J_get cx inC0 0 rfl rfl 1 (by decide) T146 rfl rfl dX0_nextNumber_1 ?_
  refine J_istore_n (lv' := [(2, .int (iI q)), (0, .ref hb), (1, .int (iI k))]) cx dX0_nextNumber_4 rfl (by decide) rfl ?_
  refine J_loop1 (fun (t : Int) => [(hb, .inr (0, [.ref hr2, .int (iI t), .int (iI E)])), (hr2, .inr (2, [.ref ha, .int (iI F)])), (ha, .inl (X.2.2, 3000, .inl (aI r)))]) (fun (t : Int) => [(2, .int (iI q)), (0, .ref hb), (1, .int (iI k))]) (fun (t : Int) => (q ≤ t ∧ t ≤ E) ∧ (fz r E t = fz r E q)) (fun (t : Int) => (E - t).toNat) q ⟨(by omega), (rfl)⟩ ?_
  intro t hI ih_5
  obtain ⟨ht, htf⟩ := hI
  try dsimp only at ht htf
  refine J_aload_n cx dX0_nextNumber_5 rfl 1 rfl ?_
  refine J_get cx inC0 0 rfl rfl 1 (by decide) T146 rfl rfl dX0_nextNumber_6 ?_
  refine J_aload_n cx dX0_nextNumber_9 rfl 1 rfl ?_
  refine J_get cx inC0 0 rfl rfl 2 (by decide) T148 rfl rfl dX0_nextNumber_10 ?_
  refine J_icmp_ge (tgt := 36) cx dX0_nextNumber_13 (by decide) (by omega) (by omega) (fun h_13 => ?_) (fun h_13 => ?_)
  · skip
    have ht2 : t = fz r E q := by rw [← htf, fz_end (by omega)]
    subst ht2
    refine J_aload_n cx dX0_nextNumber_36 rfl 1 rfl ?_
    refine J_get cx inC0 0 rfl rfl 1 (by decide) T146 rfl rfl dX0_nextNumber_37 ?_
    refine J_iload_n cx dX0_nextNumber_40 rfl 0 rfl ?_
    refine J_isub cx dX0_nextNumber_41 ?_
    refine J_istore_n (lv' := [(3, .int (iI ((fz r E q) - q))), (2, .int (iI q)), (0, .ref hb), (1, .int (iI k))]) cx dX0_nextNumber_42 rfl (by decide) rfl ?_
    refine J_aload_n cx dX0_nextNumber_43 rfl 2 rfl ?_
    refine J_dup cx dX0_nextNumber_44 rfl ?_
    refine J_get cx inC0 0 rfl rfl 1 (by decide) T146 rfl rfl dX0_nextNumber_45 ?_
    refine J_iconst cx dX0_nextNumber_48 ?_
    refine J_iadd cx dX0_nextNumber_49 ?_
    refine J_put (ty := .int) (ws' := [(hb, .inr (0, [.ref hr2, .int (iI ((fz r E q) + 1)), .int (iI E)])), (hr2, .inr (2, [.ref ha, .int (iI F)])), (ha, .inl (X.2.2, 3000, .inl (aI r)))]) cx inC0 tyX0_ok nmX0 0 rfl rfl 1 (by decide) T146 rfl rfl (by decide +kernel) (rfl) (rfl) (Nat.le_of_ble_eq_true rfl) rfl dX0_nextNumber_50 ?_
    refine J_aload_n cx dX0_nextNumber_53 rfl 2 rfl ?_
    refine J_iload_n cx dX0_nextNumber_54 rfl 3 rfl ?_
    refine J_callV (C := RX0) (T := TX0) (N := 3) cx (As := [.int (iI k)]) (rest := []) (mX0_nextLowBits l X hb hr2 ha r ((fz r E q) + 1) E F k (by omega) (by omega) (hrr) (by omega)) T410 T427 T408 T409 T8 ⟨rfl, hd_X0_nextLowBits⟩ rfl ⟨Nat.le_of_ble_eq_true rfl, Nat.le_of_ble_eq_true rfl⟩ (Nat.le_of_ble_eq_true rfl) ⟨Nat.le_of_ble_eq_true rfl, Nat.le_of_ble_eq_true rfl⟩ [0, 1, 2] [] rfl rfl rfl rfl rfl (by decide) 0 rfl rfl dX0_nextNumber_55 rfl (J_f (ws' := [(hb, .inr (0, [.ref hr2, .int (iI (if E - ((fz r E q) + 1) < k then ((fz r E q) + 1) else ((fz r E q) + 1) + k)), .int (iI E)])), (hr2, .inr (2, [.ref ha, .int (iI F)])), (ha, .inl (X.2.2, 3000, .inl (aI r)))]) (st' := [.int (iI (if E - ((fz r E q) + 1) < k then -1 else pk (cbit r) ((fz r E q) + 1) k))]) [0, 1, 2] rfl rfl rfl rfl ?_)
    refine J_istore (lv' := [(4, .int (iI (if E - ((fz r E q) + 1) < k then -1 else pk (cbit r) ((fz r E q) + 1) k))), (3, .int (iI ((fz r E q) - q))), (2, .int (iI q)), (0, .ref hb), (1, .int (iI k))]) cx dX0_nextNumber_58 (by decide) rfl ?_
    refine J_iload cx dX0_nextNumber_60 0 rfl ?_
    refine J_iconst cx dX0_nextNumber_62 ?_
    refine J_icmp_ne (tgt := 70) cx dX0_nextNumber_63 (by decide) (by split <;> omega) (by decide) (fun h_63 => ?_) (fun h_63 => ?_)
    · skip
      refine J_iload_n cx dX0_nextNumber_70 rfl 1 rfl ?_
      refine J_iload_n cx dX0_nextNumber_71 rfl 4 rfl ?_
      refine J_ishl cx dX0_nextNumber_72 (by omega) (by omega) (by omega) ?_
      refine J_iload cx dX0_nextNumber_73 0 rfl ?_
      refine J_iadd cx dX0_nextNumber_75 ?_
      refine J_ws (ws' := [(hb, .inr (0, [.ref hr2, .int (iI (nnp r E q k)), .int (iI E)])), (hr2, .inr (2, [.ref ha, .int (iI F)])), (ha, .inl (X.2.2, 3000, .inl (aI r)))]) (by rw [← show (if E - ((fz r E q) + 1) < k then ((fz r E q) + 1) else ((fz r E q) + 1) + k) = nnp r E q k from by unfold nnp; rfl]) ?_
      refine J_top (b := (nnv r E q k)) (by first | exact nnv_bad h_63 hpk.1 | exact nnv_good h_63) ?_
      exact J_iret cx hr dX0_nextNumber_76 ⟨rfl, rfl⟩
    · skip
      refine J_iconst cx dX0_nextNumber_66 ?_
      refine J_goto (tgt := 76) cx dX0_nextNumber_67 (by decide) ?_
      refine J_ws (ws' := [(hb, .inr (0, [.ref hr2, .int (iI (nnp r E q k)), .int (iI E)])), (hr2, .inr (2, [.ref ha, .int (iI F)])), (ha, .inl (X.2.2, 3000, .inl (aI r)))]) (by rw [← show (if E - ((fz r E q) + 1) < k then ((fz r E q) + 1) else ((fz r E q) + 1) + k) = nnp r E q k from by unfold nnp; rfl]) ?_
      refine J_top (b := (nnv r E q k)) (by first | exact nnv_bad h_63 hpk.1 | exact nnv_good h_63) ?_
      exact J_iret cx hr dX0_nextNumber_76 ⟨rfl, rfl⟩
  · skip
    refine J_aload_n cx dX0_nextNumber_16 rfl 1 rfl ?_
    refine J_callV (C := RX0) (T := TX0) (N := 3) cx (As := []) (rest := []) (mX0_bitHere l X hb hr2 ha r t E F (by omega) (by omega) (hrr)) T414 T411 T412 T413 T8 ⟨rfl, hd_X0_bitHere⟩ rfl ⟨Nat.le_of_ble_eq_true rfl, Nat.le_of_ble_eq_true rfl⟩ (Nat.le_of_ble_eq_true rfl) ⟨Nat.le_of_ble_eq_true rfl, Nat.le_of_ble_eq_true rfl⟩ [0, 1, 2] [] rfl rfl rfl rfl rfl (by decide) 0 rfl rfl dX0_nextNumber_17 rfl (J_f (ws' := [(hb, .inr (0, [.ref hr2, .int (iI t), .int (iI E)])), (hr2, .inr (2, [.ref ha, .int (iI F)])), (ha, .inl (X.2.2, 3000, .inl (aI r)))]) (st' := [.int (iI (if t < E then cbit r t else 0))]) [0, 1, 2] rfl rfl rfl rfl ?_)
    refine J_if_ne (tgt := 36) cx dX0_nextNumber_20 (by decide) (by split <;> (try have h5 := cbit_01 r t) <;> omega) (fun h_20 => ?_) (fun h_20 => ?_)
    · skip
      rw [if_pos (by omega)] at h_20
      have ht2 : t = fz r E q := by rw [← htf, fz_one h_20]
      subst ht2
      refine J_aload_n cx dX0_nextNumber_36 rfl 1 rfl ?_
      refine J_get cx inC0 0 rfl rfl 1 (by decide) T146 rfl rfl dX0_nextNumber_37 ?_
      refine J_iload_n cx dX0_nextNumber_40 rfl 0 rfl ?_
      refine J_isub cx dX0_nextNumber_41 ?_
      refine J_istore_n (lv' := [(3, .int (iI ((fz r E q) - q))), (2, .int (iI q)), (0, .ref hb), (1, .int (iI k))]) cx dX0_nextNumber_42 rfl (by decide) rfl ?_
      refine J_aload_n cx dX0_nextNumber_43 rfl 2 rfl ?_
      refine J_dup cx dX0_nextNumber_44 rfl ?_
      refine J_get cx inC0 0 rfl rfl 1 (by decide) T146 rfl rfl dX0_nextNumber_45 ?_
      refine J_iconst cx dX0_nextNumber_48 ?_
      refine J_iadd cx dX0_nextNumber_49 ?_
      refine J_put (ty := .int) (ws' := [(hb, .inr (0, [.ref hr2, .int (iI ((fz r E q) + 1)), .int (iI E)])), (hr2, .inr (2, [.ref ha, .int (iI F)])), (ha, .inl (X.2.2, 3000, .inl (aI r)))]) cx inC0 tyX0_ok nmX0 0 rfl rfl 1 (by decide) T146 rfl rfl (by decide +kernel) (rfl) (rfl) (Nat.le_of_ble_eq_true rfl) rfl dX0_nextNumber_50 ?_
      refine J_aload_n cx dX0_nextNumber_53 rfl 2 rfl ?_
      refine J_iload_n cx dX0_nextNumber_54 rfl 3 rfl ?_
      refine J_callV (C := RX0) (T := TX0) (N := 3) cx (As := [.int (iI k)]) (rest := []) (mX0_nextLowBits l X hb hr2 ha r ((fz r E q) + 1) E F k (by omega) (by omega) (hrr) (by omega)) T410 T427 T408 T409 T8 ⟨rfl, hd_X0_nextLowBits⟩ rfl ⟨Nat.le_of_ble_eq_true rfl, Nat.le_of_ble_eq_true rfl⟩ (Nat.le_of_ble_eq_true rfl) ⟨Nat.le_of_ble_eq_true rfl, Nat.le_of_ble_eq_true rfl⟩ [0, 1, 2] [] rfl rfl rfl rfl rfl (by decide) 0 rfl rfl dX0_nextNumber_55 rfl (J_f (ws' := [(hb, .inr (0, [.ref hr2, .int (iI (if E - ((fz r E q) + 1) < k then ((fz r E q) + 1) else ((fz r E q) + 1) + k)), .int (iI E)])), (hr2, .inr (2, [.ref ha, .int (iI F)])), (ha, .inl (X.2.2, 3000, .inl (aI r)))]) (st' := [.int (iI (if E - ((fz r E q) + 1) < k then -1 else pk (cbit r) ((fz r E q) + 1) k))]) [0, 1, 2] rfl rfl rfl rfl ?_)
      refine J_istore (lv' := [(4, .int (iI (if E - ((fz r E q) + 1) < k then -1 else pk (cbit r) ((fz r E q) + 1) k))), (3, .int (iI ((fz r E q) - q))), (2, .int (iI q)), (0, .ref hb), (1, .int (iI k))]) cx dX0_nextNumber_58 (by decide) rfl ?_
      refine J_iload cx dX0_nextNumber_60 0 rfl ?_
      refine J_iconst cx dX0_nextNumber_62 ?_
      refine J_icmp_ne (tgt := 70) cx dX0_nextNumber_63 (by decide) (by split <;> omega) (by decide) (fun h_63 => ?_) (fun h_63 => ?_)
      · skip
        refine J_iload_n cx dX0_nextNumber_70 rfl 1 rfl ?_
        refine J_iload_n cx dX0_nextNumber_71 rfl 4 rfl ?_
        refine J_ishl cx dX0_nextNumber_72 (by omega) (by omega) (by omega) ?_
        refine J_iload cx dX0_nextNumber_73 0 rfl ?_
        refine J_iadd cx dX0_nextNumber_75 ?_
        refine J_ws (ws' := [(hb, .inr (0, [.ref hr2, .int (iI (nnp r E q k)), .int (iI E)])), (hr2, .inr (2, [.ref ha, .int (iI F)])), (ha, .inl (X.2.2, 3000, .inl (aI r)))]) (by rw [← show (if E - ((fz r E q) + 1) < k then ((fz r E q) + 1) else ((fz r E q) + 1) + k) = nnp r E q k from by unfold nnp; rfl]) ?_
        refine J_top (b := (nnv r E q k)) (by first | exact nnv_bad h_63 hpk.1 | exact nnv_good h_63) ?_
        exact J_iret cx hr dX0_nextNumber_76 ⟨rfl, rfl⟩
      · skip
        refine J_iconst cx dX0_nextNumber_66 ?_
        refine J_goto (tgt := 76) cx dX0_nextNumber_67 (by decide) ?_
        refine J_ws (ws' := [(hb, .inr (0, [.ref hr2, .int (iI (nnp r E q k)), .int (iI E)])), (hr2, .inr (2, [.ref ha, .int (iI F)])), (ha, .inl (X.2.2, 3000, .inl (aI r)))]) (by rw [← show (if E - ((fz r E q) + 1) < k then ((fz r E q) + 1) else ((fz r E q) + 1) + k) = nnp r E q k from by unfold nnp; rfl]) ?_
        refine J_top (b := (nnv r E q k)) (by first | exact nnv_bad h_63 hpk.1 | exact nnv_good h_63) ?_
        exact J_iret cx hr dX0_nextNumber_76 ⟨rfl, rfl⟩
    · skip
      have h_20b : cbit r t = 0 := by rw [if_pos (by omega)] at h_20; exact h_20
      refine J_aload_n cx dX0_nextNumber_23 rfl 1 rfl ?_
      refine J_dup cx dX0_nextNumber_24 rfl ?_
      refine J_get cx inC0 0 rfl rfl 1 (by decide) T146 rfl rfl dX0_nextNumber_25 ?_
      refine J_iconst cx dX0_nextNumber_28 ?_
      refine J_iadd cx dX0_nextNumber_29 ?_
      refine J_put (ty := .int) (ws' := [(hb, .inr (0, [.ref hr2, .int (iI (t + 1)), .int (iI E)])), (hr2, .inr (2, [.ref ha, .int (iI F)])), (ha, .inl (X.2.2, 3000, .inl (aI r)))]) cx inC0 tyX0_ok nmX0 0 rfl rfl 1 (by decide) T146 rfl rfl (by decide +kernel) (rfl) (rfl) (Nat.le_of_ble_eq_true rfl) rfl dX0_nextNumber_30 ?_
      refine J_goto (tgt := 5) cx dX0_nextNumber_33 (by decide) ?_
      exact ih_5 (t + 1) ⟨(by omega), (by rw [← htf, fz_zero (by omega) h_20b])⟩ (by omega)
