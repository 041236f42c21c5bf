set_option maxHeartbeats 4000000 in
set_option maxRecDepth 100000 in
theorem mX2_clear (l : Launch) (X : GX) (h : Nat) (a : Nat) (r : Int → Int) (n : Int) : Ct l yX2_clear cX2_clear 1 none 0 0 0 0 X [.ref h] [(h, .inr (2, [.ref a, .int (iI n)])), (a, .inl (X.2.2, 3000, .inl (aI r)))] (fun1 none [(h, .inr (2, [.ref a, .int (iI 0)])), (a, .inl (X.2.2, 3000, .inl (aI r)))]) := by
  refine Ct_of (own := RX2) (lv := [(0, .ref h)]) (by decide +kernel) rfl (Nat.le_of_ble_eq_true rfl) rfl ?_
  intro p e s m args below meth c A cx hr hin
  refine J_aload_n cx dX2_clear_0 rfl 0 rfl ?_
  refine J_iconst cx dX2_clear_1 ?_
  refine J_put (ty := .int) (ws' := [(h, .inr (2, [.ref a, .int (iI 0)])), (a, .inl (X.2.2, 3000, .inl (aI r)))]) cx inC2 tyX2_ok nmX2 0 rfl rfl 1 (by decide) T78 rfl rfl (by decide +kernel) (rfl) (rfl) (Nat.le_of_ble_eq_true rfl) rfl dX2_clear_2 ?_
  exact J_vret cx hr dX2_clear_5 ⟨rfl, rfl⟩
set_option maxHeartbeats 4000000 in
set_option maxRecDepth 100000 in
theorem mX2_append (l : Launch) (X : GX) (h : Nat) (a : Nat) (r : Int → Int) (n : Int) (b : Int) (hn : 0 ≤ n ∧ n ≤ 3000) : Ct l yX2_append cX2_append 2 (some .boolean) 0 0 0 0 X [.ref h, .int (iI b)] [(h, .inr (2, [.ref a, .int (iI n)])), (a, .inl (X.2.2, 3000, .inl (aI r)))] (fun1 (some (.int (iI (if n < 3000 then 1 else 0)))) [(h, .inr (2, [.ref a, .int (iI (if n < 3000 then n + 1 else n))])), (a, .inl (X.2.2, 3000, .inl (aI (if n < 3000 then upI r n (w8 b) else r))))]) := by
  refine Ct_of (own := RX2) (lv := [(0, .ref h), (1, .int (iI b))]) (by decide +kernel) rfl (Nat.le_of_ble_eq_true rfl) rfl ?_
  intro p e s m args below meth c A cx hr hin
  refine J_aload_n cx dX2_append_0 rfl 0 rfl ?_
  refine J_get cx inC2 0 rfl rfl 1 (by decide) T78 rfl rfl dX2_append_1 ?_
  refine J_sipush cx dX2_append_4 (by decide) ?_
  refine J_icmp_lt (tgt := 12) cx dX2_append_7 (by decide) (by omega) (by decide) (fun h_7 => ?_) (fun h_7 => ?_)
  · skip
    refine J_aload_n cx dX2_append_12 rfl 0 rfl ?_
    refine J_get cx inC2 0 rfl rfl 0 (by decide) T76 rfl rfl dX2_append_13 ?_
    refine J_aload_n cx dX2_append_16 rfl 0 rfl ?_
    refine J_get cx inC2 0 rfl rfl 1 (by decide) T78 rfl rfl dX2_append_17 ?_
    refine J_iload_n cx dX2_append_20 rfl 1 rfl ?_
    refine J_i2b cx dX2_append_21 ?_
    refine J_bast (ws' := [(h, .inr (2, [.ref a, .int (iI n)])), (a, .inl (X.2.2, 3000, .inl (aI (upI r n (w8 (w8 b))))))]) cx 1 rfl (by omega) (by decide) rfl dX2_append_22 ?_
    refine J_aload_n cx dX2_append_23 rfl 0 rfl ?_
    refine J_dup cx dX2_append_24 rfl ?_
    refine J_get cx inC2 0 rfl rfl 1 (by decide) T78 rfl rfl dX2_append_25 ?_
    refine J_iconst cx dX2_append_28 ?_
    refine J_iadd cx dX2_append_29 ?_
    refine J_put (ty := .int) (ws' := [(h, .inr (2, [.ref a, .int (iI (n + 1))])), (a, .inl (X.2.2, 3000, .inl (aI (upI r n (w8 (w8 b))))))]) cx inC2 tyX2_ok nmX2 0 rfl rfl 1 (by decide) T78 rfl rfl (by decide +kernel) (rfl) (rfl) (Nat.le_of_ble_eq_true rfl) rfl dX2_append_30 ?_
    refine J_iconst cx dX2_append_33 ?_
    refine J_ws (ws' := [(h, .inr (2, [.ref a, .int (iI (if n < 3000 then n + 1 else n))])), (a, .inl (X.2.2, 3000, .inl (aI (if n < 3000 then upI r n (w8 b) else r))))]) (by rw [← show (n + 1) = if n < 3000 then n + 1 else n from by split <;> first | rfl | omega, ← show (upI r n (w8 (w8 b))) = if n < 3000 then upI r n (w8 b) else r from by split <;> first | rfl | (rw [w8_w8]; done) | omega]) ?_
    refine J_top (b := (if n < 3000 then 1 else 0)) (by split <;> first | rfl | omega) ?_
    exact J_zret cx hr (by split <;> omega) dX2_append_34 ⟨rfl, rfl⟩
  · skip
    refine J_iconst cx dX2_append_10 ?_
    refine J_ws (ws' := [(h, .inr (2, [.ref a, .int (iI (if n < 3000 then n + 1 else n))])), (a, .inl (X.2.2, 3000, .inl (aI (if n < 3000 then upI r n (w8 b) else r))))]) (by rw [← show (n) = if n < 3000 then n + 1 else n from by split <;> first | rfl | omega, ← show (r) = if n < 3000 then upI r n (w8 b) else r from by split <;> first | rfl | (rw [w8_w8]; done) | omega]) ?_
    refine J_top (b := (if n < 3000 then 1 else 0)) (by split <;> first | rfl | omega) ?_
    exact J_zret cx hr (by split <;> omega) dX2_append_11 ⟨rfl, rfl⟩
set_option maxHeartbeats 4000000 in
set_option maxRecDepth 100000 in
theorem mX2_byteAt (l : Launch) (X : GX) (h : Nat) (a : Nat) (r : Int → Int) (n : Int) (i : Int) (hn : 0 ≤ n ∧ n ≤ 3000) (hi : -2147483648 ≤ i ∧ i < 2147483648) : Ct l yX2_byteAt cX2_byteAt 2 (some .int) 0 0 0 0 X [.ref h, .int (iI i)] [(h, .inr (2, [.ref a, .int (iI n)])), (a, .inl (X.2.2, 3000, .inl (aI r)))] (fun1 (some (.int (iI (if i < 0 ∨ n ≤ i then -1 else r i % 256)))) [(h, .inr (2, [.ref a, .int (iI n)])), (a, .inl (X.2.2, 3000, .inl (aI r)))]) := by
  refine Ct_of (own := RX2) (lv := [(0, .ref h), (1, .int (iI i))]) (by decide +kernel) rfl (Nat.le_of_ble_eq_true rfl) rfl ?_
  intro p e s m args below meth c A cx hr hin
  refine J_iload_n cx dX2_byteAt_0 rfl 1 rfl ?_
  refine J_if_lt (tgt := 12) cx dX2_byteAt_1 (by decide) (by omega) (fun h_1 => ?_) (fun h_1 => ?_)
  · skip
    refine J_iconst cx dX2_byteAt_12 ?_
    refine J_goto (tgt := 26) cx dX2_byteAt_13 (by decide) ?_
    refine J_top (b := (if i < 0 ∨ n ≤ i then -1 else r i % 256)) (by split <;> first | rfl | omega) ?_
    exact J_iret cx hr dX2_byteAt_26 ⟨rfl, rfl⟩
  · skip
    refine J_iload_n cx dX2_byteAt_4 rfl 1 rfl ?_
    refine J_aload_n cx dX2_byteAt_5 rfl 0 rfl ?_
    refine J_get cx inC2 0 rfl rfl 1 (by decide) T78 rfl rfl dX2_byteAt_6 ?_
    refine J_icmp_lt (tgt := 16) cx dX2_byteAt_9 (by decide) (by omega) (by omega) (fun h_9 => ?_) (fun h_9 => ?_)
    · skip
      refine J_aload_n cx dX2_byteAt_16 rfl 0 rfl ?_
      refine J_get cx inC2 0 rfl rfl 0 (by decide) T76 rfl rfl dX2_byteAt_17 ?_
      refine J_iload_n cx dX2_byteAt_20 rfl 1 rfl ?_
      refine J_bald cx 1 rfl (by omega) (by decide) dX2_byteAt_21 ?_
      refine J_sipush cx dX2_byteAt_22 (by decide) ?_
      refine J_iand (r := (r i) % 256) cx dX2_byteAt_25 (iI_and255 _) ?_
      refine J_top (b := (if i < 0 ∨ n ≤ i then -1 else r i % 256)) (by split <;> first | rfl | omega) ?_
      exact J_iret cx hr dX2_byteAt_26 ⟨rfl, rfl⟩
    · skip
      refine J_iconst cx dX2_byteAt_12 ?_
      refine J_goto (tgt := 26) cx dX2_byteAt_13 (by decide) ?_
      refine J_top (b := (if i < 0 ∨ n ≤ i then -1 else r i % 256)) (by split <;> first | rfl | omega) ?_
      exact J_iret cx hr dX2_byteAt_26 ⟨rfl, rfl⟩
set_option maxHeartbeats 4000000 in
set_option maxRecDepth 100000 in
theorem mX2_copy (l : Launch) (X : GX) (h : Nat) (a : Nat) (r : Int → Int) (n : Int) (h2 : Nat) (a2 : Nat) (r2 : Int → Int) (n2 : Int) (hn : 0 ≤ n2 ∧ n2 ≤ 3000) (hw : ∀ j, 0 ≤ j → j < n2 → w8 (r2 j) = r2 j) : Ct l yX2_copy cX2_copy 2 none 1 40 0 0 X [.ref h, .ref h2] [(h, .inr (2, [.ref a, .int (iI n)])), (a, .inl (X.2.2, 3000, .inl (aI r))), (h2, .inr (2, [.ref a2, .int (iI n2)])), (a2, .inl (X.2.2, 3000, .inl (aI r2)))] (fun1 none [(h, .inr (2, [.ref a, .int (iI n2)])), (a, .inl (X.2.2, 3000, .inl (aI (cpyI r2 r n2)))), (h2, .inr (2, [.ref a2, .int (iI n2)])), (a2, .inl (X.2.2, 3000, .inl (aI r2)))]) := by
  refine Ct_of (own := RX2) (lv := [(0, .ref h), (1, .ref h2)]) (by decide +kernel) rfl (Nat.le_of_ble_eq_true rfl) rfl ?_
  intro p e s m args below meth c A cx hr hin
  refine J_aload_n cx dX2_copy_0 rfl 0 rfl ?_
  refine J_aload_n cx dX2_copy_1 rfl 1 rfl ?_
  refine J_get cx inC2 2 rfl rfl 1 (by decide) T78 rfl rfl dX2_copy_2 ?_
  refine J_put (ty := .int) (ws' := [(h, .inr (2, [.ref a, .int (iI n2)])), (a, .inl (X.2.2, 3000, .inl (aI r))), (h2, .inr (2, [.ref a2, .int (iI n2)])), (a2, .inl (X.2.2, 3000, .inl (aI r2)))]) cx inC2 tyX2_ok nmX2 0 rfl rfl 1 (by decide) T78 rfl rfl (by decide +kernel) (rfl) (rfl) (Nat.le_of_ble_eq_true rfl) rfl dX2_copy_5 ?_
  refine J_aload_n cx dX2_copy_8 rfl 1 rfl ?_
  refine J_get cx inC2 2 rfl rfl 0 (by decide) T76 rfl rfl dX2_copy_9 ?_
  refine J_iconst cx dX2_copy_12 ?_
  refine J_aload_n cx dX2_copy_13 rfl 0 rfl ?_
  refine J_get cx inC2 0 rfl rfl 0 (by decide) T76 rfl rfl dX2_copy_14 ?_
  refine J_iconst cx dX2_copy_17 ?_
  refine J_aload_n cx dX2_copy_18 rfl 0 rfl ?_
  refine J_get cx inC2 0 rfl rfl 1 (by decide) T78 rfl rfl dX2_copy_19 ?_
  refine J_copyB (ws' := [(h, .inr (2, [.ref a, .int (iI n2)])), (a, .inl (X.2.2, 3000, .inl (aI (cpyI r2 r n2)))), (h2, .inr (2, [.ref a2, .int (iI n2)])), (a2, .inl (X.2.2, 3000, .inl (aI r2)))]) cx T382 T235 T234 T10 3 1 rfl rfl (by omega) (by decide) (by decide) (hw) rfl (Nat.le_of_ble_eq_true rfl) (Nat.le_of_ble_eq_true rfl) (by decide) dX2_copy_22 ?_
  exact J_vret cx hr dX2_copy_25 ⟨rfl, rfl⟩
