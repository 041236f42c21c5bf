set_option maxHeartbeats 4000000 in
set_option maxRecDepth 100000 in
theorem mJ9_min_7cf53 (l : Launch) (X : GX) (a : Int) (b : Int) (ha : -2147483648 ≤ a ∧ a < 2147483648) (hb : -2147483648 ≤ b ∧ b < 2147483648) : Ct l yJ9_min_7cf53 cJ9_min_7cf53 2 (some .int) 0 0 0 0 X [.int (iI a), .int (iI b)] [] (fun1 (some (.int (iI (mnI a b)))) []) := by
  refine Ct_of (own := RJ9) (lv := [(0, .int (iI a)), (1, .int (iI b))]) (by decide +kernel) rfl (Nat.le_of_ble_eq_true rfl) rfl ?_
  intro p e s m args below meth c A cx hr hin
  refine J_iload_n cx dJ9_min_7cf53_0 rfl 0 rfl ?_
  refine J_iload_n cx dJ9_min_7cf53_1 rfl 1 rfl ?_
  refine J_icmp_gt (tgt := 9) cx dJ9_min_7cf53_2 (by decide) (by omega) (by omega) (fun h_2 => ?_) (fun h_2 => ?_)
  · skip
    refine J_iload_n cx dJ9_min_7cf53_9 rfl 1 rfl ?_
    refine J_top (b := (mnI a b)) (by unfold mnI; split <;> omega) ?_
    exact J_iret cx hr dJ9_min_7cf53_10 ⟨rfl, rfl⟩
  · skip
    refine J_iload_n cx dJ9_min_7cf53_5 rfl 0 rfl ?_
    refine J_goto (tgt := 10) cx dJ9_min_7cf53_6 (by decide) ?_
    refine J_top (b := (mnI a b)) (by unfold mnI; split <;> omega) ?_
    exact J_iret cx hr dJ9_min_7cf53_10 ⟨rfl, rfl⟩
set_option maxHeartbeats 4000000 in
set_option maxRecDepth 100000 in
theorem mJ9_floorDiv_7cf53 (l : Launch) (X : GX) (a : Int) (b : Int) (ha : -2147483648 ≤ a ∧ a < 2147483648) (hb : 0 < b ∧ b < 2147483648) : Ct l yJ9_floorDiv_7cf53 cJ9_floorDiv_7cf53 3 (some .int) 0 0 0 0 X [.int (iI a), .int (iI b)] [] (fun1 (some (.int (iI (a / b)))) []) := by
  refine Ct_of (own := RJ9) (lv := [(0, .int (iI a)), (1, .int (iI b))]) (by decide +kernel) rfl (Nat.le_of_ble_eq_true rfl) rfl ?_
  intro p e s m args below meth c A cx hr hin
  refine J_iload_n cx dJ9_floorDiv_7cf53_0 rfl 0 rfl ?_
  refine J_iload_n cx dJ9_floorDiv_7cf53_1 rfl 1 rfl ?_
  refine J_idivT cx dJ9_floorDiv_7cf53_2 (by omega) (by omega) ?_
  refine J_istore_n (lv' := [(2, .int (iI (Int.tdiv a b))), (0, .int (iI a)), (1, .int (iI b))]) cx dJ9_floorDiv_7cf53_3 rfl (by decide) rfl ?_
  refine J_iload_n cx dJ9_floorDiv_7cf53_4 rfl 1 rfl ?_
  refine J_iload_n cx dJ9_floorDiv_7cf53_5 rfl 2 rfl ?_
  refine J_ixor cx dJ9_floorDiv_7cf53_6 ?_
  refine J_if_ge (tgt := 21) cx dJ9_floorDiv_7cf53_7 (by decide) (xorI_rng _ _) (fun h_7 => ?_) (fun h_7 => ?_)
  · skip
    have h7 := (xorI_neg (a := a) (b := b) ha (by omega))
    refine J_iload_n cx dJ9_floorDiv_7cf53_21 rfl 0 rfl ?_
    refine J_top (b := (a / b)) (by first | (rw [Int.tdiv_eq_ediv_of_nonneg (by omega)]; done) | rw [← fdiv_of hb.1, if_neg (by omega)]) ?_
    exact J_iret cx hr dJ9_floorDiv_7cf53_22 ⟨rfl, rfl⟩
  · skip
    have h7 := (xorI_neg (a := a) (b := b) ha (by omega))
    have h8 : a < 0 := by omega
    have h9 := tdiv_neg h8 hb.1
    refine J_iload_n cx dJ9_floorDiv_7cf53_10 rfl 0 rfl ?_
    refine J_iload_n cx dJ9_floorDiv_7cf53_11 rfl 2 rfl ?_
    refine J_imul cx dJ9_floorDiv_7cf53_12 ?_
    refine J_iload_n cx dJ9_floorDiv_7cf53_13 rfl 1 rfl ?_
    refine J_icmp_eq (tgt := 21) cx dJ9_floorDiv_7cf53_14 (by decide) (tdiv_le ha hb.1) (by omega) (fun h_14 => ?_) (fun h_14 => ?_)
    · skip
      refine J_iload_n cx dJ9_floorDiv_7cf53_21 rfl 0 rfl ?_
      refine J_top (b := (a / b)) (by first | (rw [Int.tdiv_eq_ediv_of_nonneg (by omega)]; done) | rw [← fdiv_of hb.1, if_neg (by omega)]) ?_
      exact J_iret cx hr dJ9_floorDiv_7cf53_22 ⟨rfl, rfl⟩
    · skip
      refine J_iload_n cx dJ9_floorDiv_7cf53_17 rfl 0 rfl ?_
      refine J_iconst cx dJ9_floorDiv_7cf53_18 ?_
      refine J_isub cx dJ9_floorDiv_7cf53_19 ?_
      refine J_top (b := (a / b)) (by rw [← fdiv_of hb.1, if_pos (by omega)]) ?_
      exact J_iret cx hr dJ9_floorDiv_7cf53_20 ⟨rfl, rfl⟩
set_option maxHeartbeats 4000000 in
set_option maxRecDepth 100000 in
theorem mX7_roundedMean (l : Launch) (X : GX) (sm : Int) (k : Int) (hs : -1000000000 ≤ sm ∧ sm < 1000000000) (hk : 1 ≤ k ∧ k < 1000000) : Ct l yX7_roundedMean cX7_roundedMean 2 (some .int) 1 22 0 0 X [.int (iI sm), .int (iI k)] [] (fun1 (some (.int (iI (rmean sm k)))) []) := by
  refine Ct_of (own := RX7) (lv := [(0, .int (iI sm)), (1, .int (iI k))]) (by decide +kernel) rfl (Nat.le_of_ble_eq_true rfl) rfl ?_
  intro p e s m args below meth c A cx hr hin
  refine J_iload_n cx dX7_roundedMean_0 rfl 1 rfl ?_
  refine J_iconst cx dX7_roundedMean_1 ?_
  refine J_icmp_ge (tgt := 9) cx dX7_roundedMean_2 (by decide) (by omega) (by decide) (fun h_2 => ?_) (fun h_2 => ?_)
  · skip
    refine J_iload_n cx dX7_roundedMean_9 rfl 0 rfl ?_
    refine J_iload_n cx dX7_roundedMean_10 rfl 1 rfl ?_
    refine J_iconst cx dX7_roundedMean_11 ?_
    refine J_idiv cx dX7_roundedMean_12 (by omega) (by omega) ?_
    refine J_iadd cx dX7_roundedMean_13 ?_
    refine J_iload_n cx dX7_roundedMean_14 rfl 1 rfl ?_
    refine J_callS cx (As := [.int (iI (sm + (k / 2))), .int (iI k)]) (rest := []) (mJ9_floorDiv_7cf53 l X (sm + (k / 2)) k (by omega) (by omega)) T299 T297 T298 T11 hd_J9_floorDiv_7cf53 rfl ⟨Nat.le_of_ble_eq_true rfl, Nat.le_of_ble_eq_true rfl⟩ (Nat.le_of_ble_eq_true rfl) ⟨Nat.le_of_ble_eq_true rfl, Nat.le_of_ble_eq_true rfl⟩ [] [] rfl rfl rfl rfl rfl (by decide) dX7_roundedMean_15 rfl (J_f (ws' := []) (st' := [.int (iI ((sm + (k / 2)) / k))]) [] rfl rfl rfl rfl ?_)
    refine J_top (b := (rmean sm k)) (rfl) ?_
    exact J_iret cx hr dX7_roundedMean_18 ⟨rfl, rfl⟩
  · exfalso; omega
set_option maxHeartbeats 4000000 in
set_option maxRecDepth 100000 in
theorem mX7_isSample (l : Launch) (X : GX) (v : Int) (hv : -2147483648 ≤ v ∧ v < 2147483648) : Ct l yX7_isSample cX7_isSample 1 (some .boolean) 0 0 0 0 X [.int (iI v)] [] (fun1 (some (.int (iI (smpB v)))) []) := by
  refine Ct_of (own := RX7) (lv := [(0, .int (iI v))]) (by decide +kernel) rfl (Nat.le_of_ble_eq_true rfl) rfl ?_
  intro p e s m args below meth c A cx hr hin
  refine J_iload_n cx dX7_isSample_0 rfl 0 rfl ?_
  refine J_sipush cx dX7_isSample_1 (by decide) ?_
  refine J_icmp_lt (tgt := 18) cx dX7_isSample_4 (by decide) (by omega) (by decide) (fun h_4 => ?_) (fun h_4 => ?_)
  · skip
    refine J_iconst cx dX7_isSample_18 ?_
    refine J_top (b := (smpB v)) (by unfold smpB; split <;> omega) ?_
    exact J_zret cx hr (by unfold smpB; split <;> omega) dX7_isSample_19 ⟨rfl, rfl⟩
  · skip
    refine J_iload_n cx dX7_isSample_7 rfl 0 rfl ?_
    refine J_sipush cx dX7_isSample_8 (by decide) ?_
    refine J_icmp_gt (tgt := 18) cx dX7_isSample_11 (by decide) (by omega) (by decide) (fun h_11 => ?_) (fun h_11 => ?_)
    · skip
      refine J_iconst cx dX7_isSample_18 ?_
      refine J_top (b := (smpB v)) (by unfold smpB; split <;> omega) ?_
      exact J_zret cx hr (by unfold smpB; split <;> omega) dX7_isSample_19 ⟨rfl, rfl⟩
    · skip
      refine J_iconst cx dX7_isSample_14 ?_
      refine J_goto (tgt := 19) cx dX7_isSample_15 (by decide) ?_
      refine J_top (b := (smpB v)) (by unfold smpB; split <;> omega) ?_
      exact J_zret cx hr (by unfold smpB; split <;> omega) dX7_isSample_19 ⟨rfl, rfl⟩
set_option maxHeartbeats 4000000 in
set_option maxRecDepth 100000 in
theorem mX7_numberBits (l : Launch) (X : GX) (k : Int) (v : Int) (hk : 0 ≤ k ∧ k < 32) (hv : -2147483648 ≤ v ∧ v < 2147483648) : Ct l yX7_numberBits cX7_numberBits 2 (some .int) 0 0 0 0 X [.int (iI k), .int (iI v)] [] (fun1 (some (.int (iI (nbits k v)))) []) := by
  refine Ct_of (own := RX7) (lv := [(0, .int (iI k)), (1, .int (iI v))]) (by decide +kernel) rfl (Nat.le_of_ble_eq_true rfl) rfl ?_
  intro p e s m args below meth c A cx hr hin
  refine J_iload_n cx dX7_numberBits_0 rfl 1 rfl ?_
  refine J_iload_n cx dX7_numberBits_1 rfl 0 rfl ?_
  refine J_ishr cx dX7_numberBits_2 (by omega) (by omega) ?_
  refine J_iconst cx dX7_numberBits_3 ?_
  refine J_iadd cx dX7_numberBits_4 ?_
  refine J_iload_n cx dX7_numberBits_5 rfl 0 rfl ?_
  refine J_iadd cx dX7_numberBits_6 ?_
  refine J_top (b := (nbits k v)) (rfl) ?_
  exact J_iret cx hr dX7_numberBits_7 ⟨rfl, rfl⟩
set_option maxHeartbeats 4000000 in
set_option maxRecDepth 100000 in
theorem mX7_fold (l : Launch) (X : GX) (v : Int) (hv : -2147483648 ≤ v ∧ v < 2147483648) : Ct l yX7_fold cX7_fold 1 (some .int) 0 0 0 0 X [.int (iI v)] [] (fun1 (some (.int (iI (foldI v)))) []) := by
  refine Ct_of (own := RX7) (lv := [(0, .int (iI v))]) (by decide +kernel) rfl (Nat.le_of_ble_eq_true rfl) rfl ?_
  intro p e s m args below meth c A cx hr hin
  refine J_iload_n cx dX7_fold_0 rfl 0 rfl ?_
  refine J_if_ge (tgt := 13) cx dX7_fold_1 (by decide) (by omega) (fun h_1 => ?_) (fun h_1 => ?_)
  · skip
    refine J_iconst cx dX7_fold_13 ?_
    refine J_iload_n cx dX7_fold_14 rfl 0 rfl ?_
    refine J_imul cx dX7_fold_15 ?_
    refine J_top (b := (foldI v)) (by unfold foldI; split <;> omega) ?_
    exact J_iret cx hr dX7_fold_16 ⟨rfl, rfl⟩
  · skip
    refine J_bipush cx dX7_fold_4 (by decide) ?_
    refine J_iload_n cx dX7_fold_6 rfl 0 rfl ?_
    refine J_imul cx dX7_fold_7 ?_
    refine J_iconst cx dX7_fold_8 ?_
    refine J_isub cx dX7_fold_9 ?_
    refine J_goto (tgt := 16) cx dX7_fold_10 (by decide) ?_
    refine J_top (b := (foldI v)) (by unfold foldI; split <;> omega) ?_
    exact J_iret cx hr dX7_fold_16 ⟨rfl, rfl⟩
set_option maxHeartbeats 4000000 in
set_option maxRecDepth 100000 in
theorem mX7_unfold (l : Launch) (X : GX) (u : Int) (hu : 0 ≤ u ∧ u < 2147483648) : Ct l yX7_unfold cX7_unfold 1 (some .int) 0 0 0 0 X [.int (iI u)] [] (fun1 (some (.int (iI (unfI u)))) []) := by
  refine Ct_of (own := RX7) (lv := [(0, .int (iI u))]) (by decide +kernel) rfl (Nat.le_of_ble_eq_true rfl) rfl ?_
  intro p e s m args below meth c A cx hr hin
  refine J_iload_n cx dX7_unfold_0 rfl 0 rfl ?_
  refine J_iconst cx dX7_unfold_1 ?_
  refine J_irem cx dX7_unfold_2 (by omega) (by omega) ?_
  refine J_if_ne (tgt := 12) cx dX7_unfold_3 (by decide) (by omega) (fun h_3 => ?_) (fun h_3 => ?_)
  · skip
    refine J_iload_n cx dX7_unfold_12 rfl 0 rfl ?_
    refine J_iconst cx dX7_unfold_13 ?_
    refine J_idiv cx dX7_unfold_14 (by omega) (by omega) ?_
    refine J_ineg cx dX7_unfold_15 ?_
    refine J_iconst cx dX7_unfold_16 ?_
    refine J_isub cx dX7_unfold_17 ?_
    refine J_top (b := (unfI u)) (by unfold unfI; split <;> omega) ?_
    exact J_iret cx hr dX7_unfold_18 ⟨rfl, rfl⟩
  · skip
    refine J_iload_n cx dX7_unfold_6 rfl 0 rfl ?_
    refine J_iconst cx dX7_unfold_7 ?_
    refine J_idiv cx dX7_unfold_8 (by omega) (by omega) ?_
    refine J_goto (tgt := 18) cx dX7_unfold_9 (by decide) ?_
    refine J_top (b := (unfI u)) (by unfold unfI; split <;> omega) ?_
    exact J_iret cx hr dX7_unfold_18 ⟨rfl, rfl⟩
