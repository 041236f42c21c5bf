set_option maxHeartbeats 4000000 in
set_option maxRecDepth 100000 in
theorem mX8_at (l : Launch) (X : GX) (mo : Nat) (mc : Int) (mw : Int) (mt : Int) (as_ : Nat) (aw : Nat) (bk : Int) (ac : Nat) (lc : Int) (lw : Int) (lm : Int) (al : Nat) (F : Int) (aco : Nat) (rn : Int) (rc : Int) (ars : Nat) (q : Int) (bg : Int) (ov : Int) (wg : Int) (acm : Nat) (ame : Nat) (x : BB) (i : Int) (hx : 0 ≤ x.2 ∧ x.2 ≤ 64000) (hi0 : -2147483648 ≤ i ∧ i < 2147483648) : Ct l yX8_at cX8_at 4 (some .int) 0 0 0 0 X [.ref mo, .int (iI i)] [(mo, .inr (8, [.int (iI mc), .int (iI mw), .int (iI mt), .ref as_, .int (iI x.2), .ref aw, .int (iI bk), .ref ac, .int (iI lc), .int (iI lw), .int (iI lm), .ref al, .int (iI F), .ref aco, .int (iI rn), .int (iI rc), .ref ars, .int (iI q), .int (iI bg), .int (iI ov), .int (iI wg), .ref acm, .ref ame])), (aw, .inl (X.2.2, 64000, .inl (aI x.1)))] (fun1 (some (.int (iI (if i < 0 ∨ x.2 / 8 ≤ i then -1 else pk x.1 (8 * i) 8)))) [(mo, .inr (8, [.int (iI mc), .int (iI mw), .int (iI mt), .ref as_, .int (iI x.2), .ref aw, .int (iI bk), .ref ac, .int (iI lc), .int (iI lw), .int (iI lm), .ref al, .int (iI F), .ref aco, .int (iI rn), .int (iI rc), .ref ars, .int (iI q), .int (iI bg), .int (iI ov), .int (iI wg), .ref acm, .ref ame])), (aw, .inl (X.2.2, 64000, .inl (aI x.1)))]) := by
  refine Ct_of (own := RX8) (lv := [(0, .ref mo), (1, .int (iI i))]) (by decide +kernel) rfl (Nat.le_of_ble_eq_true rfl) rfl ?_
  intro p e s m args below meth c A cx hr hin
  refine J_iload_n cx dX8_at_0 rfl 1 rfl ?_
  refine J_if_lt (tgt := 15) cx dX8_at_1 (by decide) (by omega) (fun h_1 => ?_) (fun h_1 => ?_)
  · skip
    refine J_iconst cx dX8_at_15 ?_
    refine J_top (b := (if i < 0 ∨ x.2 / 8 ≤ i then -1 else pk x.1 (8 * i) 8)) (by rw [if_pos (by omega)]) ?_
    exact J_iret cx hr dX8_at_16 ⟨rfl, rfl⟩
  · skip
    refine J_iload_n cx dX8_at_4 rfl 1 rfl ?_
    refine J_aload_n cx dX8_at_5 rfl 0 rfl ?_
    refine J_get cx inC8 0 rfl rfl 4 (by decide) T486 rfl rfl dX8_at_6 ?_
    refine J_bipush cx dX8_at_9 (by decide) ?_
    refine J_idiv cx dX8_at_11 (by omega) (by omega) ?_
    refine J_icmp_lt (tgt := 17) cx dX8_at_12 (by decide) (by omega) (by omega) (fun h_12 => ?_) (fun h_12 => ?_)
    · skip
      refine J_iconst cx dX8_at_17 ?_
      refine J_istore_n (lv' := [(2, .int (iI 0)), (0, .ref mo), (1, .int (iI i))]) cx dX8_at_18 rfl (by decide) rfl ?_
      refine J_iconst cx dX8_at_19 ?_
      refine J_istore_n (lv' := [(3, .int (iI 0)), (2, .int (iI 0)), (0, .ref mo), (1, .int (iI i))]) cx dX8_at_20 rfl (by decide) rfl ?_
      refine J_loop2 (fun (v : Int) (k : Int) => [(mo, .inr (8, [.int (iI mc), .int (iI mw), .int (iI mt), .ref as_, .int (iI x.2), .ref aw, .int (iI bk), .ref ac, .int (iI lc), .int (iI lw), .int (iI lm), .ref al, .int (iI F), .ref aco, .int (iI rn), .int (iI rc), .ref ars, .int (iI q), .int (iI bg), .int (iI ov), .int (iI wg), .ref acm, .ref ame])), (aw, .inl (X.2.2, 64000, .inl (aI x.1)))]) (fun (v : Int) (k : Int) => [(3, .int (iI k)), (2, .int (iI v)), (0, .ref mo), (1, .int (iI i))]) (fun (v : Int) (k : Int) => (0 ≤ k ∧ k ≤ 8) ∧ (v = pk x.1 (8 * i) k)) (fun (v : Int) (k : Int) => (8 - k).toNat) 0 0 ⟨(by omega), (rfl)⟩ ?_
      intro v k hI ih_21
      obtain ⟨hk, hv⟩ := hI
      try dsimp only at hk hv
      refine J_iload_n cx dX8_at_21 rfl 0 rfl ?_
      refine J_bipush cx dX8_at_22 (by decide) ?_
      refine J_icmp_ge (tgt := 49) cx dX8_at_24 (by decide) (by omega) (by decide) (fun h_24 => ?_) (fun h_24 => ?_)
      · skip
        refine J_iload_n cx dX8_at_49 rfl 1 rfl ?_
        refine J_top (b := (if i < 0 ∨ x.2 / 8 ≤ i then -1 else pk x.1 (8 * i) 8)) (by rw [if_neg (by omega), hv, show k = 8 by omega]) ?_
        exact J_iret cx hr dX8_at_50 ⟨rfl, rfl⟩
      · skip
        refine J_iconst cx dX8_at_27 ?_
        refine J_iload_n cx dX8_at_28 rfl 1 rfl ?_
        refine J_imul cx dX8_at_29 ?_
        refine J_aload_n cx dX8_at_30 rfl 2 rfl ?_
        refine J_get cx inC8 0 rfl rfl 5 (by decide) T487 rfl rfl dX8_at_31 ?_
        refine J_bipush cx dX8_at_34 (by decide) ?_
        refine J_iload_n cx dX8_at_36 rfl 3 rfl ?_
        refine J_imul cx dX8_at_37 ?_
        refine J_iload_n cx dX8_at_38 rfl 0 rfl ?_
        refine J_iadd cx dX8_at_39 ?_
        refine J_bald cx 1 rfl (by omega) (by decide) dX8_at_40 ?_
        refine J_iadd cx dX8_at_41 ?_
        refine J_istore_n (lv' := [(2, .int (iI ((2 * v) + (x.1 ((8 * i) + k))))), (3, .int (iI k)), (0, .ref mo), (1, .int (iI i))]) cx dX8_at_42 rfl (by decide) rfl ?_
        refine J_iinc (q := 1) (lv' := [(3, .int (iI (k + 1))), (2, .int (iI ((2 * v) + (x.1 ((8 * i) + k))))), (0, .ref mo), (1, .int (iI i))]) cx dX8_at_43 rfl (by decide) rfl ?_
        refine J_goto (tgt := 21) cx dX8_at_46 (by decide) ?_
        exact ih_21 ((2 * v) + (x.1 ((8 * i) + k))) (k + 1) ⟨(by omega), (by rw [pk_s hk.1, ← hv])⟩ (by omega)
    · skip
      refine J_iconst cx dX8_at_15 ?_
      refine J_top (b := (if i < 0 ∨ x.2 / 8 ≤ i then -1 else pk x.1 (8 * i) 8)) (by rw [if_pos (by omega)]) ?_
      exact J_iret cx hr dX8_at_16 ⟨rfl, rfl⟩
set_option maxHeartbeats 4000000 in
set_option maxRecDepth 100000 in
theorem mX8_block (l : Launch) (X : GX) (mo : Nat) (mc : Int) (mw : Int) (mt : Int) (as_ : Nat) (nb : Int) (aw : Nat) (bk : Int) (ac : Nat) (lc : Int) (lw : Int) (lm : Int) (al : Nat) (F : Int) (aco : Nat) (rn : Int) (rc : Int) (ars : Nat) (q : Int) (bg : Int) (ov : Int) (wg : Int) (acm : Nat) (ame : Nat) (cf : Int → Int) (i : Int) (wh : Int) (hbk : 0 ≤ bk ∧ bk ≤ 800) (hi0 : -2147483648 ≤ i ∧ i < 2147483648) (hwh : -2147483648 ≤ wh ∧ wh < 2147483648) : Ct l yX8_block cX8_block 3 (some .int) 0 0 0 0 X [.ref mo, .int (iI i), .int (iI wh)] [(mo, .inr (8, [.int (iI mc), .int (iI mw), .int (iI mt), .ref as_, .int (iI nb), .ref aw, .int (iI bk), .ref ac, .int (iI lc), .int (iI lw), .int (iI lm), .ref al, .int (iI F), .ref aco, .int (iI rn), .int (iI rc), .ref ars, .int (iI q), .int (iI bg), .int (iI ov), .int (iI wg), .ref acm, .ref ame])), (ac, .inl (X.2.1, 3200, .inl (aI cf)))] (fun1 (some (.int (iI (if i < 0 ∨ bk ≤ i ∨ wh < 0 ∨ 3 < wh then -1 else cf (4 * i + wh))))) [(mo, .inr (8, [.int (iI mc), .int (iI mw), .int (iI mt), .ref as_, .int (iI nb), .ref aw, .int (iI bk), .ref ac, .int (iI lc), .int (iI lw), .int (iI lm), .ref al, .int (iI F), .ref aco, .int (iI rn), .int (iI rc), .ref ars, .int (iI q), .int (iI bg), .int (iI ov), .int (iI wg), .ref acm, .ref ame])), (ac, .inl (X.2.1, 3200, .inl (aI cf)))]) := by
  refine Ct_of (own := RX8) (lv := [(0, .ref mo), (1, .int (iI i)), (2, .int (iI wh))]) (by decide +kernel) rfl (Nat.le_of_ble_eq_true rfl) rfl ?_
  intro p e s m args below meth c A cx hr hin
  refine J_iload_n cx dX8_block_0 rfl 1 rfl ?_
  refine J_if_lt (tgt := 21) cx dX8_block_1 (by decide) (by omega) (fun h_1 => ?_) (fun h_1 => ?_)
  · skip
    refine J_iconst cx dX8_block_21 ?_
    refine J_goto (tgt := 35) cx dX8_block_22 (by decide) ?_
    refine J_top (b := (if i < 0 ∨ bk ≤ i ∨ wh < 0 ∨ 3 < wh then -1 else cf (4 * i + wh))) (by first | (rw [if_pos (by omega)]; done) | (rw [if_neg (by omega)]; done)) ?_
    exact J_iret cx hr dX8_block_35 ⟨rfl, rfl⟩
  · skip
    refine J_iload_n cx dX8_block_4 rfl 1 rfl ?_
    refine J_aload_n cx dX8_block_5 rfl 0 rfl ?_
    refine J_get cx inC8 0 rfl rfl 6 (by decide) T488 rfl rfl dX8_block_6 ?_
    refine J_icmp_ge (tgt := 21) cx dX8_block_9 (by decide) (by omega) (by omega) (fun h_9 => ?_) (fun h_9 => ?_)
    · skip
      refine J_iconst cx dX8_block_21 ?_
      refine J_goto (tgt := 35) cx dX8_block_22 (by decide) ?_
      refine J_top (b := (if i < 0 ∨ bk ≤ i ∨ wh < 0 ∨ 3 < wh then -1 else cf (4 * i + wh))) (by first | (rw [if_pos (by omega)]; done) | (rw [if_neg (by omega)]; done)) ?_
      exact J_iret cx hr dX8_block_35 ⟨rfl, rfl⟩
    · skip
      refine J_iload_n cx dX8_block_12 rfl 2 rfl ?_
      refine J_if_lt (tgt := 21) cx dX8_block_13 (by decide) (by omega) (fun h_13 => ?_) (fun h_13 => ?_)
      · skip
        refine J_iconst cx dX8_block_21 ?_
        refine J_goto (tgt := 35) cx dX8_block_22 (by decide) ?_
        refine J_top (b := (if i < 0 ∨ bk ≤ i ∨ wh < 0 ∨ 3 < wh then -1 else cf (4 * i + wh))) (by first | (rw [if_pos (by omega)]; done) | (rw [if_neg (by omega)]; done)) ?_
        exact J_iret cx hr dX8_block_35 ⟨rfl, rfl⟩
      · skip
        refine J_iload_n cx dX8_block_16 rfl 2 rfl ?_
        refine J_iconst cx dX8_block_17 ?_
        refine J_icmp_le (tgt := 25) cx dX8_block_18 (by decide) (by omega) (by decide) (fun h_18 => ?_) (fun h_18 => ?_)
        · skip
          refine J_aload_n cx dX8_block_25 rfl 0 rfl ?_
          refine J_get cx inC8 0 rfl rfl 7 (by decide) T489 rfl rfl dX8_block_26 ?_
          refine J_iconst cx dX8_block_29 ?_
          refine J_iload_n cx dX8_block_30 rfl 1 rfl ?_
          refine J_imul cx dX8_block_31 ?_
          refine J_iload_n cx dX8_block_32 rfl 2 rfl ?_
          refine J_iadd cx dX8_block_33 ?_
          refine J_iald cx 1 rfl (by omega) (by decide) dX8_block_34 ?_
          refine J_top (b := (if i < 0 ∨ bk ≤ i ∨ wh < 0 ∨ 3 < wh then -1 else cf (4 * i + wh))) (by first | (rw [if_pos (by omega)]; done) | (rw [if_neg (by omega)]; done)) ?_
          exact J_iret cx hr dX8_block_35 ⟨rfl, rfl⟩
        · skip
          refine J_iconst cx dX8_block_21 ?_
          refine J_goto (tgt := 35) cx dX8_block_22 (by decide) ?_
          refine J_top (b := (if i < 0 ∨ bk ≤ i ∨ wh < 0 ∨ 3 < wh then -1 else cf (4 * i + wh))) (by first | (rw [if_pos (by omega)]; done) | (rw [if_neg (by omega)]; done)) ?_
          exact J_iret cx hr dX8_block_35 ⟨rfl, rfl⟩
set_option maxHeartbeats 4000000 in
set_option maxRecDepth 100000 in
theorem mX8_feed (l : Launch) (X : GX) (mo : Nat) (mc : Int) (mw : Int) (mt : Int) (as_ : Nat) (nb : Int) (aw : Nat) (bk : Int) (ac : Nat) (lc : Int) (lw : Int) (lm : Int) (al : Nat) (F : Int) (aco : Nat) (rn : Int) (rc : Int) (ars : Nat) (q : Int) (bg : Int) (ov : Int) (wg : Int) (acm : Nat) (ame : Nat) (b : Int → Int) (v : Int) (hF : 0 ≤ F ∧ F ≤ 3000) (hv : -2147483648 ≤ v ∧ v < 2147483648) : Ct l yX8_feed cX8_feed 2 (some .boolean) 0 0 0 0 X [.ref mo, .int (iI v)] [(mo, .inr (8, [.int (iI mc), .int (iI mw), .int (iI mt), .ref as_, .int (iI nb), .ref aw, .int (iI bk), .ref ac, .int (iI lc), .int (iI lw), .int (iI lm), .ref al, .int (iI F), .ref aco, .int (iI rn), .int (iI rc), .ref ars, .int (iI q), .int (iI bg), .int (iI ov), .int (iI wg), .ref acm, .ref ame])), (aco, .inl (X.2.1, 3000, .inl (aI b)))] (fun1 (some (.int (iI (if 0 ≤ v ∧ v ≤ 255 ∧ F < 3000 then 1 else 0)))) [(mo, .inr (8, [.int (iI mc), .int (iI mw), .int (iI mt), .ref as_, .int (iI nb), .ref aw, .int (iI bk), .ref ac, .int (iI lc), .int (iI lw), .int (iI lm), .ref al, .int (iI (if 0 ≤ v ∧ v ≤ 255 ∧ F < 3000 then F + 1 else F)), .ref aco, .int (iI rn), .int (iI rc), .ref ars, .int (iI q), .int (iI bg), .int (iI ov), .int (iI wg), .ref acm, .ref ame])), (aco, .inl (X.2.1, 3000, .inl (aI (if 0 ≤ v ∧ v ≤ 255 ∧ F < 3000 then upI b F v else b))))]) := by
  refine Ct_of (own := RX8) (lv := [(0, .ref mo), (1, .int (iI v))]) (by decide +kernel) rfl (Nat.le_of_ble_eq_true rfl) rfl ?_
  intro p e s m args below meth c A cx hr hin
  refine J_iload_n cx dX8_feed_0 rfl 1 rfl ?_
  refine J_if_lt (tgt := 21) cx dX8_feed_1 (by decide) (by omega) (fun h_1 => ?_) (fun h_1 => ?_)
  · skip
    refine J_iconst cx dX8_feed_21 ?_
    refine J_ws (ws' := [(mo, .inr (8, [.int (iI mc), .int (iI mw), .int (iI mt), .ref as_, .int (iI nb), .ref aw, .int (iI bk), .ref ac, .int (iI lc), .int (iI lw), .int (iI lm), .ref al, .int (iI (if 0 ≤ v ∧ v ≤ 255 ∧ F < 3000 then F + 1 else F)), .ref aco, .int (iI rn), .int (iI rc), .ref ars, .int (iI q), .int (iI bg), .int (iI ov), .int (iI wg), .ref acm, .ref ame])), (aco, .inl (X.2.1, 3000, .inl (aI (if 0 ≤ v ∧ v ≤ 255 ∧ F < 3000 then upI b F v else b))))]) (by rw [if_neg (by omega), if_neg (by omega)]) ?_
    refine J_top (b := (if 0 ≤ v ∧ v ≤ 255 ∧ F < 3000 then 1 else 0)) (by rw [if_neg (by omega)]) ?_
    exact J_zret cx hr (by split <;> omega) dX8_feed_22 ⟨rfl, rfl⟩
  · skip
    refine J_iload_n cx dX8_feed_4 rfl 1 rfl ?_
    refine J_sipush cx dX8_feed_5 (by decide) ?_
    refine J_icmp_gt (tgt := 21) cx dX8_feed_8 (by decide) (by omega) (by decide) (fun h_8 => ?_) (fun h_8 => ?_)
    · skip
      refine J_iconst cx dX8_feed_21 ?_
      refine J_ws (ws' := [(mo, .inr (8, [.int (iI mc), .int (iI mw), .int (iI mt), .ref as_, .int (iI nb), .ref aw, .int (iI bk), .ref ac, .int (iI lc), .int (iI lw), .int (iI lm), .ref al, .int (iI (if 0 ≤ v ∧ v ≤ 255 ∧ F < 3000 then F + 1 else F)), .ref aco, .int (iI rn), .int (iI rc), .ref ars, .int (iI q), .int (iI bg), .int (iI ov), .int (iI wg), .ref acm, .ref ame])), (aco, .inl (X.2.1, 3000, .inl (aI (if 0 ≤ v ∧ v ≤ 255 ∧ F < 3000 then upI b F v else b))))]) (by rw [if_neg (by omega), if_neg (by omega)]) ?_
      refine J_top (b := (if 0 ≤ v ∧ v ≤ 255 ∧ F < 3000 then 1 else 0)) (by rw [if_neg (by omega)]) ?_
      exact J_zret cx hr (by split <;> omega) dX8_feed_22 ⟨rfl, rfl⟩
    · skip
      refine J_aload_n cx dX8_feed_11 rfl 0 rfl ?_
      refine J_get cx inC8 0 rfl rfl 12 (by decide) T494 rfl rfl dX8_feed_12 ?_
      refine J_sipush cx dX8_feed_15 (by decide) ?_
      refine J_icmp_ne (tgt := 23) cx dX8_feed_18 (by decide) (by omega) (by decide) (fun h_18 => ?_) (fun h_18 => ?_)
      · skip
        refine J_aload_n cx dX8_feed_23 rfl 0 rfl ?_
        refine J_get cx inC8 0 rfl rfl 13 (by decide) T495 rfl rfl dX8_feed_24 ?_
        refine J_aload_n cx dX8_feed_27 rfl 0 rfl ?_
        refine J_get cx inC8 0 rfl rfl 12 (by decide) T494 rfl rfl dX8_feed_28 ?_
        refine J_iload_n cx dX8_feed_31 rfl 1 rfl ?_
        refine J_iast (ws' := [(mo, .inr (8, [.int (iI mc), .int (iI mw), .int (iI mt), .ref as_, .int (iI nb), .ref aw, .int (iI bk), .ref ac, .int (iI lc), .int (iI lw), .int (iI lm), .ref al, .int (iI F), .ref aco, .int (iI rn), .int (iI rc), .ref ars, .int (iI q), .int (iI bg), .int (iI ov), .int (iI wg), .ref acm, .ref ame])), (aco, .inl (X.2.1, 3000, .inl (aI (upI b F v))))]) cx 1 rfl (by omega) (by decide) rfl dX8_feed_32 ?_
        refine J_aload_n cx dX8_feed_33 rfl 0 rfl ?_
        refine J_dup cx dX8_feed_34 rfl ?_
        refine J_get cx inC8 0 rfl rfl 12 (by decide) T494 rfl rfl dX8_feed_35 ?_
        refine J_iconst cx dX8_feed_38 ?_
        refine J_iadd cx dX8_feed_39 ?_
        refine J_put (ty := .int) (ws' := [(mo, .inr (8, [.int (iI mc), .int (iI mw), .int (iI mt), .ref as_, .int (iI nb), .ref aw, .int (iI bk), .ref ac, .int (iI lc), .int (iI lw), .int (iI lm), .ref al, .int (iI (F + 1)), .ref aco, .int (iI rn), .int (iI rc), .ref ars, .int (iI q), .int (iI bg), .int (iI ov), .int (iI wg), .ref acm, .ref ame])), (aco, .inl (X.2.1, 3000, .inl (aI (upI b F v))))]) cx inC8 tyX8_ok nmX8 0 rfl rfl 12 (by decide) T494 rfl rfl (by decide +kernel) (rfl) (rfl) (Nat.le_of_ble_eq_true rfl) rfl dX8_feed_40 ?_
        refine J_iconst cx dX8_feed_43 ?_
        refine J_ws (ws' := [(mo, .inr (8, [.int (iI mc), .int (iI mw), .int (iI mt), .ref as_, .int (iI nb), .ref aw, .int (iI bk), .ref ac, .int (iI lc), .int (iI lw), .int (iI lm), .ref al, .int (iI (if 0 ≤ v ∧ v ≤ 255 ∧ F < 3000 then F + 1 else F)), .ref aco, .int (iI rn), .int (iI rc), .ref ars, .int (iI q), .int (iI bg), .int (iI ov), .int (iI wg), .ref acm, .ref ame])), (aco, .inl (X.2.1, 3000, .inl (aI (if 0 ≤ v ∧ v ≤ 255 ∧ F < 3000 then upI b F v else b))))]) (by rw [if_pos (by omega), if_pos (by omega)]) ?_
        refine J_top (b := (if 0 ≤ v ∧ v ≤ 255 ∧ F < 3000 then 1 else 0)) (by rw [if_pos (by omega)]) ?_
        exact J_zret cx hr (by split <;> omega) dX8_feed_44 ⟨rfl, rfl⟩
      · skip
        refine J_iconst cx dX8_feed_21 ?_
        refine J_ws (ws' := [(mo, .inr (8, [.int (iI mc), .int (iI mw), .int (iI mt), .ref as_, .int (iI nb), .ref aw, .int (iI bk), .ref ac, .int (iI lc), .int (iI lw), .int (iI lm), .ref al, .int (iI (if 0 ≤ v ∧ v ≤ 255 ∧ F < 3000 then F + 1 else F)), .ref aco, .int (iI rn), .int (iI rc), .ref ars, .int (iI q), .int (iI bg), .int (iI ov), .int (iI wg), .ref acm, .ref ame])), (aco, .inl (X.2.1, 3000, .inl (aI (if 0 ≤ v ∧ v ≤ 255 ∧ F < 3000 then upI b F v else b))))]) (by rw [if_neg (by omega), if_neg (by omega)]) ?_
        refine J_top (b := (if 0 ≤ v ∧ v ≤ 255 ∧ F < 3000 then 1 else 0)) (by rw [if_neg (by omega)]) ?_
        exact J_zret cx hr (by split <;> omega) dX8_feed_22 ⟨rfl, rfl⟩
set_option maxHeartbeats 4000000 in
set_option maxRecDepth 100000 in
theorem mX8_take (l : Launch) (X : GX) (mo : Nat) (mc : Int) (mw : Int) (mt : Int) (as_ : Nat) (aw : Nat) (bk : Int) (ac : Nat) (lc : Int) (lw : Int) (lm : Int) (al : Nat) (F : Int) (aco : Nat) (rn : Int) (rc : Int) (ars : Nat) (q : Int) (bg : Int) (ov : Int) (wg : Int) (acm : Nat) (ame : Nat) (x : BB) (b : Int → Int) (hx : 0 ≤ x.2 ∧ x.2 ≤ 24000) : Ct l yX8_take cX8_take 3 (some .int) 1 23 0 0 X [.ref mo] [(mo, .inr (8, [.int (iI mc), .int (iI mw), .int (iI mt), .ref as_, .int (iI x.2), .ref aw, .int (iI bk), .ref ac, .int (iI lc), .int (iI lw), .int (iI lm), .ref al, .int (iI F), .ref aco, .int (iI rn), .int (iI rc), .ref ars, .int (iI q), .int (iI bg), .int (iI ov), .int (iI wg), .ref acm, .ref ame])), (aw, .inl (X.2.2, 64000, .inl (aI x.1))), (aco, .inl (X.2.1, 3000, .inl (aI b)))] (fun1 (some (.int (iI (x.2 / 8)))) [(mo, .inr (8, [.int (iI mc), .int (iI mw), .int (iI mt), .ref as_, .int (iI x.2), .ref aw, .int (iI bk), .ref ac, .int (iI lc), .int (iI lw), .int (iI lm), .ref al, .int (iI (x.2 / 8)), .ref aco, .int (iI rn), .int (iI rc), .ref ars, .int (iI q), .int (iI bg), .int (iI ov), .int (iI wg), .ref acm, .ref ame])), (aw, .inl (X.2.2, 64000, .inl (aI x.1))), (aco, .inl (X.2.1, 3000, .inl (aI (ovr (fun j => pk x.1 (8 * j) 8) b (x.2 / 8)))))]) := by
  refine Ct_of (own := RX8) (lv := [(0, .ref mo)]) (by decide +kernel) rfl (Nat.le_of_ble_eq_true rfl) rfl ?_
  intro p e s m args below meth c A cx hr hin
  refine J_aload_n cx dX8_take_0 rfl 0 rfl ?_
  refine J_get cx inC8 0 rfl rfl 4 (by decide) T486 rfl rfl dX8_take_1 ?_
  refine J_bipush cx dX8_take_4 (by decide) ?_
  refine J_idiv cx dX8_take_6 (by omega) (by omega) ?_
  refine J_sipush cx dX8_take_7 (by decide) ?_
  refine J_icmp_ge (tgt := 23) cx dX8_take_10 (by decide) (by omega) (by decide) (fun h_10 => ?_) (fun h_10 => ?_)
  · skip
    refine J_sipush cx dX8_take_23 (by decide) ?_
    refine J_top (b := (x.2 / 8)) (by omega) ?_
    refine J_istore_n (lv' := [(1, .int (iI (x.2 / 8))), (0, .ref mo)]) cx dX8_take_26 rfl (by decide) rfl ?_
    refine J_iconst cx dX8_take_27 ?_
    refine J_istore_n (lv' := [(2, .int (iI 0)), (1, .int (iI (x.2 / 8))), (0, .ref mo)]) cx dX8_take_28 rfl (by decide) rfl ?_
    refine J_loop2 (fun (k : Int) (b2 : Int → Int) => [(mo, .inr (8, [.int (iI mc), .int (iI mw), .int (iI mt), .ref as_, .int (iI x.2), .ref aw, .int (iI bk), .ref ac, .int (iI lc), .int (iI lw), .int (iI lm), .ref al, .int (iI F), .ref aco, .int (iI rn), .int (iI rc), .ref ars, .int (iI q), .int (iI bg), .int (iI ov), .int (iI wg), .ref acm, .ref ame])), (aw, .inl (X.2.2, 64000, .inl (aI x.1))), (aco, .inl (X.2.1, 3000, .inl (aI b2)))]) (fun (k : Int) (b2 : Int → Int) => [(2, .int (iI k)), (1, .int (iI (x.2 / 8))), (0, .ref mo)]) (fun (k : Int) (b2 : Int → Int) => (0 ≤ k ∧ k ≤ x.2 / 8) ∧ (b2 = ovr (fun j => pk x.1 (8 * j) 8) b k)) (fun (k : Int) (b2 : Int → Int) => (x.2 / 8 - k).toNat) 0 b ⟨(by omega), ((ovr_0 _ _).symm)⟩ ?_
    intro k b2 hI ih_29
    obtain ⟨hk, hb2⟩ := hI
    try dsimp only at hk hb2
    refine J_iload_n cx dX8_take_29 rfl 0 rfl ?_
    refine J_iload_n cx dX8_take_30 rfl 1 rfl ?_
    refine J_icmp_ge (tgt := 51) cx dX8_take_31 (by decide) (by omega) (by omega) (fun h_31 => ?_) (fun h_31 => ?_)
    · skip
      refine J_aload_n cx dX8_take_51 rfl 2 rfl ?_
      refine J_iload_n cx dX8_take_52 rfl 1 rfl ?_
      refine J_put (ty := .int) (ws' := [(mo, .inr (8, [.int (iI mc), .int (iI mw), .int (iI mt), .ref as_, .int (iI x.2), .ref aw, .int (iI bk), .ref ac, .int (iI lc), .int (iI lw), .int (iI lm), .ref al, .int (iI (x.2 / 8)), .ref aco, .int (iI rn), .int (iI rc), .ref ars, .int (iI q), .int (iI bg), .int (iI ov), .int (iI wg), .ref acm, .ref ame])), (aw, .inl (X.2.2, 64000, .inl (aI x.1))), (aco, .inl (X.2.1, 3000, .inl (aI b2)))]) cx inC8 tyX8_ok nmX8 0 rfl rfl 12 (by decide) T494 rfl rfl (by decide +kernel) (rfl) (rfl) (Nat.le_of_ble_eq_true rfl) rfl dX8_take_53 ?_
      refine J_iload_n cx dX8_take_56 rfl 1 rfl ?_
      refine J_ws (ws' := [(mo, .inr (8, [.int (iI mc), .int (iI mw), .int (iI mt), .ref as_, .int (iI x.2), .ref aw, .int (iI bk), .ref ac, .int (iI lc), .int (iI lw), .int (iI lm), .ref al, .int (iI (x.2 / 8)), .ref aco, .int (iI rn), .int (iI rc), .ref ars, .int (iI q), .int (iI bg), .int (iI ov), .int (iI wg), .ref acm, .ref ame])), (aw, .inl (X.2.2, 64000, .inl (aI x.1))), (aco, .inl (X.2.1, 3000, .inl (aI (ovr (fun j => pk x.1 (8 * j) 8) b (x.2 / 8)))))]) (by rw [← show (b2) = ovr (fun j => pk x.1 (8 * j) 8) b (x.2 / 8) from by rw [hb2, show k = x.2 / 8 by omega]]) ?_
      exact J_iret cx hr dX8_take_57 ⟨rfl, rfl⟩
    · skip
      refine J_aload_n cx dX8_take_34 rfl 2 rfl ?_
      refine J_get cx inC8 0 rfl rfl 13 (by decide) T495 rfl rfl dX8_take_35 ?_
      refine J_iload_n cx dX8_take_38 rfl 0 rfl ?_
      refine J_aload_n cx dX8_take_39 rfl 2 rfl ?_
      refine J_iload_n cx dX8_take_40 rfl 0 rfl ?_
      refine J_callV (C := RX8) (T := TX8) (N := 23) cx (As := [.int (iI k)]) (rest := [.int (iI k), .ref aco]) (mX8_at l X mo mc mw mt as_ aw bk ac lc lw lm al F aco rn rc ars q bg ov wg acm ame x k (by omega) (by omega)) T622 T639 T620 T621 T9 ⟨rfl, hd_X8_at⟩ rfl ⟨Nat.le_of_ble_eq_true rfl, Nat.le_of_ble_eq_true rfl⟩ (Nat.le_of_ble_eq_true rfl) ⟨Nat.le_of_ble_eq_true rfl, Nat.le_of_ble_eq_true rfl⟩ [0, 1] [2] rfl rfl rfl rfl rfl (by decide) 0 rfl rfl dX8_take_41 rfl (J_f (ws' := [(mo, .inr (8, [.int (iI mc), .int (iI mw), .int (iI mt), .ref as_, .int (iI x.2), .ref aw, .int (iI bk), .ref ac, .int (iI lc), .int (iI lw), .int (iI lm), .ref al, .int (iI F), .ref aco, .int (iI rn), .int (iI rc), .ref ars, .int (iI q), .int (iI bg), .int (iI ov), .int (iI wg), .ref acm, .ref ame])), (aw, .inl (X.2.2, 64000, .inl (aI x.1))), (aco, .inl (X.2.1, 3000, .inl (aI b2)))]) (st' := [.int (iI (if k < 0 ∨ x.2 / 8 ≤ k then -1 else pk x.1 (8 * k) 8)), .int (iI k), .ref aco]) [1, 2, 0] rfl rfl rfl rfl ?_)
      refine J_top (b := (pk x.1 (8 * k) 8)) (if_neg (by omega)) ?_
      refine J_iast (ws' := [(mo, .inr (8, [.int (iI mc), .int (iI mw), .int (iI mt), .ref as_, .int (iI x.2), .ref aw, .int (iI bk), .ref ac, .int (iI lc), .int (iI lw), .int (iI lm), .ref al, .int (iI F), .ref aco, .int (iI rn), .int (iI rc), .ref ars, .int (iI q), .int (iI bg), .int (iI ov), .int (iI wg), .ref acm, .ref ame])), (aw, .inl (X.2.2, 64000, .inl (aI x.1))), (aco, .inl (X.2.1, 3000, .inl (aI (upI b2 k (pk x.1 (8 * k) 8)))))]) cx 2 rfl (by omega) (by decide) rfl dX8_take_44 ?_
      refine J_iinc (q := 0) (lv' := [(2, .int (iI (k + 1))), (1, .int (iI (x.2 / 8))), (0, .ref mo)]) cx dX8_take_45 rfl (by decide) rfl ?_
      refine J_goto (tgt := 29) cx dX8_take_48 (by decide) ?_
      exact ih_29 (k + 1) (upI b2 k (pk x.1 (8 * k) 8)) ⟨(by omega), (by rw [hb2]; exact ovr_s (g := (fun j => pk x.1 (8 * j) 8)) hk.1)⟩ (by omega)
  · skip
    refine J_aload_n cx dX8_take_13 rfl 0 rfl ?_
    refine J_get cx inC8 0 rfl rfl 4 (by decide) T486 rfl rfl dX8_take_14 ?_
    refine J_bipush cx dX8_take_17 (by decide) ?_
    refine J_idiv cx dX8_take_19 (by omega) (by omega) ?_
    refine J_goto (tgt := 26) cx dX8_take_20 (by decide) ?_
    refine J_istore_n (lv' := [(1, .int (iI (x.2 / 8))), (0, .ref mo)]) cx dX8_take_26 rfl (by decide) rfl ?_
    refine J_iconst cx dX8_take_27 ?_
    refine J_istore_n (lv' := [(2, .int (iI 0)), (1, .int (iI (x.2 / 8))), (0, .ref mo)]) cx dX8_take_28 rfl (by decide) rfl ?_
    refine J_loop2 (fun (k : Int) (b2 : Int → Int) => [(mo, .inr (8, [.int (iI mc), .int (iI mw), .int (iI mt), .ref as_, .int (iI x.2), .ref aw, .int (iI bk), .ref ac, .int (iI lc), .int (iI lw), .int (iI lm), .ref al, .int (iI F), .ref aco, .int (iI rn), .int (iI rc), .ref ars, .int (iI q), .int (iI bg), .int (iI ov), .int (iI wg), .ref acm, .ref ame])), (aw, .inl (X.2.2, 64000, .inl (aI x.1))), (aco, .inl (X.2.1, 3000, .inl (aI b2)))]) (fun (k : Int) (b2 : Int → Int) => [(2, .int (iI k)), (1, .int (iI (x.2 / 8))), (0, .ref mo)]) (fun (k : Int) (b2 : Int → Int) => (0 ≤ k ∧ k ≤ x.2 / 8) ∧ (b2 = ovr (fun j => pk x.1 (8 * j) 8) b k)) (fun (k : Int) (b2 : Int → Int) => (x.2 / 8 - k).toNat) 0 b ⟨(by omega), ((ovr_0 _ _).symm)⟩ ?_
    intro k b2 hI ih_29
    obtain ⟨hk, hb2⟩ := hI
    try dsimp only at hk hb2
    refine J_iload_n cx dX8_take_29 rfl 0 rfl ?_
    refine J_iload_n cx dX8_take_30 rfl 1 rfl ?_
    refine J_icmp_ge (tgt := 51) cx dX8_take_31 (by decide) (by omega) (by omega) (fun h_31 => ?_) (fun h_31 => ?_)
    · skip
      refine J_aload_n cx dX8_take_51 rfl 2 rfl ?_
      refine J_iload_n cx dX8_take_52 rfl 1 rfl ?_
      refine J_put (ty := .int) (ws' := [(mo, .inr (8, [.int (iI mc), .int (iI mw), .int (iI mt), .ref as_, .int (iI x.2), .ref aw, .int (iI bk), .ref ac, .int (iI lc), .int (iI lw), .int (iI lm), .ref al, .int (iI (x.2 / 8)), .ref aco, .int (iI rn), .int (iI rc), .ref ars, .int (iI q), .int (iI bg), .int (iI ov), .int (iI wg), .ref acm, .ref ame])), (aw, .inl (X.2.2, 64000, .inl (aI x.1))), (aco, .inl (X.2.1, 3000, .inl (aI b2)))]) cx inC8 tyX8_ok nmX8 0 rfl rfl 12 (by decide) T494 rfl rfl (by decide +kernel) (rfl) (rfl) (Nat.le_of_ble_eq_true rfl) rfl dX8_take_53 ?_
      refine J_iload_n cx dX8_take_56 rfl 1 rfl ?_
      refine J_ws (ws' := [(mo, .inr (8, [.int (iI mc), .int (iI mw), .int (iI mt), .ref as_, .int (iI x.2), .ref aw, .int (iI bk), .ref ac, .int (iI lc), .int (iI lw), .int (iI lm), .ref al, .int (iI (x.2 / 8)), .ref aco, .int (iI rn), .int (iI rc), .ref ars, .int (iI q), .int (iI bg), .int (iI ov), .int (iI wg), .ref acm, .ref ame])), (aw, .inl (X.2.2, 64000, .inl (aI x.1))), (aco, .inl (X.2.1, 3000, .inl (aI (ovr (fun j => pk x.1 (8 * j) 8) b (x.2 / 8)))))]) (by rw [← show (b2) = ovr (fun j => pk x.1 (8 * j) 8) b (x.2 / 8) from by rw [hb2, show k = x.2 / 8 by omega]]) ?_
      exact J_iret cx hr dX8_take_57 ⟨rfl, rfl⟩
    · skip
      refine J_aload_n cx dX8_take_34 rfl 2 rfl ?_
      refine J_get cx inC8 0 rfl rfl 13 (by decide) T495 rfl rfl dX8_take_35 ?_
      refine J_iload_n cx dX8_take_38 rfl 0 rfl ?_
      refine J_aload_n cx dX8_take_39 rfl 2 rfl ?_
      refine J_iload_n cx dX8_take_40 rfl 0 rfl ?_
      refine J_callV (C := RX8) (T := TX8) (N := 23) cx (As := [.int (iI k)]) (rest := [.int (iI k), .ref aco]) (mX8_at l X mo mc mw mt as_ aw bk ac lc lw lm al F aco rn rc ars q bg ov wg acm ame x k (by omega) (by omega)) T622 T639 T620 T621 T9 ⟨rfl, hd_X8_at⟩ rfl ⟨Nat.le_of_ble_eq_true rfl, Nat.le_of_ble_eq_true rfl⟩ (Nat.le_of_ble_eq_true rfl) ⟨Nat.le_of_ble_eq_true rfl, Nat.le_of_ble_eq_true rfl⟩ [0, 1] [2] rfl rfl rfl rfl rfl (by decide) 0 rfl rfl dX8_take_41 rfl (J_f (ws' := [(mo, .inr (8, [.int (iI mc), .int (iI mw), .int (iI mt), .ref as_, .int (iI x.2), .ref aw, .int (iI bk), .ref ac, .int (iI lc), .int (iI lw), .int (iI lm), .ref al, .int (iI F), .ref aco, .int (iI rn), .int (iI rc), .ref ars, .int (iI q), .int (iI bg), .int (iI ov), .int (iI wg), .ref acm, .ref ame])), (aw, .inl (X.2.2, 64000, .inl (aI x.1))), (aco, .inl (X.2.1, 3000, .inl (aI b2)))]) (st' := [.int (iI (if k < 0 ∨ x.2 / 8 ≤ k then -1 else pk x.1 (8 * k) 8)), .int (iI k), .ref aco]) [1, 2, 0] rfl rfl rfl rfl ?_)
      refine J_top (b := (pk x.1 (8 * k) 8)) (if_neg (by omega)) ?_
      refine J_iast (ws' := [(mo, .inr (8, [.int (iI mc), .int (iI mw), .int (iI mt), .ref as_, .int (iI x.2), .ref aw, .int (iI bk), .ref ac, .int (iI lc), .int (iI lw), .int (iI lm), .ref al, .int (iI F), .ref aco, .int (iI rn), .int (iI rc), .ref ars, .int (iI q), .int (iI bg), .int (iI ov), .int (iI wg), .ref acm, .ref ame])), (aw, .inl (X.2.2, 64000, .inl (aI x.1))), (aco, .inl (X.2.1, 3000, .inl (aI (upI b2 k (pk x.1 (8 * k) 8)))))]) cx 2 rfl (by omega) (by decide) rfl dX8_take_44 ?_
      refine J_iinc (q := 0) (lv' := [(2, .int (iI (k + 1))), (1, .int (iI (x.2 / 8))), (0, .ref mo)]) cx dX8_take_45 rfl (by decide) rfl ?_
      refine J_goto (tgt := 29) cx dX8_take_48 (by decide) ?_
      exact ih_29 (k + 1) (upI b2 k (pk x.1 (8 * k) 8)) ⟨(by omega), (by rw [hb2]; exact ovr_s (g := (fun j => pk x.1 (8 * j) 8)) hk.1)⟩ (by omega)
set_option maxHeartbeats 4000000 in
set_option maxRecDepth 100000 in
theorem mX8_value (l : Launch) (X : GX) (mo : Nat) (mc : Int) (mw : Int) (mt : Int) (as_ : Nat) (nb : Int) (aw : Nat) (bk : Int) (ac : Nat) (lc : Int) (lw : Int) (lm : Int) (al : Nat) (F : Int) (aco : Nat) (rn : Int) (rc : Int) (ars : Nat) (q : Int) (bg : Int) (ov : Int) (wg : Int) (acm : Nat) (ame : Nat) (rf : Int → Int) (i : Int) (hn : 0 ≤ rn ∧ rn ≤ 800) (hi0 : -2147483648 ≤ i ∧ i < 2147483648) : Ct l yX8_value cX8_value 2 (some .int) 0 0 0 0 X [.ref mo, .int (iI i)] [(mo, .inr (8, [.int (iI mc), .int (iI mw), .int (iI mt), .ref as_, .int (iI nb), .ref aw, .int (iI bk), .ref ac, .int (iI lc), .int (iI lw), .int (iI lm), .ref al, .int (iI F), .ref aco, .int (iI rn), .int (iI rc), .ref ars, .int (iI q), .int (iI bg), .int (iI ov), .int (iI wg), .ref acm, .ref ame])), (ars, .inl (X.2.1, 800, .inl (aI rf)))] (fun1 (some (.int (iI (if i < 0 ∨ rn ≤ i then -99999 else rf i)))) [(mo, .inr (8, [.int (iI mc), .int (iI mw), .int (iI mt), .ref as_, .int (iI nb), .ref aw, .int (iI bk), .ref ac, .int (iI lc), .int (iI lw), .int (iI lm), .ref al, .int (iI F), .ref aco, .int (iI rn), .int (iI rc), .ref ars, .int (iI q), .int (iI bg), .int (iI ov), .int (iI wg), .ref acm, .ref ame])), (ars, .inl (X.2.1, 800, .inl (aI rf)))]) := by
  refine Ct_of (own := RX8) (lv := [(0, .ref mo), (1, .int (iI i))]) (by decide +kernel) rfl (Nat.le_of_ble_eq_true rfl) rfl ?_
  intro p e s m args below meth c A cx hr hin
  refine J_iload_n cx dX8_value_0 rfl 1 rfl ?_
  refine J_if_lt (tgt := 12) cx dX8_value_1 (by decide) (by omega) (fun h_1 => ?_) (fun h_1 => ?_)
  · skip
    refine J_ldc cx T674 dX8_value_12 ?_
    refine J_goto (tgt := 23) cx dX8_value_14 (by decide) ?_
    refine J_top (b := (if i < 0 ∨ rn ≤ i then -99999 else rf i)) (by first | (rw [if_pos (by omega)]; done) | (rw [if_neg (by omega)]; done)) ?_
    exact J_iret cx hr dX8_value_23 ⟨rfl, rfl⟩
  · skip
    refine J_iload_n cx dX8_value_4 rfl 1 rfl ?_
    refine J_aload_n cx dX8_value_5 rfl 0 rfl ?_
    refine J_get cx inC8 0 rfl rfl 14 (by decide) T496 rfl rfl dX8_value_6 ?_
    refine J_icmp_lt (tgt := 17) cx dX8_value_9 (by decide) (by omega) (by omega) (fun h_9 => ?_) (fun h_9 => ?_)
    · skip
      refine J_aload_n cx dX8_value_17 rfl 0 rfl ?_
      refine J_get cx inC8 0 rfl rfl 16 (by decide) T498 rfl rfl dX8_value_18 ?_
      refine J_iload_n cx dX8_value_21 rfl 1 rfl ?_
      refine J_iald cx 1 rfl (by omega) (by decide) dX8_value_22 ?_
      refine J_top (b := (if i < 0 ∨ rn ≤ i then -99999 else rf i)) (by first | (rw [if_pos (by omega)]; done) | (rw [if_neg (by omega)]; done)) ?_
      exact J_iret cx hr dX8_value_23 ⟨rfl, rfl⟩
    · skip
      refine J_ldc cx T674 dX8_value_12 ?_
      refine J_goto (tgt := 23) cx dX8_value_14 (by decide) ?_
      refine J_top (b := (if i < 0 ∨ rn ≤ i then -99999 else rf i)) (by first | (rw [if_pos (by omega)]; done) | (rw [if_neg (by omega)]; done)) ?_
      exact J_iret cx hr dX8_value_23 ⟨rfl, rfl⟩
set_option maxHeartbeats 4000000 in
set_option maxRecDepth 100000 in
theorem mX8_same (l : Launch) (X : GX) (mo : Nat) (mc : Int) (mw : Int) (mt : Int) (as_ : Nat) (nb : Int) (aw : Nat) (bk : Int) (ac : Nat) (lc : Int) (lw : Int) (lm : Int) (al : Nat) (F : Int) (aco : Nat) (rn : Int) (rc : Int) (ars : Nat) (q : Int) (bg : Int) (ov : Int) (wg : Int) (acm : Nat) (ame : Nat) (tf : Int → Int) (rf : Int → Int) (hc : 1 ≤ mc ∧ mc ≤ 2) (hn : 0 ≤ mt ∧ mt ≤ 800) (hn2 : 0 ≤ rn ∧ rn ≤ 800) (hc2 : 0 ≤ rc ∧ rc ≤ 2) (htf : ∀ j, -32768 ≤ tf j ∧ tf j ≤ 32767) (hrf : ∀ j, -32768 ≤ rf j ∧ rf j ≤ 32767) : Ct l yX8_same cX8_same 4 (some .boolean) 0 0 0 0 X [.ref mo] [(mo, .inr (8, [.int (iI mc), .int (iI mw), .int (iI mt), .ref as_, .int (iI nb), .ref aw, .int (iI bk), .ref ac, .int (iI lc), .int (iI lw), .int (iI lm), .ref al, .int (iI F), .ref aco, .int (iI rn), .int (iI rc), .ref ars, .int (iI q), .int (iI bg), .int (iI ov), .int (iI wg), .ref acm, .ref ame])), (as_, .inl (X.2.1, 800, .inl (aI tf))), (ars, .inl (X.2.1, 800, .inl (aI rf)))] (fun1 (some (.int (iI (sameV tf mc mt rf rc rn)))) [(mo, .inr (8, [.int (iI mc), .int (iI mw), .int (iI mt), .ref as_, .int (iI nb), .ref aw, .int (iI bk), .ref ac, .int (iI lc), .int (iI lw), .int (iI lm), .ref al, .int (iI F), .ref aco, .int (iI rn), .int (iI rc), .ref ars, .int (iI q), .int (iI bg), .int (iI ov), .int (iI wg), .ref acm, .ref ame])), (as_, .inl (X.2.1, 800, .inl (aI tf))), (ars, .inl (X.2.1, 800, .inl (aI rf)))]) := by
  refine Ct_of (own := RX8) (lv := [(0, .ref mo)]) (by decide +kernel) rfl (Nat.le_of_ble_eq_true rfl) rfl ?_
  intro p e s m args below meth c A cx hr hin
  have hd1 := half_rng hc hn
  refine J_aload_n cx dX8_same_0 rfl 0 rfl ?_
  refine J_get cx inC8 0 rfl rfl 2 (by decide) T484 rfl rfl dX8_same_1 ?_
  refine J_aload_n cx dX8_same_4 rfl 0 rfl ?_
  refine J_get cx inC8 0 rfl rfl 0 (by decide) T482 rfl rfl dX8_same_5 ?_
  refine J_idiv cx dX8_same_8 (by omega) (by omega) ?_
  refine J_aload_n cx dX8_same_9 rfl 0 rfl ?_
  refine J_get cx inC8 0 rfl rfl 0 (by decide) T482 rfl rfl dX8_same_10 ?_
  refine J_imul cx dX8_same_13 ?_
  refine J_istore_n (lv' := [(1, .int (iI ((mt / mc) * mc))), (0, .ref mo)]) cx dX8_same_14 rfl (by decide) rfl ?_
  refine J_aload_n cx dX8_same_15 rfl 1 rfl ?_
  refine J_get cx inC8 0 rfl rfl 0 (by decide) T482 rfl rfl dX8_same_16 ?_
  refine J_aload_n cx dX8_same_19 rfl 1 rfl ?_
  refine J_get cx inC8 0 rfl rfl 15 (by decide) T497 rfl rfl dX8_same_20 ?_
  refine J_icmp_ne (tgt := 38) cx dX8_same_23 (by decide) (by omega) (by omega) (fun h_23 => ?_) (fun h_23 => ?_)
  · skip
    refine J_iconst cx dX8_same_38 ?_
    refine J_istore_n (lv' := [(2, .int (iI 0)), (1, .int (iI ((mt / mc) * mc))), (0, .ref mo)]) cx dX8_same_39 rfl (by decide) rfl ?_
    refine J_iconst cx dX8_same_40 ?_
    refine J_istore_n (lv' := [(3, .int (iI 0)), (2, .int (iI 0)), (1, .int (iI ((mt / mc) * mc))), (0, .ref mo)]) cx dX8_same_41 rfl (by decide) rfl ?_
    refine J_loop2 (fun (sa : Int) (k : Int) => [(mo, .inr (8, [.int (iI mc), .int (iI mw), .int (iI mt), .ref as_, .int (iI nb), .ref aw, .int (iI bk), .ref ac, .int (iI lc), .int (iI lw), .int (iI lm), .ref al, .int (iI F), .ref aco, .int (iI rn), .int (iI rc), .ref ars, .int (iI q), .int (iI bg), .int (iI ov), .int (iI wg), .ref acm, .ref ame])), (as_, .inl (X.2.1, 800, .inl (aI tf))), (ars, .inl (X.2.1, 800, .inl (aI rf)))]) (fun (sa : Int) (k : Int) => [(3, .int (iI k)), (2, .int (iI sa)), (1, .int (iI ((mt / mc) * mc))), (0, .ref mo)]) (fun (sa : Int) (k : Int) => (0 ≤ k ∧ k ≤ mt / mc * mc) ∧ (sa = 0 ∨ sa = 1) ∧ (sa = 0 → 0 = sameV tf mc mt rf rc rn) ∧ (sa = 1 → mc = rc ∧ mt / mc * mc = rn ∧ eqU tf rf k.toNat = true)) (fun (sa : Int) (k : Int) => (mt / mc * mc - k).toNat) 0 0 ⟨(by omega), (by first | (exact Or.inl rfl) | (exact Or.inr rfl)), (fun h5 => by first | omega | exact sameV_no (by omega)), (fun h5 => by first | omega | exact ⟨h_23, h_31, rfl⟩)⟩ ?_
    intro sa k hI ih_42
    obtain ⟨hk, hsa, hs0, hs1⟩ := hI
    try dsimp only at hk hsa hs0 hs1
    refine J_iload_n cx dX8_same_42 rfl 0 rfl ?_
    refine J_iload_n cx dX8_same_43 rfl 2 rfl ?_
    refine J_icmp_ge (tgt := 78) cx dX8_same_44 (by decide) (by omega) (by omega) (fun h_44 => ?_) (fun h_44 => ?_)
    · skip
      refine J_iload_n cx dX8_same_78 rfl 1 rfl ?_
      refine J_top (b := (sameV tf mc mt rf rc rn)) (by rcases hsa with h5 | h5; (rw [h5]; exact hs0 h5); (have h6 := hs1 h5; rw [h5]; unfold sameV; rw [if_pos ⟨h6.1, h6.2.1, by rw [show rn = k by omega]; exact h6.2.2⟩])) ?_
      exact J_zret cx hr (sameV_01 _ _ _ _ _ _) dX8_same_79 ⟨rfl, rfl⟩
    · skip
      refine J_iload_n cx dX8_same_47 rfl 1 rfl ?_
      refine J_if_eq (tgt := 78) cx dX8_same_48 (by decide) (by omega) (fun h_48 => ?_) (fun h_48 => ?_)
      · skip
        refine J_iload_n cx dX8_same_78 rfl 1 rfl ?_
        refine J_top (b := (sameV tf mc mt rf rc rn)) (by rcases hsa with h5 | h5; (rw [h5]; exact hs0 h5); (have h6 := hs1 h5; rw [h5]; unfold sameV; rw [if_pos ⟨h6.1, h6.2.1, by rw [show rn = k by omega]; exact h6.2.2⟩])) ?_
        exact J_zret cx hr (sameV_01 _ _ _ _ _ _) dX8_same_79 ⟨rfl, rfl⟩
      · skip
        refine J_aload_n cx dX8_same_51 rfl 3 rfl ?_
        refine J_get cx inC8 0 rfl rfl 3 (by decide) T485 rfl rfl dX8_same_52 ?_
        refine J_iload_n cx dX8_same_55 rfl 0 rfl ?_
        refine J_iald cx 1 rfl (by omega) (by decide) dX8_same_56 ?_
        refine J_aload_n cx dX8_same_57 rfl 3 rfl ?_
        refine J_get cx inC8 0 rfl rfl 16 (by decide) T498 rfl rfl dX8_same_58 ?_
        refine J_iload_n cx dX8_same_61 rfl 0 rfl ?_
        refine J_iald cx 2 rfl (by omega) (by decide) dX8_same_62 ?_
        refine J_icmp_ne (tgt := 70) cx dX8_same_63 (by decide) (by have := htf k; omega) (by have := hrf k; omega) (fun h_63 => ?_) (fun h_63 => ?_)
        · skip
          refine J_iconst cx dX8_same_70 ?_
          refine J_istore_n (lv' := [(2, .int (iI 0)), (3, .int (iI k)), (1, .int (iI ((mt / mc) * mc))), (0, .ref mo)]) cx dX8_same_71 rfl (by decide) rfl ?_
          refine J_iinc (q := 1) (lv' := [(3, .int (iI (k + 1))), (2, .int (iI 0)), (1, .int (iI ((mt / mc) * mc))), (0, .ref mo)]) cx dX8_same_72 rfl (by decide) rfl ?_
          refine J_goto (tgt := 42) cx dX8_same_75 (by decide) ?_
          exact ih_42 0 (k + 1) ⟨(by omega), (by first | (exact Or.inl rfl) | (exact Or.inr rfl)), (fun h5 => by first | omega | exact sameV_at (j := k) hk.1 (by have := (hs1 (by omega)).2.1; omega) h_63), (fun h5 => by first | omega | (have h6 := hs1 (by omega); exact ⟨h6.1, h6.2.1, eqU_s hk.1 h6.2.2 h_63⟩))⟩ (by omega)
        · skip
          refine J_iconst cx dX8_same_66 ?_
          refine J_goto (tgt := 71) cx dX8_same_67 (by decide) ?_
          refine J_istore_n (lv' := [(2, .int (iI 1)), (3, .int (iI k)), (1, .int (iI ((mt / mc) * mc))), (0, .ref mo)]) cx dX8_same_71 rfl (by decide) rfl ?_
          refine J_iinc (q := 1) (lv' := [(3, .int (iI (k + 1))), (2, .int (iI 1)), (1, .int (iI ((mt / mc) * mc))), (0, .ref mo)]) cx dX8_same_72 rfl (by decide) rfl ?_
          refine J_goto (tgt := 42) cx dX8_same_75 (by decide) ?_
          exact ih_42 1 (k + 1) ⟨(by omega), (by first | (exact Or.inl rfl) | (exact Or.inr rfl)), (fun h5 => by first | omega | exact sameV_at (j := k) hk.1 (by have := (hs1 (by omega)).2.1; omega) h_63), (fun h5 => by first | omega | (have h6 := hs1 (by omega); exact ⟨h6.1, h6.2.1, eqU_s hk.1 h6.2.2 h_63⟩))⟩ (by omega)
  · skip
    refine J_iload_n cx dX8_same_26 rfl 0 rfl ?_
    refine J_aload_n cx dX8_same_27 rfl 1 rfl ?_
    refine J_get cx inC8 0 rfl rfl 14 (by decide) T496 rfl rfl dX8_same_28 ?_
    refine J_icmp_ne (tgt := 38) cx dX8_same_31 (by decide) (by omega) (by omega) (fun h_31 => ?_) (fun h_31 => ?_)
    · skip
      refine J_iconst cx dX8_same_38 ?_
      refine J_istore_n (lv' := [(2, .int (iI 0)), (1, .int (iI ((mt / mc) * mc))), (0, .ref mo)]) cx dX8_same_39 rfl (by decide) rfl ?_
      refine J_iconst cx dX8_same_40 ?_
      refine J_istore_n (lv' := [(3, .int (iI 0)), (2, .int (iI 0)), (1, .int (iI ((mt / mc) * mc))), (0, .ref mo)]) cx dX8_same_41 rfl (by decide) rfl ?_
      refine J_loop2 (fun (sa : Int) (k : Int) => [(mo, .inr (8, [.int (iI mc), .int (iI mw), .int (iI mt), .ref as_, .int (iI nb), .ref aw, .int (iI bk), .ref ac, .int (iI lc), .int (iI lw), .int (iI lm), .ref al, .int (iI F), .ref aco, .int (iI rn), .int (iI rc), .ref ars, .int (iI q), .int (iI bg), .int (iI ov), .int (iI wg), .ref acm, .ref ame])), (as_, .inl (X.2.1, 800, .inl (aI tf))), (ars, .inl (X.2.1, 800, .inl (aI rf)))]) (fun (sa : Int) (k : Int) => [(3, .int (iI k)), (2, .int (iI sa)), (1, .int (iI ((mt / mc) * mc))), (0, .ref mo)]) (fun (sa : Int) (k : Int) => (0 ≤ k ∧ k ≤ mt / mc * mc) ∧ (sa = 0 ∨ sa = 1) ∧ (sa = 0 → 0 = sameV tf mc mt rf rc rn) ∧ (sa = 1 → mc = rc ∧ mt / mc * mc = rn ∧ eqU tf rf k.toNat = true)) (fun (sa : Int) (k : Int) => (mt / mc * mc - k).toNat) 0 0 ⟨(by omega), (by first | (exact Or.inl rfl) | (exact Or.inr rfl)), (fun h5 => by first | omega | exact sameV_no (by omega)), (fun h5 => by first | omega | exact ⟨h_23, h_31, rfl⟩)⟩ ?_
      intro sa k hI ih_42
      obtain ⟨hk, hsa, hs0, hs1⟩ := hI
      try dsimp only at hk hsa hs0 hs1
      refine J_iload_n cx dX8_same_42 rfl 0 rfl ?_
      refine J_iload_n cx dX8_same_43 rfl 2 rfl ?_
      refine J_icmp_ge (tgt := 78) cx dX8_same_44 (by decide) (by omega) (by omega) (fun h_44 => ?_) (fun h_44 => ?_)
      · skip
        refine J_iload_n cx dX8_same_78 rfl 1 rfl ?_
        refine J_top (b := (sameV tf mc mt rf rc rn)) (by rcases hsa with h5 | h5; (rw [h5]; exact hs0 h5); (have h6 := hs1 h5; rw [h5]; unfold sameV; rw [if_pos ⟨h6.1, h6.2.1, by rw [show rn = k by omega]; exact h6.2.2⟩])) ?_
        exact J_zret cx hr (sameV_01 _ _ _ _ _ _) dX8_same_79 ⟨rfl, rfl⟩
      · skip
        refine J_iload_n cx dX8_same_47 rfl 1 rfl ?_
        refine J_if_eq (tgt := 78) cx dX8_same_48 (by decide) (by omega) (fun h_48 => ?_) (fun h_48 => ?_)
        · skip
          refine J_iload_n cx dX8_same_78 rfl 1 rfl ?_
          refine J_top (b := (sameV tf mc mt rf rc rn)) (by rcases hsa with h5 | h5; (rw [h5]; exact hs0 h5); (have h6 := hs1 h5; rw [h5]; unfold sameV; rw [if_pos ⟨h6.1, h6.2.1, by rw [show rn = k by omega]; exact h6.2.2⟩])) ?_
          exact J_zret cx hr (sameV_01 _ _ _ _ _ _) dX8_same_79 ⟨rfl, rfl⟩
        · skip
          refine J_aload_n cx dX8_same_51 rfl 3 rfl ?_
          refine J_get cx inC8 0 rfl rfl 3 (by decide) T485 rfl rfl dX8_same_52 ?_
          refine J_iload_n cx dX8_same_55 rfl 0 rfl ?_
          refine J_iald cx 1 rfl (by omega) (by decide) dX8_same_56 ?_
          refine J_aload_n cx dX8_same_57 rfl 3 rfl ?_
          refine J_get cx inC8 0 rfl rfl 16 (by decide) T498 rfl rfl dX8_same_58 ?_
          refine J_iload_n cx dX8_same_61 rfl 0 rfl ?_
          refine J_iald cx 2 rfl (by omega) (by decide) dX8_same_62 ?_
          refine J_icmp_ne (tgt := 70) cx dX8_same_63 (by decide) (by have := htf k; omega) (by have := hrf k; omega) (fun h_63 => ?_) (fun h_63 => ?_)
          · skip
            refine J_iconst cx dX8_same_70 ?_
            refine J_istore_n (lv' := [(2, .int (iI 0)), (3, .int (iI k)), (1, .int (iI ((mt / mc) * mc))), (0, .ref mo)]) cx dX8_same_71 rfl (by decide) rfl ?_
            refine J_iinc (q := 1) (lv' := [(3, .int (iI (k + 1))), (2, .int (iI 0)), (1, .int (iI ((mt / mc) * mc))), (0, .ref mo)]) cx dX8_same_72 rfl (by decide) rfl ?_
            refine J_goto (tgt := 42) cx dX8_same_75 (by decide) ?_
            exact ih_42 0 (k + 1) ⟨(by omega), (by first | (exact Or.inl rfl) | (exact Or.inr rfl)), (fun h5 => by first | omega | exact sameV_at (j := k) hk.1 (by have := (hs1 (by omega)).2.1; omega) h_63), (fun h5 => by first | omega | (have h6 := hs1 (by omega); exact ⟨h6.1, h6.2.1, eqU_s hk.1 h6.2.2 h_63⟩))⟩ (by omega)
          · skip
            refine J_iconst cx dX8_same_66 ?_
            refine J_goto (tgt := 71) cx dX8_same_67 (by decide) ?_
            refine J_istore_n (lv' := [(2, .int (iI 1)), (3, .int (iI k)), (1, .int (iI ((mt / mc) * mc))), (0, .ref mo)]) cx dX8_same_71 rfl (by decide) rfl ?_
            refine J_iinc (q := 1) (lv' := [(3, .int (iI (k + 1))), (2, .int (iI 1)), (1, .int (iI ((mt / mc) * mc))), (0, .ref mo)]) cx dX8_same_72 rfl (by decide) rfl ?_
            refine J_goto (tgt := 42) cx dX8_same_75 (by decide) ?_
            exact ih_42 1 (k + 1) ⟨(by omega), (by first | (exact Or.inl rfl) | (exact Or.inr rfl)), (fun h5 => by first | omega | exact sameV_at (j := k) hk.1 (by have := (hs1 (by omega)).2.1; omega) h_63), (fun h5 => by first | omega | (have h6 := hs1 (by omega); exact ⟨h6.1, h6.2.1, eqU_s hk.1 h6.2.2 h_63⟩))⟩ (by omega)
    · skip
      refine J_iconst cx dX8_same_34 ?_
      refine J_goto (tgt := 39) cx dX8_same_35 (by decide) ?_
      refine J_istore_n (lv' := [(2, .int (iI 1)), (1, .int (iI ((mt / mc) * mc))), (0, .ref mo)]) cx dX8_same_39 rfl (by decide) rfl ?_
      refine J_iconst cx dX8_same_40 ?_
      refine J_istore_n (lv' := [(3, .int (iI 0)), (2, .int (iI 1)), (1, .int (iI ((mt / mc) * mc))), (0, .ref mo)]) cx dX8_same_41 rfl (by decide) rfl ?_
      refine J_loop2 (fun (sa : Int) (k : Int) => [(mo, .inr (8, [.int (iI mc), .int (iI mw), .int (iI mt), .ref as_, .int (iI nb), .ref aw, .int (iI bk), .ref ac, .int (iI lc), .int (iI lw), .int (iI lm), .ref al, .int (iI F), .ref aco, .int (iI rn), .int (iI rc), .ref ars, .int (iI q), .int (iI bg), .int (iI ov), .int (iI wg), .ref acm, .ref ame])), (as_, .inl (X.2.1, 800, .inl (aI tf))), (ars, .inl (X.2.1, 800, .inl (aI rf)))]) (fun (sa : Int) (k : Int) => [(3, .int (iI k)), (2, .int (iI sa)), (1, .int (iI ((mt / mc) * mc))), (0, .ref mo)]) (fun (sa : Int) (k : Int) => (0 ≤ k ∧ k ≤ mt / mc * mc) ∧ (sa = 0 ∨ sa = 1) ∧ (sa = 0 → 0 = sameV tf mc mt rf rc rn) ∧ (sa = 1 → mc = rc ∧ mt / mc * mc = rn ∧ eqU tf rf k.toNat = true)) (fun (sa : Int) (k : Int) => (mt / mc * mc - k).toNat) 1 0 ⟨(by omega), (by first | (exact Or.inl rfl) | (exact Or.inr rfl)), (fun h5 => by first | omega | exact sameV_no (by omega)), (fun h5 => by first | omega | exact ⟨h_23, h_31, rfl⟩)⟩ ?_
      intro sa k hI ih_42
      obtain ⟨hk, hsa, hs0, hs1⟩ := hI
      try dsimp only at hk hsa hs0 hs1
      refine J_iload_n cx dX8_same_42 rfl 0 rfl ?_
      refine J_iload_n cx dX8_same_43 rfl 2 rfl ?_
      refine J_icmp_ge (tgt := 78) cx dX8_same_44 (by decide) (by omega) (by omega) (fun h_44 => ?_) (fun h_44 => ?_)
      · skip
        refine J_iload_n cx dX8_same_78 rfl 1 rfl ?_
        refine J_top (b := (sameV tf mc mt rf rc rn)) (by rcases hsa with h5 | h5; (rw [h5]; exact hs0 h5); (have h6 := hs1 h5; rw [h5]; unfold sameV; rw [if_pos ⟨h6.1, h6.2.1, by rw [show rn = k by omega]; exact h6.2.2⟩])) ?_
        exact J_zret cx hr (sameV_01 _ _ _ _ _ _) dX8_same_79 ⟨rfl, rfl⟩
      · skip
        refine J_iload_n cx dX8_same_47 rfl 1 rfl ?_
        refine J_if_eq (tgt := 78) cx dX8_same_48 (by decide) (by omega) (fun h_48 => ?_) (fun h_48 => ?_)
        · skip
          refine J_iload_n cx dX8_same_78 rfl 1 rfl ?_
          refine J_top (b := (sameV tf mc mt rf rc rn)) (by rcases hsa with h5 | h5; (rw [h5]; exact hs0 h5); (have h6 := hs1 h5; rw [h5]; unfold sameV; rw [if_pos ⟨h6.1, h6.2.1, by rw [show rn = k by omega]; exact h6.2.2⟩])) ?_
          exact J_zret cx hr (sameV_01 _ _ _ _ _ _) dX8_same_79 ⟨rfl, rfl⟩
        · skip
          refine J_aload_n cx dX8_same_51 rfl 3 rfl ?_
          refine J_get cx inC8 0 rfl rfl 3 (by decide) T485 rfl rfl dX8_same_52 ?_
          refine J_iload_n cx dX8_same_55 rfl 0 rfl ?_
          refine J_iald cx 1 rfl (by omega) (by decide) dX8_same_56 ?_
          refine J_aload_n cx dX8_same_57 rfl 3 rfl ?_
          refine J_get cx inC8 0 rfl rfl 16 (by decide) T498 rfl rfl dX8_same_58 ?_
          refine J_iload_n cx dX8_same_61 rfl 0 rfl ?_
          refine J_iald cx 2 rfl (by omega) (by decide) dX8_same_62 ?_
          refine J_icmp_ne (tgt := 70) cx dX8_same_63 (by decide) (by have := htf k; omega) (by have := hrf k; omega) (fun h_63 => ?_) (fun h_63 => ?_)
          · skip
            refine J_iconst cx dX8_same_70 ?_
            refine J_istore_n (lv' := [(2, .int (iI 0)), (3, .int (iI k)), (1, .int (iI ((mt / mc) * mc))), (0, .ref mo)]) cx dX8_same_71 rfl (by decide) rfl ?_
            refine J_iinc (q := 1) (lv' := [(3, .int (iI (k + 1))), (2, .int (iI 0)), (1, .int (iI ((mt / mc) * mc))), (0, .ref mo)]) cx dX8_same_72 rfl (by decide) rfl ?_
            refine J_goto (tgt := 42) cx dX8_same_75 (by decide) ?_
            exact ih_42 0 (k + 1) ⟨(by omega), (by first | (exact Or.inl rfl) | (exact Or.inr rfl)), (fun h5 => by first | omega | exact sameV_at (j := k) hk.1 (by have := (hs1 (by omega)).2.1; omega) h_63), (fun h5 => by first | omega | (have h6 := hs1 (by omega); exact ⟨h6.1, h6.2.1, eqU_s hk.1 h6.2.2 h_63⟩))⟩ (by omega)
          · skip
            refine J_iconst cx dX8_same_66 ?_
            refine J_goto (tgt := 71) cx dX8_same_67 (by decide) ?_
            refine J_istore_n (lv' := [(2, .int (iI 1)), (3, .int (iI k)), (1, .int (iI ((mt / mc) * mc))), (0, .ref mo)]) cx dX8_same_71 rfl (by decide) rfl ?_
            refine J_iinc (q := 1) (lv' := [(3, .int (iI (k + 1))), (2, .int (iI 1)), (1, .int (iI ((mt / mc) * mc))), (0, .ref mo)]) cx dX8_same_72 rfl (by decide) rfl ?_
            refine J_goto (tgt := 42) cx dX8_same_75 (by decide) ?_
            exact ih_42 1 (k + 1) ⟨(by omega), (by first | (exact Or.inl rfl) | (exact Or.inr rfl)), (fun h5 => by first | omega | exact sameV_at (j := k) hk.1 (by have := (hs1 (by omega)).2.1; omega) h_63), (fun h5 => by first | omega | (have h6 := hs1 (by omega); exact ⟨h6.1, h6.2.1, eqU_s hk.1 h6.2.2 h_63⟩))⟩ (by omega)
set_option maxHeartbeats 4000000 in
set_option maxRecDepth 100000 in
theorem mX8_count (l : Launch) (X : GX) (mo : Nat) (mc : Int) (mw : Int) (mt : Int) (as_ : Nat) (nb : Int) (aw : Nat) (bk : Int) (ac : Nat) (lc : Int) (lw : Int) (lm : Int) (al : Nat) (F : Int) (aco : Nat) (rn : Int) (rc : Int) (ars : Nat) (q : Int) (bg : Int) (ov : Int) (wg : Int) (acm : Nat) (ame : Nat) (wh : Int) (hwh : -2147483648 ≤ wh ∧ wh < 2147483648) (hnb : 0 ≤ nb ∧ nb ≤ 64000) : Ct l yX8_count cX8_count 2 (some .int) 0 0 0 0 X [.ref mo, .int (iI wh)] [(mo, .inr (8, [.int (iI mc), .int (iI mw), .int (iI mt), .ref as_, .int (iI nb), .ref aw, .int (iI bk), .ref ac, .int (iI lc), .int (iI lw), .int (iI lm), .ref al, .int (iI F), .ref aco, .int (iI rn), .int (iI rc), .ref ars, .int (iI q), .int (iI bg), .int (iI ov), .int (iI wg), .ref acm, .ref ame]))] (fun1 (some (.int (iI (cntV mt (nb / 8) bk F rn rc wh)))) [(mo, .inr (8, [.int (iI mc), .int (iI mw), .int (iI mt), .ref as_, .int (iI nb), .ref aw, .int (iI bk), .ref ac, .int (iI lc), .int (iI lw), .int (iI lm), .ref al, .int (iI F), .ref aco, .int (iI rn), .int (iI rc), .ref ars, .int (iI q), .int (iI bg), .int (iI ov), .int (iI wg), .ref acm, .ref ame]))]) := by
  refine Ct_of (own := RX8) (lv := [(0, .ref mo), (1, .int (iI wh))]) (by decide +kernel) rfl (Nat.le_of_ble_eq_true rfl) rfl ?_
  intro p e s m args below meth c A cx hr hin
  refine J_iload_n cx dX8_count_0 rfl 1 rfl ?_
  have hsw_1 : wh = 0 ∨ wh = 1 ∨ wh = 2 ∨ wh = 3 ∨ wh = 4 ∨ wh = 5 ∨ (wh < 0 ∨ 5 < wh) := by omega
  rcases hsw_1 with h_1 | h_1 | h_1 | h_1 | h_1 | h_1 | h_1
  · skip
    refine J_tin (k := 0) (tgt := 40) cx dX8_count_1 (by omega) h_1 rfl (by decide) (by decide) (by decide) ?_
    refine J_aload_n cx dX8_count_40 rfl 0 rfl ?_
    refine J_get cx inC8 0 rfl rfl 2 (by decide) T484 rfl rfl dX8_count_41 ?_
    refine J_top (b := (cntV mt (nb / 8) bk F rn rc wh)) (by unfold cntV; rw [if_pos h_1]) ?_
    exact J_iret cx hr dX8_count_44 ⟨rfl, rfl⟩
  · skip
    refine J_tin (k := 1) (tgt := 45) cx dX8_count_1 (by omega) h_1 rfl (by decide) (by decide) (by decide) ?_
    refine J_aload_n cx dX8_count_45 rfl 0 rfl ?_
    refine J_get cx inC8 0 rfl rfl 4 (by decide) T486 rfl rfl dX8_count_46 ?_
    refine J_bipush cx dX8_count_49 (by decide) ?_
    refine J_idiv cx dX8_count_51 (by omega) (by omega) ?_
    refine J_top (b := (cntV mt (nb / 8) bk F rn rc wh)) (by unfold cntV; rw [if_neg (by omega), if_pos h_1]) ?_
    exact J_iret cx hr dX8_count_52 ⟨rfl, rfl⟩
  · skip
    refine J_tin (k := 2) (tgt := 53) cx dX8_count_1 (by omega) h_1 rfl (by decide) (by decide) (by decide) ?_
    refine J_aload_n cx dX8_count_53 rfl 0 rfl ?_
    refine J_get cx inC8 0 rfl rfl 6 (by decide) T488 rfl rfl dX8_count_54 ?_
    refine J_top (b := (cntV mt (nb / 8) bk F rn rc wh)) (by unfold cntV; rw [if_neg (by omega), if_neg (by omega), if_pos h_1]) ?_
    exact J_iret cx hr dX8_count_57 ⟨rfl, rfl⟩
  · skip
    refine J_tin (k := 3) (tgt := 58) cx dX8_count_1 (by omega) h_1 rfl (by decide) (by decide) (by decide) ?_
    refine J_aload_n cx dX8_count_58 rfl 0 rfl ?_
    refine J_get cx inC8 0 rfl rfl 12 (by decide) T494 rfl rfl dX8_count_59 ?_
    refine J_top (b := (cntV mt (nb / 8) bk F rn rc wh)) (by unfold cntV; rw [if_neg (by omega), if_neg (by omega), if_neg (by omega), if_pos h_1]) ?_
    exact J_iret cx hr dX8_count_62 ⟨rfl, rfl⟩
  · skip
    refine J_tin (k := 4) (tgt := 63) cx dX8_count_1 (by omega) h_1 rfl (by decide) (by decide) (by decide) ?_
    refine J_aload_n cx dX8_count_63 rfl 0 rfl ?_
    refine J_get cx inC8 0 rfl rfl 14 (by decide) T496 rfl rfl dX8_count_64 ?_
    refine J_top (b := (cntV mt (nb / 8) bk F rn rc wh)) (by unfold cntV; rw [if_neg (by omega), if_neg (by omega), if_neg (by omega), if_neg (by omega), if_pos h_1]) ?_
    exact J_iret cx hr dX8_count_67 ⟨rfl, rfl⟩
  · skip
    refine J_tin (k := 5) (tgt := 68) cx dX8_count_1 (by omega) h_1 rfl (by decide) (by decide) (by decide) ?_
    refine J_aload_n cx dX8_count_68 rfl 0 rfl ?_
    refine J_get cx inC8 0 rfl rfl 15 (by decide) T497 rfl rfl dX8_count_69 ?_
    refine J_top (b := (cntV mt (nb / 8) bk F rn rc wh)) (by unfold cntV; rw [if_neg (by omega), if_neg (by omega), if_neg (by omega), if_neg (by omega), if_neg (by omega), if_pos h_1]) ?_
    exact J_iret cx hr dX8_count_72 ⟨rfl, rfl⟩
  · skip
    refine J_tout (tgt := 73) cx dX8_count_1 (by omega) h_1 (by decide) ?_
    refine J_iconst cx dX8_count_73 ?_
    refine J_top (b := (cntV mt (nb / 8) bk F rn rc wh)) (by unfold cntV; rw [if_neg (by omega), if_neg (by omega), if_neg (by omega), if_neg (by omega), if_neg (by omega), if_neg (by omega)]) ?_
    exact J_iret cx hr dX8_count_74 ⟨rfl, rfl⟩
