set_option maxHeartbeats 4000000 in
set_option maxRecDepth 100000 in
theorem mX8_nextBit (l : Launch) (X : GX) (mo : Nat) (mc : Int) (mw : Int) (mt : Int) (as_ : Nat) (nb : Int) (aw : Nat) (bk : Int) (ac : Nat) (lc : Int) (lw : Int) (lm : Int) (al : Nat) (F : Int) (aco : Nat) (rn : Int) (rc : Int) (ars : Nat) (q : Int) (bg : Int) (ov : Int) (wg : Int) (acm : Nat) (ame : Nat) (b : Int → Int) (hF : 0 ≤ F ∧ F ≤ 3000) (hb : ∀ j, 0 ≤ j → j < F → 0 ≤ b j ∧ b j ≤ 255) (hq : 0 ≤ q ∧ q ≤ (8 * F)) : Ct l yX8_nextBit cX8_nextBit 2 (some .int) 0 0 0 0 X [.ref mo] [(mo, .inr (8, [.int (iI mc), .int (iI mw), .int (iI mt), .ref as_, .int (iI nb), .ref aw, .int (iI bk), .ref ac, .int (iI lc), .int (iI lw), .int (iI lm), .ref al, .int (iI F), .ref aco, .int (iI rn), .int (iI rc), .ref ars, .int (iI q), .int (iI bg), .int (iI ov), .int (iI wg), .ref acm, .ref ame])), (aco, .inl (X.2.1, 3000, .inl (aI b)))] (fun1 (some (.int (iI (if q < (8 * F) then cbit b q else 1)))) [(mo, .inr (8, [.int (iI mc), .int (iI mw), .int (iI mt), .ref as_, .int (iI nb), .ref aw, .int (iI bk), .ref ac, .int (iI lc), .int (iI lw), .int (iI lm), .ref al, .int (iI F), .ref aco, .int (iI rn), .int (iI rc), .ref ars, .int (iI (if q < (8 * F) then q + 1 else q)), .int (iI bg), .int (iI (if q < (8 * F) then ov else 1)), .int (iI wg), .ref acm, .ref ame])), (aco, .inl (X.2.1, 3000, .inl (aI b)))]) := by
  refine Ct_of (own := RX8) (lv := [(0, .ref mo)]) (by decide +kernel) rfl (Nat.le_of_ble_eq_true rfl) rfl ?_
  intro p e s m args below meth c A cx hr hin
  refine J_aload_n cx dX8_nextBit_0 rfl 0 rfl ?_
  refine J_get cx inC8 0 rfl rfl 17 (by decide) T499 rfl rfl dX8_nextBit_1 ?_
  refine J_bipush cx dX8_nextBit_4 (by decide) ?_
  refine J_aload_n cx dX8_nextBit_6 rfl 0 rfl ?_
  refine J_get cx inC8 0 rfl rfl 12 (by decide) T494 rfl rfl dX8_nextBit_7 ?_
  refine J_imul cx dX8_nextBit_10 ?_
  refine J_icmp_lt (tgt := 21) cx dX8_nextBit_11 (by decide) (by omega) (by omega) (fun h_11 => ?_) (fun h_11 => ?_)
  · skip
    refine J_aload_n cx dX8_nextBit_21 rfl 0 rfl ?_
    refine J_get cx inC8 0 rfl rfl 13 (by decide) T495 rfl rfl dX8_nextBit_22 ?_
    refine J_aload_n cx dX8_nextBit_25 rfl 0 rfl ?_
    refine J_get cx inC8 0 rfl rfl 17 (by decide) T499 rfl rfl dX8_nextBit_26 ?_
    refine J_bipush cx dX8_nextBit_29 (by decide) ?_
    refine J_idiv cx dX8_nextBit_31 (by omega) (by omega) ?_
    refine J_iald cx 1 rfl (by omega) (by decide) dX8_nextBit_32 ?_
    refine J_bipush cx dX8_nextBit_33 (by decide) ?_
    refine J_aload_n cx dX8_nextBit_35 rfl 0 rfl ?_
    refine J_get cx inC8 0 rfl rfl 17 (by decide) T499 rfl rfl dX8_nextBit_36 ?_
    refine J_bipush cx dX8_nextBit_39 (by decide) ?_
    refine J_irem cx dX8_nextBit_41 (by omega) (by omega) ?_
    refine J_isub cx dX8_nextBit_42 ?_
    refine J_ishr cx dX8_nextBit_43 (by have := hb (q / 8) (by omega) (by omega); omega) (by omega) ?_
    refine J_iconst cx dX8_nextBit_44 ?_
    refine J_iand (r := ((b (q / 8)) / p2 (7 - (q % 8))) % 2) cx dX8_nextBit_45 (iI_and1 _) ?_
    refine J_istore_n (lv' := [(1, .int (iI (((b (q / 8)) / p2 (7 - (q % 8))) % 2))), (0, .ref mo)]) cx dX8_nextBit_46 rfl (by decide) rfl ?_
    refine J_aload_n cx dX8_nextBit_47 rfl 1 rfl ?_
    refine J_dup cx dX8_nextBit_48 rfl ?_
    refine J_get cx inC8 0 rfl rfl 17 (by decide) T499 rfl rfl dX8_nextBit_49 ?_
    refine J_iconst cx dX8_nextBit_52 ?_
    refine J_iadd cx dX8_nextBit_53 ?_
    refine J_put (ty := .int) (ws' := [(mo, .inr (8, [.int (iI mc), .int (iI mw), .int (iI mt), .ref as_, .int (iI nb), .ref aw, .int (iI bk), .ref ac, .int (iI lc), .int (iI lw), .int (iI lm), .ref al, .int (iI F), .ref aco, .int (iI rn), .int (iI rc), .ref ars, .int (iI (q + 1)), .int (iI bg), .int (iI ov), .int (iI wg), .ref acm, .ref ame])), (aco, .inl (X.2.1, 3000, .inl (aI b)))]) cx inC8 tyX8_ok nmX8 0 rfl rfl 17 (by decide) T499 rfl rfl (by decide +kernel) (rfl) (rfl) (Nat.le_of_ble_eq_true rfl) rfl dX8_nextBit_54 ?_
    refine J_iload_n cx dX8_nextBit_57 rfl 0 rfl ?_
    refine J_ws (ws' := [(mo, .inr (8, [.int (iI mc), .int (iI mw), .int (iI mt), .ref as_, .int (iI nb), .ref aw, .int (iI bk), .ref ac, .int (iI lc), .int (iI lw), .int (iI lm), .ref al, .int (iI F), .ref aco, .int (iI rn), .int (iI rc), .ref ars, .int (iI (if q < (8 * F) then q + 1 else q)), .int (iI bg), .int (iI (if q < (8 * F) then ov else 1)), .int (iI wg), .ref acm, .ref ame])), (aco, .inl (X.2.1, 3000, .inl (aI b)))]) (by rw [if_pos (by omega), if_pos (by omega)]) ?_
    refine J_top (b := (if q < (8 * F) then cbit b q else 1)) (by rw [if_pos (by omega)]; rfl) ?_
    exact J_iret cx hr dX8_nextBit_58 ⟨rfl, rfl⟩
  · skip
    refine J_aload_n cx dX8_nextBit_14 rfl 0 rfl ?_
    refine J_iconst cx dX8_nextBit_15 ?_
    refine J_put (ty := .boolean) (ws' := [(mo, .inr (8, [.int (iI mc), .int (iI mw), .int (iI mt), .ref as_, .int (iI nb), .ref aw, .int (iI bk), .ref ac, .int (iI lc), .int (iI lw), .int (iI lm), .ref al, .int (iI F), .ref aco, .int (iI rn), .int (iI rc), .ref ars, .int (iI q), .int (iI bg), .int (iI 1), .int (iI wg), .ref acm, .ref ame])), (aco, .inl (X.2.1, 3000, .inl (aI b)))]) cx inC8 tyX8_ok nmX8 0 rfl rfl 19 (by decide) T501 rfl rfl (by decide +kernel) (by decide) (by decide) (Nat.le_of_ble_eq_true rfl) rfl dX8_nextBit_16 ?_
    refine J_iconst cx dX8_nextBit_19 ?_
    refine J_ws (ws' := [(mo, .inr (8, [.int (iI mc), .int (iI mw), .int (iI mt), .ref as_, .int (iI nb), .ref aw, .int (iI bk), .ref ac, .int (iI lc), .int (iI lw), .int (iI lm), .ref al, .int (iI F), .ref aco, .int (iI rn), .int (iI rc), .ref ars, .int (iI (if q < (8 * F) then q + 1 else q)), .int (iI bg), .int (iI (if q < (8 * F) then ov else 1)), .int (iI wg), .ref acm, .ref ame])), (aco, .inl (X.2.1, 3000, .inl (aI b)))]) (by rw [if_neg (by omega), if_neg (by omega)]) ?_
    refine J_top (b := (if q < (8 * F) then cbit b q else 1)) (by rw [if_neg (by omega)]) ?_
    exact J_iret cx hr dX8_nextBit_20 ⟨rfl, rfl⟩
