set_option maxHeartbeats 4000000 in
set_option maxRecDepth 100000 in
theorem mX8_isGood (l : Launch) (X : GX) (mo : Nat) (mc : Int) (mw : Int) (mt : Int) (as_ : Nat) (nb : Int) (aw : Nat) (bk : Int) (ac : Nat) (lc : Int) (lw : Int) (lm : Int) (al : Nat) (F : Int) (aco : Nat) (rn : Int) (rc : Int) (ars : Nat) (q : Int) (bg : Int) (ov : Int) (wg : Int) (acm : Nat) (ame : Nat) (po : Int) (hov : ov = 0 ∨ ov = 1) (hpo : po = 0 ∨ po = 1) : Ct l yX8_isGood cX8_isGood 2 (some .boolean) 0 0 0 0 X [.ref mo, .int (iI po)] [(mo, .inr (8, [.int (iI mc), .int (iI mw), .int (iI mt), .ref as_, .int (iI nb), .ref aw, .int (iI bk), .ref ac, .int (iI lc), .int (iI lw), .int (iI lm), .ref al, .int (iI F), .ref aco, .int (iI rn), .int (iI rc), .ref ars, .int (iI q), .int (iI bg), .int (iI ov), .int (iI wg), .ref acm, .ref ame]))] (fun1 (some (.int (iI (if ov = (0 : Int) ∧ po = (1 : Int) then 1 else 0)))) [(mo, .inr (8, [.int (iI mc), .int (iI mw), .int (iI mt), .ref as_, .int (iI nb), .ref aw, .int (iI bk), .ref ac, .int (iI lc), .int (iI lw), .int (iI lm), .ref al, .int (iI F), .ref aco, .int (iI rn), .int (iI rc), .ref ars, .int (iI q), .int (iI bg), .int (iI ov), .int (iI (if ov = (0 : Int) then (if po = (0 : Int) then bg else wg) else 8 * F)), .ref acm, .ref ame]))]) := by
  refine Ct_of (own := RX8) (lv := [(0, .ref mo), (1, .int (iI po))]) (by decide +kernel) rfl (Nat.le_of_ble_eq_true rfl) rfl ?_
  intro p e s m args below meth c A cx hr hin
  refine J_aload_n cx dX8_isGood_0 rfl 0 rfl ?_
  refine J_aload_n cx dX8_isGood_1 rfl 0 rfl ?_
  refine J_get cx inC8 0 rfl rfl 19 (by decide) T501 rfl rfl dX8_isGood_2 ?_
  refine J_if_eq (tgt := 18) cx dX8_isGood_5 (by decide) (by omega) (fun h_5 => ?_) (fun h_5 => ?_)
  · skip
    refine J_iload_n cx dX8_isGood_18 rfl 1 rfl ?_
    refine J_if_eq (tgt := 29) cx dX8_isGood_19 (by decide) (by omega) (fun h_19 => ?_) (fun h_19 => ?_)
    · skip
      refine J_aload_n cx dX8_isGood_29 rfl 0 rfl ?_
      refine J_get cx inC8 0 rfl rfl 18 (by decide) T500 rfl rfl dX8_isGood_30 ?_
      refine J_put (ty := .int) (ws' := [(mo, .inr (8, [.int (iI mc), .int (iI mw), .int (iI mt), .ref as_, .int (iI nb), .ref aw, .int (iI bk), .ref ac, .int (iI lc), .int (iI lw), .int (iI lm), .ref al, .int (iI F), .ref aco, .int (iI rn), .int (iI rc), .ref ars, .int (iI q), .int (iI bg), .int (iI ov), .int (iI bg), .ref acm, .ref ame]))]) cx inC8 tyX8_ok nmX8 0 rfl rfl 20 (by decide) T502 rfl rfl (by decide +kernel) (rfl) (rfl) (Nat.le_of_ble_eq_true rfl) rfl dX8_isGood_33 ?_
      refine J_aload_n cx dX8_isGood_36 rfl 0 rfl ?_
      refine J_get cx inC8 0 rfl rfl 19 (by decide) T501 rfl rfl dX8_isGood_37 ?_
      refine J_if_ne (tgt := 51) cx dX8_isGood_40 (by decide) (by omega) (fun h_40 => ?_) (fun h_40 => ?_)
      · skip
        refine J_iconst cx dX8_isGood_51 ?_
        refine J_ws (ws' := [(mo, .inr (8, [.int (iI mc), .int (iI mw), .int (iI mt), .ref as_, .int (iI nb), .ref aw, .int (iI bk), .ref ac, .int (iI lc), .int (iI lw), .int (iI lm), .ref al, .int (iI F), .ref aco, .int (iI rn), .int (iI rc), .ref ars, .int (iI q), .int (iI bg), .int (iI ov), .int (iI (if ov = (0 : Int) then (if po = (0 : Int) then bg else wg) else 8 * F)), .ref acm, .ref ame]))]) (by first | (rw [if_pos h_5, if_pos h_19]; done) | (rw [if_pos h_5, if_neg h_19]; done) | (rw [if_neg h_5]; done)) ?_
        refine J_top (b := (if ov = (0 : Int) ∧ po = (1 : Int) then 1 else 0)) (by split <;> omega) ?_
        exact J_zret cx hr (by split <;> omega) dX8_isGood_52 ⟨rfl, rfl⟩
      · skip
        refine J_iload_n cx dX8_isGood_43 rfl 1 rfl ?_
        refine J_if_eq (tgt := 51) cx dX8_isGood_44 (by decide) (by omega) (fun h_44 => ?_) (fun h_44 => ?_)
        · skip
          refine J_iconst cx dX8_isGood_51 ?_
          refine J_ws (ws' := [(mo, .inr (8, [.int (iI mc), .int (iI mw), .int (iI mt), .ref as_, .int (iI nb), .ref aw, .int (iI bk), .ref ac, .int (iI lc), .int (iI lw), .int (iI lm), .ref al, .int (iI F), .ref aco, .int (iI rn), .int (iI rc), .ref ars, .int (iI q), .int (iI bg), .int (iI ov), .int (iI (if ov = (0 : Int) then (if po = (0 : Int) then bg else wg) else 8 * F)), .ref acm, .ref ame]))]) (by first | (rw [if_pos h_5, if_pos h_19]; done) | (rw [if_pos h_5, if_neg h_19]; done) | (rw [if_neg h_5]; done)) ?_
          refine J_top (b := (if ov = (0 : Int) ∧ po = (1 : Int) then 1 else 0)) (by split <;> omega) ?_
          exact J_zret cx hr (by split <;> omega) dX8_isGood_52 ⟨rfl, rfl⟩
        · skip
          refine J_iconst cx dX8_isGood_47 ?_
          refine J_goto (tgt := 52) cx dX8_isGood_48 (by decide) ?_
          refine J_ws (ws' := [(mo, .inr (8, [.int (iI mc), .int (iI mw), .int (iI mt), .ref as_, .int (iI nb), .ref aw, .int (iI bk), .ref ac, .int (iI lc), .int (iI lw), .int (iI lm), .ref al, .int (iI F), .ref aco, .int (iI rn), .int (iI rc), .ref ars, .int (iI q), .int (iI bg), .int (iI ov), .int (iI (if ov = (0 : Int) then (if po = (0 : Int) then bg else wg) else 8 * F)), .ref acm, .ref ame]))]) (by first | (rw [if_pos h_5, if_pos h_19]; done) | (rw [if_pos h_5, if_neg h_19]; done) | (rw [if_neg h_5]; done)) ?_
          refine J_top (b := (if ov = (0 : Int) ∧ po = (1 : Int) then 1 else 0)) (by split <;> omega) ?_
          exact J_zret cx hr (by split <;> omega) dX8_isGood_52 ⟨rfl, rfl⟩
    · skip
      refine J_aload_n cx dX8_isGood_22 rfl 0 rfl ?_
      refine J_get cx inC8 0 rfl rfl 20 (by decide) T502 rfl rfl dX8_isGood_23 ?_
      refine J_goto (tgt := 33) cx dX8_isGood_26 (by decide) ?_
      refine J_put (ty := .int) (ws' := [(mo, .inr (8, [.int (iI mc), .int (iI mw), .int (iI mt), .ref as_, .int (iI nb), .ref aw, .int (iI bk), .ref ac, .int (iI lc), .int (iI lw), .int (iI lm), .ref al, .int (iI F), .ref aco, .int (iI rn), .int (iI rc), .ref ars, .int (iI q), .int (iI bg), .int (iI ov), .int (iI wg), .ref acm, .ref ame]))]) cx inC8 tyX8_ok nmX8 0 rfl rfl 20 (by decide) T502 rfl rfl (by decide +kernel) (rfl) (rfl) (Nat.le_of_ble_eq_true rfl) rfl dX8_isGood_33 ?_
      refine J_aload_n cx dX8_isGood_36 rfl 0 rfl ?_
      refine J_get cx inC8 0 rfl rfl 19 (by decide) T501 rfl rfl dX8_isGood_37 ?_
      refine J_if_ne (tgt := 51) cx dX8_isGood_40 (by decide) (by omega) (fun h_40 => ?_) (fun h_40 => ?_)
      · skip
        refine J_iconst cx dX8_isGood_51 ?_
        refine J_ws (ws' := [(mo, .inr (8, [.int (iI mc), .int (iI mw), .int (iI mt), .ref as_, .int (iI nb), .ref aw, .int (iI bk), .ref ac, .int (iI lc), .int (iI lw), .int (iI lm), .ref al, .int (iI F), .ref aco, .int (iI rn), .int (iI rc), .ref ars, .int (iI q), .int (iI bg), .int (iI ov), .int (iI (if ov = (0 : Int) then (if po = (0 : Int) then bg else wg) else 8 * F)), .ref acm, .ref ame]))]) (by first | (rw [if_pos h_5, if_pos h_19]; done) | (rw [if_pos h_5, if_neg h_19]; done) | (rw [if_neg h_5]; done)) ?_
        refine J_top (b := (if ov = (0 : Int) ∧ po = (1 : Int) then 1 else 0)) (by split <;> omega) ?_
        exact J_zret cx hr (by split <;> omega) dX8_isGood_52 ⟨rfl, rfl⟩
      · skip
        refine J_iload_n cx dX8_isGood_43 rfl 1 rfl ?_
        refine J_if_eq (tgt := 51) cx dX8_isGood_44 (by decide) (by omega) (fun h_44 => ?_) (fun h_44 => ?_)
        · skip
          refine J_iconst cx dX8_isGood_51 ?_
          refine J_ws (ws' := [(mo, .inr (8, [.int (iI mc), .int (iI mw), .int (iI mt), .ref as_, .int (iI nb), .ref aw, .int (iI bk), .ref ac, .int (iI lc), .int (iI lw), .int (iI lm), .ref al, .int (iI F), .ref aco, .int (iI rn), .int (iI rc), .ref ars, .int (iI q), .int (iI bg), .int (iI ov), .int (iI (if ov = (0 : Int) then (if po = (0 : Int) then bg else wg) else 8 * F)), .ref acm, .ref ame]))]) (by first | (rw [if_pos h_5, if_pos h_19]; done) | (rw [if_pos h_5, if_neg h_19]; done) | (rw [if_neg h_5]; done)) ?_
          refine J_top (b := (if ov = (0 : Int) ∧ po = (1 : Int) then 1 else 0)) (by split <;> omega) ?_
          exact J_zret cx hr (by split <;> omega) dX8_isGood_52 ⟨rfl, rfl⟩
        · skip
          refine J_iconst cx dX8_isGood_47 ?_
          refine J_goto (tgt := 52) cx dX8_isGood_48 (by decide) ?_
          refine J_ws (ws' := [(mo, .inr (8, [.int (iI mc), .int (iI mw), .int (iI mt), .ref as_, .int (iI nb), .ref aw, .int (iI bk), .ref ac, .int (iI lc), .int (iI lw), .int (iI lm), .ref al, .int (iI F), .ref aco, .int (iI rn), .int (iI rc), .ref ars, .int (iI q), .int (iI bg), .int (iI ov), .int (iI (if ov = (0 : Int) then (if po = (0 : Int) then bg else wg) else 8 * F)), .ref acm, .ref ame]))]) (by first | (rw [if_pos h_5, if_pos h_19]; done) | (rw [if_pos h_5, if_neg h_19]; done) | (rw [if_neg h_5]; done)) ?_
          refine J_top (b := (if ov = (0 : Int) ∧ po = (1 : Int) then 1 else 0)) (by split <;> omega) ?_
          exact J_zret cx hr (by split <;> omega) dX8_isGood_52 ⟨rfl, rfl⟩
  · skip
    refine J_bipush cx dX8_isGood_8 (by decide) ?_
    refine J_aload_n cx dX8_isGood_10 rfl 0 rfl ?_
    refine J_get cx inC8 0 rfl rfl 12 (by decide) T494 rfl rfl dX8_isGood_11 ?_
    refine J_imul cx dX8_isGood_14 ?_
    refine J_goto (tgt := 33) cx dX8_isGood_15 (by decide) ?_
    refine J_put (ty := .int) (ws' := [(mo, .inr (8, [.int (iI mc), .int (iI mw), .int (iI mt), .ref as_, .int (iI nb), .ref aw, .int (iI bk), .ref ac, .int (iI lc), .int (iI lw), .int (iI lm), .ref al, .int (iI F), .ref aco, .int (iI rn), .int (iI rc), .ref ars, .int (iI q), .int (iI bg), .int (iI ov), .int (iI (8 * F)), .ref acm, .ref ame]))]) cx inC8 tyX8_ok nmX8 0 rfl rfl 20 (by decide) T502 rfl rfl (by decide +kernel) (rfl) (rfl) (Nat.le_of_ble_eq_true rfl) rfl dX8_isGood_33 ?_
    refine J_aload_n cx dX8_isGood_36 rfl 0 rfl ?_
    refine J_get cx inC8 0 rfl rfl 19 (by decide) T501 rfl rfl dX8_isGood_37 ?_
    refine J_if_ne (tgt := 51) cx dX8_isGood_40 (by decide) (by omega) (fun h_40 => ?_) (fun h_40 => ?_)
    · skip
      refine J_iconst cx dX8_isGood_51 ?_
      refine J_ws (ws' := [(mo, .inr (8, [.int (iI mc), .int (iI mw), .int (iI mt), .ref as_, .int (iI nb), .ref aw, .int (iI bk), .ref ac, .int (iI lc), .int (iI lw), .int (iI lm), .ref al, .int (iI F), .ref aco, .int (iI rn), .int (iI rc), .ref ars, .int (iI q), .int (iI bg), .int (iI ov), .int (iI (if ov = (0 : Int) then (if po = (0 : Int) then bg else wg) else 8 * F)), .ref acm, .ref ame]))]) (by first | (rw [if_pos h_5, if_pos h_19]; done) | (rw [if_pos h_5, if_neg h_19]; done) | (rw [if_neg h_5]; done)) ?_
      refine J_top (b := (if ov = (0 : Int) ∧ po = (1 : Int) then 1 else 0)) (by split <;> omega) ?_
      exact J_zret cx hr (by split <;> omega) dX8_isGood_52 ⟨rfl, rfl⟩
    · skip
      refine J_iload_n cx dX8_isGood_43 rfl 1 rfl ?_
      refine J_if_eq (tgt := 51) cx dX8_isGood_44 (by decide) (by omega) (fun h_44 => ?_) (fun h_44 => ?_)
      · skip
        refine J_iconst cx dX8_isGood_51 ?_
        refine J_ws (ws' := [(mo, .inr (8, [.int (iI mc), .int (iI mw), .int (iI mt), .ref as_, .int (iI nb), .ref aw, .int (iI bk), .ref ac, .int (iI lc), .int (iI lw), .int (iI lm), .ref al, .int (iI F), .ref aco, .int (iI rn), .int (iI rc), .ref ars, .int (iI q), .int (iI bg), .int (iI ov), .int (iI (if ov = (0 : Int) then (if po = (0 : Int) then bg else wg) else 8 * F)), .ref acm, .ref ame]))]) (by first | (rw [if_pos h_5, if_pos h_19]; done) | (rw [if_pos h_5, if_neg h_19]; done) | (rw [if_neg h_5]; done)) ?_
        refine J_top (b := (if ov = (0 : Int) ∧ po = (1 : Int) then 1 else 0)) (by split <;> omega) ?_
        exact J_zret cx hr (by split <;> omega) dX8_isGood_52 ⟨rfl, rfl⟩
      · skip
        refine J_iconst cx dX8_isGood_47 ?_
        refine J_goto (tgt := 52) cx dX8_isGood_48 (by decide) ?_
        refine J_ws (ws' := [(mo, .inr (8, [.int (iI mc), .int (iI mw), .int (iI mt), .ref as_, .int (iI nb), .ref aw, .int (iI bk), .ref ac, .int (iI lc), .int (iI lw), .int (iI lm), .ref al, .int (iI F), .ref aco, .int (iI rn), .int (iI rc), .ref ars, .int (iI q), .int (iI bg), .int (iI ov), .int (iI (if ov = (0 : Int) then (if po = (0 : Int) then bg else wg) else 8 * F)), .ref acm, .ref ame]))]) (by first | (rw [if_pos h_5, if_pos h_19]; done) | (rw [if_pos h_5, if_neg h_19]; done) | (rw [if_neg h_5]; done)) ?_
        refine J_top (b := (if ov = (0 : Int) ∧ po = (1 : Int) then 1 else 0)) (by split <;> omega) ?_
        exact J_zret cx hr (by split <;> omega) dX8_isGood_52 ⟨rfl, rfl⟩
set_option maxHeartbeats 4000000 in
set_option maxRecDepth 100000 in
theorem mX8_hasByte (l : Launch) (X : GX) (mo : Nat) (mc : Int) (mw : Int) (mt : Int) (as_ : Nat) (nb : Int) (aw : Nat) (bk : Int) (ac : Nat) (lc : Int) (lw : Int) (lm : Int) (al : Nat) (F : Int) (aco : Nat) (rn : Int) (rc : Int) (ars : Nat) (q : Int) (bg : Int) (wg : Int) (acm : Nat) (ame : Nat) (b : Int → Int) (du : Int) (hF : 0 ≤ F ∧ F ≤ 3000) (hb : ∀ j, 0 ≤ j → j < F → 0 ≤ b j ∧ b j ≤ 255) (hq : 0 ≤ q ∧ q ≤ (8 * F)) (hdu : 0 ≤ du ∧ du ≤ 255) : Ct l yX8_hasByte cX8_hasByte 4 (some .boolean) 1 21 0 0 X [.ref mo, .int (iI du)] [(mo, .inr (8, [.int (iI mc), .int (iI mw), .int (iI mt), .ref as_, .int (iI nb), .ref aw, .int (iI bk), .ref ac, .int (iI lc), .int (iI lw), .int (iI lm), .ref al, .int (iI F), .ref aco, .int (iI rn), .int (iI rc), .ref ars, .int (iI q), .int (iI bg), .int (iI 0), .int (iI wg), .ref acm, .ref ame])), (aco, .inl (X.2.1, 3000, .inl (aI b)))] (fun v u => ∃ (t' o' : Int), v = some (.int (iI (if nbE b (8 * F) q (-1) du = -1 then 1 else 0))) ∧ u = [(mo, .inr (8, [.int (iI mc), .int (iI mw), .int (iI mt), .ref as_, .int (iI nb), .ref aw, .int (iI bk), .ref ac, .int (iI lc), .int (iI lw), .int (iI lm), .ref al, .int (iI F), .ref aco, .int (iI rn), .int (iI rc), .ref ars, .int (iI t'), .int (iI q), .int (iI o'), .int (iI (if nbE b (8 * F) q (-1) du = -1 then wg else nbE b (8 * F) q (-1) du)), .ref acm, .ref ame])), (aco, .inl (X.2.1, 3000, .inl (aI b)))] ∧ (0 ≤ t' ∧ t' ≤ (8 * F)) ∧ hbR b (8 * F) q du t' o') := by
  refine Ct_of (own := RX8) (lv := [(0, .ref mo), (1, .int (iI du))]) (by decide +kernel) rfl (Nat.le_of_ble_eq_true rfl) rfl ?_
  intro p e s m args below meth c A cx hr hin
  refine J_aload_n cx dX8_hasByte_0 rfl 0 rfl ?_
  refine J_aload_n cx dX8_hasByte_1 rfl 0 rfl ?_
  refine J_get cx inC8 0 rfl rfl 17 (by decide) T499 rfl rfl dX8_hasByte_2 ?_
  refine J_put (ty := .int) (ws' := [(mo, .inr (8, [.int (iI mc), .int (iI mw), .int (iI mt), .ref as_, .int (iI nb), .ref aw, .int (iI bk), .ref ac, .int (iI lc), .int (iI lw), .int (iI lm), .ref al, .int (iI F), .ref aco, .int (iI rn), .int (iI rc), .ref ars, .int (iI q), .int (iI q), .int (iI 0), .int (iI wg), .ref acm, .ref ame])), (aco, .inl (X.2.1, 3000, .inl (aI b)))]) cx inC8 tyX8_ok nmX8 0 rfl rfl 18 (by decide) T500 rfl rfl (by decide +kernel) (rfl) (rfl) (Nat.le_of_ble_eq_true rfl) rfl dX8_hasByte_5 ?_
  refine J_iconst cx dX8_hasByte_8 ?_
  refine J_istore_n (lv' := [(2, .int (iI 0)), (0, .ref mo), (1, .int (iI du))]) cx dX8_hasByte_9 rfl (by decide) rfl ?_
  refine J_iconst cx dX8_hasByte_10 ?_
  refine J_istore_n (lv' := [(3, .int (iI 0)), (2, .int (iI 0)), (0, .ref mo), (1, .int (iI du))]) cx dX8_hasByte_11 rfl (by decide) rfl ?_
  refine J_loop4 (fun (v : Int) (j : Int) (t : Int) (o2 : Int) => [(mo, .inr (8, [.int (iI mc), .int (iI mw), .int (iI mt), .ref as_, .int (iI nb), .ref aw, .int (iI bk), .ref ac, .int (iI lc), .int (iI lw), .int (iI lm), .ref al, .int (iI F), .ref aco, .int (iI rn), .int (iI rc), .ref ars, .int (iI t), .int (iI q), .int (iI o2), .int (iI wg), .ref acm, .ref ame])), (aco, .inl (X.2.1, 3000, .inl (aI b)))]) (fun (v : Int) (j : Int) (t : Int) (o2 : Int) => [(3, .int (iI j)), (2, .int (iI v)), (0, .ref mo), (1, .int (iI du))]) (fun (v : Int) (j : Int) (t : Int) (o2 : Int) => (0 ≤ j ∧ j ≤ 8) ∧ (0 ≤ t ∧ t ≤ (8 * F)) ∧ (0 ≤ v ∧ v < p2 j) ∧ (hbI b (8 * F) q j v t o2)) (fun (v : Int) (j : Int) (t : Int) (o2 : Int) => (8 - j).toNat) 0 0 q 0 ⟨(by omega), (by omega), (by rw [p2_0]; omega), (Or.inl ⟨rfl, by omega, by omega, rfl⟩)⟩ ?_
  intro v j t o2 hI ih_12
  obtain ⟨hj, ht, hv, hI2⟩ := hI
  try dsimp only at hj ht hv hI2
  refine J_iload_n cx dX8_hasByte_12 rfl 0 rfl ?_
  refine J_bipush cx dX8_hasByte_13 (by decide) ?_
  refine J_icmp_ge (tgt := 33) cx dX8_hasByte_15 (by decide) (by omega) (by decide) (fun h_15 => ?_) (fun h_15 => ?_)
  · skip
    rw [show j = 8 by omega] at hI2 hv
    have hend := hb_end (du := du) hI2
    have h28 : p2 8 = 256 := rfl
    have hov : o2 = 0 ∨ o2 = 1 := by rcases hend with h5 | h5; exact Or.inl h5.1; exact Or.inr h5.1
    refine J_aload_n cx dX8_hasByte_33 rfl 2 rfl ?_
    refine J_iload_n cx dX8_hasByte_34 rfl 1 rfl ?_
    refine J_iload_n cx dX8_hasByte_35 rfl 3 rfl ?_
    refine J_icmp_ne (tgt := 43) cx dX8_hasByte_36 (by decide) (by omega) (by omega) (fun h_36 => ?_) (fun h_36 => ?_)
    · skip
      have hne : nbE b (8 * F) q (-1) du = (if o2 = 0 then q else (8 * F)) := by (unfold nbE judgeE; rw [if_pos rfl]; rcases hend with ⟨h5, h6, -⟩ | ⟨h5, h6⟩; (rw [h6, h5, if_pos rfl, if_neg (by omega), if_pos (by omega)]); (rw [h6, h5, if_pos rfl, if_neg (by decide)]))
      refine J_iconst cx dX8_hasByte_43 ?_
      refine J_callV (C := RX8) (T := TX8) (N := 23) cx (As := [.int (iI 0)]) (rest := []) (mX8_isGood l X mo mc mw mt as_ nb aw bk ac lc lw lm al F aco rn rc ars t q o2 wg acm ame 0 (hov) (by omega)) T659 T656 T658 S25 T9 ⟨rfl, hd_X8_isGood⟩ rfl ⟨Nat.le_of_ble_eq_true rfl, Nat.le_of_ble_eq_true rfl⟩ (Nat.le_of_ble_eq_true rfl) ⟨Nat.le_of_ble_eq_true rfl, Nat.le_of_ble_eq_true rfl⟩ [0] [1] rfl rfl rfl rfl rfl (by decide) 0 rfl rfl dX8_hasByte_44 rfl (J_f (ws' := [(mo, .inr (8, [.int (iI mc), .int (iI mw), .int (iI mt), .ref as_, .int (iI nb), .ref aw, .int (iI bk), .ref ac, .int (iI lc), .int (iI lw), .int (iI lm), .ref al, .int (iI F), .ref aco, .int (iI rn), .int (iI rc), .ref ars, .int (iI t), .int (iI q), .int (iI o2), .int (iI (if o2 = (0 : Int) then (if 0 = (0 : Int) then q else wg) else 8 * F)), .ref acm, .ref ame])), (aco, .inl (X.2.1, 3000, .inl (aI b)))]) (st' := [.int (iI (if o2 = (0 : Int) ∧ 0 = (1 : Int) then 1 else 0))]) [1, 0] rfl rfl rfl rfl ?_)
      by_cases ho2 : o2 = 0
      · skip
        subst ho2
        refine J_ws (ws' := [(mo, .inr (8, [.int (iI mc), .int (iI mw), .int (iI mt), .ref as_, .int (iI nb), .ref aw, .int (iI bk), .ref ac, .int (iI lc), .int (iI lw), .int (iI lm), .ref al, .int (iI F), .ref aco, .int (iI rn), .int (iI rc), .ref ars, .int (iI t), .int (iI q), .int (iI 0), .int (iI (if nbE b (8 * F) q (-1) du = -1 then wg else nbE b (8 * F) q (-1) du)), .ref acm, .ref ame])), (aco, .inl (X.2.1, 3000, .inl (aI b)))]) (by rw [show (if 0 = (0 : Int) then (if 0 = (0 : Int) then q else wg) else 8 * F : Int) = if nbE b (8 * F) q (-1) du = -1 then wg else nbE b (8 * F) q (-1) du from by rw [hne]; simp <;> (try split) <;> omega]) ?_
        refine J_top (b := (if nbE b (8 * F) q (-1) du = -1 then 1 else 0)) (by rw [hne]; simp <;> (try split) <;> omega) ?_
        exact J_zret cx hr (by split <;> omega) dX8_hasByte_47 (⟨t, _, rfl, rfl, ht, fun h5 => by rcases hend with ⟨h6, h7, h8, h9⟩ | ⟨h6, -⟩; exact ⟨h8, h6, h9⟩; (rw [hne] at h5; simp at h6 h5 <;> omega)⟩)
      · skip
        have ho3 : o2 = 1 := by omega
        subst ho3
        refine J_ws (ws' := [(mo, .inr (8, [.int (iI mc), .int (iI mw), .int (iI mt), .ref as_, .int (iI nb), .ref aw, .int (iI bk), .ref ac, .int (iI lc), .int (iI lw), .int (iI lm), .ref al, .int (iI F), .ref aco, .int (iI rn), .int (iI rc), .ref ars, .int (iI t), .int (iI q), .int (iI 1), .int (iI (if nbE b (8 * F) q (-1) du = -1 then wg else nbE b (8 * F) q (-1) du)), .ref acm, .ref ame])), (aco, .inl (X.2.1, 3000, .inl (aI b)))]) (by rw [show (if 1 = (0 : Int) then (if 0 = (0 : Int) then q else wg) else 8 * F : Int) = if nbE b (8 * F) q (-1) du = -1 then wg else nbE b (8 * F) q (-1) du from by rw [hne]; simp <;> (try split) <;> omega]) ?_
        refine J_top (b := (if nbE b (8 * F) q (-1) du = -1 then 1 else 0)) (by rw [hne]; simp <;> (try split) <;> omega) ?_
        exact J_zret cx hr (by split <;> omega) dX8_hasByte_47 (⟨t, _, rfl, rfl, ht, fun h5 => by rcases hend with ⟨h6, h7, h8, h9⟩ | ⟨h6, -⟩; exact ⟨h8, h6, h9⟩; (rw [hne] at h5; simp at h6 h5 <;> omega)⟩)
    · skip
      have hne : nbE b (8 * F) q (-1) du = (if o2 = 0 then -1 else (8 * F)) := by (unfold nbE judgeE; rw [if_pos rfl]; rcases hend with ⟨h5, h6, -⟩ | ⟨h5, h6⟩; (rw [h6, h5, if_pos rfl, if_neg (by omega), if_neg (by omega)]); (rw [h6, h5, if_pos rfl, if_neg (by decide)]))
      refine J_iconst cx dX8_hasByte_39 ?_
      refine J_goto (tgt := 44) cx dX8_hasByte_40 (by decide) ?_
      refine J_callV (C := RX8) (T := TX8) (N := 23) cx (As := [.int (iI 1)]) (rest := []) (mX8_isGood l X mo mc mw mt as_ nb aw bk ac lc lw lm al F aco rn rc ars t q o2 wg acm ame 1 (hov) (by omega)) T659 T656 T658 S25 T9 ⟨rfl, hd_X8_isGood⟩ rfl ⟨Nat.le_of_ble_eq_true rfl, Nat.le_of_ble_eq_true rfl⟩ (Nat.le_of_ble_eq_true rfl) ⟨Nat.le_of_ble_eq_true rfl, Nat.le_of_ble_eq_true rfl⟩ [0] [1] rfl rfl rfl rfl rfl (by decide) 0 rfl rfl dX8_hasByte_44 rfl (J_f (ws' := [(mo, .inr (8, [.int (iI mc), .int (iI mw), .int (iI mt), .ref as_, .int (iI nb), .ref aw, .int (iI bk), .ref ac, .int (iI lc), .int (iI lw), .int (iI lm), .ref al, .int (iI F), .ref aco, .int (iI rn), .int (iI rc), .ref ars, .int (iI t), .int (iI q), .int (iI o2), .int (iI (if o2 = (0 : Int) then (if 1 = (0 : Int) then q else wg) else 8 * F)), .ref acm, .ref ame])), (aco, .inl (X.2.1, 3000, .inl (aI b)))]) (st' := [.int (iI (if o2 = (0 : Int) ∧ 1 = (1 : Int) then 1 else 0))]) [1, 0] rfl rfl rfl rfl ?_)
      by_cases ho2 : o2 = 0
      · skip
        subst ho2
        refine J_ws (ws' := [(mo, .inr (8, [.int (iI mc), .int (iI mw), .int (iI mt), .ref as_, .int (iI nb), .ref aw, .int (iI bk), .ref ac, .int (iI lc), .int (iI lw), .int (iI lm), .ref al, .int (iI F), .ref aco, .int (iI rn), .int (iI rc), .ref ars, .int (iI t), .int (iI q), .int (iI 0), .int (iI (if nbE b (8 * F) q (-1) du = -1 then wg else nbE b (8 * F) q (-1) du)), .ref acm, .ref ame])), (aco, .inl (X.2.1, 3000, .inl (aI b)))]) (by rw [show (if 0 = (0 : Int) then (if 1 = (0 : Int) then q else wg) else 8 * F : Int) = if nbE b (8 * F) q (-1) du = -1 then wg else nbE b (8 * F) q (-1) du from by rw [hne]; simp <;> (try split) <;> omega]) ?_
        refine J_top (b := (if nbE b (8 * F) q (-1) du = -1 then 1 else 0)) (by rw [hne]; simp <;> (try split) <;> omega) ?_
        exact J_zret cx hr (by split <;> omega) dX8_hasByte_47 (⟨t, _, rfl, rfl, ht, fun h5 => by rcases hend with ⟨h6, h7, h8, h9⟩ | ⟨h6, -⟩; exact ⟨h8, h6, h9⟩; (rw [hne] at h5; simp at h6 h5 <;> omega)⟩)
      · skip
        have ho3 : o2 = 1 := by omega
        subst ho3
        refine J_ws (ws' := [(mo, .inr (8, [.int (iI mc), .int (iI mw), .int (iI mt), .ref as_, .int (iI nb), .ref aw, .int (iI bk), .ref ac, .int (iI lc), .int (iI lw), .int (iI lm), .ref al, .int (iI F), .ref aco, .int (iI rn), .int (iI rc), .ref ars, .int (iI t), .int (iI q), .int (iI 1), .int (iI (if nbE b (8 * F) q (-1) du = -1 then wg else nbE b (8 * F) q (-1) du)), .ref acm, .ref ame])), (aco, .inl (X.2.1, 3000, .inl (aI b)))]) (by rw [show (if 1 = (0 : Int) then (if 1 = (0 : Int) then q else wg) else 8 * F : Int) = if nbE b (8 * F) q (-1) du = -1 then wg else nbE b (8 * F) q (-1) du from by rw [hne]; simp <;> (try split) <;> omega]) ?_
        refine J_top (b := (if nbE b (8 * F) q (-1) du = -1 then 1 else 0)) (by rw [hne]; simp <;> (try split) <;> omega) ?_
        exact J_zret cx hr (by split <;> omega) dX8_hasByte_47 (⟨t, _, rfl, rfl, ht, fun h5 => by rcases hend with ⟨h6, h7, h8, h9⟩ | ⟨h6, -⟩; exact ⟨h8, h6, h9⟩; (rw [hne] at h5; simp at h6 h5 <;> omega)⟩)
  · skip
    refine J_iconst cx dX8_hasByte_18 ?_
    refine J_iload_n cx dX8_hasByte_19 rfl 1 rfl ?_
    refine J_imul cx dX8_hasByte_20 ?_
    refine J_aload_n cx dX8_hasByte_21 rfl 2 rfl ?_
    refine J_callV (C := RX8) (T := TX8) (N := 23) cx (As := []) (rest := [.int (iI (2 * v))]) (mX8_nextBit l X mo mc mw mt as_ nb aw bk ac lc lw lm al F aco rn rc ars t q o2 wg acm ame b (by omega) (hb) (by omega)) T655 T652 T654 S24 T9 ⟨rfl, hd_X8_nextBit⟩ rfl ⟨Nat.le_of_ble_eq_true rfl, Nat.le_of_ble_eq_true rfl⟩ (Nat.le_of_ble_eq_true rfl) ⟨Nat.le_of_ble_eq_true rfl, Nat.le_of_ble_eq_true rfl⟩ [0, 1] [] rfl rfl rfl rfl rfl (by decide) 0 rfl rfl dX8_hasByte_22 rfl (J_f (ws' := [(mo, .inr (8, [.int (iI mc), .int (iI mw), .int (iI mt), .ref as_, .int (iI nb), .ref aw, .int (iI bk), .ref ac, .int (iI lc), .int (iI lw), .int (iI lm), .ref al, .int (iI F), .ref aco, .int (iI rn), .int (iI rc), .ref ars, .int (iI (if t < (8 * F) then t + 1 else t)), .int (iI q), .int (iI (if t < (8 * F) then o2 else 1)), .int (iI wg), .ref acm, .ref ame])), (aco, .inl (X.2.1, 3000, .inl (aI b)))]) (st' := [.int (iI (if t < (8 * F) then cbit b t else 1)), .int (iI (2 * v))]) [0, 1] rfl rfl rfl rfl ?_)
    by_cases htl : t < (8 * F)
    · skip
      have ho := hbI_t hI2 htl
      subst ho
      have hcb := cbit_01 b t
      refine J_ws (ws' := [(mo, .inr (8, [.int (iI mc), .int (iI mw), .int (iI mt), .ref as_, .int (iI nb), .ref aw, .int (iI bk), .ref ac, .int (iI lc), .int (iI lw), .int (iI lm), .ref al, .int (iI F), .ref aco, .int (iI rn), .int (iI rc), .ref ars, .int (iI (t + 1)), .int (iI q), .int (iI (if t < (8 * F) then 0 else 1)), .int (iI wg), .ref acm, .ref ame])), (aco, .inl (X.2.1, 3000, .inl (aI b)))]) (by rw [show (if t < (8 * F) then t + 1 else t : Int) = t + 1 from if_pos htl]) ?_
      refine J_ws (ws' := [(mo, .inr (8, [.int (iI mc), .int (iI mw), .int (iI mt), .ref as_, .int (iI nb), .ref aw, .int (iI bk), .ref ac, .int (iI lc), .int (iI lw), .int (iI lm), .ref al, .int (iI F), .ref aco, .int (iI rn), .int (iI rc), .ref ars, .int (iI (t + 1)), .int (iI q), .int (iI 0), .int (iI wg), .ref acm, .ref ame])), (aco, .inl (X.2.1, 3000, .inl (aI b)))]) (by rw [show (if t < (8 * F) then 0 else 1 : Int) = 0 from if_pos htl]) ?_
      refine J_top (b := (cbit b t)) (if_pos htl) ?_
      refine J_iadd cx dX8_hasByte_25 ?_
      refine J_istore_n (lv' := [(2, .int (iI ((2 * v) + (cbit b t)))), (3, .int (iI j)), (0, .ref mo), (1, .int (iI du))]) cx dX8_hasByte_26 rfl (by decide) rfl ?_
      refine J_iinc (q := 1) (lv' := [(3, .int (iI (j + 1))), (2, .int (iI ((2 * v) + (cbit b t)))), (0, .ref mo), (1, .int (iI du))]) cx dX8_hasByte_27 rfl (by decide) rfl ?_
      refine J_goto (tgt := 12) cx dX8_hasByte_30 (by decide) ?_
      exact ih_12 ((2 * v) + (cbit b t)) (j + 1) (t + 1) 0 ⟨(by omega), (by omega), (by rw [p2_s hj.1]; omega), (by first | exact hbI_go hI2 hj.1 htl | exact hbI_over hI2 (by omega) htl)⟩ (by omega)
    · skip
      refine J_ws (ws' := [(mo, .inr (8, [.int (iI mc), .int (iI mw), .int (iI mt), .ref as_, .int (iI nb), .ref aw, .int (iI bk), .ref ac, .int (iI lc), .int (iI lw), .int (iI lm), .ref al, .int (iI F), .ref aco, .int (iI rn), .int (iI rc), .ref ars, .int (iI t), .int (iI q), .int (iI (if t < (8 * F) then o2 else 1)), .int (iI wg), .ref acm, .ref ame])), (aco, .inl (X.2.1, 3000, .inl (aI b)))]) (by rw [show (if t < (8 * F) then t + 1 else t : Int) = t from if_neg htl]) ?_
      refine J_ws (ws' := [(mo, .inr (8, [.int (iI mc), .int (iI mw), .int (iI mt), .ref as_, .int (iI nb), .ref aw, .int (iI bk), .ref ac, .int (iI lc), .int (iI lw), .int (iI lm), .ref al, .int (iI F), .ref aco, .int (iI rn), .int (iI rc), .ref ars, .int (iI t), .int (iI q), .int (iI 1), .int (iI wg), .ref acm, .ref ame])), (aco, .inl (X.2.1, 3000, .inl (aI b)))]) (by rw [show (if t < (8 * F) then o2 else 1 : Int) = 1 from if_neg htl]) ?_
      refine J_top (b := 1) (if_neg htl) ?_
      refine J_iadd cx dX8_hasByte_25 ?_
      refine J_istore_n (lv' := [(2, .int (iI ((2 * v) + 1))), (3, .int (iI j)), (0, .ref mo), (1, .int (iI du))]) cx dX8_hasByte_26 rfl (by decide) rfl ?_
      refine J_iinc (q := 1) (lv' := [(3, .int (iI (j + 1))), (2, .int (iI ((2 * v) + 1))), (0, .ref mo), (1, .int (iI du))]) cx dX8_hasByte_27 rfl (by decide) rfl ?_
      refine J_goto (tgt := 12) cx dX8_hasByte_30 (by decide) ?_
      exact ih_12 ((2 * v) + 1) (j + 1) t 1 ⟨(by omega), (by omega), (by rw [p2_s hj.1]; omega), (by first | exact hbI_go hI2 hj.1 htl | exact hbI_over hI2 (by omega) htl)⟩ (by omega)
