set_option maxHeartbeats 4000000 in
set_option maxRecDepth 100000 in
theorem mX8_settings (l : Launch) (X : GX) (mo : Nat) (mc : Int) (mw : Int) (mt : Int) (as_ : Nat) (nb : Int) (aw : Nat) (bk : Int) (ac : Nat) (lc : Int) (lw : Int) (lm : Int) (al : Nat) (F : Int) (aco : Nat) (rn : Int) (rc : Int) (ars : Nat) (q : Int) (bg : Int) (ov : Int) (wg : Int) (acm : Nat) (ame : Nat) (c2 : Int) (b2 : Int) (h1 : -2147483648 ≤ c2 ∧ c2 < 2147483648) (h2 : -2147483648 ≤ b2 ∧ b2 < 2147483648) : Ct l yX8_settings cX8_settings 3 (some .boolean) 0 0 0 0 X [.ref mo, .int (iI c2), .int (iI b2)] [(mo, .inr (8, [.int (iI mc), .int (iI mw), .int (iI mt), .ref as_, .int (iI nb), .ref aw, .int (iI bk), .ref ac, .int (iI lc), .int (iI lw), .int (iI lm), .ref al, .int (iI F), .ref aco, .int (iI rn), .int (iI rc), .ref ars, .int (iI q), .int (iI bg), .int (iI ov), .int (iI wg), .ref acm, .ref ame]))] (fun1 (some (.int (iI (if 1 ≤ c2 ∧ c2 ≤ 2 ∧ 1 ≤ b2 ∧ b2 ≤ 64 then 1 else 0)))) [(mo, .inr (8, [.int (iI (if 1 ≤ c2 ∧ c2 ≤ 2 ∧ 1 ≤ b2 ∧ b2 ≤ 64 then c2 else mc)), .int (iI (if 1 ≤ c2 ∧ c2 ≤ 2 ∧ 1 ≤ b2 ∧ b2 ≤ 64 then b2 else mw)), .int (iI (if 1 ≤ c2 ∧ c2 ≤ 2 ∧ 1 ≤ b2 ∧ b2 ≤ 64 then 0 else mt)), .ref as_, .int (iI nb), .ref aw, .int (iI bk), .ref ac, .int (iI lc), .int (iI lw), .int (iI lm), .ref al, .int (iI F), .ref aco, .int (iI rn), .int (iI rc), .ref ars, .int (iI q), .int (iI bg), .int (iI ov), .int (iI wg), .ref acm, .ref ame]))]) := by
  refine Ct_of (own := RX8) (lv := [(0, .ref mo), (1, .int (iI c2)), (2, .int (iI b2))]) (by decide +kernel) rfl (Nat.le_of_ble_eq_true rfl) rfl ?_
  intro p e s m args below meth c A cx hr hin
  refine J_iload_n cx dX8_settings_0 rfl 1 rfl ?_
  refine J_iconst cx dX8_settings_1 ?_
  refine J_icmp_lt (tgt := 21) cx dX8_settings_2 (by decide) (by omega) (by decide) (fun h_2 => ?_) (fun h_2 => ?_)
  · skip
    refine J_iconst cx dX8_settings_21 ?_
    refine J_ws (ws' := [(mo, .inr (8, [.int (iI (if 1 ≤ c2 ∧ c2 ≤ 2 ∧ 1 ≤ b2 ∧ b2 ≤ 64 then c2 else mc)), .int (iI (if 1 ≤ c2 ∧ c2 ≤ 2 ∧ 1 ≤ b2 ∧ b2 ≤ 64 then b2 else mw)), .int (iI (if 1 ≤ c2 ∧ c2 ≤ 2 ∧ 1 ≤ b2 ∧ b2 ≤ 64 then 0 else mt)), .ref as_, .int (iI nb), .ref aw, .int (iI bk), .ref ac, .int (iI lc), .int (iI lw), .int (iI lm), .ref al, .int (iI F), .ref aco, .int (iI rn), .int (iI rc), .ref ars, .int (iI q), .int (iI bg), .int (iI ov), .int (iI wg), .ref acm, .ref ame]))]) (by rw [if_neg (by omega), if_neg (by omega), if_neg (by omega)]) ?_
    refine J_top (b := (if 1 ≤ c2 ∧ c2 ≤ 2 ∧ 1 ≤ b2 ∧ b2 ≤ 64 then 1 else 0)) (by split <;> first | rfl | omega) ?_
    exact J_zret cx hr (by split <;> omega) dX8_settings_22 ⟨rfl, rfl⟩
  · skip
    refine J_iload_n cx dX8_settings_5 rfl 1 rfl ?_
    refine J_iconst cx dX8_settings_6 ?_
    refine J_icmp_gt (tgt := 21) cx dX8_settings_7 (by decide) (by omega) (by decide) (fun h_7 => ?_) (fun h_7 => ?_)
    · skip
      refine J_iconst cx dX8_settings_21 ?_
      refine J_ws (ws' := [(mo, .inr (8, [.int (iI (if 1 ≤ c2 ∧ c2 ≤ 2 ∧ 1 ≤ b2 ∧ b2 ≤ 64 then c2 else mc)), .int (iI (if 1 ≤ c2 ∧ c2 ≤ 2 ∧ 1 ≤ b2 ∧ b2 ≤ 64 then b2 else mw)), .int (iI (if 1 ≤ c2 ∧ c2 ≤ 2 ∧ 1 ≤ b2 ∧ b2 ≤ 64 then 0 else mt)), .ref as_, .int (iI nb), .ref aw, .int (iI bk), .ref ac, .int (iI lc), .int (iI lw), .int (iI lm), .ref al, .int (iI F), .ref aco, .int (iI rn), .int (iI rc), .ref ars, .int (iI q), .int (iI bg), .int (iI ov), .int (iI wg), .ref acm, .ref ame]))]) (by rw [if_neg (by omega), if_neg (by omega), if_neg (by omega)]) ?_
      refine J_top (b := (if 1 ≤ c2 ∧ c2 ≤ 2 ∧ 1 ≤ b2 ∧ b2 ≤ 64 then 1 else 0)) (by split <;> first | rfl | omega) ?_
      exact J_zret cx hr (by split <;> omega) dX8_settings_22 ⟨rfl, rfl⟩
    · skip
      refine J_iload_n cx dX8_settings_10 rfl 2 rfl ?_
      refine J_iconst cx dX8_settings_11 ?_
      refine J_icmp_lt (tgt := 21) cx dX8_settings_12 (by decide) (by omega) (by decide) (fun h_12 => ?_) (fun h_12 => ?_)
      · skip
        refine J_iconst cx dX8_settings_21 ?_
        refine J_ws (ws' := [(mo, .inr (8, [.int (iI (if 1 ≤ c2 ∧ c2 ≤ 2 ∧ 1 ≤ b2 ∧ b2 ≤ 64 then c2 else mc)), .int (iI (if 1 ≤ c2 ∧ c2 ≤ 2 ∧ 1 ≤ b2 ∧ b2 ≤ 64 then b2 else mw)), .int (iI (if 1 ≤ c2 ∧ c2 ≤ 2 ∧ 1 ≤ b2 ∧ b2 ≤ 64 then 0 else mt)), .ref as_, .int (iI nb), .ref aw, .int (iI bk), .ref ac, .int (iI lc), .int (iI lw), .int (iI lm), .ref al, .int (iI F), .ref aco, .int (iI rn), .int (iI rc), .ref ars, .int (iI q), .int (iI bg), .int (iI ov), .int (iI wg), .ref acm, .ref ame]))]) (by rw [if_neg (by omega), if_neg (by omega), if_neg (by omega)]) ?_
        refine J_top (b := (if 1 ≤ c2 ∧ c2 ≤ 2 ∧ 1 ≤ b2 ∧ b2 ≤ 64 then 1 else 0)) (by split <;> first | rfl | omega) ?_
        exact J_zret cx hr (by split <;> omega) dX8_settings_22 ⟨rfl, rfl⟩
      · skip
        refine J_iload_n cx dX8_settings_15 rfl 2 rfl ?_
        refine J_bipush cx dX8_settings_16 (by decide) ?_
        refine J_icmp_le (tgt := 23) cx dX8_settings_18 (by decide) (by omega) (by decide) (fun h_18 => ?_) (fun h_18 => ?_)
        · skip
          refine J_aload_n cx dX8_settings_23 rfl 0 rfl ?_
          refine J_iload_n cx dX8_settings_24 rfl 1 rfl ?_
          refine J_put (ty := .int) (ws' := [(mo, .inr (8, [.int (iI c2), .int (iI mw), .int (iI mt), .ref as_, .int (iI nb), .ref aw, .int (iI bk), .ref ac, .int (iI lc), .int (iI lw), .int (iI lm), .ref al, .int (iI F), .ref aco, .int (iI rn), .int (iI rc), .ref ars, .int (iI q), .int (iI bg), .int (iI ov), .int (iI wg), .ref acm, .ref ame]))]) cx inC8 tyX8_ok nmX8 0 rfl rfl 0 (by decide) T482 rfl rfl (by decide +kernel) (rfl) (rfl) (Nat.le_of_ble_eq_true rfl) rfl dX8_settings_25 ?_
          refine J_aload_n cx dX8_settings_28 rfl 0 rfl ?_
          refine J_iload_n cx dX8_settings_29 rfl 2 rfl ?_
          refine J_put (ty := .int) (ws' := [(mo, .inr (8, [.int (iI c2), .int (iI b2), .int (iI mt), .ref as_, .int (iI nb), .ref aw, .int (iI bk), .ref ac, .int (iI lc), .int (iI lw), .int (iI lm), .ref al, .int (iI F), .ref aco, .int (iI rn), .int (iI rc), .ref ars, .int (iI q), .int (iI bg), .int (iI ov), .int (iI wg), .ref acm, .ref ame]))]) cx inC8 tyX8_ok nmX8 0 rfl rfl 1 (by decide) T483 rfl rfl (by decide +kernel) (rfl) (rfl) (Nat.le_of_ble_eq_true rfl) rfl dX8_settings_30 ?_
          refine J_aload_n cx dX8_settings_33 rfl 0 rfl ?_
          refine J_iconst cx dX8_settings_34 ?_
          refine J_put (ty := .int) (ws' := [(mo, .inr (8, [.int (iI c2), .int (iI b2), .int (iI 0), .ref as_, .int (iI nb), .ref aw, .int (iI bk), .ref ac, .int (iI lc), .int (iI lw), .int (iI lm), .ref al, .int (iI F), .ref aco, .int (iI rn), .int (iI rc), .ref ars, .int (iI q), .int (iI bg), .int (iI ov), .int (iI wg), .ref acm, .ref ame]))]) cx inC8 tyX8_ok nmX8 0 rfl rfl 2 (by decide) T484 rfl rfl (by decide +kernel) (rfl) (rfl) (Nat.le_of_ble_eq_true rfl) rfl dX8_settings_35 ?_
          refine J_iconst cx dX8_settings_38 ?_
          refine J_ws (ws' := [(mo, .inr (8, [.int (iI (if 1 ≤ c2 ∧ c2 ≤ 2 ∧ 1 ≤ b2 ∧ b2 ≤ 64 then c2 else mc)), .int (iI (if 1 ≤ c2 ∧ c2 ≤ 2 ∧ 1 ≤ b2 ∧ b2 ≤ 64 then b2 else mw)), .int (iI (if 1 ≤ c2 ∧ c2 ≤ 2 ∧ 1 ≤ b2 ∧ b2 ≤ 64 then 0 else mt)), .ref as_, .int (iI nb), .ref aw, .int (iI bk), .ref ac, .int (iI lc), .int (iI lw), .int (iI lm), .ref al, .int (iI F), .ref aco, .int (iI rn), .int (iI rc), .ref ars, .int (iI q), .int (iI bg), .int (iI ov), .int (iI wg), .ref acm, .ref ame]))]) (by rw [if_pos (by omega), if_pos (by omega), if_pos (by omega)]) ?_
          refine J_top (b := (if 1 ≤ c2 ∧ c2 ≤ 2 ∧ 1 ≤ b2 ∧ b2 ≤ 64 then 1 else 0)) (by split <;> first | rfl | omega) ?_
          exact J_zret cx hr (by split <;> omega) dX8_settings_39 ⟨rfl, rfl⟩
        · skip
          refine J_iconst cx dX8_settings_21 ?_
          refine J_ws (ws' := [(mo, .inr (8, [.int (iI (if 1 ≤ c2 ∧ c2 ≤ 2 ∧ 1 ≤ b2 ∧ b2 ≤ 64 then c2 else mc)), .int (iI (if 1 ≤ c2 ∧ c2 ≤ 2 ∧ 1 ≤ b2 ∧ b2 ≤ 64 then b2 else mw)), .int (iI (if 1 ≤ c2 ∧ c2 ≤ 2 ∧ 1 ≤ b2 ∧ b2 ≤ 64 then 0 else mt)), .ref as_, .int (iI nb), .ref aw, .int (iI bk), .ref ac, .int (iI lc), .int (iI lw), .int (iI lm), .ref al, .int (iI F), .ref aco, .int (iI rn), .int (iI rc), .ref ars, .int (iI q), .int (iI bg), .int (iI ov), .int (iI wg), .ref acm, .ref ame]))]) (by rw [if_neg (by omega), if_neg (by omega), if_neg (by omega)]) ?_
          refine J_top (b := (if 1 ≤ c2 ∧ c2 ≤ 2 ∧ 1 ≤ b2 ∧ b2 ≤ 64 then 1 else 0)) (by split <;> first | rfl | omega) ?_
          exact J_zret cx hr (by split <;> omega) dX8_settings_22 ⟨rfl, rfl⟩
set_option maxHeartbeats 4000000 in
set_option maxRecDepth 100000 in
theorem mX8_sample (l : Launch) (X : GX) (mo : Nat) (mc : Int) (mw : Int) (mt : Int) (as_ : Nat) (nb : Int) (aw : Nat) (bk : Int) (ac : Nat) (lc : Int) (lw : Int) (lm : Int) (al : Nat) (F : Int) (aco : Nat) (rn : Int) (rc : Int) (ars : Nat) (q : Int) (bg : Int) (ov : Int) (wg : Int) (acm : Nat) (ame : Nat) (tf : Int → Int) (v : Int) (hc : 1 ≤ mc ∧ mc ≤ 2) (hn : 0 ≤ mt ∧ mt ≤ 400 * mc) (hv : -2147483648 ≤ v ∧ v < 2147483648) : Ct l yX8_sample cX8_sample 2 (some .int) 0 0 0 0 X [.ref mo, .int (iI v)] [(mo, .inr (8, [.int (iI mc), .int (iI mw), .int (iI mt), .ref as_, .int (iI nb), .ref aw, .int (iI bk), .ref ac, .int (iI lc), .int (iI lw), .int (iI lm), .ref al, .int (iI F), .ref aco, .int (iI rn), .int (iI rc), .ref ars, .int (iI q), .int (iI bg), .int (iI ov), .int (iI wg), .ref acm, .ref ame])), (as_, .inl (X.2.1, 800, .inl (aI tf)))] (fun1 (some (.int (iI (if (-32768 ≤ v ∧ v ≤ 32767) ∧ mt < mc * 400 then mt + 1 else -1)))) [(mo, .inr (8, [.int (iI mc), .int (iI mw), .int (iI (if (-32768 ≤ v ∧ v ≤ 32767) ∧ mt < mc * 400 then mt + 1 else mt)), .ref as_, .int (iI nb), .ref aw, .int (iI bk), .ref ac, .int (iI lc), .int (iI lw), .int (iI lm), .ref al, .int (iI F), .ref aco, .int (iI rn), .int (iI rc), .ref ars, .int (iI q), .int (iI bg), .int (iI ov), .int (iI wg), .ref acm, .ref ame])), (as_, .inl (X.2.1, 800, .inl (aI (if (-32768 ≤ v ∧ v ≤ 32767) ∧ mt < mc * 400 then upI tf mt v else tf))))]) := by
  refine Ct_of (own := RX8) (lv := [(0, .ref mo), (1, .int (iI v))]) (by decide +kernel) rfl (Nat.le_of_ble_eq_true rfl) rfl ?_
  intro p e s m args below meth c A cx hr hin
  refine J_iload_n cx dX8_sample_0 rfl 1 rfl ?_
  refine J_sipush cx dX8_sample_1 (by decide) ?_
  refine J_icmp_lt (tgt := 29) cx dX8_sample_4 (by decide) (by omega) (by decide) (fun h_4 => ?_) (fun h_4 => ?_)
  · skip
    refine J_iconst cx dX8_sample_29 ?_
    refine J_ws (ws' := [(mo, .inr (8, [.int (iI mc), .int (iI mw), .int (iI (if (-32768 ≤ v ∧ v ≤ 32767) ∧ mt < mc * 400 then mt + 1 else mt)), .ref as_, .int (iI nb), .ref aw, .int (iI bk), .ref ac, .int (iI lc), .int (iI lw), .int (iI lm), .ref al, .int (iI F), .ref aco, .int (iI rn), .int (iI rc), .ref ars, .int (iI q), .int (iI bg), .int (iI ov), .int (iI wg), .ref acm, .ref ame])), (as_, .inl (X.2.1, 800, .inl (aI (if (-32768 ≤ v ∧ v ≤ 32767) ∧ mt < mc * 400 then upI tf mt v else tf))))]) (by rw [if_neg (by omega), if_neg (by omega)]) ?_
    refine J_top (b := (if (-32768 ≤ v ∧ v ≤ 32767) ∧ mt < mc * 400 then mt + 1 else -1)) (by rw [if_neg (by omega)]) ?_
    exact J_iret cx hr dX8_sample_30 ⟨rfl, rfl⟩
  · skip
    refine J_iload_n cx dX8_sample_7 rfl 1 rfl ?_
    refine J_sipush cx dX8_sample_8 (by decide) ?_
    refine J_icmp_gt (tgt := 29) cx dX8_sample_11 (by decide) (by omega) (by decide) (fun h_11 => ?_) (fun h_11 => ?_)
    · skip
      refine J_iconst cx dX8_sample_29 ?_
      refine J_ws (ws' := [(mo, .inr (8, [.int (iI mc), .int (iI mw), .int (iI (if (-32768 ≤ v ∧ v ≤ 32767) ∧ mt < mc * 400 then mt + 1 else mt)), .ref as_, .int (iI nb), .ref aw, .int (iI bk), .ref ac, .int (iI lc), .int (iI lw), .int (iI lm), .ref al, .int (iI F), .ref aco, .int (iI rn), .int (iI rc), .ref ars, .int (iI q), .int (iI bg), .int (iI ov), .int (iI wg), .ref acm, .ref ame])), (as_, .inl (X.2.1, 800, .inl (aI (if (-32768 ≤ v ∧ v ≤ 32767) ∧ mt < mc * 400 then upI tf mt v else tf))))]) (by rw [if_neg (by omega), if_neg (by omega)]) ?_
      refine J_top (b := (if (-32768 ≤ v ∧ v ≤ 32767) ∧ mt < mc * 400 then mt + 1 else -1)) (by rw [if_neg (by omega)]) ?_
      exact J_iret cx hr dX8_sample_30 ⟨rfl, rfl⟩
    · skip
      refine J_aload_n cx dX8_sample_14 rfl 0 rfl ?_
      refine J_get cx inC8 0 rfl rfl 2 (by decide) T484 rfl rfl dX8_sample_15 ?_
      refine J_sipush cx dX8_sample_18 (by decide) ?_
      refine J_aload_n cx dX8_sample_21 rfl 0 rfl ?_
      refine J_get cx inC8 0 rfl rfl 0 (by decide) T482 rfl rfl dX8_sample_22 ?_
      refine J_imul cx dX8_sample_25 ?_
      refine J_icmp_ne (tgt := 31) cx dX8_sample_26 (by decide) (by omega) (by omega) (fun h_26 => ?_) (fun h_26 => ?_)
      · skip
        refine J_aload_n cx dX8_sample_31 rfl 0 rfl ?_
        refine J_get cx inC8 0 rfl rfl 3 (by decide) T485 rfl rfl dX8_sample_32 ?_
        refine J_aload_n cx dX8_sample_35 rfl 0 rfl ?_
        refine J_get cx inC8 0 rfl rfl 2 (by decide) T484 rfl rfl dX8_sample_36 ?_
        refine J_iload_n cx dX8_sample_39 rfl 1 rfl ?_
        refine J_iast (ws' := [(mo, .inr (8, [.int (iI mc), .int (iI mw), .int (iI mt), .ref as_, .int (iI nb), .ref aw, .int (iI bk), .ref ac, .int (iI lc), .int (iI lw), .int (iI lm), .ref al, .int (iI F), .ref aco, .int (iI rn), .int (iI rc), .ref ars, .int (iI q), .int (iI bg), .int (iI ov), .int (iI wg), .ref acm, .ref ame])), (as_, .inl (X.2.1, 800, .inl (aI (upI tf mt v))))]) cx 1 rfl (by omega) (by decide) rfl dX8_sample_40 ?_
        refine J_aload_n cx dX8_sample_41 rfl 0 rfl ?_
        refine J_dup cx dX8_sample_42 rfl ?_
        refine J_get cx inC8 0 rfl rfl 2 (by decide) T484 rfl rfl dX8_sample_43 ?_
        refine J_iconst cx dX8_sample_46 ?_
        refine J_iadd cx dX8_sample_47 ?_
        refine J_put (ty := .int) (ws' := [(mo, .inr (8, [.int (iI mc), .int (iI mw), .int (iI (mt + 1)), .ref as_, .int (iI nb), .ref aw, .int (iI bk), .ref ac, .int (iI lc), .int (iI lw), .int (iI lm), .ref al, .int (iI F), .ref aco, .int (iI rn), .int (iI rc), .ref ars, .int (iI q), .int (iI bg), .int (iI ov), .int (iI wg), .ref acm, .ref ame])), (as_, .inl (X.2.1, 800, .inl (aI (upI tf mt v))))]) cx inC8 tyX8_ok nmX8 0 rfl rfl 2 (by decide) T484 rfl rfl (by decide +kernel) (rfl) (rfl) (Nat.le_of_ble_eq_true rfl) rfl dX8_sample_48 ?_
        refine J_aload_n cx dX8_sample_51 rfl 0 rfl ?_
        refine J_get cx inC8 0 rfl rfl 2 (by decide) T484 rfl rfl dX8_sample_52 ?_
        refine J_ws (ws' := [(mo, .inr (8, [.int (iI mc), .int (iI mw), .int (iI (if (-32768 ≤ v ∧ v ≤ 32767) ∧ mt < mc * 400 then mt + 1 else mt)), .ref as_, .int (iI nb), .ref aw, .int (iI bk), .ref ac, .int (iI lc), .int (iI lw), .int (iI lm), .ref al, .int (iI F), .ref aco, .int (iI rn), .int (iI rc), .ref ars, .int (iI q), .int (iI bg), .int (iI ov), .int (iI wg), .ref acm, .ref ame])), (as_, .inl (X.2.1, 800, .inl (aI (if (-32768 ≤ v ∧ v ≤ 32767) ∧ mt < mc * 400 then upI tf mt v else tf))))]) (by rw [if_pos (by omega), if_pos (by omega)]) ?_
        refine J_top (b := (if (-32768 ≤ v ∧ v ≤ 32767) ∧ mt < mc * 400 then mt + 1 else -1)) (by rw [if_pos (by omega)]) ?_
        exact J_iret cx hr dX8_sample_55 ⟨rfl, rfl⟩
      · skip
        refine J_iconst cx dX8_sample_29 ?_
        refine J_ws (ws' := [(mo, .inr (8, [.int (iI mc), .int (iI mw), .int (iI (if (-32768 ≤ v ∧ v ≤ 32767) ∧ mt < mc * 400 then mt + 1 else mt)), .ref as_, .int (iI nb), .ref aw, .int (iI bk), .ref ac, .int (iI lc), .int (iI lw), .int (iI lm), .ref al, .int (iI F), .ref aco, .int (iI rn), .int (iI rc), .ref ars, .int (iI q), .int (iI bg), .int (iI ov), .int (iI wg), .ref acm, .ref ame])), (as_, .inl (X.2.1, 800, .inl (aI (if (-32768 ≤ v ∧ v ≤ 32767) ∧ mt < mc * 400 then upI tf mt v else tf))))]) (by rw [if_neg (by omega), if_neg (by omega)]) ?_
        refine J_top (b := (if (-32768 ≤ v ∧ v ≤ 32767) ∧ mt < mc * 400 then mt + 1 else -1)) (by rw [if_neg (by omega)]) ?_
        exact J_iret cx hr dX8_sample_30 ⟨rfl, rfl⟩
set_option maxHeartbeats 4000000 in
set_option maxRecDepth 100000 in
theorem mX8_forgetMeans (l : Launch) (X : GX) (mo : Nat) (mc : Int) (mw : Int) (mt : Int) (as_ : Nat) (nb : Int) (aw : Nat) (bk : Int) (ac : Nat) (lc : Int) (lw : Int) (lm : Int) (al : Nat) (F : Int) (aco : Nat) (rn : Int) (rc : Int) (ars : Nat) (q : Int) (bg : Int) (ov : Int) (wg : Int) (acm : Nat) (ame : Nat) (me : Int → Int) : Ct l yX8_forgetMeans cX8_forgetMeans 2 none 0 0 0 0 X [.ref mo] [(mo, .inr (8, [.int (iI mc), .int (iI mw), .int (iI mt), .ref as_, .int (iI nb), .ref aw, .int (iI bk), .ref ac, .int (iI lc), .int (iI lw), .int (iI lm), .ref al, .int (iI F), .ref aco, .int (iI rn), .int (iI rc), .ref ars, .int (iI q), .int (iI bg), .int (iI ov), .int (iI wg), .ref acm, .ref ame])), (ame, .inl (X.2.1, 8, .inl (aI me)))] (fun1 none [(mo, .inr (8, [.int (iI mc), .int (iI mw), .int (iI mt), .ref as_, .int (iI nb), .ref aw, .int (iI bk), .ref ac, .int (iI lc), .int (iI lw), .int (iI lm), .ref al, .int (iI F), .ref aco, .int (iI rn), .int (iI rc), .ref ars, .int (iI q), .int (iI bg), .int (iI ov), .int (iI wg), .ref acm, .ref ame])), (ame, .inl (X.2.1, 8, .inl (aI (ovr (fun _ => 0) me 8))))]) := by
  refine Ct_of (own := RX8) (lv := [(0, .ref mo)]) (by decide +kernel) rfl (Nat.le_of_ble_eq_true rfl) rfl ?_
  intro p e s m args below meth c A cx hr hin
  refine J_iconst cx dX8_forgetMeans_0 ?_
  refine J_istore_n (lv' := [(1, .int (iI 0)), (0, .ref mo)]) cx dX8_forgetMeans_1 rfl (by decide) rfl ?_
  refine J_loop2 (fun (j : Int) (m2 : Int → Int) => [(mo, .inr (8, [.int (iI mc), .int (iI mw), .int (iI mt), .ref as_, .int (iI nb), .ref aw, .int (iI bk), .ref ac, .int (iI lc), .int (iI lw), .int (iI lm), .ref al, .int (iI F), .ref aco, .int (iI rn), .int (iI rc), .ref ars, .int (iI q), .int (iI bg), .int (iI ov), .int (iI wg), .ref acm, .ref ame])), (ame, .inl (X.2.1, 8, .inl (aI m2)))]) (fun (j : Int) (m2 : Int → Int) => [(1, .int (iI j)), (0, .ref mo)]) (fun (j : Int) (m2 : Int → Int) => (0 ≤ j ∧ j ≤ 8) ∧ (m2 = ovr (fun _ => 0) me j)) (fun (j : Int) (m2 : Int → Int) => (8 - j).toNat) 0 me ⟨(by omega), ((ovr_0 _ _).symm)⟩ ?_
  intro j m2 hI ih_2
  obtain ⟨hj, hm2⟩ := hI
  try dsimp only at hj hm2
  refine J_iload_n cx dX8_forgetMeans_2 rfl 0 rfl ?_
  refine J_bipush cx dX8_forgetMeans_3 (by decide) ?_
  refine J_icmp_ge (tgt := 21) cx dX8_forgetMeans_5 (by decide) (by omega) (by decide) (fun h_5 => ?_) (fun h_5 => ?_)
  · skip
    refine J_ws (ws' := [(mo, .inr (8, [.int (iI mc), .int (iI mw), .int (iI mt), .ref as_, .int (iI nb), .ref aw, .int (iI bk), .ref ac, .int (iI lc), .int (iI lw), .int (iI lm), .ref al, .int (iI F), .ref aco, .int (iI rn), .int (iI rc), .ref ars, .int (iI q), .int (iI bg), .int (iI ov), .int (iI wg), .ref acm, .ref ame])), (ame, .inl (X.2.1, 8, .inl (aI (ovr (fun _ => 0) me 8))))]) (by rw [← show (m2) = ovr (fun _ => 0) me 8 from by rw [hm2, show j = 8 by omega]]) ?_
    exact J_vret cx hr dX8_forgetMeans_21 ⟨rfl, rfl⟩
  · skip
    refine J_aload_n cx dX8_forgetMeans_8 rfl 1 rfl ?_
    refine J_get cx inC8 0 rfl rfl 22 (by decide) T504 rfl rfl dX8_forgetMeans_9 ?_
    refine J_iload_n cx dX8_forgetMeans_12 rfl 0 rfl ?_
    refine J_iconst cx dX8_forgetMeans_13 ?_
    refine J_iast (ws' := [(mo, .inr (8, [.int (iI mc), .int (iI mw), .int (iI mt), .ref as_, .int (iI nb), .ref aw, .int (iI bk), .ref ac, .int (iI lc), .int (iI lw), .int (iI lm), .ref al, .int (iI F), .ref aco, .int (iI rn), .int (iI rc), .ref ars, .int (iI q), .int (iI bg), .int (iI ov), .int (iI wg), .ref acm, .ref ame])), (ame, .inl (X.2.1, 8, .inl (aI (upI m2 j 0))))]) cx 1 rfl (by omega) (by decide) rfl dX8_forgetMeans_14 ?_
    refine J_iinc (q := 0) (lv' := [(1, .int (iI (j + 1))), (0, .ref mo)]) cx dX8_forgetMeans_15 rfl (by decide) rfl ?_
    refine J_goto (tgt := 2) cx dX8_forgetMeans_18 (by decide) ?_
    exact ih_2 (j + 1) (upI m2 j 0) ⟨(by omega), (by rw [hm2]; exact ovr_s (g := fun _ => 0) hj.1)⟩ (by omega)
set_option maxHeartbeats 4000000 in
set_option maxRecDepth 100000 in
theorem mX8_rounded (l : Launch) (X : GX) (sm : Int) (k : Int) (hs : -1000000000 ≤ sm ∧ sm < 1000000000) (hk : 1 ≤ k ∧ k < 1000000) : Ct l yX8_rounded cX8_rounded 7 (some .int) 0 0 0 0 X [.long (lI sm), .int (iI k)] [] (fun1 (some (.int (iI (rmean sm k)))) []) := by
  refine Ct_of (own := RX8) (lv := [(0, .long (lI sm)), (2, .int (iI k))]) (by decide +kernel) rfl (Nat.le_of_ble_eq_true rfl) rfl ?_
  intro p e s m args below meth c A cx hr hin
  have htl := tdiv_le (a := sm + k / 2) (b := k) (by omega) (by omega)
  have hfd := fdiv_of (a := sm + k / 2) (b := k) (by omega)
  refine J_lload_n cx dX8_rounded_0 rfl 0 rfl ?_
  refine J_iload_n cx dX8_rounded_1 rfl 1 rfl ?_
  refine J_iconst cx dX8_rounded_2 ?_
  refine J_idiv cx dX8_rounded_3 (by omega) (by omega) ?_
  refine J_i2l cx dX8_rounded_4 (by omega) ?_
  refine J_ladd cx dX8_rounded_5 ?_
  refine J_lstore_n (lv' := [(3, .long (lI (sm + (k / 2)))), (0, .long (lI sm)), (2, .int (iI k))]) cx dX8_rounded_6 rfl (by decide) rfl ?_
  refine J_lload_n cx dX8_rounded_7 rfl 0 rfl ?_
  refine J_iload_n cx dX8_rounded_8 rfl 2 rfl ?_
  refine J_i2l cx dX8_rounded_9 (by omega) ?_
  refine J_ldiv cx dX8_rounded_10 (by omega) (by omega) ?_
  refine J_lstore (lv' := [(5, .long (lI (Int.tdiv (sm + (k / 2)) k))), (3, .long (lI (sm + (k / 2)))), (0, .long (lI sm)), (2, .int (iI k))]) cx dX8_rounded_11 (by decide) rfl ?_
  refine J_lload cx dX8_rounded_13 0 rfl ?_
  refine J_iload_n cx dX8_rounded_15 rfl 3 rfl ?_
  refine J_i2l cx dX8_rounded_16 (by omega) ?_
  refine J_lmul cx dX8_rounded_17 ?_
  refine J_lload_n cx dX8_rounded_18 rfl 1 rfl ?_
  refine J_lcmp cx dX8_rounded_19 (by omega) (by omega) ?_
  refine J_if_le (tgt := 30) cx dX8_rounded_20 (by decide) (cmpI_rng _ _) (fun h_20 => ?_) (fun h_20 => ?_)
  · skip
    have hle := cmpI_le.mp h_20
    refine J_lload cx dX8_rounded_30 0 rfl ?_
    refine J_l2i cx dX8_rounded_32 ?_
    refine J_top (b := (rmean sm k)) (by unfold rmean; first | (rw [← hfd, if_neg (by omega)]; done) | (rw [← hfd, if_pos (by omega)]; done)) ?_
    exact J_iret cx hr dX8_rounded_33 ⟨rfl, rfl⟩
  · skip
    have hle : ¬ Int.tdiv (sm + k / 2) k * k ≤ sm + k / 2 := fun h5 => h_20 (cmpI_le.mpr h5)
    refine J_lload cx dX8_rounded_23 0 rfl ?_
    refine J_lconst (z := 1) cx dX8_rounded_25 (by decide) ?_
    refine J_lsub cx dX8_rounded_26 ?_
    refine J_goto (tgt := 32) cx dX8_rounded_27 (by decide) ?_
    refine J_l2i cx dX8_rounded_32 ?_
    refine J_top (b := (rmean sm k)) (by unfold rmean; first | (rw [← hfd, if_neg (by omega)]; done) | (rw [← hfd, if_pos (by omega)]; done)) ?_
    exact J_iret cx hr dX8_rounded_33 ⟨rfl, rfl⟩
set_option maxHeartbeats 4000000 in
set_option maxRecDepth 100000 in
theorem mX8_meanOf (l : Launch) (X : GX) (mo : Nat) (mc : Int) (mw : Int) (mt : Int) (as_ : Nat) (nb : Int) (aw : Nat) (bk : Int) (ac : Nat) (lc : Int) (lw : Int) (lm : Int) (al : Nat) (F : Int) (aco : Nat) (rn : Int) (rc : Int) (ars : Nat) (q : Int) (bg : Int) (ov : Int) (wg : Int) (acm : Nat) (ame : Nat) (me : Int → Int) (c2 : Int) (hme : ∀ j, -32768 ≤ me j ∧ me j ≤ 32767) (hc2 : 0 ≤ c2 ∧ c2 ≤ 1) : Ct l yX8_meanOf cX8_meanOf 2 (some .int) 1 26 0 0 X [.ref mo, .int (iI c2)] [(mo, .inr (8, [.int (iI mc), .int (iI mw), .int (iI mt), .ref as_, .int (iI nb), .ref aw, .int (iI bk), .ref ac, .int (iI lc), .int (iI lw), .int (iI lm), .ref al, .int (iI F), .ref aco, .int (iI rn), .int (iI rc), .ref ars, .int (iI q), .int (iI bg), .int (iI ov), .int (iI wg), .ref acm, .ref ame])), (ame, .inl (X.2.1, 8, .inl (aI me)))] (fun1 (some (.int (iI (mean4 me c2)))) [(mo, .inr (8, [.int (iI mc), .int (iI mw), .int (iI mt), .ref as_, .int (iI nb), .ref aw, .int (iI bk), .ref ac, .int (iI lc), .int (iI lw), .int (iI lm), .ref al, .int (iI F), .ref aco, .int (iI rn), .int (iI rc), .ref ars, .int (iI q), .int (iI bg), .int (iI ov), .int (iI wg), .ref acm, .ref ame])), (ame, .inl (X.2.1, 8, .inl (aI me)))]) := by
  refine Ct_of (own := RX8) (lv := [(0, .ref mo), (1, .int (iI c2))]) (by decide +kernel) rfl (Nat.le_of_ble_eq_true rfl) rfl ?_
  intro p e s m args below meth c A cx hr hin
  have hm0 := hme (4 * c2)
  have hm1 := hme (4 * c2 + 1)
  have hm2 := hme (4 * c2 + 2)
  have hm3 := hme (4 * c2 + 3)
  refine J_aload_n cx dX8_meanOf_0 rfl 0 rfl ?_
  refine J_get cx inC8 0 rfl rfl 22 (by decide) T504 rfl rfl dX8_meanOf_1 ?_
  refine J_iconst cx dX8_meanOf_4 ?_
  refine J_iload_n cx dX8_meanOf_5 rfl 1 rfl ?_
  refine J_imul cx dX8_meanOf_6 ?_
  refine J_iald cx 1 rfl (by omega) (by decide) dX8_meanOf_7 ?_
  refine J_i2l cx dX8_meanOf_8 (by omega) ?_
  refine J_aload_n cx dX8_meanOf_9 rfl 0 rfl ?_
  refine J_get cx inC8 0 rfl rfl 22 (by decide) T504 rfl rfl dX8_meanOf_10 ?_
  refine J_iconst cx dX8_meanOf_13 ?_
  refine J_iload_n cx dX8_meanOf_14 rfl 1 rfl ?_
  refine J_imul cx dX8_meanOf_15 ?_
  refine J_iconst cx dX8_meanOf_16 ?_
  refine J_iadd cx dX8_meanOf_17 ?_
  refine J_iald cx 1 rfl (by omega) (by decide) dX8_meanOf_18 ?_
  refine J_i2l cx dX8_meanOf_19 (by omega) ?_
  refine J_ladd cx dX8_meanOf_20 ?_
  refine J_aload_n cx dX8_meanOf_21 rfl 0 rfl ?_
  refine J_get cx inC8 0 rfl rfl 22 (by decide) T504 rfl rfl dX8_meanOf_22 ?_
  refine J_iconst cx dX8_meanOf_25 ?_
  refine J_iload_n cx dX8_meanOf_26 rfl 1 rfl ?_
  refine J_imul cx dX8_meanOf_27 ?_
  refine J_iconst cx dX8_meanOf_28 ?_
  refine J_iadd cx dX8_meanOf_29 ?_
  refine J_iald cx 1 rfl (by omega) (by decide) dX8_meanOf_30 ?_
  refine J_i2l cx dX8_meanOf_31 (by omega) ?_
  refine J_ladd cx dX8_meanOf_32 ?_
  refine J_aload_n cx dX8_meanOf_33 rfl 0 rfl ?_
  refine J_get cx inC8 0 rfl rfl 22 (by decide) T504 rfl rfl dX8_meanOf_34 ?_
  refine J_iconst cx dX8_meanOf_37 ?_
  refine J_iload_n cx dX8_meanOf_38 rfl 1 rfl ?_
  refine J_imul cx dX8_meanOf_39 ?_
  refine J_iconst cx dX8_meanOf_40 ?_
  refine J_iadd cx dX8_meanOf_41 ?_
  refine J_iald cx 1 rfl (by omega) (by decide) dX8_meanOf_42 ?_
  refine J_i2l cx dX8_meanOf_43 (by omega) ?_
  refine J_ladd cx dX8_meanOf_44 ?_
  refine J_iconst cx dX8_meanOf_45 ?_
  refine J_callS cx (As := [.long (lI ((((me (4 * c2)) + (me ((4 * c2) + 1))) + (me ((4 * c2) + 2))) + (me ((4 * c2) + 3)))), .int (iI 4)]) (rest := []) (mX8_rounded l X ((((me (4 * c2)) + (me ((4 * c2) + 1))) + (me ((4 * c2) + 2))) + (me ((4 * c2) + 3))) 4 (by omega) (by omega)) T586 T584 T585 T9 hd_X8_rounded rfl ⟨Nat.le_of_ble_eq_true rfl, Nat.le_of_ble_eq_true rfl⟩ (Nat.le_of_ble_eq_true rfl) ⟨Nat.le_of_ble_eq_true rfl, Nat.le_of_ble_eq_true rfl⟩ [] [0, 1] rfl rfl rfl rfl rfl (by decide) dX8_meanOf_46 rfl (J_f (ws' := [(mo, .inr (8, [.int (iI mc), .int (iI mw), .int (iI mt), .ref as_, .int (iI nb), .ref aw, .int (iI bk), .ref ac, .int (iI lc), .int (iI lw), .int (iI lm), .ref al, .int (iI F), .ref aco, .int (iI rn), .int (iI rc), .ref ars, .int (iI q), .int (iI bg), .int (iI ov), .int (iI wg), .ref acm, .ref ame])), (ame, .inl (X.2.1, 8, .inl (aI me)))]) (st' := [.int (iI (rmean ((((me (4 * c2)) + (me ((4 * c2) + 1))) + (me ((4 * c2) + 2))) + (me ((4 * c2) + 3))) 4))]) [0, 1] rfl rfl rfl rfl ?_)
  refine J_top (b := (mean4 me c2)) (rfl) ?_
  exact J_iret cx hr dX8_meanOf_49 ⟨rfl, rfl⟩
set_option maxHeartbeats 4000000 in
set_option maxRecDepth 100000 in
theorem mX8_noteMean (l : Launch) (X : GX) (mo : Nat) (mc : Int) (mw : Int) (mt : Int) (as_ : Nat) (nb : Int) (aw : Nat) (bk : Int) (ac : Nat) (lc : Int) (lw : Int) (lm : Int) (al : Nat) (F : Int) (aco : Nat) (rn : Int) (rc : Int) (ars : Nat) (q : Int) (bg : Int) (ov : Int) (wg : Int) (acm : Nat) (ame : Nat) (me : Int → Int) (c2 : Int) (sm : Int) (k : Int) (hme : ∀ j, -32768 ≤ me j ∧ me j ≤ 32767) (hc2 : 0 ≤ c2 ∧ c2 ≤ 1) (hs : -1000000000 ≤ sm ∧ sm < 1000000000) (hk : 1 ≤ k ∧ k < 1000000) : Ct l yX8_noteMean cX8_noteMean 6 none 1 26 0 0 X [.ref mo, .int (iI c2), .long (lI sm), .int (iI k)] [(mo, .inr (8, [.int (iI mc), .int (iI mw), .int (iI mt), .ref as_, .int (iI nb), .ref aw, .int (iI bk), .ref ac, .int (iI lc), .int (iI lw), .int (iI lm), .ref al, .int (iI F), .ref aco, .int (iI rn), .int (iI rc), .ref ars, .int (iI q), .int (iI bg), .int (iI ov), .int (iI wg), .ref acm, .ref ame])), (ame, .inl (X.2.1, 8, .inl (aI me)))] (fun1 none [(mo, .inr (8, [.int (iI mc), .int (iI mw), .int (iI mt), .ref as_, .int (iI nb), .ref aw, .int (iI bk), .ref ac, .int (iI lc), .int (iI lw), .int (iI lm), .ref al, .int (iI F), .ref aco, .int (iI rn), .int (iI rc), .ref ars, .int (iI q), .int (iI bg), .int (iI ov), .int (iI wg), .ref acm, .ref ame])), (ame, .inl (X.2.1, 8, .inl (aI (noted me c2 (rmean sm k)))))]) := by
  refine Ct_of (own := RX8) (lv := [(0, .ref mo), (1, .int (iI c2)), (2, .long (lI sm)), (4, .int (iI k))]) (by decide +kernel) rfl (Nat.le_of_ble_eq_true rfl) rfl ?_
  intro p e s m args below meth c A cx hr hin
  refine J_iconst cx dX8_noteMean_0 ?_
  refine J_iload_n cx dX8_noteMean_1 rfl 1 rfl ?_
  refine J_imul cx dX8_noteMean_2 ?_
  refine J_istore (lv' := [(5, .int (iI (4 * c2))), (0, .ref mo), (1, .int (iI c2)), (2, .long (lI sm)), (4, .int (iI k))]) cx dX8_noteMean_3 (by decide) rfl ?_
  refine J_loop2 (fun (j : Int) (m2 : Int → Int) => [(mo, .inr (8, [.int (iI mc), .int (iI mw), .int (iI mt), .ref as_, .int (iI nb), .ref aw, .int (iI bk), .ref ac, .int (iI lc), .int (iI lw), .int (iI lm), .ref al, .int (iI F), .ref aco, .int (iI rn), .int (iI rc), .ref ars, .int (iI q), .int (iI bg), .int (iI ov), .int (iI wg), .ref acm, .ref ame])), (ame, .inl (X.2.1, 8, .inl (aI m2)))]) (fun (j : Int) (m2 : Int → Int) => [(5, .int (iI j)), (0, .ref mo), (1, .int (iI c2)), (2, .long (lI sm)), (4, .int (iI k))]) (fun (j : Int) (m2 : Int → Int) => (4 * c2 ≤ j ∧ j ≤ 4 * c2 + 3) ∧ (m2 = shf me (4 * c2) j)) (fun (j : Int) (m2 : Int → Int) => (4 * c2 + 3 - j).toNat) (4 * c2) me ⟨(by omega), ((shf_0 _ _).symm)⟩ ?_
  intro j m2 hI ih_5
  obtain ⟨hj, hm2⟩ := hI
  try dsimp only at hj hm2
  refine J_iload cx dX8_noteMean_5 0 rfl ?_
  refine J_iconst cx dX8_noteMean_7 ?_
  refine J_iload_n cx dX8_noteMean_8 rfl 2 rfl ?_
  refine J_imul cx dX8_noteMean_9 ?_
  refine J_iconst cx dX8_noteMean_10 ?_
  refine J_iadd cx dX8_noteMean_11 ?_
  refine J_icmp_ge (tgt := 37) cx dX8_noteMean_12 (by decide) (by omega) (by omega) (fun h_12 => ?_) (fun h_12 => ?_)
  · skip
    refine J_aload_n cx dX8_noteMean_37 rfl 1 rfl ?_
    refine J_get cx inC8 0 rfl rfl 22 (by decide) T504 rfl rfl dX8_noteMean_38 ?_
    refine J_iconst cx dX8_noteMean_41 ?_
    refine J_iload_n cx dX8_noteMean_42 rfl 2 rfl ?_
    refine J_imul cx dX8_noteMean_43 ?_
    refine J_iconst cx dX8_noteMean_44 ?_
    refine J_iadd cx dX8_noteMean_45 ?_
    refine J_lload_n cx dX8_noteMean_46 rfl 3 rfl ?_
    refine J_iload cx dX8_noteMean_47 4 rfl ?_
    refine J_callS cx (As := [.long (lI sm), .int (iI k)]) (rest := [.int (iI ((4 * c2) + 3)), .ref ame]) (mX8_rounded l X sm k (by omega) (by omega)) T586 T584 T585 T9 hd_X8_rounded rfl ⟨Nat.le_of_ble_eq_true rfl, Nat.le_of_ble_eq_true rfl⟩ (Nat.le_of_ble_eq_true rfl) ⟨Nat.le_of_ble_eq_true rfl, Nat.le_of_ble_eq_true rfl⟩ [] [0, 1] rfl rfl rfl rfl rfl (by decide) dX8_noteMean_49 rfl (J_f (ws' := [(mo, .inr (8, [.int (iI mc), .int (iI mw), .int (iI mt), .ref as_, .int (iI nb), .ref aw, .int (iI bk), .ref ac, .int (iI lc), .int (iI lw), .int (iI lm), .ref al, .int (iI F), .ref aco, .int (iI rn), .int (iI rc), .ref ars, .int (iI q), .int (iI bg), .int (iI ov), .int (iI wg), .ref acm, .ref ame])), (ame, .inl (X.2.1, 8, .inl (aI m2)))]) (st' := [.int (iI (rmean sm k)), .int (iI ((4 * c2) + 3)), .ref ame]) [0, 1] rfl rfl rfl rfl ?_)
    refine J_iast (ws' := [(mo, .inr (8, [.int (iI mc), .int (iI mw), .int (iI mt), .ref as_, .int (iI nb), .ref aw, .int (iI bk), .ref ac, .int (iI lc), .int (iI lw), .int (iI lm), .ref al, .int (iI F), .ref aco, .int (iI rn), .int (iI rc), .ref ars, .int (iI q), .int (iI bg), .int (iI ov), .int (iI wg), .ref acm, .ref ame])), (ame, .inl (X.2.1, 8, .inl (aI (upI m2 ((4 * c2) + 3) (rmean sm k)))))]) cx 1 rfl (by omega) (by decide) rfl dX8_noteMean_52 ?_
    refine J_ws (ws' := [(mo, .inr (8, [.int (iI mc), .int (iI mw), .int (iI mt), .ref as_, .int (iI nb), .ref aw, .int (iI bk), .ref ac, .int (iI lc), .int (iI lw), .int (iI lm), .ref al, .int (iI F), .ref aco, .int (iI rn), .int (iI rc), .ref ars, .int (iI q), .int (iI bg), .int (iI ov), .int (iI wg), .ref acm, .ref ame])), (ame, .inl (X.2.1, 8, .inl (aI (noted me c2 (rmean sm k)))))]) (by rw [← show (upI m2 ((4 * c2) + 3) (rmean sm k)) = noted me c2 (rmean sm k) from by rw [hm2, show j = 4 * c2 + 3 by omega]; rfl]) ?_
    exact J_vret cx hr dX8_noteMean_53 ⟨rfl, rfl⟩
  · skip
    refine J_aload_n cx dX8_noteMean_15 rfl 1 rfl ?_
    refine J_get cx inC8 0 rfl rfl 22 (by decide) T504 rfl rfl dX8_noteMean_16 ?_
    refine J_iload cx dX8_noteMean_19 0 rfl ?_
    refine J_aload_n cx dX8_noteMean_21 rfl 1 rfl ?_
    refine J_get cx inC8 0 rfl rfl 22 (by decide) T504 rfl rfl dX8_noteMean_22 ?_
    refine J_iload cx dX8_noteMean_25 0 rfl ?_
    refine J_iconst cx dX8_noteMean_27 ?_
    refine J_iadd cx dX8_noteMean_28 ?_
    refine J_iald cx 1 rfl (by omega) (by decide) dX8_noteMean_29 ?_
    refine J_iast (ws' := [(mo, .inr (8, [.int (iI mc), .int (iI mw), .int (iI mt), .ref as_, .int (iI nb), .ref aw, .int (iI bk), .ref ac, .int (iI lc), .int (iI lw), .int (iI lm), .ref al, .int (iI F), .ref aco, .int (iI rn), .int (iI rc), .ref ars, .int (iI q), .int (iI bg), .int (iI ov), .int (iI wg), .ref acm, .ref ame])), (ame, .inl (X.2.1, 8, .inl (aI (upI m2 j (m2 (j + 1))))))]) cx 1 rfl (by omega) (by decide) rfl dX8_noteMean_30 ?_
    refine J_iinc (q := 0) (lv' := [(5, .int (iI (j + 1))), (0, .ref mo), (1, .int (iI c2)), (2, .long (lI sm)), (4, .int (iI k))]) cx dX8_noteMean_31 rfl (by decide) rfl ?_
    refine J_goto (tgt := 5) cx dX8_noteMean_34 (by decide) ?_
    exact ih_5 (j + 1) (upI m2 j (m2 (j + 1))) ⟨(by omega), (by rw [hm2]; exact shf_s hj.1)⟩ (by omega)
set_option maxHeartbeats 4000000 in
set_option maxRecDepth 100000 in
theorem mX8_before (l : Launch) (X : GX) (ra : Nat) (f : Int → Int) (i : Int) (many : Int) (st_ : Int) (hi : 0 ≤ i ∧ i < 800) (hm : 1 ≤ many ∧ many ≤ 2) (hs : 1 ≤ st_ ∧ st_ ≤ 3) : Ct l yX8_before cX8_before 5 (some .int) 0 0 0 0 X [.ref ra, .int (iI i), .int (iI many), .int (iI st_)] [(ra, .inl (X.2.1, 800, .inl (aI f)))] (fun1 (some (.int (iI (bef f (i - many * st_))))) [(ra, .inl (X.2.1, 800, .inl (aI f)))]) := by
  refine Ct_of (own := RX8) (lv := [(0, .ref ra), (1, .int (iI i)), (2, .int (iI many)), (3, .int (iI st_))]) (by decide +kernel) rfl (Nat.le_of_ble_eq_true rfl) rfl ?_
  intro p e s m args below meth c A cx hr hin
  have hp : 1 * 1 ≤ many * st_ := Int.mul_le_mul hm.1 hs.1 (by decide) (by omega)
  have hp2 : many * st_ ≤ 2 * 3 := Int.mul_le_mul hm.2 hs.2 (by omega) (by decide)
  refine J_iload_n cx dX8_before_0 rfl 1 rfl ?_
  refine J_iload_n cx dX8_before_1 rfl 2 rfl ?_
  refine J_iload_n cx dX8_before_2 rfl 3 rfl ?_
  refine J_imul cx dX8_before_3 ?_
  refine J_isub cx dX8_before_4 ?_
  refine J_istore (lv' := [(4, .int (iI (i - (many * st_)))), (0, .ref ra), (1, .int (iI i)), (2, .int (iI many)), (3, .int (iI st_))]) cx dX8_before_5 (by decide) rfl ?_
  refine J_iload cx dX8_before_7 0 rfl ?_
  refine J_if_ge (tgt := 16) cx dX8_before_9 (by decide) (by omega) (fun h_9 => ?_) (fun h_9 => ?_)
  · skip
    refine J_aload_n cx dX8_before_16 rfl 1 rfl ?_
    refine J_iload cx dX8_before_17 0 rfl ?_
    refine J_iald cx 0 rfl (by omega) (by decide) dX8_before_19 ?_
    refine J_top (b := (bef f (i - many * st_))) (by unfold bef; split <;> first | rfl | omega) ?_
    exact J_iret cx hr dX8_before_20 ⟨rfl, rfl⟩
  · skip
    refine J_iconst cx dX8_before_12 ?_
    refine J_goto (tgt := 20) cx dX8_before_13 (by decide) ?_
    refine J_top (b := (bef f (i - many * st_))) (by unfold bef; split <;> first | rfl | omega) ?_
    exact J_iret cx hr dX8_before_20 ⟨rfl, rfl⟩
set_option maxHeartbeats 4000000 in
set_option maxRecDepth 100000 in
theorem mX8_ahead (l : Launch) (X : GX) (fn : Int) (ra : Nat) (f : Int → Int) (pl : Int) (ch : Int) (mu : Int) (hfn : 0 ≤ fn ∧ fn ≤ 3) (hp : 0 ≤ pl ∧ pl < 800) (hc : 1 ≤ ch ∧ ch ≤ 2) : Ct l yX8_ahead cX8_ahead 8 (some .int) 1 24 0 0 X [.int (iI fn), .ref ra, .int (iI pl), .int (iI ch), .int (iI mu)] [(ra, .inl (X.2.1, 800, .inl (aI f)))] (fun1 (some (.int (iI (tah f ch fn pl mu)))) [(ra, .inl (X.2.1, 800, .inl (aI f)))]) := by
  refine Ct_of (own := RX8) (lv := [(0, .int (iI fn)), (1, .ref ra), (2, .int (iI pl)), (3, .int (iI ch)), (4, .int (iI mu))]) (by decide +kernel) rfl (Nat.le_of_ble_eq_true rfl) rfl ?_
  intro p e s m args below meth c A cx hr hin
  have e1 : pl - ch * 1 = pl - ch := by omega
  have e2 : pl - ch * 2 = pl - 2 * ch := by omega
  have e3 : pl - ch * 3 = pl - 3 * ch := by omega
  refine J_aload_n cx dX8_ahead_0 rfl 1 rfl ?_
  refine J_iload_n cx dX8_ahead_1 rfl 2 rfl ?_
  refine J_iload_n cx dX8_ahead_2 rfl 3 rfl ?_
  refine J_iconst cx dX8_ahead_3 ?_
  refine J_callS cx (As := [.ref ra, .int (iI pl), .int (iI ch), .int (iI 1)]) (rest := []) (mX8_before l X ra f pl ch 1 (by omega) (by omega) (by omega)) T611 T609 T610 T9 hd_X8_before rfl ⟨Nat.le_of_ble_eq_true rfl, Nat.le_of_ble_eq_true rfl⟩ (Nat.le_of_ble_eq_true rfl) ⟨Nat.le_of_ble_eq_true rfl, Nat.le_of_ble_eq_true rfl⟩ [0] [] rfl rfl rfl rfl rfl (by decide) dX8_ahead_4 rfl (J_f (ws' := [(ra, .inl (X.2.1, 800, .inl (aI f)))]) (st' := [.int (iI (bef f (pl - ch * 1)))]) [0] rfl rfl rfl rfl ?_)
  refine J_istore (lv' := [(5, .int (iI (bef f (pl - ch * 1)))), (0, .int (iI fn)), (1, .ref ra), (2, .int (iI pl)), (3, .int (iI ch)), (4, .int (iI mu))]) cx dX8_ahead_7 (by decide) rfl ?_
  refine J_aload_n cx dX8_ahead_9 rfl 2 rfl ?_
  refine J_iload_n cx dX8_ahead_10 rfl 3 rfl ?_
  refine J_iload_n cx dX8_ahead_11 rfl 4 rfl ?_
  refine J_iconst cx dX8_ahead_12 ?_
  refine J_callS cx (As := [.ref ra, .int (iI pl), .int (iI ch), .int (iI 2)]) (rest := []) (mX8_before l X ra f pl ch 2 (by omega) (by omega) (by omega)) T611 T609 T610 T9 hd_X8_before rfl ⟨Nat.le_of_ble_eq_true rfl, Nat.le_of_ble_eq_true rfl⟩ (Nat.le_of_ble_eq_true rfl) ⟨Nat.le_of_ble_eq_true rfl, Nat.le_of_ble_eq_true rfl⟩ [0] [] rfl rfl rfl rfl rfl (by decide) dX8_ahead_13 rfl (J_f (ws' := [(ra, .inl (X.2.1, 800, .inl (aI f)))]) (st' := [.int (iI (bef f (pl - ch * 2)))]) [0] rfl rfl rfl rfl ?_)
  refine J_istore (lv' := [(6, .int (iI (bef f (pl - ch * 2)))), (5, .int (iI (bef f (pl - ch * 1)))), (0, .int (iI fn)), (1, .ref ra), (2, .int (iI pl)), (3, .int (iI ch)), (4, .int (iI mu))]) cx dX8_ahead_16 (by decide) rfl ?_
  refine J_aload_n cx dX8_ahead_18 rfl 3 rfl ?_
  refine J_iload_n cx dX8_ahead_19 rfl 4 rfl ?_
  refine J_iload_n cx dX8_ahead_20 rfl 5 rfl ?_
  refine J_iconst cx dX8_ahead_21 ?_
  refine J_callS cx (As := [.ref ra, .int (iI pl), .int (iI ch), .int (iI 3)]) (rest := []) (mX8_before l X ra f pl ch 3 (by omega) (by omega) (by omega)) T611 T609 T610 T9 hd_X8_before rfl ⟨Nat.le_of_ble_eq_true rfl, Nat.le_of_ble_eq_true rfl⟩ (Nat.le_of_ble_eq_true rfl) ⟨Nat.le_of_ble_eq_true rfl, Nat.le_of_ble_eq_true rfl⟩ [0] [] rfl rfl rfl rfl rfl (by decide) dX8_ahead_22 rfl (J_f (ws' := [(ra, .inl (X.2.1, 800, .inl (aI f)))]) (st' := [.int (iI (bef f (pl - ch * 3)))]) [0] rfl rfl rfl rfl ?_)
  refine J_istore (lv' := [(7, .int (iI (bef f (pl - ch * 3)))), (6, .int (iI (bef f (pl - ch * 2)))), (5, .int (iI (bef f (pl - ch * 1)))), (0, .int (iI fn)), (1, .ref ra), (2, .int (iI pl)), (3, .int (iI ch)), (4, .int (iI mu))]) cx dX8_ahead_25 (by decide) rfl ?_
  refine J_iload_n cx dX8_ahead_27 rfl 3 rfl ?_
  have hsw_28 : fn = 0 ∨ fn = 1 ∨ fn = 2 ∨ (fn < 0 ∨ 2 < fn) := by omega
  rcases hsw_28 with h_28 | h_28 | h_28 | h_28
  · skip
    refine J_tin (k := 0) (tgt := 56) cx dX8_ahead_28 (by omega) h_28 rfl (by decide) (by decide) (by decide) ?_
    refine J_iload cx dX8_ahead_56 7 rfl ?_
    refine J_top (b := (tah f ch fn pl mu)) (by unfold tah; rw [if_neg (by omega), if_neg (by omega), if_neg (by omega)]) ?_
    exact J_iret cx hr dX8_ahead_58 ⟨rfl, rfl⟩
  · skip
    refine J_tin (k := 1) (tgt := 59) cx dX8_ahead_28 (by omega) h_28 rfl (by decide) (by decide) (by decide) ?_
    refine J_iload cx dX8_ahead_59 2 rfl ?_
    refine J_top (b := (tah f ch fn pl mu)) (by unfold tah; rw [if_pos h_28, e1]) ?_
    exact J_iret cx hr dX8_ahead_61 ⟨rfl, rfl⟩
  · skip
    refine J_tin (k := 2) (tgt := 62) cx dX8_ahead_28 (by omega) h_28 rfl (by decide) (by decide) (by decide) ?_
    refine J_iconst cx dX8_ahead_62 ?_
    refine J_iload cx dX8_ahead_63 2 rfl ?_
    refine J_imul cx dX8_ahead_65 ?_
    refine J_iload cx dX8_ahead_66 1 rfl ?_
    refine J_isub cx dX8_ahead_68 ?_
    refine J_top (b := (tah f ch fn pl mu)) (by unfold tah; rw [if_neg (by omega), if_pos h_28, e1, e2]) ?_
    exact J_iret cx hr dX8_ahead_69 ⟨rfl, rfl⟩
  · skip
    refine J_tout (tgt := 70) cx dX8_ahead_28 (by omega) h_28 (by decide) ?_
    refine J_iconst cx dX8_ahead_70 ?_
    refine J_iload cx dX8_ahead_71 2 rfl ?_
    refine J_imul cx dX8_ahead_73 ?_
    refine J_iconst cx dX8_ahead_74 ?_
    refine J_iload cx dX8_ahead_75 1 rfl ?_
    refine J_imul cx dX8_ahead_77 ?_
    refine J_isub cx dX8_ahead_78 ?_
    refine J_iload cx dX8_ahead_79 0 rfl ?_
    refine J_iadd cx dX8_ahead_81 ?_
    refine J_top (b := (tah f ch fn pl mu)) (by unfold tah; rw [if_neg (by omega), if_neg (by omega), if_pos (by omega), e1, e2, e3]) ?_
    exact J_iret cx hr dX8_ahead_82 ⟨rfl, rfl⟩
