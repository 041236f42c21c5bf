set_option maxHeartbeats 4000000 in
set_option maxRecDepth 100000 in
theorem mX8_nextNumber (l : Launch) (X : GX) (mo : Nat) (mc : Int) (mw : Int) (mt : Int) (as_ : Nat) (nb : Int) (aw : Nat) (bk : Int) (ac : Nat) (lc : Int) (lw : Int) (lm : Int) (al : Nat) (F : Int) (aco : Nat) (rn : Int) (rc : Int) (ars : Nat) (q : Int) (bg : Int) (wg : Int) (acm : Nat) (ame : Nat) (b : Int → Int) (k : Int) (hF : 0 ≤ F ∧ F ≤ 3000) (hb : ∀ j, 0 ≤ j → j < F → 0 ≤ b j ∧ b j ≤ 255) (hq : 0 ≤ q ∧ q ≤ (8 * F)) (hk : 0 ≤ k ∧ k ≤ 15) : Ct l yX8_nextNumber cX8_nextNumber 4 (some .int) 1 21 0 0 X [.ref mo, .int (iI k)] [(mo, .inr (8, [.int (iI mc), .int (iI mw), .int (iI mt), .ref as_, .int (iI nb), .ref aw, .int (iI bk), .ref ac, .int (iI lc), .int (iI lw), .int (iI lm), .ref al, .int (iI F), .ref aco, .int (iI rn), .int (iI rc), .ref ars, .int (iI q), .int (iI bg), .int (iI 0), .int (iI wg), .ref acm, .ref ame])), (aco, .inl (X.2.1, 3000, .inl (aI b)))] (fun v u => ∃ (v' t' o' : Int), v = some (.int (iI v')) ∧ u = [(mo, .inr (8, [.int (iI mc), .int (iI mw), .int (iI mt), .ref as_, .int (iI nb), .ref aw, .int (iI bk), .ref ac, .int (iI lc), .int (iI lw), .int (iI lm), .ref al, .int (iI F), .ref aco, .int (iI rn), .int (iI rc), .ref ars, .int (iI t'), .int (iI q), .int (iI o'), .int (iI wg), .ref acm, .ref ame])), (aco, .inl (X.2.1, 3000, .inl (aI b)))] ∧ (0 ≤ v' ∧ v' ≤ 786464767) ∧ (0 ≤ t' ∧ t' ≤ (8 * F)) ∧ nnR b (8 * F) q k v' t' o') := by
  refine Ct_of (own := RX8) (lv := [(0, .ref mo), (1, .int (iI k))]) (by decide +kernel) rfl (Nat.le_of_ble_eq_true rfl) rfl ?_
  intro p e s m args below meth c A cx hr hin
  have hfz := fz_rng b (E := (8 * F)) (q := q) hq.2
  refine J_aload_n cx dX8_nextNumber_0 rfl 0 rfl ?_
  refine J_aload_n cx dX8_nextNumber_1 rfl 0 rfl ?_
  refine J_get cx inC8 0 rfl rfl 17 (by decide) T499 rfl rfl dX8_nextNumber_2 ?_
  refine J_put (ty := .int) (ws' := [(mo, .inr (8, [.int (iI mc), .int (iI mw), .int (iI mt), .ref as_, .int (iI nb), .ref aw, .int (iI bk), .ref ac, .int (iI lc), .int (iI lw), .int (iI lm), .ref al, .int (iI F), .ref aco, .int (iI rn), .int (iI rc), .ref ars, .int (iI q), .int (iI q), .int (iI 0), .int (iI wg), .ref acm, .ref ame])), (aco, .inl (X.2.1, 3000, .inl (aI b)))]) cx inC8 tyX8_ok nmX8 0 rfl rfl 18 (by decide) T500 rfl rfl (by decide +kernel) (rfl) (rfl) (Nat.le_of_ble_eq_true rfl) rfl dX8_nextNumber_5 ?_
  refine J_iconst cx dX8_nextNumber_8 ?_
  refine J_istore_n (lv' := [(2, .int (iI 0)), (0, .ref mo), (1, .int (iI k))]) cx dX8_nextNumber_9 rfl (by decide) rfl ?_
  refine J_loop2 (fun (v : Int) (t : Int) => [(mo, .inr (8, [.int (iI mc), .int (iI mw), .int (iI mt), .ref as_, .int (iI nb), .ref aw, .int (iI bk), .ref ac, .int (iI lc), .int (iI lw), .int (iI lm), .ref al, .int (iI F), .ref aco, .int (iI rn), .int (iI rc), .ref ars, .int (iI t), .int (iI q), .int (iI 0), .int (iI wg), .ref acm, .ref ame])), (aco, .inl (X.2.1, 3000, .inl (aI b)))]) (fun (v : Int) (t : Int) => [(2, .int (iI v)), (0, .ref mo), (1, .int (iI k))]) (fun (v : Int) (t : Int) => (q ≤ t ∧ t ≤ (8 * F)) ∧ (v = t - q) ∧ (fz b (8 * F) t = fz b (8 * F) q)) (fun (v : Int) (t : Int) => ((8 * F) - t).toNat) 0 q ⟨(by omega), (by omega), (rfl)⟩ ?_
  intro v t hI ih_10
  obtain ⟨ht, hvt, htf⟩ := hI
  try dsimp only at ht hvt htf
  refine J_aload_n cx dX8_nextNumber_10 rfl 1 rfl ?_
  refine J_callV (C := RX8) (T := TX8) (N := 23) cx (As := []) (rest := []) (mX8_nextBit l X mo mc mw mt as_ nb aw bk ac lc lw lm al F aco rn rc ars t q 0 wg acm ame b (by omega) (hb) (by omega)) T655 T652 T654 S24 T9 ⟨rfl, hd_X8_nextBit⟩ rfl ⟨Nat.le_of_ble_eq_true rfl, Nat.le_of_ble_eq_true rfl⟩ (Nat.le_of_ble_eq_true rfl) ⟨Nat.le_of_ble_eq_true rfl, Nat.le_of_ble_eq_true rfl⟩ [0, 1] [] rfl rfl rfl rfl rfl (by decide) 0 rfl rfl dX8_nextNumber_11 rfl (J_f (ws' := [(mo, .inr (8, [.int (iI mc), .int (iI mw), .int (iI mt), .ref as_, .int (iI nb), .ref aw, .int (iI bk), .ref ac, .int (iI lc), .int (iI lw), .int (iI lm), .ref al, .int (iI F), .ref aco, .int (iI rn), .int (iI rc), .ref ars, .int (iI (if t < (8 * F) then t + 1 else t)), .int (iI q), .int (iI (if t < (8 * F) then 0 else 1)), .int (iI wg), .ref acm, .ref ame])), (aco, .inl (X.2.1, 3000, .inl (aI b)))]) (st' := [.int (iI (if t < (8 * F) then cbit b t else 1))]) [0, 1] rfl rfl rfl rfl ?_)
  refine J_if_ne (tgt := 23) cx dX8_nextNumber_14 (by decide) (by have := cbit_01 b t; split <;> omega) (fun h_14 => ?_) (fun h_14 => ?_)
  · skip
    have hI0 : lowI b (8 * F) q k 0 v (if t < (8 * F) then t + 1 else t) (if t < (8 * F) then 0 else 1) := by (by_cases h5 : t < (8 * F)); (rw [if_pos h5] at h_14 ⊢; rw [if_pos h5]; have h6 : fz b (8 * F) q = t := (by rw [← htf, fz_one h_14]); exact Or.inl ⟨rfl, by omega, by omega, by rw [p2_0, pk_0, h6]; omega⟩); (rw [if_neg h5, if_neg h5]; have h6 : fz b (8 * F) q = t := (by rw [← htf, fz_end (by omega)]); exact Or.inr ⟨rfl, by omega, by omega⟩)
    have htt : 0 ≤ (if t < (8 * F) then t + 1 else t) ∧ (if t < (8 * F) then t + 1 else t) ≤ (8 * F) := by split <;> omega
    refine J_iconst cx dX8_nextNumber_23 ?_
    refine J_istore_n (lv' := [(3, .int (iI 0)), (2, .int (iI v)), (0, .ref mo), (1, .int (iI k))]) cx dX8_nextNumber_24 rfl (by decide) rfl ?_
    refine J_loop4 (fun (v : Int) (j : Int) (t : Int) (o2 : Int) => [(mo, .inr (8, [.int (iI mc), .int (iI mw), .int (iI mt), .ref as_, .int (iI nb), .ref aw, .int (iI bk), .ref ac, .int (iI lc), .int (iI lw), .int (iI lm), .ref al, .int (iI F), .ref aco, .int (iI rn), .int (iI rc), .ref ars, .int (iI t), .int (iI q), .int (iI o2), .int (iI wg), .ref acm, .ref ame])), (aco, .inl (X.2.1, 3000, .inl (aI b)))]) (fun (v : Int) (j : Int) (t : Int) (o2 : Int) => [(3, .int (iI j)), (2, .int (iI v)), (0, .ref mo), (1, .int (iI k))]) (fun (v : Int) (j : Int) (t : Int) (o2 : Int) => (0 ≤ j ∧ j ≤ k) ∧ (0 ≤ t ∧ t ≤ (8 * F)) ∧ (0 ≤ v ∧ v < 24001 * p2 j) ∧ (lowI b (8 * F) q k j v t o2)) (fun (v : Int) (j : Int) (t : Int) (o2 : Int) => (k - j).toNat) v 0 (if t < (8 * F) then t + 1 else t) (if t < (8 * F) then 0 else 1) ⟨(by omega), (by omega), (by rw [p2_0]; omega), (hI0)⟩ ?_
    intro v j t o2 hI ih_25
    obtain ⟨hj, ht, hv, hI2⟩ := hI
    try dsimp only at hj ht hv hI2
    refine J_iload_n cx dX8_nextNumber_25 rfl 0 rfl ?_
    refine J_iload_n cx dX8_nextNumber_26 rfl 3 rfl ?_
    refine J_icmp_ge (tgt := 45) cx dX8_nextNumber_27 (by decide) (by omega) (by omega) (fun h_27 => ?_) (fun h_27 => ?_)
    · skip
      refine J_iload_n cx dX8_nextNumber_45 rfl 1 rfl ?_
      exact J_iret cx hr dX8_nextNumber_46 (⟨v, t, o2, rfl, rfl, by have h5 := p2_15 hk; have h6 : 24001 * p2 k ≤ 24001 * 32768 := Int.mul_le_mul_of_nonneg_left h5.2 (by decide); rw [show j = k by omega] at hv; omega, ht, low_end hq hk (by rw [show j = k by omega] at hI2; exact hI2)⟩)
    · skip
      refine J_iconst cx dX8_nextNumber_30 ?_
      refine J_iload_n cx dX8_nextNumber_31 rfl 1 rfl ?_
      refine J_imul cx dX8_nextNumber_32 ?_
      refine J_aload_n cx dX8_nextNumber_33 rfl 2 rfl ?_
      refine J_callV (C := RX8) (T := TX8) (N := 23) cx (As := []) (rest := [.int (iI (2 * v))]) (mX8_nextBit l X mo mc mw mt as_ nb aw bk ac lc lw lm al F aco rn rc ars t q o2 wg acm ame b (by omega) (hb) (by omega)) T655 T652 T654 S24 T9 ⟨rfl, hd_X8_nextBit⟩ rfl ⟨Nat.le_of_ble_eq_true rfl, Nat.le_of_ble_eq_true rfl⟩ (Nat.le_of_ble_eq_true rfl) ⟨Nat.le_of_ble_eq_true rfl, Nat.le_of_ble_eq_true rfl⟩ [0, 1] [] rfl rfl rfl rfl rfl (by decide) 0 rfl rfl dX8_nextNumber_34 rfl (J_f (ws' := [(mo, .inr (8, [.int (iI mc), .int (iI mw), .int (iI mt), .ref as_, .int (iI nb), .ref aw, .int (iI bk), .ref ac, .int (iI lc), .int (iI lw), .int (iI lm), .ref al, .int (iI F), .ref aco, .int (iI rn), .int (iI rc), .ref ars, .int (iI (if t < (8 * F) then t + 1 else t)), .int (iI q), .int (iI (if t < (8 * F) then o2 else 1)), .int (iI wg), .ref acm, .ref ame])), (aco, .inl (X.2.1, 3000, .inl (aI b)))]) (st' := [.int (iI (if t < (8 * F) then cbit b t else 1)), .int (iI (2 * v))]) [0, 1] rfl rfl rfl rfl ?_)
      by_cases htl : t < (8 * F)
      · skip
        have ho := low_t hI2 htl
        subst ho
        have hcb := cbit_01 b t
        refine J_ws (ws' := [(mo, .inr (8, [.int (iI mc), .int (iI mw), .int (iI mt), .ref as_, .int (iI nb), .ref aw, .int (iI bk), .ref ac, .int (iI lc), .int (iI lw), .int (iI lm), .ref al, .int (iI F), .ref aco, .int (iI rn), .int (iI rc), .ref ars, .int (iI (t + 1)), .int (iI q), .int (iI (if t < (8 * F) then 0 else 1)), .int (iI wg), .ref acm, .ref ame])), (aco, .inl (X.2.1, 3000, .inl (aI b)))]) (by rw [show (if t < (8 * F) then t + 1 else t : Int) = t + 1 from if_pos htl]) ?_
        refine J_ws (ws' := [(mo, .inr (8, [.int (iI mc), .int (iI mw), .int (iI mt), .ref as_, .int (iI nb), .ref aw, .int (iI bk), .ref ac, .int (iI lc), .int (iI lw), .int (iI lm), .ref al, .int (iI F), .ref aco, .int (iI rn), .int (iI rc), .ref ars, .int (iI (t + 1)), .int (iI q), .int (iI 0), .int (iI wg), .ref acm, .ref ame])), (aco, .inl (X.2.1, 3000, .inl (aI b)))]) (by rw [show (if t < (8 * F) then 0 else 1 : Int) = 0 from if_pos htl]) ?_
        refine J_top (b := (cbit b t)) (if_pos htl) ?_
        refine J_iadd cx dX8_nextNumber_37 ?_
        refine J_istore_n (lv' := [(2, .int (iI ((2 * v) + (cbit b t)))), (3, .int (iI j)), (0, .ref mo), (1, .int (iI k))]) cx dX8_nextNumber_38 rfl (by decide) rfl ?_
        refine J_iinc (q := 1) (lv' := [(3, .int (iI (j + 1))), (2, .int (iI ((2 * v) + (cbit b t)))), (0, .ref mo), (1, .int (iI k))]) cx dX8_nextNumber_39 rfl (by decide) rfl ?_
        refine J_goto (tgt := 25) cx dX8_nextNumber_42 (by decide) ?_
        exact ih_25 ((2 * v) + (cbit b t)) (j + 1) (t + 1) 0 ⟨(by omega), (by omega), (by rw [p2_s hj.1]; omega), (by first | exact low_go hI2 hj.1 htl | exact low_over hI2 (by omega) htl)⟩ (by omega)
      · skip
        refine J_ws (ws' := [(mo, .inr (8, [.int (iI mc), .int (iI mw), .int (iI mt), .ref as_, .int (iI nb), .ref aw, .int (iI bk), .ref ac, .int (iI lc), .int (iI lw), .int (iI lm), .ref al, .int (iI F), .ref aco, .int (iI rn), .int (iI rc), .ref ars, .int (iI t), .int (iI q), .int (iI (if t < (8 * F) then o2 else 1)), .int (iI wg), .ref acm, .ref ame])), (aco, .inl (X.2.1, 3000, .inl (aI b)))]) (by rw [show (if t < (8 * F) then t + 1 else t : Int) = t from if_neg htl]) ?_
        refine J_ws (ws' := [(mo, .inr (8, [.int (iI mc), .int (iI mw), .int (iI mt), .ref as_, .int (iI nb), .ref aw, .int (iI bk), .ref ac, .int (iI lc), .int (iI lw), .int (iI lm), .ref al, .int (iI F), .ref aco, .int (iI rn), .int (iI rc), .ref ars, .int (iI t), .int (iI q), .int (iI 1), .int (iI wg), .ref acm, .ref ame])), (aco, .inl (X.2.1, 3000, .inl (aI b)))]) (by rw [show (if t < (8 * F) then o2 else 1 : Int) = 1 from if_neg htl]) ?_
        refine J_top (b := 1) (if_neg htl) ?_
        refine J_iadd cx dX8_nextNumber_37 ?_
        refine J_istore_n (lv' := [(2, .int (iI ((2 * v) + 1))), (3, .int (iI j)), (0, .ref mo), (1, .int (iI k))]) cx dX8_nextNumber_38 rfl (by decide) rfl ?_
        refine J_iinc (q := 1) (lv' := [(3, .int (iI (j + 1))), (2, .int (iI ((2 * v) + 1))), (0, .ref mo), (1, .int (iI k))]) cx dX8_nextNumber_39 rfl (by decide) rfl ?_
        refine J_goto (tgt := 25) cx dX8_nextNumber_42 (by decide) ?_
        exact ih_25 ((2 * v) + 1) (j + 1) t 1 ⟨(by omega), (by omega), (by rw [p2_s hj.1]; omega), (by first | exact low_go hI2 hj.1 htl | exact low_over hI2 (by omega) htl)⟩ (by omega)
  · skip
    have htl : t < (8 * F) := by (by_cases h5 : t < (8 * F)); (exact h5); (rw [if_neg h5] at h_14; omega)
    have h14 : cbit b t = 0 := by rw [if_pos htl] at h_14; exact h_14
    refine J_ws (ws' := [(mo, .inr (8, [.int (iI mc), .int (iI mw), .int (iI mt), .ref as_, .int (iI nb), .ref aw, .int (iI bk), .ref ac, .int (iI lc), .int (iI lw), .int (iI lm), .ref al, .int (iI F), .ref aco, .int (iI rn), .int (iI rc), .ref ars, .int (iI (t + 1)), .int (iI q), .int (iI (if t < (8 * F) then 0 else 1)), .int (iI wg), .ref acm, .ref ame])), (aco, .inl (X.2.1, 3000, .inl (aI b)))]) (by rw [show (if t < (8 * F) then t + 1 else t : Int) = t + 1 from if_pos htl]) ?_
    refine J_ws (ws' := [(mo, .inr (8, [.int (iI mc), .int (iI mw), .int (iI mt), .ref as_, .int (iI nb), .ref aw, .int (iI bk), .ref ac, .int (iI lc), .int (iI lw), .int (iI lm), .ref al, .int (iI F), .ref aco, .int (iI rn), .int (iI rc), .ref ars, .int (iI (t + 1)), .int (iI q), .int (iI 0), .int (iI wg), .ref acm, .ref ame])), (aco, .inl (X.2.1, 3000, .inl (aI b)))]) (by rw [show (if t < (8 * F) then 0 else 1 : Int) = 0 from if_pos htl]) ?_
    refine J_iinc (q := 0) (lv' := [(2, .int (iI (v + 1))), (0, .ref mo), (1, .int (iI k))]) cx dX8_nextNumber_17 rfl (by decide) rfl ?_
    refine J_goto (tgt := 10) cx dX8_nextNumber_20 (by decide) ?_
    exact ih_10 (v + 1) (t + 1) ⟨(by omega), (by omega), (by rw [← htf, fz_zero htl h14])⟩ (by omega)
