set_option maxHeartbeats 4000000 in
set_option maxRecDepth 100000 in
theorem mX8_cost (l : Launch) (X : GX) (mo : Nat) (mc : Int) (mw : Int) (mt : Int) (as_ : Nat) (nb : Int) (aw : Nat) (bk : Int) (ac : Nat) (lc : Int) (lw : Int) (lm : Int) (al : Nat) (F : Int) (aco : Nat) (rn : Int) (rc : Int) (ars : Nat) (q : Int) (bg : Int) (ov : Int) (wg : Int) (acm : Nat) (ame : Nat) (f : Int → Int) (me : Int → Int) (i : Int) (fn : Int) (k : Int) (hst : 0 < bk → (1 ≤ lc ∧ lc ≤ 2) ∧ (1 ≤ lw ∧ lw ≤ 64) ∧ (0 ≤ lm ∧ lm ≤ 400)) (hbk : 0 ≤ bk ∧ bk ≤ 800) (hblk : ∀ i, 0 ≤ i → i < bk → 0 ≤ i / lc * lw ∧ i / lc * lw < lm) (hf : ∀ j, -32768 ≤ f j ∧ f j ≤ 32767) (hme : ∀ j, -32768 ≤ me j ∧ me j ≤ 32767) (hi0 : -2147483648 ≤ i ∧ i < 2147483648) (hfn0 : -2147483648 ≤ fn ∧ fn < 2147483648) (hk0 : -2147483648 ≤ k ∧ k < 2147483648) : Ct l yX8_cost cX8_cost 10 (some .int) 3 79 0 0 X [.ref mo, .int (iI i), .int (iI fn), .int (iI k)] [(mo, .inr (8, [.int (iI mc), .int (iI mw), .int (iI mt), .ref as_, .int (iI nb), .ref aw, .int (iI bk), .ref ac, .int (iI lc), .int (iI lw), .int (iI lm), .ref al, .int (iI F), .ref aco, .int (iI rn), .int (iI rc), .ref ars, .int (iI q), .int (iI bg), .int (iI ov), .int (iI wg), .ref acm, .ref ame])), (al, .inl (X.2.1, 800, .inl (aI f))), (ame, .inl (X.2.1, 8, .inl (aI me)))] (fun v u => ∃ me' : Int → Int, v = some (.int (iI (if i < 0 ∨ bk ≤ i ∨ fn < 0 ∨ 3 < fn ∨ k < 0 ∨ 15 < k then -1 else cost f lc lw lm (muOf f lc lw lm i) i fn k))) ∧ u = [(mo, .inr (8, [.int (iI mc), .int (iI mw), .int (iI mt), .ref as_, .int (iI nb), .ref aw, .int (iI bk), .ref ac, .int (iI lc), .int (iI lw), .int (iI lm), .ref al, .int (iI F), .ref aco, .int (iI rn), .int (iI rc), .ref ars, .int (iI q), .int (iI bg), .int (iI ov), .int (iI wg), .ref acm, .ref ame])), (al, .inl (X.2.1, 800, .inl (aI f))), (ame, .inl (X.2.1, 8, .inl (aI me')))] ∧ (∀ j, -32768 ≤ me' j ∧ me' j ≤ 32767)) := by
  refine Ct_of (own := RX8) (lv := [(0, .ref mo), (1, .int (iI i)), (2, .int (iI fn)), (3, .int (iI k))]) (by decide +kernel) rfl (Nat.le_of_ble_eq_true rfl) rfl ?_
  intro p e s m args below meth c A cx hr hin
  refine J_iload_n cx dX8_cost_0 rfl 1 rfl ?_
  refine J_if_lt (tgt := 31) cx dX8_cost_1 (by decide) (by omega) (fun h_1 => ?_) (fun h_1 => ?_)
  · skip
    refine J_iconst cx dX8_cost_31 ?_
    exact J_iret cx hr dX8_cost_32 (⟨_, by rw [if_pos (by omega)], rfl, hme⟩)
  · skip
    refine J_iload_n cx dX8_cost_4 rfl 1 rfl ?_
    refine J_aload_n cx dX8_cost_5 rfl 0 rfl ?_
    refine J_get cx inC8 0 rfl rfl 6 (by decide) T488 rfl rfl dX8_cost_6 ?_
    refine J_icmp_ge (tgt := 31) cx dX8_cost_9 (by decide) (by omega) (by omega) (fun h_9 => ?_) (fun h_9 => ?_)
    · skip
      refine J_iconst cx dX8_cost_31 ?_
      exact J_iret cx hr dX8_cost_32 (⟨_, by rw [if_pos (by omega)], rfl, hme⟩)
    · skip
      refine J_iload_n cx dX8_cost_12 rfl 2 rfl ?_
      refine J_if_lt (tgt := 31) cx dX8_cost_13 (by decide) (by omega) (fun h_13 => ?_) (fun h_13 => ?_)
      · skip
        refine J_iconst cx dX8_cost_31 ?_
        exact J_iret cx hr dX8_cost_32 (⟨_, by rw [if_pos (by omega)], rfl, hme⟩)
      · skip
        refine J_iload_n cx dX8_cost_16 rfl 2 rfl ?_
        refine J_iconst cx dX8_cost_17 ?_
        refine J_icmp_gt (tgt := 31) cx dX8_cost_18 (by decide) (by omega) (by decide) (fun h_18 => ?_) (fun h_18 => ?_)
        · skip
          refine J_iconst cx dX8_cost_31 ?_
          exact J_iret cx hr dX8_cost_32 (⟨_, by rw [if_pos (by omega)], rfl, hme⟩)
        · skip
          refine J_iload_n cx dX8_cost_21 rfl 3 rfl ?_
          refine J_if_lt (tgt := 31) cx dX8_cost_22 (by decide) (by omega) (fun h_22 => ?_) (fun h_22 => ?_)
          · skip
            refine J_iconst cx dX8_cost_31 ?_
            exact J_iret cx hr dX8_cost_32 (⟨_, by rw [if_pos (by omega)], rfl, hme⟩)
          · skip
            refine J_iload_n cx dX8_cost_25 rfl 3 rfl ?_
            refine J_bipush cx dX8_cost_26 (by decide) ?_
            refine J_icmp_le (tgt := 33) cx dX8_cost_28 (by decide) (by omega) (by decide) (fun h_28 => ?_) (fun h_28 => ?_)
            · skip
              have hs3 := hst (by omega)
              have hc := hs3.1
              have hl := hs3.2.1
              have hm4 := hs3.2.2
              have hib := hblk i (by omega) (by omega)
              have hcc : 0 ≤ i % lc ∧ i % lc < lc := by rcases (show lc = 1 ∨ lc = 2 by omega) with e1 | e1 <;> rw [e1] <;> omega
              have hnu0 : 0 ≤ i / lc := Int.ediv_nonneg (by omega) (by omega)
              have hnu1 : i / lc ≤ i := Int.ediv_le_self _ (by omega)
              have eii : i / lc * lc + i % lc = i := by rw [Int.mul_comm]; exact Int.mul_ediv_add_emod i lc
              refine J_aload_n cx dX8_cost_33 rfl 0 rfl ?_
              refine J_callV (C := RX8) (T := TX8) (N := 23) cx (As := []) (rest := []) (mX8_forgetMeans l X mo mc mw mt as_ nb aw bk ac lc lw lm al F aco rn rc ars q bg ov wg acm ame me ) T567 T564 T566 S12 T9 ⟨rfl, hd_X8_forgetMeans⟩ rfl ⟨Nat.le_of_ble_eq_true rfl, Nat.le_of_ble_eq_true rfl⟩ (Nat.le_of_ble_eq_true rfl) ⟨Nat.le_of_ble_eq_true rfl, Nat.le_of_ble_eq_true rfl⟩ [0, 2] [1] rfl rfl rfl rfl rfl (by decide) 0 rfl rfl dX8_cost_34 rfl (J_f (ws' := [(mo, .inr (8, [.int (iI mc), .int (iI mw), .int (iI mt), .ref as_, .int (iI nb), .ref aw, .int (iI bk), .ref ac, .int (iI lc), .int (iI lw), .int (iI lm), .ref al, .int (iI F), .ref aco, .int (iI rn), .int (iI rc), .ref ars, .int (iI q), .int (iI bg), .int (iI ov), .int (iI wg), .ref acm, .ref ame])), (al, .inl (X.2.1, 800, .inl (aI f))), (ame, .inl (X.2.1, 8, .inl (aI (ovr (fun _ => 0) me 8))))]) (st' := []) [1, 0, 2] rfl rfl rfl rfl ?_)
              refine J_iload_n cx dX8_cost_37 rfl 1 rfl ?_
              refine J_aload_n cx dX8_cost_38 rfl 0 rfl ?_
              refine J_get cx inC8 0 rfl rfl 8 (by decide) T490 rfl rfl dX8_cost_39 ?_
              refine J_irem cx dX8_cost_42 (by omega) (by omega) ?_
              refine J_istore (lv' := [(4, .int (iI (i % lc))), (0, .ref mo), (1, .int (iI i)), (2, .int (iI fn)), (3, .int (iI k))]) cx dX8_cost_43 (by decide) rfl ?_
              refine J_iload_n cx dX8_cost_45 rfl 2 rfl ?_
              refine J_aload_n cx dX8_cost_46 rfl 1 rfl ?_
              refine J_get cx inC8 0 rfl rfl 8 (by decide) T490 rfl rfl dX8_cost_47 ?_
              refine J_idiv cx dX8_cost_50 (by omega) (by omega) ?_
              refine J_istore (lv' := [(5, .int (iI (i / lc))), (4, .int (iI (i % lc))), (0, .ref mo), (1, .int (iI i)), (2, .int (iI fn)), (3, .int (iI k))]) cx dX8_cost_51 (by decide) rfl ?_
              refine J_iconst cx dX8_cost_53 ?_
              refine J_istore (lv' := [(6, .int (iI 0)), (5, .int (iI (i / lc))), (4, .int (iI (i % lc))), (0, .ref mo), (1, .int (iI i)), (2, .int (iI fn)), (3, .int (iI k))]) cx dX8_cost_54 (by decide) rfl ?_
              refine J_loop2 (fun (n2 : Int) (m2 : Int → Int) => [(mo, .inr (8, [.int (iI mc), .int (iI mw), .int (iI mt), .ref as_, .int (iI nb), .ref aw, .int (iI bk), .ref ac, .int (iI lc), .int (iI lw), .int (iI lm), .ref al, .int (iI F), .ref aco, .int (iI rn), .int (iI rc), .ref ars, .int (iI q), .int (iI bg), .int (iI ov), .int (iI wg), .ref acm, .ref ame])), (al, .inl (X.2.1, 800, .inl (aI f))), (ame, .inl (X.2.1, 8, .inl (aI m2)))]) (fun (n2 : Int) (m2 : Int → Int) => [(6, .int (iI n2)), (5, .int (iI (i / lc))), (4, .int (iI (i % lc))), (0, .ref mo), (1, .int (iI i)), (2, .int (iI fn)), (3, .int (iI k))]) (fun (n2 : Int) (m2 : Int → Int) => (0 ≤ n2 ∧ n2 ≤ i / lc) ∧ (mwin m2 (bmean f lc lw lm) lc (n2 * lc + i % lc) (i % lc)) ∧ (∀ j, -32768 ≤ m2 j ∧ m2 j ≤ 32767)) (fun (n2 : Int) (m2 : Int → Int) => (i / lc - n2).toNat) 0 (ovr (fun _ => 0) me 8) ⟨(by omega), (by rw [Int.zero_mul, Int.zero_add]; exact mwin_0 hcc.2 (by omega) (fun j h5 h6 => ovr_in ⟨h5, h6⟩)), (ovr_rng (fun _ _ _ => by decide) hme)⟩ ?_
              intro n2 m2 hI ih_56
              obtain ⟨hn2, hwi, hmr⟩ := hI
              try dsimp only at hn2 hwi hmr
              have hnw : 0 ≤ n2 * lw := Int.mul_nonneg hn2.1 (by omega)
              have hnw2 : n2 * lw ≤ i / lc * lw := Int.mul_le_mul_of_nonneg_right hn2.2 (by omega)
              have hbF := bf_nu (bl := lw) (nu := n2) hc hcc
              have hbS := bs_nu (bl := lw) (many := lm) (nu := n2) hc hcc
              have hs64 : 1 ≤ mnI lw (lm - n2 * lw) ∧ mnI lw (lm - n2 * lw) ≤ 64 := by unfold mnI; split <;> omega
              refine J_iload cx dX8_cost_56 0 rfl ?_
              refine J_iload cx dX8_cost_58 1 rfl ?_
              refine J_icmp_ge (tgt := 133) cx dX8_cost_60 (by decide) (by omega) (by omega) (fun h_60 => ?_) (fun h_60 => ?_)
              · skip
                have hn2e : n2 = i / lc := by omega
                have hmm := mwin_mean hwi
                rw [hn2e, eii] at hmm
                have hmu : -32768 ≤ mean4 m2 (i % lc) ∧ mean4 m2 (i % lc) ≤ 32767 := by (have h6 := hmr (4 * (i % lc))); (have h7 := hmr (4 * (i % lc) + 1)); (have h8 := hmr (4 * (i % lc) + 2)); (have h9 := hmr (4 * (i % lc) + 3)); (exact rmean_rng (by decide) (by omega))
                refine J_aload_n cx dX8_cost_133 rfl 3 rfl ?_
                refine J_iload cx dX8_cost_134 1 rfl ?_
                refine J_iload cx dX8_cost_136 2 rfl ?_
                refine J_iload_n cx dX8_cost_138 rfl 5 rfl ?_
                refine J_iload_n cx dX8_cost_139 rfl 6 rfl ?_
                refine J_aload_n cx dX8_cost_140 rfl 3 rfl ?_
                refine J_iload cx dX8_cost_141 2 rfl ?_
                refine J_callV (C := RX8) (T := TX8) (N := 23) cx (As := [.int (iI (i % lc))]) (rest := [.int (iI k), .int (iI fn), .int (iI (i % lc)), .int (iI (i / lc)), .ref mo]) (mX8_meanOf l X mo mc mw mt as_ nb aw bk ac lc lw lm al F aco rn rc ars q bg ov wg acm ame m2 (i % lc) (hmr) (by omega)) T583 T580 T582 S16 T9 ⟨rfl, hd_X8_meanOf⟩ rfl ⟨Nat.le_of_ble_eq_true rfl, Nat.le_of_ble_eq_true rfl⟩ (Nat.le_of_ble_eq_true rfl) ⟨Nat.le_of_ble_eq_true rfl, Nat.le_of_ble_eq_true rfl⟩ [0, 2] [1] rfl rfl rfl rfl rfl (by decide) 0 rfl rfl dX8_cost_143 rfl (J_f (ws' := [(mo, .inr (8, [.int (iI mc), .int (iI mw), .int (iI mt), .ref as_, .int (iI nb), .ref aw, .int (iI bk), .ref ac, .int (iI lc), .int (iI lw), .int (iI lm), .ref al, .int (iI F), .ref aco, .int (iI rn), .int (iI rc), .ref ars, .int (iI q), .int (iI bg), .int (iI ov), .int (iI wg), .ref acm, .ref ame])), (al, .inl (X.2.1, 800, .inl (aI f))), (ame, .inl (X.2.1, 8, .inl (aI m2)))]) (st' := [.int (iI (mean4 m2 (i % lc))), .int (iI k), .int (iI fn), .int (iI (i % lc)), .int (iI (i / lc)), .ref mo]) [1, 0, 2] rfl rfl rfl rfl ?_)
                refine J_callV (C := RX8) (T := TX8) (N := 23) cx (As := [.int (iI (i / lc)), .int (iI (i % lc)), .int (iI fn), .int (iI k), .int (iI (mean4 m2 (i % lc)))]) (rest := []) (mX8_costOf l X mo mc mw mt as_ nb aw bk ac lc lw lm al F aco rn rc ars q bg ov wg acm ame f (i / lc) (i % lc) fn k (mean4 m2 (i % lc)) (hc) (by omega) (by omega) (hcc) (by omega) (hf) (by omega) (by omega) (hmu)) T602 T599 T601 S20 T9 ⟨rfl, hd_X8_costOf⟩ rfl ⟨Nat.le_of_ble_eq_true rfl, Nat.le_of_ble_eq_true rfl⟩ (Nat.le_of_ble_eq_true rfl) ⟨Nat.le_of_ble_eq_true rfl, Nat.le_of_ble_eq_true rfl⟩ [0, 1] [2] rfl rfl rfl rfl rfl (by decide) 0 rfl rfl dX8_cost_146 rfl (J_f (ws' := [(mo, .inr (8, [.int (iI mc), .int (iI mw), .int (iI mt), .ref as_, .int (iI nb), .ref aw, .int (iI bk), .ref ac, .int (iI lc), .int (iI lw), .int (iI lm), .ref al, .int (iI F), .ref aco, .int (iI rn), .int (iI rc), .ref ars, .int (iI q), .int (iI bg), .int (iI ov), .int (iI wg), .ref acm, .ref ame])), (al, .inl (X.2.1, 800, .inl (aI f))), (ame, .inl (X.2.1, 8, .inl (aI m2)))]) (st' := [.int (iI (cost f lc lw lm (mean4 m2 (i % lc)) ((i / lc) * lc + (i % lc)) fn k))]) [1, 2, 0] rfl rfl rfl rfl ?_)
                exact J_iret cx hr dX8_cost_149 (⟨_, by rw [if_neg (by omega), hmm, eii]; rfl, rfl, hmr⟩)
              · skip
                refine J_lconst (z := 0) cx dX8_cost_63 (by decide) ?_
                refine J_lstore (lv' := [(7, .long (lI 0)), (6, .int (iI n2)), (5, .int (iI (i / lc))), (4, .int (iI (i % lc))), (0, .ref mo), (1, .int (iI i)), (2, .int (iI fn)), (3, .int (iI k))]) cx dX8_cost_64 (by decide) rfl ?_
                refine J_iconst cx dX8_cost_66 ?_
                refine J_istore (lv' := [(9, .int (iI 0)), (7, .long (lI 0)), (6, .int (iI n2)), (5, .int (iI (i / lc))), (4, .int (iI (i % lc))), (0, .ref mo), (1, .int (iI i)), (2, .int (iI fn)), (3, .int (iI k))]) cx dX8_cost_67 (by decide) rfl ?_
                refine J_loop2 (fun (sm : Int) (j : Int) => [(mo, .inr (8, [.int (iI mc), .int (iI mw), .int (iI mt), .ref as_, .int (iI nb), .ref aw, .int (iI bk), .ref ac, .int (iI lc), .int (iI lw), .int (iI lm), .ref al, .int (iI F), .ref aco, .int (iI rn), .int (iI rc), .ref ars, .int (iI q), .int (iI bg), .int (iI ov), .int (iI wg), .ref acm, .ref ame])), (al, .inl (X.2.1, 800, .inl (aI f))), (ame, .inl (X.2.1, 8, .inl (aI m2)))]) (fun (sm : Int) (j : Int) => [(9, .int (iI j)), (7, .long (lI sm)), (6, .int (iI n2)), (5, .int (iI (i / lc))), (4, .int (iI (i % lc))), (0, .ref mo), (1, .int (iI i)), (2, .int (iI fn)), (3, .int (iI k))]) (fun (sm : Int) (j : Int) => (0 ≤ j ∧ j ≤ mnI lw (lm - n2 * lw)) ∧ (sm = bsum f lc (n2 * lw * lc + i % lc) j)) (fun (sm : Int) (j : Int) => (mnI lw (lm - n2 * lw) - j).toNat) 0 0 ⟨(by omega), (rfl)⟩ ?_
                intro sm j hI ih_69
                obtain ⟨hj, hsm⟩ := hI
                try dsimp only at hj hsm
                refine J_iload cx dX8_cost_69 0 rfl ?_
                refine J_aload_n cx dX8_cost_71 rfl 5 rfl ?_
                refine J_iload cx dX8_cost_72 2 rfl ?_
                refine J_callV (C := RX8) (T := TX8) (N := 23) cx (As := [.int (iI n2)]) (rest := [.int (iI j)]) (mX8_sizeOf l X mo mc mw mt as_ nb aw bk ac lc lw lm al F aco rn rc ars q bg ov wg acm ame n2 (by omega) (by omega) (by omega)) T594 T591 T593 S18 T9 ⟨rfl, hd_X8_sizeOf⟩ rfl ⟨Nat.le_of_ble_eq_true rfl, Nat.le_of_ble_eq_true rfl⟩ (Nat.le_of_ble_eq_true rfl) ⟨Nat.le_of_ble_eq_true rfl, Nat.le_of_ble_eq_true rfl⟩ [0] [1, 2] rfl rfl rfl rfl rfl (by decide) 0 rfl rfl dX8_cost_74 rfl (J_f (ws' := [(mo, .inr (8, [.int (iI mc), .int (iI mw), .int (iI mt), .ref as_, .int (iI nb), .ref aw, .int (iI bk), .ref ac, .int (iI lc), .int (iI lw), .int (iI lm), .ref al, .int (iI F), .ref aco, .int (iI rn), .int (iI rc), .ref ars, .int (iI q), .int (iI bg), .int (iI ov), .int (iI wg), .ref acm, .ref ame])), (al, .inl (X.2.1, 800, .inl (aI f))), (ame, .inl (X.2.1, 8, .inl (aI m2)))]) (st' := [.int (iI (mnI lw (lm - n2 * lw))), .int (iI j)]) [2, 0, 1] rfl rfl rfl rfl ?_)
                refine J_icmp_ge (tgt := 113) cx dX8_cost_77 (by decide) (by omega) (by omega) (fun h_77 => ?_) (fun h_77 => ?_)
                · skip
                  have hjS : j = mnI lw (lm - n2 * lw) := by omega
                  have hsr := bsum_rngI hf lc (n2 * lw * lc + i % lc) hj.1
                  refine J_aload_n cx dX8_cost_113 rfl 5 rfl ?_
                  refine J_iload cx dX8_cost_114 4 rfl ?_
                  refine J_lload cx dX8_cost_116 1 rfl ?_
                  refine J_aload_n cx dX8_cost_118 rfl 5 rfl ?_
                  refine J_iload cx dX8_cost_119 2 rfl ?_
                  refine J_callV (C := RX8) (T := TX8) (N := 23) cx (As := [.int (iI n2)]) (rest := [.long (lI sm), .int (iI (i % lc)), .ref mo]) (mX8_sizeOf l X mo mc mw mt as_ nb aw bk ac lc lw lm al F aco rn rc ars q bg ov wg acm ame n2 (by omega) (by omega) (by omega)) T594 T591 T593 S18 T9 ⟨rfl, hd_X8_sizeOf⟩ rfl ⟨Nat.le_of_ble_eq_true rfl, Nat.le_of_ble_eq_true rfl⟩ (Nat.le_of_ble_eq_true rfl) ⟨Nat.le_of_ble_eq_true rfl, Nat.le_of_ble_eq_true rfl⟩ [0] [1, 2] rfl rfl rfl rfl rfl (by decide) 0 rfl rfl dX8_cost_121 rfl (J_f (ws' := [(mo, .inr (8, [.int (iI mc), .int (iI mw), .int (iI mt), .ref as_, .int (iI nb), .ref aw, .int (iI bk), .ref ac, .int (iI lc), .int (iI lw), .int (iI lm), .ref al, .int (iI F), .ref aco, .int (iI rn), .int (iI rc), .ref ars, .int (iI q), .int (iI bg), .int (iI ov), .int (iI wg), .ref acm, .ref ame])), (al, .inl (X.2.1, 800, .inl (aI f))), (ame, .inl (X.2.1, 8, .inl (aI m2)))]) (st' := [.int (iI (mnI lw (lm - n2 * lw))), .long (lI sm), .int (iI (i % lc)), .ref mo]) [2, 0, 1] rfl rfl rfl rfl ?_)
                  refine J_callV (C := RX8) (T := TX8) (N := 23) cx (As := [.int (iI (i % lc)), .long (lI sm), .int (iI (mnI lw (lm - n2 * lw)))]) (rest := []) (mX8_noteMean l X mo mc mw mt as_ nb aw bk ac lc lw lm al F aco rn rc ars q bg ov wg acm ame m2 (i % lc) sm (mnI lw (lm - n2 * lw)) (hmr) (by omega) (by omega) (by omega)) T618 T615 T617 S21 T9 ⟨rfl, hd_X8_noteMean⟩ rfl ⟨Nat.le_of_ble_eq_true rfl, Nat.le_of_ble_eq_true rfl⟩ (Nat.le_of_ble_eq_true rfl) ⟨Nat.le_of_ble_eq_true rfl, Nat.le_of_ble_eq_true rfl⟩ [0, 2] [1] rfl rfl rfl rfl rfl (by decide) 0 rfl rfl dX8_cost_124 rfl (J_f (ws' := [(mo, .inr (8, [.int (iI mc), .int (iI mw), .int (iI mt), .ref as_, .int (iI nb), .ref aw, .int (iI bk), .ref ac, .int (iI lc), .int (iI lw), .int (iI lm), .ref al, .int (iI F), .ref aco, .int (iI rn), .int (iI rc), .ref ars, .int (iI q), .int (iI bg), .int (iI ov), .int (iI wg), .ref acm, .ref ame])), (al, .inl (X.2.1, 800, .inl (aI f))), (ame, .inl (X.2.1, 8, .inl (aI (noted m2 (i % lc) (rmean sm (mnI lw (lm - n2 * lw)))))))]) (st' := []) [1, 0, 2] rfl rfl rfl rfl ?_)
                  refine J_iinc (q := 2) (lv' := [(6, .int (iI (n2 + 1))), (9, .int (iI j)), (7, .long (lI sm)), (5, .int (iI (i / lc))), (4, .int (iI (i % lc))), (0, .ref mo), (1, .int (iI i)), (2, .int (iI fn)), (3, .int (iI k))]) cx dX8_cost_127 rfl (by decide) rfl ?_
                  refine J_goto (tgt := 56) cx dX8_cost_130 (by decide) ?_
                  refine J_lv (lv' := [(6, .int (iI (n2 + 1))), (5, .int (iI (i / lc))), (4, .int (iI (i % lc))), (0, .ref mo), (1, .int (iI i)), (2, .int (iI fn)), (3, .int (iI k))]) [0, 3, 4, 5, 6, 7, 8] rfl ?_
                  exact ih_56 (n2 + 1) (noted m2 (i % lc) (rmean sm (mnI lw (lm - n2 * lw)))) ⟨(by omega), (by (rw [show (n2 + 1) * lc + i % lc = n2 * lc + i % lc + lc by rw [Int.add_mul]; omega]); (exact mwin_note hwi (by have := Int.mul_nonneg hn2.1 (show 0 ≤ lc by omega); omega) (by (rw [hsm, hjS, ← hbF, ← hbS]); (rfl)))), (noted_rng hmr (rmean_rng hs64.1 (by rw [hsm, hjS]; exact bsum_rngI hf lc _ (by omega))) _)⟩ (by omega)
                · skip
                  have h_in := blk_inN hc hcc (many := lm) (bl := lw) (nu := n2) (j := j) (by omega) (by omega) (by omega) (by omega)
                  have hfp := hf ((n2 * lw * lc + i % lc) + j * lc)
                  refine J_lload cx dX8_cost_80 1 rfl ?_
                  refine J_aload_n cx dX8_cost_82 rfl 5 rfl ?_
                  refine J_get cx inC8 0 rfl rfl 11 (by decide) T493 rfl rfl dX8_cost_83 ?_
                  refine J_aload_n cx dX8_cost_86 rfl 5 rfl ?_
                  refine J_iload cx dX8_cost_87 2 rfl ?_
                  refine J_iload cx dX8_cost_89 4 rfl ?_
                  refine J_callV (C := RX8) (T := TX8) (N := 23) cx (As := [.int (iI n2), .int (iI (i % lc))]) (rest := [.ref al, .long (lI sm)]) (mX8_firstOf l X mo mc mw mt as_ nb aw bk ac lc lw lm al F aco rn rc ars q bg ov wg acm ame n2 (i % lc) ) T598 T595 T597 S19 T9 ⟨rfl, hd_X8_firstOf⟩ rfl ⟨Nat.le_of_ble_eq_true rfl, Nat.le_of_ble_eq_true rfl⟩ (Nat.le_of_ble_eq_true rfl) ⟨Nat.le_of_ble_eq_true rfl, Nat.le_of_ble_eq_true rfl⟩ [0] [1, 2] rfl rfl rfl rfl rfl (by decide) 0 rfl rfl dX8_cost_91 rfl (J_f (ws' := [(mo, .inr (8, [.int (iI mc), .int (iI mw), .int (iI mt), .ref as_, .int (iI nb), .ref aw, .int (iI bk), .ref ac, .int (iI lc), .int (iI lw), .int (iI lm), .ref al, .int (iI F), .ref aco, .int (iI rn), .int (iI rc), .ref ars, .int (iI q), .int (iI bg), .int (iI ov), .int (iI wg), .ref acm, .ref ame])), (al, .inl (X.2.1, 800, .inl (aI f))), (ame, .inl (X.2.1, 8, .inl (aI m2)))]) (st' := [.int (iI (n2 * lw * lc + (i % lc))), .ref al, .long (lI sm)]) [2, 0, 1] rfl rfl rfl rfl ?_)
                  refine J_iload cx dX8_cost_94 0 rfl ?_
                  refine J_aload_n cx dX8_cost_96 rfl 5 rfl ?_
                  refine J_get cx inC8 0 rfl rfl 8 (by decide) T490 rfl rfl dX8_cost_97 ?_
                  refine J_imul cx dX8_cost_100 ?_
                  refine J_iadd cx dX8_cost_101 ?_
                  refine J_iald cx 1 rfl (by omega) (by decide) dX8_cost_102 ?_
                  refine J_i2l cx dX8_cost_103 (by omega) ?_
                  refine J_ladd cx dX8_cost_104 ?_
                  refine J_lstore (lv' := [(7, .long (lI (sm + (f ((n2 * lw * lc + (i % lc)) + (j * lc)))))), (9, .int (iI j)), (6, .int (iI n2)), (5, .int (iI (i / lc))), (4, .int (iI (i % lc))), (0, .ref mo), (1, .int (iI i)), (2, .int (iI fn)), (3, .int (iI k))]) cx dX8_cost_105 (by decide) rfl ?_
                  refine J_iinc (q := 1) (lv' := [(9, .int (iI (j + 1))), (7, .long (lI (sm + (f ((n2 * lw * lc + (i % lc)) + (j * lc)))))), (6, .int (iI n2)), (5, .int (iI (i / lc))), (4, .int (iI (i % lc))), (0, .ref mo), (1, .int (iI i)), (2, .int (iI fn)), (3, .int (iI k))]) cx dX8_cost_107 rfl (by decide) rfl ?_
                  refine J_goto (tgt := 69) cx dX8_cost_110 (by decide) ?_
                  exact ih_69 (sm + (f ((n2 * lw * lc + (i % lc)) + (j * lc)))) (j + 1) ⟨(by omega), (by rw [bsum_s hj.1, hsm])⟩ (by omega)
            · skip
              refine J_iconst cx dX8_cost_31 ?_
              exact J_iret cx hr dX8_cost_32 (⟨_, by rw [if_pos (by omega)], rfl, hme⟩)
