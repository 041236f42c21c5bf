set_option maxHeartbeats 4000000 in
set_option maxRecDepth 100000 in
theorem mX8_writeBlock (l : Launch) (X : GX) (mo : Nat) (mc : Int) (mw : Int) (mt : Int) (as_ : Nat) (aw : Nat) (bk : Int) (ac : Nat) (lc : Int) (lw : Int) (lm : Int) (al : Nat) (F : Int) (aco : Nat) (rn : Int) (rc : Int) (ars : Nat) (q : Int) (bg : Int) (ov : Int) (wg : Int) (acm : Nat) (ame : Nat) (x : BB) (f : Int → Int) (cf : Int → Int) (me : Int → Int) (nu : Int) (c2 : Int) (hc : 1 ≤ lc ∧ lc ≤ 2) (hl : 1 ≤ lw ∧ lw ≤ 64) (hm4 : 0 ≤ lm ∧ lm ≤ 400) (hc2 : 0 ≤ c2 ∧ c2 < lc) (hnl : 0 ≤ nu * lw ∧ nu * lw < lm) (hf : ∀ j, -32768 ≤ f j ∧ f j ≤ 32767) (hme : ∀ j, -32768 ≤ me j ∧ me j ≤ 32767) (hbk : 0 ≤ bk ∧ bk < 800) (hmu0 : mean4 me c2 = muOf f lc lw lm (nu * lc + c2)) (hmur : -32768 ≤ muOf f lc lw lm (nu * lc + c2) ∧ muOf f lc lw lm (nu * lc + c2) ≤ 32767) (hx : 0 ≤ x.2 ∧ x.2 + cB f lc lw lm (nu * lc + c2) ≤ 24000) : Ct l yX8_writeBlock cX8_writeBlock 12 none 3 79 0 0 X [.ref mo, .int (iI nu), .int (iI c2)] [(mo, .inr (8, [.int (iI mc), .int (iI mw), .int (iI mt), .ref as_, .int (iI x.2), .ref aw, .int (iI bk), .ref ac, .int (iI lc), .int (iI lw), .int (iI lm), .ref al, .int (iI F), .ref aco, .int (iI rn), .int (iI rc), .ref ars, .int (iI q), .int (iI bg), .int (iI ov), .int (iI wg), .ref acm, .ref ame])), (aw, .inl (X.2.2, 64000, .inl (aI x.1))), (al, .inl (X.2.1, 800, .inl (aI f))), (ac, .inl (X.2.1, 3200, .inl (aI cf))), (ame, .inl (X.2.1, 8, .inl (aI me)))] (fun1 none [(mo, .inr (8, [.int (iI mc), .int (iI mw), .int (iI mt), .ref as_, .int (iI ((pblk f lc lw lm (nu * lc + c2) x).2)), .ref aw, .int (iI (bk + 1)), .ref ac, .int (iI lc), .int (iI lw), .int (iI lm), .ref al, .int (iI F), .ref aco, .int (iI rn), .int (iI rc), .ref ars, .int (iI q), .int (iI bg), .int (iI ov), .int (iI wg), .ref acm, .ref ame])), (aw, .inl (X.2.2, 64000, .inl (aI ((pblk f lc lw lm (nu * lc + c2) x).1)))), (al, .inl (X.2.1, 800, .inl (aI f))), (ac, .inl (X.2.1, 3200, .inl (aI (cells4 cf bk c2 (cF f lc lw lm (nu * lc + c2)) (cK f lc lw lm (nu * lc + c2)) (cB f lc lw lm (nu * lc + c2)))))), (ame, .inl (X.2.1, 8, .inl (aI (noted me c2 (bmean f lc lw lm (nu * lc + c2))))))]) := by
  refine Ct_of (own := RX8) (lv := [(0, .ref mo), (1, .int (iI nu)), (2, .int (iI c2))]) (by decide +kernel) rfl (Nat.le_of_ble_eq_true rfl) rfl ?_
  intro p e s m args below meth c A cx hr hin
  have hbF := bf_nu (bl := lw) (nu := nu) hc hc2
  have hbS := bs_nu (bl := lw) (many := lm) (nu := nu) hc hc2
  have hs64 : 1 ≤ mnI lw (lm - nu * lw) ∧ mnI lw (lm - nu * lw) ≤ 64 := by unfold mnI; split <;> omega
  have hbs : 1 ≤ bsize lc lw lm (nu * lc + c2) ∧ bsize lc lw lm (nu * lc + c2) ≤ 64 := by rw [hbS]; exact hs64
  have hok := ch_ok hf hmur hbs
  have hpn := pblk_n hf hmur hbs x
  have hcle := cB_le hf hmur hbs
  refine J_aload_n cx dX8_writeBlock_0 rfl 0 rfl ?_
  refine J_iload_n cx dX8_writeBlock_1 rfl 2 rfl ?_
  refine J_callV (C := RX8) (T := TX8) (N := 23) cx (As := [.int (iI c2)]) (rest := []) (mX8_meanOf l X mo mc mw mt as_ x.2 aw bk ac lc lw lm al F aco rn rc ars q bg ov wg acm ame me c2 (hme) (by omega)) T583 T580 T582 S16 T9 ⟨rfl, hd_X8_meanOf⟩ rfl ⟨Nat.le_of_ble_eq_true rfl, Nat.le_of_ble_eq_true rfl⟩ (Nat.le_of_ble_eq_true rfl) ⟨Nat.le_of_ble_eq_true rfl, Nat.le_of_ble_eq_true rfl⟩ [0, 4] [1, 2, 3] rfl rfl rfl rfl rfl (by decide) 0 rfl rfl dX8_writeBlock_2 rfl (J_f (ws' := [(mo, .inr (8, [.int (iI mc), .int (iI mw), .int (iI mt), .ref as_, .int (iI x.2), .ref aw, .int (iI bk), .ref ac, .int (iI lc), .int (iI lw), .int (iI lm), .ref al, .int (iI F), .ref aco, .int (iI rn), .int (iI rc), .ref ars, .int (iI q), .int (iI bg), .int (iI ov), .int (iI wg), .ref acm, .ref ame])), (aw, .inl (X.2.2, 64000, .inl (aI x.1))), (al, .inl (X.2.1, 800, .inl (aI f))), (ac, .inl (X.2.1, 3200, .inl (aI cf))), (ame, .inl (X.2.1, 8, .inl (aI me)))]) (st' := [.int (iI (mean4 me c2))]) [3, 0, 1, 2, 4] rfl rfl rfl rfl ?_)
  obtain ⟨mu, hmu1⟩ : ∃ mu, mu = mean4 me c2 := ⟨_, rfl⟩
  refine J_top (b := mu) hmu1.symm ?_
  rw [hmu0] at hmu1
  have hmu : -32768 ≤ mu ∧ mu ≤ 32767 := by rw [hmu1]; exact hmur
  have hcr : ∀ fn k, 0 ≤ fn ∧ fn ≤ 3 → 0 ≤ k ∧ k ≤ 15 → 0 ≤ cost f lc lw lm mu (nu * lc + c2) fn k ∧ cost f lc lw lm mu (nu * lc + c2) fn k < 100000000 := fun fn k h5 h6 => cost_rng hf hmu hbs h5 h6
  refine J_istore_n (lv' := [(3, .int (iI mu)), (0, .ref mo), (1, .int (iI nu)), (2, .int (iI c2))]) cx dX8_writeBlock_5 rfl (by decide) rfl ?_
  refine J_iconst cx dX8_writeBlock_6 ?_
  refine J_istore (lv' := [(4, .int (iI 4)), (3, .int (iI mu)), (0, .ref mo), (1, .int (iI nu)), (2, .int (iI c2))]) cx dX8_writeBlock_7 (by decide) rfl ?_
  refine J_iconst cx dX8_writeBlock_9 ?_
  refine J_istore (lv' := [(5, .int (iI (-1))), (4, .int (iI 4)), (3, .int (iI mu)), (0, .ref mo), (1, .int (iI nu)), (2, .int (iI c2))]) cx dX8_writeBlock_10 (by decide) rfl ?_
  refine J_iconst cx dX8_writeBlock_12 ?_
  refine J_istore (lv' := [(6, .int (iI 0)), (5, .int (iI (-1))), (4, .int (iI 4)), (3, .int (iI mu)), (0, .ref mo), (1, .int (iI nu)), (2, .int (iI c2))]) cx dX8_writeBlock_13 (by decide) rfl ?_
  refine J_join2 (fun (bst : Int) (by2 : Int) => [(mo, .inr (8, [.int (iI mc), .int (iI mw), .int (iI mt), .ref as_, .int (iI x.2), .ref aw, .int (iI bk), .ref ac, .int (iI lc), .int (iI lw), .int (iI lm), .ref al, .int (iI F), .ref aco, .int (iI rn), .int (iI rc), .ref ars, .int (iI q), .int (iI bg), .int (iI ov), .int (iI wg), .ref acm, .ref ame])), (aw, .inl (X.2.2, 64000, .inl (aI x.1))), (al, .inl (X.2.1, 800, .inl (aI f))), (ac, .inl (X.2.1, 3200, .inl (aI cf))), (ame, .inl (X.2.1, 8, .inl (aI me)))]) (fun (bst : Int) (by2 : Int) => [(5, .int (iI by2)), (4, .int (iI bst)), (3, .int (iI mu)), (0, .ref mo), (1, .int (iI nu)), (2, .int (iI c2))]) (fun (bst : Int) (by2 : Int) => []) (fun (bst : Int) (by2 : Int) => (bst = cF f lc lw lm (nu * lc + c2)) ∧ (by2 = cK f lc lw lm (nu * lc + c2))) (pcj := 93) ?_ ?_
  · intro bst by2 hI
    obtain ⟨hbst, hby⟩ := hI
    try dsimp only at hbst hby
    have hok2 : (bst = 4 ∧ by2 = -1) ∨ ((0 ≤ bst ∧ bst ≤ 3) ∧ (0 ≤ by2 ∧ by2 ≤ 15)) := by rw [hbst, hby]; exact hok
    have hrr : ∀ j, 0 ≤ rst f lc bst ((nu * lw * lc + c2) + j * lc) mu ∧ rst f lc bst ((nu * lw * lc + c2) + j * lc) mu ≤ 600000 := fun j => rst_rng hf hmu lc bst _
    have hzr : 0 ≤ zsum (fun j => rst f lc bst ((nu * lw * lc + c2) + j * lc) mu) by2 (mnI lw (lm - nu * lw)) := (zsum_rng (B := 600000) (by omega) (fun j _ _ => by have h5 := hrr j; have h6 := ediv_p2 (k := by2) h5.1; omega)).1
    have e2 : nbits 2 bst = bst / 4 + 1 + 2 := rfl
    have e3 : nbits 3 by2 = by2 / 8 + 1 + 3 := rfl
    have hcb4 : bst = 4 → cB f lc lw lm (nu * lc + c2) = 4 := by (intro h5); (unfold cB chB); (rw [if_pos (show chF f lc lw lm (muOf f lc lw lm (nu * lc + c2)) (nu * lc + c2) = 4 from by rw [← h5, hbst]; rfl)])
    have hcbc : ¬ bst = 4 → cB f lc lw lm (nu * lc + c2) = nbits 2 bst + nbits 3 by2 + zsum (fun j => rst f lc bst ((nu * lw * lc + c2) + j * lc) mu) by2 (mnI lw (lm - nu * lw)) + (mnI lw (lm - nu * lw)) * (1 + by2) := by (intro h5); (unfold cB chB); (rw [if_neg (show ¬ chF f lc lw lm (muOf f lc lw lm (nu * lc + c2)) (nu * lc + c2) = 4 from by rw [show chF f lc lw lm (muOf f lc lw lm (nu * lc + c2)) (nu * lc + c2) = bst from hbst.symm]; exact h5)]); (unfold cost bcost); (rw [show chF f lc lw lm (muOf f lc lw lm (nu * lc + c2)) (nu * lc + c2) = bst from hbst.symm, show chK f lc lw lm (muOf f lc lw lm (nu * lc + c2)) (nu * lc + c2) = by2 from hby.symm, hbF, hbS, ← hmu1])
    have hszk : 0 ≤ by2 → 0 ≤ (mnI lw (lm - nu * lw)) * (1 + by2) := fun h5 => Int.mul_nonneg (by omega) (by omega)
    have hx6 : x.2 + nbits 2 bst ≤ 24000 := by (by_cases h5 : bst = 4); (have := hcb4 h5; omega); (have := hcbc h5; have := hszk (by omega); omega)
    have hn2 : (pnum 2 bst x).2 = x.2 + nbits 2 bst := pnum_n (by decide) (by omega) x
    refine J_aload_n cx dX8_writeBlock_93 rfl 3 rfl ?_
    refine J_get cx inC8 0 rfl rfl 4 (by decide) T486 rfl rfl dX8_writeBlock_94 ?_
    refine J_istore (lv' := [(7, .int (iI x.2)), (5, .int (iI by2)), (4, .int (iI bst)), (3, .int (iI mu)), (0, .ref mo), (1, .int (iI nu)), (2, .int (iI c2))]) cx dX8_writeBlock_97 (by decide) rfl ?_
    refine J_aload_n cx dX8_writeBlock_99 rfl 4 rfl ?_
    refine J_iconst cx dX8_writeBlock_100 ?_
    refine J_iload cx dX8_writeBlock_101 2 rfl ?_
    refine J_callV (C := RX8) (T := TX8) (N := 23) cx (As := [.int (iI 2), .int (iI bst)]) (rest := []) (mX8_putNumber l X mo mc mw mt as_ aw bk ac lc lw lm al F aco rn rc ars q bg ov wg acm ame x 2 bst (by omega) (by omega) (by omega)) T575 T572 T574 S14 T9 ⟨rfl, hd_X8_putNumber⟩ rfl ⟨Nat.le_of_ble_eq_true rfl, Nat.le_of_ble_eq_true rfl⟩ (Nat.le_of_ble_eq_true rfl) ⟨Nat.le_of_ble_eq_true rfl, Nat.le_of_ble_eq_true rfl⟩ [0, 1] [2, 3, 4] rfl rfl rfl rfl rfl (by decide) 0 rfl rfl dX8_writeBlock_103 rfl (J_f (ws' := [(mo, .inr (8, [.int (iI mc), .int (iI mw), .int (iI mt), .ref as_, .int (iI ((pnum 2 bst x).2)), .ref aw, .int (iI bk), .ref ac, .int (iI lc), .int (iI lw), .int (iI lm), .ref al, .int (iI F), .ref aco, .int (iI rn), .int (iI rc), .ref ars, .int (iI q), .int (iI bg), .int (iI ov), .int (iI wg), .ref acm, .ref ame])), (aw, .inl (X.2.2, 64000, .inl (aI ((pnum 2 bst x).1)))), (al, .inl (X.2.1, 800, .inl (aI f))), (ac, .inl (X.2.1, 3200, .inl (aI cf))), (ame, .inl (X.2.1, 8, .inl (aI me)))]) (st' := []) [3, 4, 0, 1, 2] rfl rfl rfl rfl ?_)
    refine J_iload cx dX8_writeBlock_106 1 rfl ?_
    refine J_if_lt (tgt := 118) cx dX8_writeBlock_108 (by decide) (by omega) (fun h_108 => ?_) (fun h_108 => ?_)
    · skip
      refine J_lconst (z := 0) cx dX8_writeBlock_118 (by decide) ?_
      refine J_lstore (lv' := [(8, .long (lI 0)), (7, .int (iI x.2)), (5, .int (iI by2)), (4, .int (iI bst)), (3, .int (iI mu)), (0, .ref mo), (1, .int (iI nu)), (2, .int (iI c2))]) cx dX8_writeBlock_119 (by decide) rfl ?_
      refine J_iconst cx dX8_writeBlock_121 ?_
      refine J_istore (lv' := [(10, .int (iI 0)), (8, .long (lI 0)), (7, .int (iI x.2)), (5, .int (iI by2)), (4, .int (iI bst)), (3, .int (iI mu)), (0, .ref mo), (1, .int (iI nu)), (2, .int (iI c2))]) cx dX8_writeBlock_122 (by decide) rfl ?_
      refine J_loop3 (fun (sm : Int) (j : Int) (y : BB) => [(mo, .inr (8, [.int (iI mc), .int (iI mw), .int (iI mt), .ref as_, .int (iI y.2), .ref aw, .int (iI bk), .ref ac, .int (iI lc), .int (iI lw), .int (iI lm), .ref al, .int (iI F), .ref aco, .int (iI rn), .int (iI rc), .ref ars, .int (iI q), .int (iI bg), .int (iI ov), .int (iI wg), .ref acm, .ref ame])), (aw, .inl (X.2.2, 64000, .inl (aI y.1))), (al, .inl (X.2.1, 800, .inl (aI f))), (ac, .inl (X.2.1, 3200, .inl (aI cf))), (ame, .inl (X.2.1, 8, .inl (aI me)))]) (fun (sm : Int) (j : Int) (y : BB) => [(10, .int (iI j)), (8, .long (lI sm)), (7, .int (iI x.2)), (5, .int (iI by2)), (4, .int (iI bst)), (3, .int (iI mu)), (0, .ref mo), (1, .int (iI nu)), (2, .int (iI c2))]) (fun (sm : Int) (j : Int) (y : BB) => (0 ≤ j ∧ j ≤ mnI lw (lm - nu * lw)) ∧ (sm = bsum f lc (nu * lw * lc + c2) j) ∧ (y = pbM f lc (nu * lw * lc + c2) mu bst by2 j x) ∧ ((by2 < 0 → y.2 = x.2 + nbits 2 bst) ∧ (¬ by2 < 0 → y.2 = x.2 + nbits 2 bst + nbits 3 by2 + zsum (fun j => rst f lc bst ((nu * lw * lc + c2) + j * lc) mu) by2 j + j * (1 + by2)))) (fun (sm : Int) (j : Int) (y : BB) => (mnI lw (lm - nu * lw) - j).toNat) 0 0 (pnum 2 bst x) ⟨(by omega), (rfl), (by rw [pbM_0]; first | (rw [if_pos h_108]; done) | (rw [if_neg h_108]; done)), (by refine ⟨fun h5 => ?_, fun h5 => ?_⟩ <;> first | (exact absurd h5 (by omega)) | (rw [hn2]; done) | (rw [hn3, hn2, zsum_0]; omega))⟩ ?_
      intro sm j y hI ih_124
      obtain ⟨hj, hsm, hy, hyn⟩ := hI
      try dsimp only at hj hsm hy hyn
      refine J_iload cx dX8_writeBlock_124 0 rfl ?_
      refine J_aload_n cx dX8_writeBlock_126 rfl 6 rfl ?_
      refine J_iload_n cx dX8_writeBlock_127 rfl 7 rfl ?_
      refine J_callV (C := RX8) (T := TX8) (N := 23) cx (As := [.int (iI nu)]) (rest := [.int (iI j)]) (mX8_sizeOf l X mo mc mw mt as_ y.2 aw bk ac lc lw lm al F aco rn rc ars q bg ov wg acm ame nu (by omega) (by omega) (by omega)) T594 T591 T593 S18 T9 ⟨rfl, hd_X8_sizeOf⟩ rfl ⟨Nat.le_of_ble_eq_true rfl, Nat.le_of_ble_eq_true rfl⟩ (Nat.le_of_ble_eq_true rfl) ⟨Nat.le_of_ble_eq_true rfl, Nat.le_of_ble_eq_true rfl⟩ [0] [1, 2, 3, 4] rfl rfl rfl rfl rfl (by decide) 0 rfl rfl dX8_writeBlock_128 rfl (J_f (ws' := [(mo, .inr (8, [.int (iI mc), .int (iI mw), .int (iI mt), .ref as_, .int (iI y.2), .ref aw, .int (iI bk), .ref ac, .int (iI lc), .int (iI lw), .int (iI lm), .ref al, .int (iI F), .ref aco, .int (iI rn), .int (iI rc), .ref ars, .int (iI q), .int (iI bg), .int (iI ov), .int (iI wg), .ref acm, .ref ame])), (aw, .inl (X.2.2, 64000, .inl (aI y.1))), (al, .inl (X.2.1, 800, .inl (aI f))), (ac, .inl (X.2.1, 3200, .inl (aI cf))), (ame, .inl (X.2.1, 8, .inl (aI me)))]) (st' := [.int (iI (mnI lw (lm - nu * lw))), .int (iI j)]) [4, 0, 1, 2, 3] rfl rfl rfl rfl ?_)
      refine J_icmp_ge (tgt := 207) cx dX8_writeBlock_131 (by decide) (by omega) (by omega) (fun h_131 => ?_) (fun h_131 => ?_)
      · skip
        refine J_aload_n cx dX8_writeBlock_207 rfl 6 rfl ?_
        refine J_iload_n cx dX8_writeBlock_208 rfl 8 rfl ?_
        refine J_lload cx dX8_writeBlock_209 1 rfl ?_
        refine J_aload_n cx dX8_writeBlock_211 rfl 6 rfl ?_
        refine J_iload_n cx dX8_writeBlock_212 rfl 7 rfl ?_
        refine J_callV (C := RX8) (T := TX8) (N := 23) cx (As := [.int (iI nu)]) (rest := [.long (lI sm), .int (iI c2), .ref mo]) (mX8_sizeOf l X mo mc mw mt as_ y.2 aw bk ac lc lw lm al F aco rn rc ars q bg ov wg acm ame nu (by omega) (by omega) (by omega)) T594 T591 T593 S18 T9 ⟨rfl, hd_X8_sizeOf⟩ rfl ⟨Nat.le_of_ble_eq_true rfl, Nat.le_of_ble_eq_true rfl⟩ (Nat.le_of_ble_eq_true rfl) ⟨Nat.le_of_ble_eq_true rfl, Nat.le_of_ble_eq_true rfl⟩ [0] [1, 2, 3, 4] rfl rfl rfl rfl rfl (by decide) 0 rfl rfl dX8_writeBlock_213 rfl (J_f (ws' := [(mo, .inr (8, [.int (iI mc), .int (iI mw), .int (iI mt), .ref as_, .int (iI y.2), .ref aw, .int (iI bk), .ref ac, .int (iI lc), .int (iI lw), .int (iI lm), .ref al, .int (iI F), .ref aco, .int (iI rn), .int (iI rc), .ref ars, .int (iI q), .int (iI bg), .int (iI ov), .int (iI wg), .ref acm, .ref ame])), (aw, .inl (X.2.2, 64000, .inl (aI y.1))), (al, .inl (X.2.1, 800, .inl (aI f))), (ac, .inl (X.2.1, 3200, .inl (aI cf))), (ame, .inl (X.2.1, 8, .inl (aI me)))]) (st' := [.int (iI (mnI lw (lm - nu * lw))), .long (lI sm), .int (iI c2), .ref mo]) [4, 0, 1, 2, 3] rfl rfl rfl rfl ?_)
        have hjS : j = mnI lw (lm - nu * lw) := by omega
        have hsr := bsum_rngI hf lc (nu * lw * lc + c2) hj.1
        refine J_callV (C := RX8) (T := TX8) (N := 23) cx (As := [.int (iI c2), .long (lI sm), .int (iI (mnI lw (lm - nu * lw)))]) (rest := []) (mX8_noteMean l X mo mc mw mt as_ y.2 aw bk ac lc lw lm al F aco rn rc ars q bg ov wg acm ame me c2 sm (mnI lw (lm - nu * lw)) (hme) (by omega) (by omega) (by omega)) T618 T615 T617 S21 T9 ⟨rfl, hd_X8_noteMean⟩ rfl ⟨Nat.le_of_ble_eq_true rfl, Nat.le_of_ble_eq_true rfl⟩ (Nat.le_of_ble_eq_true rfl) ⟨Nat.le_of_ble_eq_true rfl, Nat.le_of_ble_eq_true rfl⟩ [0, 4] [1, 2, 3] rfl rfl rfl rfl rfl (by decide) 0 rfl rfl dX8_writeBlock_216 rfl (J_f (ws' := [(mo, .inr (8, [.int (iI mc), .int (iI mw), .int (iI mt), .ref as_, .int (iI y.2), .ref aw, .int (iI bk), .ref ac, .int (iI lc), .int (iI lw), .int (iI lm), .ref al, .int (iI F), .ref aco, .int (iI rn), .int (iI rc), .ref ars, .int (iI q), .int (iI bg), .int (iI ov), .int (iI wg), .ref acm, .ref ame])), (aw, .inl (X.2.2, 64000, .inl (aI y.1))), (al, .inl (X.2.1, 800, .inl (aI f))), (ac, .inl (X.2.1, 3200, .inl (aI cf))), (ame, .inl (X.2.1, 8, .inl (aI (noted me c2 (rmean sm (mnI lw (lm - nu * lw)))))))]) (st' := []) [3, 0, 1, 2, 4] rfl rfl rfl rfl ?_)
        refine J_aload_n cx dX8_writeBlock_219 rfl 6 rfl ?_
        refine J_get cx inC8 0 rfl rfl 7 (by decide) T489 rfl rfl dX8_writeBlock_220 ?_
        refine J_iconst cx dX8_writeBlock_223 ?_
        refine J_aload_n cx dX8_writeBlock_224 rfl 6 rfl ?_
        refine J_get cx inC8 0 rfl rfl 6 (by decide) T488 rfl rfl dX8_writeBlock_225 ?_
        refine J_imul cx dX8_writeBlock_228 ?_
        refine J_iload_n cx dX8_writeBlock_229 rfl 8 rfl ?_
        refine J_iast (ws' := [(mo, .inr (8, [.int (iI mc), .int (iI mw), .int (iI mt), .ref as_, .int (iI y.2), .ref aw, .int (iI bk), .ref ac, .int (iI lc), .int (iI lw), .int (iI lm), .ref al, .int (iI F), .ref aco, .int (iI rn), .int (iI rc), .ref ars, .int (iI q), .int (iI bg), .int (iI ov), .int (iI wg), .ref acm, .ref ame])), (aw, .inl (X.2.2, 64000, .inl (aI y.1))), (al, .inl (X.2.1, 800, .inl (aI f))), (ac, .inl (X.2.1, 3200, .inl (aI (upI cf (4 * bk) c2)))), (ame, .inl (X.2.1, 8, .inl (aI (noted me c2 (rmean sm (mnI lw (lm - nu * lw)))))))]) cx 3 rfl (by omega) (by decide) rfl dX8_writeBlock_230 ?_
        refine J_aload_n cx dX8_writeBlock_231 rfl 6 rfl ?_
        refine J_get cx inC8 0 rfl rfl 7 (by decide) T489 rfl rfl dX8_writeBlock_232 ?_
        refine J_iconst cx dX8_writeBlock_235 ?_
        refine J_aload_n cx dX8_writeBlock_236 rfl 6 rfl ?_
        refine J_get cx inC8 0 rfl rfl 6 (by decide) T488 rfl rfl dX8_writeBlock_237 ?_
        refine J_imul cx dX8_writeBlock_240 ?_
        refine J_iconst cx dX8_writeBlock_241 ?_
        refine J_iadd cx dX8_writeBlock_242 ?_
        refine J_iload cx dX8_writeBlock_243 4 rfl ?_
        refine J_iast (ws' := [(mo, .inr (8, [.int (iI mc), .int (iI mw), .int (iI mt), .ref as_, .int (iI y.2), .ref aw, .int (iI bk), .ref ac, .int (iI lc), .int (iI lw), .int (iI lm), .ref al, .int (iI F), .ref aco, .int (iI rn), .int (iI rc), .ref ars, .int (iI q), .int (iI bg), .int (iI ov), .int (iI wg), .ref acm, .ref ame])), (aw, .inl (X.2.2, 64000, .inl (aI y.1))), (al, .inl (X.2.1, 800, .inl (aI f))), (ac, .inl (X.2.1, 3200, .inl (aI (upI (upI cf (4 * bk) c2) ((4 * bk) + 1) bst)))), (ame, .inl (X.2.1, 8, .inl (aI (noted me c2 (rmean sm (mnI lw (lm - nu * lw)))))))]) cx 3 rfl (by omega) (by decide) rfl dX8_writeBlock_245 ?_
        refine J_aload_n cx dX8_writeBlock_246 rfl 6 rfl ?_
        refine J_get cx inC8 0 rfl rfl 7 (by decide) T489 rfl rfl dX8_writeBlock_247 ?_
        refine J_iconst cx dX8_writeBlock_250 ?_
        refine J_aload_n cx dX8_writeBlock_251 rfl 6 rfl ?_
        refine J_get cx inC8 0 rfl rfl 6 (by decide) T488 rfl rfl dX8_writeBlock_252 ?_
        refine J_imul cx dX8_writeBlock_255 ?_
        refine J_iconst cx dX8_writeBlock_256 ?_
        refine J_iadd cx dX8_writeBlock_257 ?_
        refine J_iload cx dX8_writeBlock_258 3 rfl ?_
        refine J_iast (ws' := [(mo, .inr (8, [.int (iI mc), .int (iI mw), .int (iI mt), .ref as_, .int (iI y.2), .ref aw, .int (iI bk), .ref ac, .int (iI lc), .int (iI lw), .int (iI lm), .ref al, .int (iI F), .ref aco, .int (iI rn), .int (iI rc), .ref ars, .int (iI q), .int (iI bg), .int (iI ov), .int (iI wg), .ref acm, .ref ame])), (aw, .inl (X.2.2, 64000, .inl (aI y.1))), (al, .inl (X.2.1, 800, .inl (aI f))), (ac, .inl (X.2.1, 3200, .inl (aI (upI (upI (upI cf (4 * bk) c2) ((4 * bk) + 1) bst) ((4 * bk) + 2) by2)))), (ame, .inl (X.2.1, 8, .inl (aI (noted me c2 (rmean sm (mnI lw (lm - nu * lw)))))))]) cx 3 rfl (by omega) (by decide) rfl dX8_writeBlock_260 ?_
        refine J_aload_n cx dX8_writeBlock_261 rfl 6 rfl ?_
        refine J_get cx inC8 0 rfl rfl 7 (by decide) T489 rfl rfl dX8_writeBlock_262 ?_
        refine J_iconst cx dX8_writeBlock_265 ?_
        refine J_aload_n cx dX8_writeBlock_266 rfl 6 rfl ?_
        refine J_get cx inC8 0 rfl rfl 6 (by decide) T488 rfl rfl dX8_writeBlock_267 ?_
        refine J_imul cx dX8_writeBlock_270 ?_
        refine J_iconst cx dX8_writeBlock_271 ?_
        refine J_iadd cx dX8_writeBlock_272 ?_
        refine J_aload_n cx dX8_writeBlock_273 rfl 6 rfl ?_
        refine J_get cx inC8 0 rfl rfl 4 (by decide) T486 rfl rfl dX8_writeBlock_274 ?_
        refine J_iload cx dX8_writeBlock_277 2 rfl ?_
        refine J_isub cx dX8_writeBlock_279 ?_
        refine J_iast (ws' := [(mo, .inr (8, [.int (iI mc), .int (iI mw), .int (iI mt), .ref as_, .int (iI y.2), .ref aw, .int (iI bk), .ref ac, .int (iI lc), .int (iI lw), .int (iI lm), .ref al, .int (iI F), .ref aco, .int (iI rn), .int (iI rc), .ref ars, .int (iI q), .int (iI bg), .int (iI ov), .int (iI wg), .ref acm, .ref ame])), (aw, .inl (X.2.2, 64000, .inl (aI y.1))), (al, .inl (X.2.1, 800, .inl (aI f))), (ac, .inl (X.2.1, 3200, .inl (aI (upI (upI (upI (upI cf (4 * bk) c2) ((4 * bk) + 1) bst) ((4 * bk) + 2) by2) ((4 * bk) + 3) (y.2 - x.2))))), (ame, .inl (X.2.1, 8, .inl (aI (noted me c2 (rmean sm (mnI lw (lm - nu * lw)))))))]) cx 3 rfl (by omega) (by decide) rfl dX8_writeBlock_280 ?_
        refine J_aload_n cx dX8_writeBlock_281 rfl 6 rfl ?_
        refine J_dup cx dX8_writeBlock_282 rfl ?_
        refine J_get cx inC8 0 rfl rfl 6 (by decide) T488 rfl rfl dX8_writeBlock_283 ?_
        refine J_iconst cx dX8_writeBlock_286 ?_
        refine J_iadd cx dX8_writeBlock_287 ?_
        refine J_put (ty := .int) (ws' := [(mo, .inr (8, [.int (iI mc), .int (iI mw), .int (iI mt), .ref as_, .int (iI y.2), .ref aw, .int (iI (bk + 1)), .ref ac, .int (iI lc), .int (iI lw), .int (iI lm), .ref al, .int (iI F), .ref aco, .int (iI rn), .int (iI rc), .ref ars, .int (iI q), .int (iI bg), .int (iI ov), .int (iI wg), .ref acm, .ref ame])), (aw, .inl (X.2.2, 64000, .inl (aI y.1))), (al, .inl (X.2.1, 800, .inl (aI f))), (ac, .inl (X.2.1, 3200, .inl (aI (upI (upI (upI (upI cf (4 * bk) c2) ((4 * bk) + 1) bst) ((4 * bk) + 2) by2) ((4 * bk) + 3) (y.2 - x.2))))), (ame, .inl (X.2.1, 8, .inl (aI (noted me c2 (rmean sm (mnI lw (lm - nu * lw)))))))]) cx inC8 tyX8_ok nmX8 0 rfl rfl 6 (by decide) T488 rfl rfl (by decide +kernel) (rfl) (rfl) (Nat.le_of_ble_eq_true rfl) rfl dX8_writeBlock_288 ?_
        have e31 : y = pblk f lc lw lm (nu * lc + c2) x := by (rw [hy, hjS, ← hbF, ← hbS, pbM_all hok2]); (unfold pblk); (rw [hbst, hby, hmu1])
        have e32 : rmean sm (mnI lw (lm - nu * lw)) = bmean f lc lw lm (nu * lc + c2) := by (rw [hsm, hjS, ← hbF, ← hbS]); (rfl)
        have e33 : y.2 - x.2 = cB f lc lw lm (nu * lc + c2) := by (rw [e31, hpn]); (omega)
        refine J_ws (ws' := [(mo, .inr (8, [.int (iI mc), .int (iI mw), .int (iI mt), .ref as_, .int (iI ((pblk f lc lw lm (nu * lc + c2) x).2)), .ref aw, .int (iI (bk + 1)), .ref ac, .int (iI lc), .int (iI lw), .int (iI lm), .ref al, .int (iI F), .ref aco, .int (iI rn), .int (iI rc), .ref ars, .int (iI q), .int (iI bg), .int (iI ov), .int (iI wg), .ref acm, .ref ame])), (aw, .inl (X.2.2, 64000, .inl (aI ((pblk f lc lw lm (nu * lc + c2) x).1)))), (al, .inl (X.2.1, 800, .inl (aI f))), (ac, .inl (X.2.1, 3200, .inl (aI (cells4 cf bk c2 (cF f lc lw lm (nu * lc + c2)) (cK f lc lw lm (nu * lc + c2)) (cB f lc lw lm (nu * lc + c2)))))), (ame, .inl (X.2.1, 8, .inl (aI (noted me c2 (bmean f lc lw lm (nu * lc + c2))))))]) (by rw [e33, e32, hbst, hby, e31]; rfl) ?_
        exact J_vret cx hr dX8_writeBlock_291 ⟨rfl, rfl⟩
      · skip
        have h_in := blk_inN hc hc2 (many := lm) (bl := lw) (nu := nu) (j := j) (by omega) hnl.1 (by omega) (by omega)
        have hfp := hf (nu * lw * lc + c2 + j * lc)
        have htr := tah_rng hf hmu lc bst (nu * lw * lc + c2 + j * lc)
        have hrj := hrr j
        refine J_aload_n cx dX8_writeBlock_134 rfl 6 rfl ?_
        refine J_iload_n cx dX8_writeBlock_135 rfl 7 rfl ?_
        refine J_iload_n cx dX8_writeBlock_136 rfl 8 rfl ?_
        refine J_callV (C := RX8) (T := TX8) (N := 23) cx (As := [.int (iI nu), .int (iI c2)]) (rest := []) (mX8_firstOf l X mo mc mw mt as_ y.2 aw bk ac lc lw lm al F aco rn rc ars q bg ov wg acm ame nu c2 ) T598 T595 T597 S19 T9 ⟨rfl, hd_X8_firstOf⟩ rfl ⟨Nat.le_of_ble_eq_true rfl, Nat.le_of_ble_eq_true rfl⟩ (Nat.le_of_ble_eq_true rfl) ⟨Nat.le_of_ble_eq_true rfl, Nat.le_of_ble_eq_true rfl⟩ [0] [1, 2, 3, 4] rfl rfl rfl rfl rfl (by decide) 0 rfl rfl dX8_writeBlock_137 rfl (J_f (ws' := [(mo, .inr (8, [.int (iI mc), .int (iI mw), .int (iI mt), .ref as_, .int (iI y.2), .ref aw, .int (iI bk), .ref ac, .int (iI lc), .int (iI lw), .int (iI lm), .ref al, .int (iI F), .ref aco, .int (iI rn), .int (iI rc), .ref ars, .int (iI q), .int (iI bg), .int (iI ov), .int (iI wg), .ref acm, .ref ame])), (aw, .inl (X.2.2, 64000, .inl (aI y.1))), (al, .inl (X.2.1, 800, .inl (aI f))), (ac, .inl (X.2.1, 3200, .inl (aI cf))), (ame, .inl (X.2.1, 8, .inl (aI me)))]) (st' := [.int (iI (nu * lw * lc + c2))]) [4, 0, 1, 2, 3] rfl rfl rfl rfl ?_)
        refine J_iload cx dX8_writeBlock_140 0 rfl ?_
        refine J_aload_n cx dX8_writeBlock_142 rfl 6 rfl ?_
        refine J_get cx inC8 0 rfl rfl 8 (by decide) T490 rfl rfl dX8_writeBlock_143 ?_
        refine J_imul cx dX8_writeBlock_146 ?_
        refine J_iadd cx dX8_writeBlock_147 ?_
        refine J_istore (lv' := [(11, .int (iI ((nu * lw * lc + c2) + (j * lc)))), (10, .int (iI j)), (8, .long (lI sm)), (7, .int (iI x.2)), (5, .int (iI by2)), (4, .int (iI bst)), (3, .int (iI mu)), (0, .ref mo), (1, .int (iI nu)), (2, .int (iI c2))]) cx dX8_writeBlock_148 (by decide) rfl ?_
        refine J_lload cx dX8_writeBlock_150 2 rfl ?_
        refine J_aload_n cx dX8_writeBlock_152 rfl 7 rfl ?_
        refine J_get cx inC8 0 rfl rfl 11 (by decide) T493 rfl rfl dX8_writeBlock_153 ?_
        refine J_iload cx dX8_writeBlock_156 0 rfl ?_
        refine J_iald cx 2 rfl (by omega) (by decide) dX8_writeBlock_158 ?_
        refine J_i2l cx dX8_writeBlock_159 (by omega) ?_
        refine J_ladd cx dX8_writeBlock_160 ?_
        refine J_lstore (lv' := [(8, .long (lI (sm + (f ((nu * lw * lc + c2) + (j * lc)))))), (11, .int (iI ((nu * lw * lc + c2) + (j * lc)))), (10, .int (iI j)), (7, .int (iI x.2)), (5, .int (iI by2)), (4, .int (iI bst)), (3, .int (iI mu)), (0, .ref mo), (1, .int (iI nu)), (2, .int (iI c2))]) cx dX8_writeBlock_161 (by decide) rfl ?_
        refine J_iload cx dX8_writeBlock_163 4 rfl ?_
        refine J_if_lt (tgt := 201) cx dX8_writeBlock_165 (by decide) (by omega) (fun h_165 => ?_) (fun h_165 => ?_)
        · skip
          refine J_iinc (q := 2) (lv' := [(10, .int (iI (j + 1))), (8, .long (lI (sm + (f ((nu * lw * lc + c2) + (j * lc)))))), (11, .int (iI ((nu * lw * lc + c2) + (j * lc)))), (7, .int (iI x.2)), (5, .int (iI by2)), (4, .int (iI bst)), (3, .int (iI mu)), (0, .ref mo), (1, .int (iI nu)), (2, .int (iI c2))]) cx dX8_writeBlock_201 rfl (by decide) rfl ?_
          refine J_goto (tgt := 124) cx dX8_writeBlock_204 (by decide) ?_
          refine J_lv (lv' := [(10, .int (iI (j + 1))), (8, .long (lI (sm + (f ((nu * lw * lc + c2) + (j * lc)))))), (7, .int (iI x.2)), (5, .int (iI by2)), (4, .int (iI bst)), (3, .int (iI mu)), (0, .ref mo), (1, .int (iI nu)), (2, .int (iI c2))]) [0, 1, 3, 4, 5, 6, 7, 8, 9] rfl ?_
          exact ih_124 (sm + (f ((nu * lw * lc + c2) + (j * lc)))) (j + 1) y ⟨(by omega), (by rw [bsum_s hj.1, hsm]), (by first | (rw [hy]; unfold pbM; rw [if_pos h_165, if_pos h_165]; done) | (rw [hy]; unfold pbM; rw [if_neg h_165, if_neg h_165, prest_s hj.1])), (by refine ⟨fun h5 => ?_, fun h5 => ?_⟩ <;> first | (exact absurd h5 (by omega)) | (exact hyn.1 h5) | (rw [pnum_n (by omega) hrj.1, hyn.2 h5, zsum_s hj.1, Int.add_mul]; omega))⟩ (by omega)
        · exfalso; omega
    · skip
      have hn3 : (pnum 3 by2 (pnum 2 bst x)).2 = (pnum 2 bst x).2 + nbits 3 by2 := pnum_n (by decide) (by omega) _
      have hcb5 := hcbc (by omega)
      have hszk2 := hszk (by omega)
      refine J_aload_n cx dX8_writeBlock_111 rfl 4 rfl ?_
      refine J_iconst cx dX8_writeBlock_112 ?_
      refine J_iload cx dX8_writeBlock_113 1 rfl ?_
      refine J_callV (C := RX8) (T := TX8) (N := 23) cx (As := [.int (iI 3), .int (iI by2)]) (rest := []) (mX8_putNumber l X mo mc mw mt as_ aw bk ac lc lw lm al F aco rn rc ars q bg ov wg acm ame (pnum 2 bst x) 3 by2 (by omega) (by omega) (by omega)) T575 T572 T574 S14 T9 ⟨rfl, hd_X8_putNumber⟩ rfl ⟨Nat.le_of_ble_eq_true rfl, Nat.le_of_ble_eq_true rfl⟩ (Nat.le_of_ble_eq_true rfl) ⟨Nat.le_of_ble_eq_true rfl, Nat.le_of_ble_eq_true rfl⟩ [0, 1] [2, 3, 4] rfl rfl rfl rfl rfl (by decide) 0 rfl rfl dX8_writeBlock_115 rfl (J_f (ws' := [(mo, .inr (8, [.int (iI mc), .int (iI mw), .int (iI mt), .ref as_, .int (iI ((pnum 3 by2 (pnum 2 bst x)).2)), .ref aw, .int (iI bk), .ref ac, .int (iI lc), .int (iI lw), .int (iI lm), .ref al, .int (iI F), .ref aco, .int (iI rn), .int (iI rc), .ref ars, .int (iI q), .int (iI bg), .int (iI ov), .int (iI wg), .ref acm, .ref ame])), (aw, .inl (X.2.2, 64000, .inl (aI ((pnum 3 by2 (pnum 2 bst x)).1)))), (al, .inl (X.2.1, 800, .inl (aI f))), (ac, .inl (X.2.1, 3200, .inl (aI cf))), (ame, .inl (X.2.1, 8, .inl (aI me)))]) (st' := []) [3, 4, 0, 1, 2] rfl rfl rfl rfl ?_)
      refine J_lconst (z := 0) cx dX8_writeBlock_118 (by decide) ?_
      refine J_lstore (lv' := [(8, .long (lI 0)), (7, .int (iI x.2)), (5, .int (iI by2)), (4, .int (iI bst)), (3, .int (iI mu)), (0, .ref mo), (1, .int (iI nu)), (2, .int (iI c2))]) cx dX8_writeBlock_119 (by decide) rfl ?_
      refine J_iconst cx dX8_writeBlock_121 ?_
      refine J_istore (lv' := [(10, .int (iI 0)), (8, .long (lI 0)), (7, .int (iI x.2)), (5, .int (iI by2)), (4, .int (iI bst)), (3, .int (iI mu)), (0, .ref mo), (1, .int (iI nu)), (2, .int (iI c2))]) cx dX8_writeBlock_122 (by decide) rfl ?_
      refine J_loop3 (fun (sm : Int) (j : Int) (y : BB) => [(mo, .inr (8, [.int (iI mc), .int (iI mw), .int (iI mt), .ref as_, .int (iI y.2), .ref aw, .int (iI bk), .ref ac, .int (iI lc), .int (iI lw), .int (iI lm), .ref al, .int (iI F), .ref aco, .int (iI rn), .int (iI rc), .ref ars, .int (iI q), .int (iI bg), .int (iI ov), .int (iI wg), .ref acm, .ref ame])), (aw, .inl (X.2.2, 64000, .inl (aI y.1))), (al, .inl (X.2.1, 800, .inl (aI f))), (ac, .inl (X.2.1, 3200, .inl (aI cf))), (ame, .inl (X.2.1, 8, .inl (aI me)))]) (fun (sm : Int) (j : Int) (y : BB) => [(10, .int (iI j)), (8, .long (lI sm)), (7, .int (iI x.2)), (5, .int (iI by2)), (4, .int (iI bst)), (3, .int (iI mu)), (0, .ref mo), (1, .int (iI nu)), (2, .int (iI c2))]) (fun (sm : Int) (j : Int) (y : BB) => (0 ≤ j ∧ j ≤ mnI lw (lm - nu * lw)) ∧ (sm = bsum f lc (nu * lw * lc + c2) j) ∧ (y = pbM f lc (nu * lw * lc + c2) mu bst by2 j x) ∧ ((by2 < 0 → y.2 = x.2 + nbits 2 bst) ∧ (¬ by2 < 0 → y.2 = x.2 + nbits 2 bst + nbits 3 by2 + zsum (fun j => rst f lc bst ((nu * lw * lc + c2) + j * lc) mu) by2 j + j * (1 + by2)))) (fun (sm : Int) (j : Int) (y : BB) => (mnI lw (lm - nu * lw) - j).toNat) 0 0 (pnum 3 by2 (pnum 2 bst x)) ⟨(by omega), (rfl), (by rw [pbM_0]; first | (rw [if_pos h_108]; done) | (rw [if_neg h_108]; done)), (by refine ⟨fun h5 => ?_, fun h5 => ?_⟩ <;> first | (exact absurd h5 (by omega)) | (rw [hn2]; done) | (rw [hn3, hn2, zsum_0]; omega))⟩ ?_
      intro sm j y hI ih_124
      obtain ⟨hj, hsm, hy, hyn⟩ := hI
      try dsimp only at hj hsm hy hyn
      refine J_iload cx dX8_writeBlock_124 0 rfl ?_
      refine J_aload_n cx dX8_writeBlock_126 rfl 6 rfl ?_
      refine J_iload_n cx dX8_writeBlock_127 rfl 7 rfl ?_
      refine J_callV (C := RX8) (T := TX8) (N := 23) cx (As := [.int (iI nu)]) (rest := [.int (iI j)]) (mX8_sizeOf l X mo mc mw mt as_ y.2 aw bk ac lc lw lm al F aco rn rc ars q bg ov wg acm ame nu (by omega) (by omega) (by omega)) T594 T591 T593 S18 T9 ⟨rfl, hd_X8_sizeOf⟩ rfl ⟨Nat.le_of_ble_eq_true rfl, Nat.le_of_ble_eq_true rfl⟩ (Nat.le_of_ble_eq_true rfl) ⟨Nat.le_of_ble_eq_true rfl, Nat.le_of_ble_eq_true rfl⟩ [0] [1, 2, 3, 4] rfl rfl rfl rfl rfl (by decide) 0 rfl rfl dX8_writeBlock_128 rfl (J_f (ws' := [(mo, .inr (8, [.int (iI mc), .int (iI mw), .int (iI mt), .ref as_, .int (iI y.2), .ref aw, .int (iI bk), .ref ac, .int (iI lc), .int (iI lw), .int (iI lm), .ref al, .int (iI F), .ref aco, .int (iI rn), .int (iI rc), .ref ars, .int (iI q), .int (iI bg), .int (iI ov), .int (iI wg), .ref acm, .ref ame])), (aw, .inl (X.2.2, 64000, .inl (aI y.1))), (al, .inl (X.2.1, 800, .inl (aI f))), (ac, .inl (X.2.1, 3200, .inl (aI cf))), (ame, .inl (X.2.1, 8, .inl (aI me)))]) (st' := [.int (iI (mnI lw (lm - nu * lw))), .int (iI j)]) [4, 0, 1, 2, 3] rfl rfl rfl rfl ?_)
      refine J_icmp_ge (tgt := 207) cx dX8_writeBlock_131 (by decide) (by omega) (by omega) (fun h_131 => ?_) (fun h_131 => ?_)
      · skip
        refine J_aload_n cx dX8_writeBlock_207 rfl 6 rfl ?_
        refine J_iload_n cx dX8_writeBlock_208 rfl 8 rfl ?_
        refine J_lload cx dX8_writeBlock_209 1 rfl ?_
        refine J_aload_n cx dX8_writeBlock_211 rfl 6 rfl ?_
        refine J_iload_n cx dX8_writeBlock_212 rfl 7 rfl ?_
        refine J_callV (C := RX8) (T := TX8) (N := 23) cx (As := [.int (iI nu)]) (rest := [.long (lI sm), .int (iI c2), .ref mo]) (mX8_sizeOf l X mo mc mw mt as_ y.2 aw bk ac lc lw lm al F aco rn rc ars q bg ov wg acm ame nu (by omega) (by omega) (by omega)) T594 T591 T593 S18 T9 ⟨rfl, hd_X8_sizeOf⟩ rfl ⟨Nat.le_of_ble_eq_true rfl, Nat.le_of_ble_eq_true rfl⟩ (Nat.le_of_ble_eq_true rfl) ⟨Nat.le_of_ble_eq_true rfl, Nat.le_of_ble_eq_true rfl⟩ [0] [1, 2, 3, 4] rfl rfl rfl rfl rfl (by decide) 0 rfl rfl dX8_writeBlock_213 rfl (J_f (ws' := [(mo, .inr (8, [.int (iI mc), .int (iI mw), .int (iI mt), .ref as_, .int (iI y.2), .ref aw, .int (iI bk), .ref ac, .int (iI lc), .int (iI lw), .int (iI lm), .ref al, .int (iI F), .ref aco, .int (iI rn), .int (iI rc), .ref ars, .int (iI q), .int (iI bg), .int (iI ov), .int (iI wg), .ref acm, .ref ame])), (aw, .inl (X.2.2, 64000, .inl (aI y.1))), (al, .inl (X.2.1, 800, .inl (aI f))), (ac, .inl (X.2.1, 3200, .inl (aI cf))), (ame, .inl (X.2.1, 8, .inl (aI me)))]) (st' := [.int (iI (mnI lw (lm - nu * lw))), .long (lI sm), .int (iI c2), .ref mo]) [4, 0, 1, 2, 3] rfl rfl rfl rfl ?_)
        have hjS : j = mnI lw (lm - nu * lw) := by omega
        have hsr := bsum_rngI hf lc (nu * lw * lc + c2) hj.1
        refine J_callV (C := RX8) (T := TX8) (N := 23) cx (As := [.int (iI c2), .long (lI sm), .int (iI (mnI lw (lm - nu * lw)))]) (rest := []) (mX8_noteMean l X mo mc mw mt as_ y.2 aw bk ac lc lw lm al F aco rn rc ars q bg ov wg acm ame me c2 sm (mnI lw (lm - nu * lw)) (hme) (by omega) (by omega) (by omega)) T618 T615 T617 S21 T9 ⟨rfl, hd_X8_noteMean⟩ rfl ⟨Nat.le_of_ble_eq_true rfl, Nat.le_of_ble_eq_true rfl⟩ (Nat.le_of_ble_eq_true rfl) ⟨Nat.le_of_ble_eq_true rfl, Nat.le_of_ble_eq_true rfl⟩ [0, 4] [1, 2, 3] rfl rfl rfl rfl rfl (by decide) 0 rfl rfl dX8_writeBlock_216 rfl (J_f (ws' := [(mo, .inr (8, [.int (iI mc), .int (iI mw), .int (iI mt), .ref as_, .int (iI y.2), .ref aw, .int (iI bk), .ref ac, .int (iI lc), .int (iI lw), .int (iI lm), .ref al, .int (iI F), .ref aco, .int (iI rn), .int (iI rc), .ref ars, .int (iI q), .int (iI bg), .int (iI ov), .int (iI wg), .ref acm, .ref ame])), (aw, .inl (X.2.2, 64000, .inl (aI y.1))), (al, .inl (X.2.1, 800, .inl (aI f))), (ac, .inl (X.2.1, 3200, .inl (aI cf))), (ame, .inl (X.2.1, 8, .inl (aI (noted me c2 (rmean sm (mnI lw (lm - nu * lw)))))))]) (st' := []) [3, 0, 1, 2, 4] rfl rfl rfl rfl ?_)
        refine J_aload_n cx dX8_writeBlock_219 rfl 6 rfl ?_
        refine J_get cx inC8 0 rfl rfl 7 (by decide) T489 rfl rfl dX8_writeBlock_220 ?_
        refine J_iconst cx dX8_writeBlock_223 ?_
        refine J_aload_n cx dX8_writeBlock_224 rfl 6 rfl ?_
        refine J_get cx inC8 0 rfl rfl 6 (by decide) T488 rfl rfl dX8_writeBlock_225 ?_
        refine J_imul cx dX8_writeBlock_228 ?_
        refine J_iload_n cx dX8_writeBlock_229 rfl 8 rfl ?_
        refine J_iast (ws' := [(mo, .inr (8, [.int (iI mc), .int (iI mw), .int (iI mt), .ref as_, .int (iI y.2), .ref aw, .int (iI bk), .ref ac, .int (iI lc), .int (iI lw), .int (iI lm), .ref al, .int (iI F), .ref aco, .int (iI rn), .int (iI rc), .ref ars, .int (iI q), .int (iI bg), .int (iI ov), .int (iI wg), .ref acm, .ref ame])), (aw, .inl (X.2.2, 64000, .inl (aI y.1))), (al, .inl (X.2.1, 800, .inl (aI f))), (ac, .inl (X.2.1, 3200, .inl (aI (upI cf (4 * bk) c2)))), (ame, .inl (X.2.1, 8, .inl (aI (noted me c2 (rmean sm (mnI lw (lm - nu * lw)))))))]) cx 3 rfl (by omega) (by decide) rfl dX8_writeBlock_230 ?_
        refine J_aload_n cx dX8_writeBlock_231 rfl 6 rfl ?_
        refine J_get cx inC8 0 rfl rfl 7 (by decide) T489 rfl rfl dX8_writeBlock_232 ?_
        refine J_iconst cx dX8_writeBlock_235 ?_
        refine J_aload_n cx dX8_writeBlock_236 rfl 6 rfl ?_
        refine J_get cx inC8 0 rfl rfl 6 (by decide) T488 rfl rfl dX8_writeBlock_237 ?_
        refine J_imul cx dX8_writeBlock_240 ?_
        refine J_iconst cx dX8_writeBlock_241 ?_
        refine J_iadd cx dX8_writeBlock_242 ?_
        refine J_iload cx dX8_writeBlock_243 4 rfl ?_
        refine J_iast (ws' := [(mo, .inr (8, [.int (iI mc), .int (iI mw), .int (iI mt), .ref as_, .int (iI y.2), .ref aw, .int (iI bk), .ref ac, .int (iI lc), .int (iI lw), .int (iI lm), .ref al, .int (iI F), .ref aco, .int (iI rn), .int (iI rc), .ref ars, .int (iI q), .int (iI bg), .int (iI ov), .int (iI wg), .ref acm, .ref ame])), (aw, .inl (X.2.2, 64000, .inl (aI y.1))), (al, .inl (X.2.1, 800, .inl (aI f))), (ac, .inl (X.2.1, 3200, .inl (aI (upI (upI cf (4 * bk) c2) ((4 * bk) + 1) bst)))), (ame, .inl (X.2.1, 8, .inl (aI (noted me c2 (rmean sm (mnI lw (lm - nu * lw)))))))]) cx 3 rfl (by omega) (by decide) rfl dX8_writeBlock_245 ?_
        refine J_aload_n cx dX8_writeBlock_246 rfl 6 rfl ?_
        refine J_get cx inC8 0 rfl rfl 7 (by decide) T489 rfl rfl dX8_writeBlock_247 ?_
        refine J_iconst cx dX8_writeBlock_250 ?_
        refine J_aload_n cx dX8_writeBlock_251 rfl 6 rfl ?_
        refine J_get cx inC8 0 rfl rfl 6 (by decide) T488 rfl rfl dX8_writeBlock_252 ?_
        refine J_imul cx dX8_writeBlock_255 ?_
        refine J_iconst cx dX8_writeBlock_256 ?_
        refine J_iadd cx dX8_writeBlock_257 ?_
        refine J_iload cx dX8_writeBlock_258 3 rfl ?_
        refine J_iast (ws' := [(mo, .inr (8, [.int (iI mc), .int (iI mw), .int (iI mt), .ref as_, .int (iI y.2), .ref aw, .int (iI bk), .ref ac, .int (iI lc), .int (iI lw), .int (iI lm), .ref al, .int (iI F), .ref aco, .int (iI rn), .int (iI rc), .ref ars, .int (iI q), .int (iI bg), .int (iI ov), .int (iI wg), .ref acm, .ref ame])), (aw, .inl (X.2.2, 64000, .inl (aI y.1))), (al, .inl (X.2.1, 800, .inl (aI f))), (ac, .inl (X.2.1, 3200, .inl (aI (upI (upI (upI cf (4 * bk) c2) ((4 * bk) + 1) bst) ((4 * bk) + 2) by2)))), (ame, .inl (X.2.1, 8, .inl (aI (noted me c2 (rmean sm (mnI lw (lm - nu * lw)))))))]) cx 3 rfl (by omega) (by decide) rfl dX8_writeBlock_260 ?_
        refine J_aload_n cx dX8_writeBlock_261 rfl 6 rfl ?_
        refine J_get cx inC8 0 rfl rfl 7 (by decide) T489 rfl rfl dX8_writeBlock_262 ?_
        refine J_iconst cx dX8_writeBlock_265 ?_
        refine J_aload_n cx dX8_writeBlock_266 rfl 6 rfl ?_
        refine J_get cx inC8 0 rfl rfl 6 (by decide) T488 rfl rfl dX8_writeBlock_267 ?_
        refine J_imul cx dX8_writeBlock_270 ?_
        refine J_iconst cx dX8_writeBlock_271 ?_
        refine J_iadd cx dX8_writeBlock_272 ?_
        refine J_aload_n cx dX8_writeBlock_273 rfl 6 rfl ?_
        refine J_get cx inC8 0 rfl rfl 4 (by decide) T486 rfl rfl dX8_writeBlock_274 ?_
        refine J_iload cx dX8_writeBlock_277 2 rfl ?_
        refine J_isub cx dX8_writeBlock_279 ?_
        refine J_iast (ws' := [(mo, .inr (8, [.int (iI mc), .int (iI mw), .int (iI mt), .ref as_, .int (iI y.2), .ref aw, .int (iI bk), .ref ac, .int (iI lc), .int (iI lw), .int (iI lm), .ref al, .int (iI F), .ref aco, .int (iI rn), .int (iI rc), .ref ars, .int (iI q), .int (iI bg), .int (iI ov), .int (iI wg), .ref acm, .ref ame])), (aw, .inl (X.2.2, 64000, .inl (aI y.1))), (al, .inl (X.2.1, 800, .inl (aI f))), (ac, .inl (X.2.1, 3200, .inl (aI (upI (upI (upI (upI cf (4 * bk) c2) ((4 * bk) + 1) bst) ((4 * bk) + 2) by2) ((4 * bk) + 3) (y.2 - x.2))))), (ame, .inl (X.2.1, 8, .inl (aI (noted me c2 (rmean sm (mnI lw (lm - nu * lw)))))))]) cx 3 rfl (by omega) (by decide) rfl dX8_writeBlock_280 ?_
        refine J_aload_n cx dX8_writeBlock_281 rfl 6 rfl ?_
        refine J_dup cx dX8_writeBlock_282 rfl ?_
        refine J_get cx inC8 0 rfl rfl 6 (by decide) T488 rfl rfl dX8_writeBlock_283 ?_
        refine J_iconst cx dX8_writeBlock_286 ?_
        refine J_iadd cx dX8_writeBlock_287 ?_
        refine J_put (ty := .int) (ws' := [(mo, .inr (8, [.int (iI mc), .int (iI mw), .int (iI mt), .ref as_, .int (iI y.2), .ref aw, .int (iI (bk + 1)), .ref ac, .int (iI lc), .int (iI lw), .int (iI lm), .ref al, .int (iI F), .ref aco, .int (iI rn), .int (iI rc), .ref ars, .int (iI q), .int (iI bg), .int (iI ov), .int (iI wg), .ref acm, .ref ame])), (aw, .inl (X.2.2, 64000, .inl (aI y.1))), (al, .inl (X.2.1, 800, .inl (aI f))), (ac, .inl (X.2.1, 3200, .inl (aI (upI (upI (upI (upI cf (4 * bk) c2) ((4 * bk) + 1) bst) ((4 * bk) + 2) by2) ((4 * bk) + 3) (y.2 - x.2))))), (ame, .inl (X.2.1, 8, .inl (aI (noted me c2 (rmean sm (mnI lw (lm - nu * lw)))))))]) cx inC8 tyX8_ok nmX8 0 rfl rfl 6 (by decide) T488 rfl rfl (by decide +kernel) (rfl) (rfl) (Nat.le_of_ble_eq_true rfl) rfl dX8_writeBlock_288 ?_
        have e31 : y = pblk f lc lw lm (nu * lc + c2) x := by (rw [hy, hjS, ← hbF, ← hbS, pbM_all hok2]); (unfold pblk); (rw [hbst, hby, hmu1])
        have e32 : rmean sm (mnI lw (lm - nu * lw)) = bmean f lc lw lm (nu * lc + c2) := by (rw [hsm, hjS, ← hbF, ← hbS]); (rfl)
        have e33 : y.2 - x.2 = cB f lc lw lm (nu * lc + c2) := by (rw [e31, hpn]); (omega)
        refine J_ws (ws' := [(mo, .inr (8, [.int (iI mc), .int (iI mw), .int (iI mt), .ref as_, .int (iI ((pblk f lc lw lm (nu * lc + c2) x).2)), .ref aw, .int (iI (bk + 1)), .ref ac, .int (iI lc), .int (iI lw), .int (iI lm), .ref al, .int (iI F), .ref aco, .int (iI rn), .int (iI rc), .ref ars, .int (iI q), .int (iI bg), .int (iI ov), .int (iI wg), .ref acm, .ref ame])), (aw, .inl (X.2.2, 64000, .inl (aI ((pblk f lc lw lm (nu * lc + c2) x).1)))), (al, .inl (X.2.1, 800, .inl (aI f))), (ac, .inl (X.2.1, 3200, .inl (aI (cells4 cf bk c2 (cF f lc lw lm (nu * lc + c2)) (cK f lc lw lm (nu * lc + c2)) (cB f lc lw lm (nu * lc + c2)))))), (ame, .inl (X.2.1, 8, .inl (aI (noted me c2 (bmean f lc lw lm (nu * lc + c2))))))]) (by rw [e33, e32, hbst, hby, e31]; rfl) ?_
        exact J_vret cx hr dX8_writeBlock_291 ⟨rfl, rfl⟩
      · skip
        have h_in := blk_inN hc hc2 (many := lm) (bl := lw) (nu := nu) (j := j) (by omega) hnl.1 (by omega) (by omega)
        have hfp := hf (nu * lw * lc + c2 + j * lc)
        have htr := tah_rng hf hmu lc bst (nu * lw * lc + c2 + j * lc)
        have hrj := hrr j
        refine J_aload_n cx dX8_writeBlock_134 rfl 6 rfl ?_
        refine J_iload_n cx dX8_writeBlock_135 rfl 7 rfl ?_
        refine J_iload_n cx dX8_writeBlock_136 rfl 8 rfl ?_
        refine J_callV (C := RX8) (T := TX8) (N := 23) cx (As := [.int (iI nu), .int (iI c2)]) (rest := []) (mX8_firstOf l X mo mc mw mt as_ y.2 aw bk ac lc lw lm al F aco rn rc ars q bg ov wg acm ame nu c2 ) T598 T595 T597 S19 T9 ⟨rfl, hd_X8_firstOf⟩ rfl ⟨Nat.le_of_ble_eq_true rfl, Nat.le_of_ble_eq_true rfl⟩ (Nat.le_of_ble_eq_true rfl) ⟨Nat.le_of_ble_eq_true rfl, Nat.le_of_ble_eq_true rfl⟩ [0] [1, 2, 3, 4] rfl rfl rfl rfl rfl (by decide) 0 rfl rfl dX8_writeBlock_137 rfl (J_f (ws' := [(mo, .inr (8, [.int (iI mc), .int (iI mw), .int (iI mt), .ref as_, .int (iI y.2), .ref aw, .int (iI bk), .ref ac, .int (iI lc), .int (iI lw), .int (iI lm), .ref al, .int (iI F), .ref aco, .int (iI rn), .int (iI rc), .ref ars, .int (iI q), .int (iI bg), .int (iI ov), .int (iI wg), .ref acm, .ref ame])), (aw, .inl (X.2.2, 64000, .inl (aI y.1))), (al, .inl (X.2.1, 800, .inl (aI f))), (ac, .inl (X.2.1, 3200, .inl (aI cf))), (ame, .inl (X.2.1, 8, .inl (aI me)))]) (st' := [.int (iI (nu * lw * lc + c2))]) [4, 0, 1, 2, 3] rfl rfl rfl rfl ?_)
        refine J_iload cx dX8_writeBlock_140 0 rfl ?_
        refine J_aload_n cx dX8_writeBlock_142 rfl 6 rfl ?_
        refine J_get cx inC8 0 rfl rfl 8 (by decide) T490 rfl rfl dX8_writeBlock_143 ?_
        refine J_imul cx dX8_writeBlock_146 ?_
        refine J_iadd cx dX8_writeBlock_147 ?_
        refine J_istore (lv' := [(11, .int (iI ((nu * lw * lc + c2) + (j * lc)))), (10, .int (iI j)), (8, .long (lI sm)), (7, .int (iI x.2)), (5, .int (iI by2)), (4, .int (iI bst)), (3, .int (iI mu)), (0, .ref mo), (1, .int (iI nu)), (2, .int (iI c2))]) cx dX8_writeBlock_148 (by decide) rfl ?_
        refine J_lload cx dX8_writeBlock_150 2 rfl ?_
        refine J_aload_n cx dX8_writeBlock_152 rfl 7 rfl ?_
        refine J_get cx inC8 0 rfl rfl 11 (by decide) T493 rfl rfl dX8_writeBlock_153 ?_
        refine J_iload cx dX8_writeBlock_156 0 rfl ?_
        refine J_iald cx 2 rfl (by omega) (by decide) dX8_writeBlock_158 ?_
        refine J_i2l cx dX8_writeBlock_159 (by omega) ?_
        refine J_ladd cx dX8_writeBlock_160 ?_
        refine J_lstore (lv' := [(8, .long (lI (sm + (f ((nu * lw * lc + c2) + (j * lc)))))), (11, .int (iI ((nu * lw * lc + c2) + (j * lc)))), (10, .int (iI j)), (7, .int (iI x.2)), (5, .int (iI by2)), (4, .int (iI bst)), (3, .int (iI mu)), (0, .ref mo), (1, .int (iI nu)), (2, .int (iI c2))]) cx dX8_writeBlock_161 (by decide) rfl ?_
        refine J_iload cx dX8_writeBlock_163 4 rfl ?_
        refine J_if_lt (tgt := 201) cx dX8_writeBlock_165 (by decide) (by omega) (fun h_165 => ?_) (fun h_165 => ?_)
        · exfalso; omega
        · skip
          have hcb6 := hcbc (by omega)
          have hm1 := zsum_mono (r := (fun j => rst f lc bst ((nu * lw * lc + c2) + j * lc) mu)) (k := by2) (j := j + 1) (m := mnI lw (lm - nu * lw)) (by omega) (by omega) (fun j _ => (ediv_p2 (hrr j).1).1)
          rw [zsum_s hj.1] at hm1
          have hm9 : (j + 1) * (1 + by2) ≤ (mnI lw (lm - nu * lw)) * (1 + by2) := Int.mul_le_mul_of_nonneg_right (by omega) (by omega)
          rw [Int.add_mul] at hm9
          have hnb9 : nbits by2 (rst f lc bst (nu * lw * lc + c2 + j * lc) mu) = rst f lc bst (nu * lw * lc + c2 + j * lc) mu / p2 by2 + 1 + by2 := rfl
          have hyn2 := hyn.2 h_165
          have hzj : 0 ≤ zsum (fun j => rst f lc bst ((nu * lw * lc + c2) + j * lc) mu) by2 j := (zsum_rng (B := 600000) hj.1 (fun j _ _ => by have h5 := hrr j; have h6 := ediv_p2 (k := by2) h5.1; omega)).1
          have hjp : 0 ≤ j * (1 + by2) := Int.mul_nonneg hj.1 (by omega)
          try dsimp only at hm1
          refine J_aload_n cx dX8_writeBlock_168 rfl 7 rfl ?_
          refine J_iload cx dX8_writeBlock_169 4 rfl ?_
          refine J_aload_n cx dX8_writeBlock_171 rfl 7 rfl ?_
          refine J_get cx inC8 0 rfl rfl 11 (by decide) T493 rfl rfl dX8_writeBlock_172 ?_
          refine J_iload cx dX8_writeBlock_175 1 rfl ?_
          refine J_iald cx 2 rfl (by omega) (by decide) dX8_writeBlock_177 ?_
          refine J_iload cx dX8_writeBlock_178 5 rfl ?_
          refine J_aload_n cx dX8_writeBlock_180 rfl 7 rfl ?_
          refine J_get cx inC8 0 rfl rfl 11 (by decide) T493 rfl rfl dX8_writeBlock_181 ?_
          refine J_iload cx dX8_writeBlock_184 1 rfl ?_
          refine J_aload_n cx dX8_writeBlock_186 rfl 7 rfl ?_
          refine J_get cx inC8 0 rfl rfl 8 (by decide) T490 rfl rfl dX8_writeBlock_187 ?_
          refine J_iload_n cx dX8_writeBlock_190 rfl 6 rfl ?_
          refine J_callS cx (As := [.int (iI bst), .ref al, .int (iI ((nu * lw * lc + c2) + (j * lc))), .int (iI lc), .int (iI mu)]) (rest := [.int (iI (f ((nu * lw * lc + c2) + (j * lc)))), .int (iI by2), .ref mo]) (mX8_ahead l X bst al f ((nu * lw * lc + c2) + (j * lc)) lc mu (by omega) (by omega) (by omega)) T608 T606 T607 T9 hd_X8_ahead rfl ⟨Nat.le_of_ble_eq_true rfl, Nat.le_of_ble_eq_true rfl⟩ (Nat.le_of_ble_eq_true rfl) ⟨Nat.le_of_ble_eq_true rfl, Nat.le_of_ble_eq_true rfl⟩ [2] [0, 1, 3, 4] rfl rfl rfl rfl rfl (by decide) dX8_writeBlock_191 rfl (J_f (ws' := [(mo, .inr (8, [.int (iI mc), .int (iI mw), .int (iI mt), .ref as_, .int (iI y.2), .ref aw, .int (iI bk), .ref ac, .int (iI lc), .int (iI lw), .int (iI lm), .ref al, .int (iI F), .ref aco, .int (iI rn), .int (iI rc), .ref ars, .int (iI q), .int (iI bg), .int (iI ov), .int (iI wg), .ref acm, .ref ame])), (aw, .inl (X.2.2, 64000, .inl (aI y.1))), (al, .inl (X.2.1, 800, .inl (aI f))), (ac, .inl (X.2.1, 3200, .inl (aI cf))), (ame, .inl (X.2.1, 8, .inl (aI me)))]) (st' := [.int (iI (tah f lc bst ((nu * lw * lc + c2) + (j * lc)) mu)), .int (iI (f ((nu * lw * lc + c2) + (j * lc)))), .int (iI by2), .ref mo]) [0, 1, 4, 2, 3] rfl rfl rfl rfl ?_)
          refine J_isub cx dX8_writeBlock_194 ?_
          refine J_callS cx (As := [.int (iI ((f ((nu * lw * lc + c2) + (j * lc))) - (tah f lc bst ((nu * lw * lc + c2) + (j * lc)) mu)))]) (rest := [.int (iI by2), .ref mo]) (mX8_folded l X ((f ((nu * lw * lc + c2) + (j * lc))) - (tah f lc bst ((nu * lw * lc + c2) + (j * lc)) mu)) (by omega)) T614 T612 T613 T9 hd_X8_folded rfl ⟨Nat.le_of_ble_eq_true rfl, Nat.le_of_ble_eq_true rfl⟩ (Nat.le_of_ble_eq_true rfl) ⟨Nat.le_of_ble_eq_true rfl, Nat.le_of_ble_eq_true rfl⟩ [] [0, 1, 2, 3, 4] rfl rfl rfl rfl rfl (by decide) dX8_writeBlock_195 rfl (J_f (ws' := [(mo, .inr (8, [.int (iI mc), .int (iI mw), .int (iI mt), .ref as_, .int (iI y.2), .ref aw, .int (iI bk), .ref ac, .int (iI lc), .int (iI lw), .int (iI lm), .ref al, .int (iI F), .ref aco, .int (iI rn), .int (iI rc), .ref ars, .int (iI q), .int (iI bg), .int (iI ov), .int (iI wg), .ref acm, .ref ame])), (aw, .inl (X.2.2, 64000, .inl (aI y.1))), (al, .inl (X.2.1, 800, .inl (aI f))), (ac, .inl (X.2.1, 3200, .inl (aI cf))), (ame, .inl (X.2.1, 8, .inl (aI me)))]) (st' := [.int (iI (foldI ((f ((nu * lw * lc + c2) + (j * lc))) - (tah f lc bst ((nu * lw * lc + c2) + (j * lc)) mu)))), .int (iI by2), .ref mo]) [0, 1, 2, 3, 4] rfl rfl rfl rfl ?_)
          refine J_top (b := rst f lc bst (nu * lw * lc + c2 + j * lc) mu) rfl ?_
          refine J_callV (C := RX8) (T := TX8) (N := 23) cx (As := [.int (iI by2), .int (iI (rst f lc bst (nu * lw * lc + c2 + j * lc) mu))]) (rest := []) (mX8_putNumber l X mo mc mw mt as_ aw bk ac lc lw lm al F aco rn rc ars q bg ov wg acm ame y by2 (rst f lc bst (nu * lw * lc + c2 + j * lc) mu) (by omega) (by omega) (by omega)) T575 T572 T574 S14 T9 ⟨rfl, hd_X8_putNumber⟩ rfl ⟨Nat.le_of_ble_eq_true rfl, Nat.le_of_ble_eq_true rfl⟩ (Nat.le_of_ble_eq_true rfl) ⟨Nat.le_of_ble_eq_true rfl, Nat.le_of_ble_eq_true rfl⟩ [0, 1] [2, 3, 4] rfl rfl rfl rfl rfl (by decide) 0 rfl rfl dX8_writeBlock_198 rfl (J_f (ws' := [(mo, .inr (8, [.int (iI mc), .int (iI mw), .int (iI mt), .ref as_, .int (iI ((pnum by2 (rst f lc bst (nu * lw * lc + c2 + j * lc) mu) y).2)), .ref aw, .int (iI bk), .ref ac, .int (iI lc), .int (iI lw), .int (iI lm), .ref al, .int (iI F), .ref aco, .int (iI rn), .int (iI rc), .ref ars, .int (iI q), .int (iI bg), .int (iI ov), .int (iI wg), .ref acm, .ref ame])), (aw, .inl (X.2.2, 64000, .inl (aI ((pnum by2 (rst f lc bst (nu * lw * lc + c2 + j * lc) mu) y).1)))), (al, .inl (X.2.1, 800, .inl (aI f))), (ac, .inl (X.2.1, 3200, .inl (aI cf))), (ame, .inl (X.2.1, 8, .inl (aI me)))]) (st' := []) [3, 4, 0, 1, 2] rfl rfl rfl rfl ?_)
          refine J_iinc (q := 2) (lv' := [(10, .int (iI (j + 1))), (8, .long (lI (sm + (f ((nu * lw * lc + c2) + (j * lc)))))), (11, .int (iI ((nu * lw * lc + c2) + (j * lc)))), (7, .int (iI x.2)), (5, .int (iI by2)), (4, .int (iI bst)), (3, .int (iI mu)), (0, .ref mo), (1, .int (iI nu)), (2, .int (iI c2))]) cx dX8_writeBlock_201 rfl (by decide) rfl ?_
          refine J_goto (tgt := 124) cx dX8_writeBlock_204 (by decide) ?_
          refine J_lv (lv' := [(10, .int (iI (j + 1))), (8, .long (lI (sm + (f ((nu * lw * lc + c2) + (j * lc)))))), (7, .int (iI x.2)), (5, .int (iI by2)), (4, .int (iI bst)), (3, .int (iI mu)), (0, .ref mo), (1, .int (iI nu)), (2, .int (iI c2))]) [0, 1, 3, 4, 5, 6, 7, 8, 9] rfl ?_
          exact ih_124 (sm + (f ((nu * lw * lc + c2) + (j * lc)))) (j + 1) (pnum by2 (rst f lc bst (nu * lw * lc + c2 + j * lc) mu) y) ⟨(by omega), (by rw [bsum_s hj.1, hsm]), (by first | (rw [hy]; unfold pbM; rw [if_pos h_165, if_pos h_165]; done) | (rw [hy]; unfold pbM; rw [if_neg h_165, if_neg h_165, prest_s hj.1])), (by refine ⟨fun h5 => ?_, fun h5 => ?_⟩ <;> first | (exact absurd h5 (by omega)) | (exact hyn.1 h5) | (rw [pnum_n (by omega) hrj.1, hyn.2 h5, zsum_s hj.1, Int.add_mul]; omega))⟩ (by omega)
  · intro jn_93
    refine J_aload_n cx dX8_writeBlock_15 rfl 4 rfl ?_
    refine J_iload_n cx dX8_writeBlock_16 rfl 5 rfl ?_
    refine J_iload_n cx dX8_writeBlock_17 rfl 6 rfl ?_
    refine J_iload_n cx dX8_writeBlock_18 rfl 3 rfl ?_
    refine J_callV (C := RX8) (T := TX8) (N := 23) cx (As := [.int (iI nu), .int (iI c2), .int (iI mu)]) (rest := []) (mX8_isMean l X mo mc mw mt as_ x.2 aw bk ac lc lw lm al F aco rn rc ars q bg ov wg acm ame f nu c2 mu (by omega) (by omega) (by omega) (by omega) (by omega) (hf) (by omega)) T590 T587 T589 S17 T9 ⟨rfl, hd_X8_isMean⟩ rfl ⟨Nat.le_of_ble_eq_true rfl, Nat.le_of_ble_eq_true rfl⟩ (Nat.le_of_ble_eq_true rfl) ⟨Nat.le_of_ble_eq_true rfl, Nat.le_of_ble_eq_true rfl⟩ [0, 2] [1, 3, 4] rfl rfl rfl rfl rfl (by decide) 0 rfl rfl dX8_writeBlock_19 rfl (J_f (ws' := [(mo, .inr (8, [.int (iI mc), .int (iI mw), .int (iI mt), .ref as_, .int (iI x.2), .ref aw, .int (iI bk), .ref ac, .int (iI lc), .int (iI lw), .int (iI lm), .ref al, .int (iI F), .ref aco, .int (iI rn), .int (iI rc), .ref ars, .int (iI q), .int (iI bg), .int (iI ov), .int (iI wg), .ref acm, .ref ame])), (aw, .inl (X.2.2, 64000, .inl (aI x.1))), (al, .inl (X.2.1, 800, .inl (aI f))), (ac, .inl (X.2.1, 3200, .inl (aI cf))), (ame, .inl (X.2.1, 8, .inl (aI me)))]) (st' := [.int (iI (emN f lc (nu * lw * lc + c2) mu (mnI lw (lm - nu * lw)).toNat))]) [3, 0, 4, 1, 2] rfl rfl rfl rfl ?_)
    have hem01 := em_01 f lc (nu * lw * lc + c2) mu (mnI lw (lm - nu * lw)).toNat
    have hemz := emz (f := f) (mu := mu) hbF hbS
    refine J_if_ne (tgt := 93) cx dX8_writeBlock_22 (by decide) (by omega) (fun h_22 => ?_) (fun h_22 => ?_)
    · skip
      have hfin : (4 : Int) = cF f lc lw lm (nu * lc + c2) ∧ (-1 : Int) = cK f lc lw lm (nu * lc + c2) := by (have h5 : chZ f lc lw lm mu (nu * lc + c2) = 0 := (by by_cases h6 : chZ f lc lw lm mu (nu * lc + c2) = 0; exact h6; exact absurd (hemz.mpr h6) h_22)); (have h7 := ch_mean h5); (rw [hmu1] at h7); (exact ⟨h7.1.symm, h7.2.symm⟩)
      refine J_lv (lv' := [(5, .int (iI (-1))), (4, .int (iI 4)), (3, .int (iI mu)), (0, .ref mo), (1, .int (iI nu)), (2, .int (iI c2))]) [1, 2, 3, 4, 5, 6] rfl ?_
      exact jn_93 4 (-1) ⟨(hfin.1), (hfin.2)⟩
    · skip
      refine J_iconst cx dX8_writeBlock_25 ?_
      refine J_istore (lv' := [(7, .int (iI 0)), (6, .int (iI 0)), (5, .int (iI (-1))), (4, .int (iI 4)), (3, .int (iI mu)), (0, .ref mo), (1, .int (iI nu)), (2, .int (iI c2))]) cx dX8_writeBlock_26 (by decide) rfl ?_
      refine J_loop4 (fun (fn : Int) (bst : Int) (by2 : Int) (le : Int) => [(mo, .inr (8, [.int (iI mc), .int (iI mw), .int (iI mt), .ref as_, .int (iI x.2), .ref aw, .int (iI bk), .ref ac, .int (iI lc), .int (iI lw), .int (iI lm), .ref al, .int (iI F), .ref aco, .int (iI rn), .int (iI rc), .ref ars, .int (iI q), .int (iI bg), .int (iI ov), .int (iI wg), .ref acm, .ref ame])), (aw, .inl (X.2.2, 64000, .inl (aI x.1))), (al, .inl (X.2.1, 800, .inl (aI f))), (ac, .inl (X.2.1, 3200, .inl (aI cf))), (ame, .inl (X.2.1, 8, .inl (aI me)))]) (fun (fn : Int) (bst : Int) (by2 : Int) (le : Int) => [(7, .int (iI fn)), (6, .int (iI le)), (5, .int (iI by2)), (4, .int (iI bst)), (3, .int (iI mu)), (0, .ref mo), (1, .int (iI nu)), (2, .int (iI c2))]) (fun (fn : Int) (bst : Int) (by2 : Int) (le : Int) => (0 ≤ fn ∧ fn ≤ 4) ∧ (-1000 ≤ le ∧ le ≤ 2147483647) ∧ (chM (cost f lc lw lm mu (nu * lc + c2)) (16 * fn) bst by2 le)) (fun (fn : Int) (bst : Int) (by2 : Int) (le : Int) => (4 - fn).toNat) 0 4 (-1) 0 ⟨(by omega), (by omega), (Or.inl ⟨by decide, rfl, rfl, rfl⟩)⟩ ?_
      intro fn bst by2 le hI ih_28
      obtain ⟨hfn, hle, hst⟩ := hI
      try dsimp only at hfn hle hst
      refine J_iload cx dX8_writeBlock_28 0 rfl ?_
      refine J_iconst cx dX8_writeBlock_30 ?_
      refine J_icmp_ge (tgt := 93) cx dX8_writeBlock_31 (by decide) (by omega) (by decide) (fun h_31 => ?_) (fun h_31 => ?_)
      · skip
        have hfin : bst = cF f lc lw lm (nu * lc + c2) ∧ by2 = cK f lc lw lm (nu * lc + c2) := by (have h7 := ch_best (hemz.mp h_22) (show chM (cost f lc lw lm mu (nu * lc + c2)) 64 bst by2 le from by rw [show (64 : Int) = 16 * fn by omega]; exact hst)); (rw [hmu1] at h7); (exact h7)
        refine J_lv (lv' := [(5, .int (iI by2)), (4, .int (iI bst)), (3, .int (iI mu)), (0, .ref mo), (1, .int (iI nu)), (2, .int (iI c2))]) [2, 3, 4, 5, 6, 7] rfl ?_
        exact jn_93 bst by2 ⟨(hfin.1), (hfin.2)⟩
      · skip
        refine J_iconst cx dX8_writeBlock_34 ?_
        refine J_istore (lv' := [(8, .int (iI 0)), (7, .int (iI fn)), (6, .int (iI le)), (5, .int (iI by2)), (4, .int (iI bst)), (3, .int (iI mu)), (0, .ref mo), (1, .int (iI nu)), (2, .int (iI c2))]) cx dX8_writeBlock_35 (by decide) rfl ?_
        refine J_loop4 (fun (k : Int) (bst : Int) (by2 : Int) (le : Int) => [(mo, .inr (8, [.int (iI mc), .int (iI mw), .int (iI mt), .ref as_, .int (iI x.2), .ref aw, .int (iI bk), .ref ac, .int (iI lc), .int (iI lw), .int (iI lm), .ref al, .int (iI F), .ref aco, .int (iI rn), .int (iI rc), .ref ars, .int (iI q), .int (iI bg), .int (iI ov), .int (iI wg), .ref acm, .ref ame])), (aw, .inl (X.2.2, 64000, .inl (aI x.1))), (al, .inl (X.2.1, 800, .inl (aI f))), (ac, .inl (X.2.1, 3200, .inl (aI cf))), (ame, .inl (X.2.1, 8, .inl (aI me)))]) (fun (k : Int) (bst : Int) (by2 : Int) (le : Int) => [(8, .int (iI k)), (7, .int (iI fn)), (6, .int (iI le)), (5, .int (iI by2)), (4, .int (iI bst)), (3, .int (iI mu)), (0, .ref mo), (1, .int (iI nu)), (2, .int (iI c2))]) (fun (k : Int) (bst : Int) (by2 : Int) (le : Int) => (0 ≤ k ∧ k ≤ 16) ∧ (-1000 ≤ le ∧ le ≤ 2147483647) ∧ (chM (cost f lc lw lm mu (nu * lc + c2)) (16 * fn + k) bst by2 le)) (fun (k : Int) (bst : Int) (by2 : Int) (le : Int) => (16 - k).toNat) 0 bst by2 le ⟨(by omega), (by omega), (by rw [Int.add_zero]; exact hst)⟩ ?_
        intro k bst by2 le hI ih_37
        obtain ⟨hk, hle, hst2⟩ := hI
        try dsimp only at hk hle hst2
        have hbyr := chM_by (C := (cost f lc lw lm mu (nu * lc + c2))) (by have := hcr 0 0 (by decide) (by decide); omega) hst2 (by omega)
        refine J_iload cx dX8_writeBlock_37 0 rfl ?_
        refine J_bipush cx dX8_writeBlock_39 (by decide) ?_
        refine J_icmp_ge (tgt := 87) cx dX8_writeBlock_41 (by decide) (by omega) (by decide) (fun h_41 => ?_) (fun h_41 => ?_)
        · skip
          refine J_iinc (q := 1) (lv' := [(7, .int (iI (fn + 1))), (8, .int (iI k)), (6, .int (iI le)), (5, .int (iI by2)), (4, .int (iI bst)), (3, .int (iI mu)), (0, .ref mo), (1, .int (iI nu)), (2, .int (iI c2))]) cx dX8_writeBlock_87 rfl (by decide) rfl ?_
          refine J_goto (tgt := 28) cx dX8_writeBlock_90 (by decide) ?_
          refine J_lv (lv' := [(7, .int (iI (fn + 1))), (6, .int (iI le)), (5, .int (iI by2)), (4, .int (iI bst)), (3, .int (iI mu)), (0, .ref mo), (1, .int (iI nu)), (2, .int (iI c2))]) [0, 2, 3, 4, 5, 6, 7, 8] rfl ?_
          exact ih_28 (fn + 1) bst by2 le ⟨(by omega), (by omega), (by rw [show 16 * (fn + 1) = 16 * fn + k by omega]; exact hst2)⟩ (by omega)
        · skip
          refine J_aload_n cx dX8_writeBlock_44 rfl 6 rfl ?_
          refine J_iload_n cx dX8_writeBlock_45 rfl 7 rfl ?_
          refine J_iload_n cx dX8_writeBlock_46 rfl 8 rfl ?_
          refine J_iload cx dX8_writeBlock_47 1 rfl ?_
          refine J_iload cx dX8_writeBlock_49 0 rfl ?_
          refine J_iload_n cx dX8_writeBlock_51 rfl 5 rfl ?_
          refine J_callV (C := RX8) (T := TX8) (N := 23) cx (As := [.int (iI nu), .int (iI c2), .int (iI fn), .int (iI k), .int (iI mu)]) (rest := []) (mX8_costOf l X mo mc mw mt as_ x.2 aw bk ac lc lw lm al F aco rn rc ars q bg ov wg acm ame f nu c2 fn k mu (by omega) (by omega) (by omega) (hc2) (by omega) (hf) (by omega) (by omega) (by omega)) T602 T599 T601 S20 T9 ⟨rfl, hd_X8_costOf⟩ rfl ⟨Nat.le_of_ble_eq_true rfl, Nat.le_of_ble_eq_true rfl⟩ (Nat.le_of_ble_eq_true rfl) ⟨Nat.le_of_ble_eq_true rfl, Nat.le_of_ble_eq_true rfl⟩ [0, 2] [1, 3, 4] rfl rfl rfl rfl rfl (by decide) 0 rfl rfl dX8_writeBlock_52 rfl (J_f (ws' := [(mo, .inr (8, [.int (iI mc), .int (iI mw), .int (iI mt), .ref as_, .int (iI x.2), .ref aw, .int (iI bk), .ref ac, .int (iI lc), .int (iI lw), .int (iI lm), .ref al, .int (iI F), .ref aco, .int (iI rn), .int (iI rc), .ref ars, .int (iI q), .int (iI bg), .int (iI ov), .int (iI wg), .ref acm, .ref ame])), (aw, .inl (X.2.2, 64000, .inl (aI x.1))), (al, .inl (X.2.1, 800, .inl (aI f))), (ac, .inl (X.2.1, 3200, .inl (aI cf))), (ame, .inl (X.2.1, 8, .inl (aI me)))]) (st' := [.int (iI (cost f lc lw lm mu (nu * lc + c2) fn k))]) [3, 0, 4, 1, 2] rfl rfl rfl rfl ?_)
          refine J_istore (lv' := [(9, .int (iI (cost f lc lw lm mu (nu * lc + c2) fn k))), (8, .int (iI k)), (7, .int (iI fn)), (6, .int (iI le)), (5, .int (iI by2)), (4, .int (iI bst)), (3, .int (iI mu)), (0, .ref mo), (1, .int (iI nu)), (2, .int (iI c2))]) cx dX8_writeBlock_55 (by decide) rfl ?_
          refine J_iload cx dX8_writeBlock_57 4 rfl ?_
          refine J_if_lt (tgt := 69) cx dX8_writeBlock_59 (by decide) (by omega) (fun h_59 => ?_) (fun h_59 => ?_)
          · skip
            refine J_iload cx dX8_writeBlock_69 2 rfl ?_
            refine J_istore (lv' := [(4, .int (iI fn)), (9, .int (iI (cost f lc lw lm mu (nu * lc + c2) fn k))), (8, .int (iI k)), (7, .int (iI fn)), (6, .int (iI le)), (5, .int (iI by2)), (3, .int (iI mu)), (0, .ref mo), (1, .int (iI nu)), (2, .int (iI c2))]) cx dX8_writeBlock_71 (by decide) rfl ?_
            refine J_iload cx dX8_writeBlock_73 2 rfl ?_
            refine J_istore (lv' := [(5, .int (iI k)), (4, .int (iI fn)), (9, .int (iI (cost f lc lw lm mu (nu * lc + c2) fn k))), (8, .int (iI k)), (7, .int (iI fn)), (6, .int (iI le)), (3, .int (iI mu)), (0, .ref mo), (1, .int (iI nu)), (2, .int (iI c2))]) cx dX8_writeBlock_75 (by decide) rfl ?_
            refine J_iload cx dX8_writeBlock_77 2 rfl ?_
            refine J_istore (lv' := [(6, .int (iI (cost f lc lw lm mu (nu * lc + c2) fn k))), (5, .int (iI k)), (4, .int (iI fn)), (9, .int (iI (cost f lc lw lm mu (nu * lc + c2) fn k))), (8, .int (iI k)), (7, .int (iI fn)), (3, .int (iI mu)), (0, .ref mo), (1, .int (iI nu)), (2, .int (iI c2))]) cx dX8_writeBlock_79 (by decide) rfl ?_
            refine J_iinc (q := 4) (lv' := [(8, .int (iI (k + 1))), (6, .int (iI (cost f lc lw lm mu (nu * lc + c2) fn k))), (5, .int (iI k)), (4, .int (iI fn)), (9, .int (iI (cost f lc lw lm mu (nu * lc + c2) fn k))), (7, .int (iI fn)), (3, .int (iI mu)), (0, .ref mo), (1, .int (iI nu)), (2, .int (iI c2))]) cx dX8_writeBlock_81 rfl (by decide) rfl ?_
            refine J_goto (tgt := 37) cx dX8_writeBlock_84 (by decide) ?_
            refine J_lv (lv' := [(8, .int (iI (k + 1))), (7, .int (iI fn)), (6, .int (iI (cost f lc lw lm mu (nu * lc + c2) fn k))), (5, .int (iI k)), (4, .int (iI fn)), (3, .int (iI mu)), (0, .ref mo), (1, .int (iI nu)), (2, .int (iI c2))]) [0, 5, 1, 2, 3, 6, 7, 8, 9] rfl ?_
            exact ih_37 (k + 1) fn k (cost f lc lw lm mu (nu * lc + c2) fn k) ⟨(by omega), (by have := hcr fn k; omega), (by rw [← Int.add_assoc]; first | exact chM_lt hst2 (by omega) (by omega) rfl (by have := hcr fn k (by omega) (by omega); omega) (by omega) | exact chM_ge hst2 (by omega) (by omega) rfl (by omega) (by omega))⟩ (by omega)
          · skip
            refine J_iload cx dX8_writeBlock_62 0 rfl ?_
            refine J_iload cx dX8_writeBlock_64 3 rfl ?_
            refine J_icmp_ge (tgt := 81) cx dX8_writeBlock_66 (by decide) (by have := hcr fn k (by omega) (by omega); omega) (by omega) (fun h_66 => ?_) (fun h_66 => ?_)
            · skip
              refine J_iinc (q := 1) (lv' := [(8, .int (iI (k + 1))), (9, .int (iI (cost f lc lw lm mu (nu * lc + c2) fn k))), (7, .int (iI fn)), (6, .int (iI le)), (5, .int (iI by2)), (4, .int (iI bst)), (3, .int (iI mu)), (0, .ref mo), (1, .int (iI nu)), (2, .int (iI c2))]) cx dX8_writeBlock_81 rfl (by decide) rfl ?_
              refine J_goto (tgt := 37) cx dX8_writeBlock_84 (by decide) ?_
              refine J_lv (lv' := [(8, .int (iI (k + 1))), (7, .int (iI fn)), (6, .int (iI le)), (5, .int (iI by2)), (4, .int (iI bst)), (3, .int (iI mu)), (0, .ref mo), (1, .int (iI nu)), (2, .int (iI c2))]) [0, 2, 3, 4, 5, 6, 7, 8, 9] rfl ?_
              exact ih_37 (k + 1) bst by2 le ⟨(by omega), (by have := hcr fn k; omega), (by rw [← Int.add_assoc]; first | exact chM_lt hst2 (by omega) (by omega) rfl (by have := hcr fn k (by omega) (by omega); omega) (by omega) | exact chM_ge hst2 (by omega) (by omega) rfl (by omega) (by omega))⟩ (by omega)
            · skip
              refine J_iload cx dX8_writeBlock_69 2 rfl ?_
              refine J_istore (lv' := [(4, .int (iI fn)), (9, .int (iI (cost f lc lw lm mu (nu * lc + c2) fn k))), (8, .int (iI k)), (7, .int (iI fn)), (6, .int (iI le)), (5, .int (iI by2)), (3, .int (iI mu)), (0, .ref mo), (1, .int (iI nu)), (2, .int (iI c2))]) cx dX8_writeBlock_71 (by decide) rfl ?_
              refine J_iload cx dX8_writeBlock_73 2 rfl ?_
              refine J_istore (lv' := [(5, .int (iI k)), (4, .int (iI fn)), (9, .int (iI (cost f lc lw lm mu (nu * lc + c2) fn k))), (8, .int (iI k)), (7, .int (iI fn)), (6, .int (iI le)), (3, .int (iI mu)), (0, .ref mo), (1, .int (iI nu)), (2, .int (iI c2))]) cx dX8_writeBlock_75 (by decide) rfl ?_
              refine J_iload cx dX8_writeBlock_77 2 rfl ?_
              refine J_istore (lv' := [(6, .int (iI (cost f lc lw lm mu (nu * lc + c2) fn k))), (5, .int (iI k)), (4, .int (iI fn)), (9, .int (iI (cost f lc lw lm mu (nu * lc + c2) fn k))), (8, .int (iI k)), (7, .int (iI fn)), (3, .int (iI mu)), (0, .ref mo), (1, .int (iI nu)), (2, .int (iI c2))]) cx dX8_writeBlock_79 (by decide) rfl ?_
              refine J_iinc (q := 4) (lv' := [(8, .int (iI (k + 1))), (6, .int (iI (cost f lc lw lm mu (nu * lc + c2) fn k))), (5, .int (iI k)), (4, .int (iI fn)), (9, .int (iI (cost f lc lw lm mu (nu * lc + c2) fn k))), (7, .int (iI fn)), (3, .int (iI mu)), (0, .ref mo), (1, .int (iI nu)), (2, .int (iI c2))]) cx dX8_writeBlock_81 rfl (by decide) rfl ?_
              refine J_goto (tgt := 37) cx dX8_writeBlock_84 (by decide) ?_
              refine J_lv (lv' := [(8, .int (iI (k + 1))), (7, .int (iI fn)), (6, .int (iI (cost f lc lw lm mu (nu * lc + c2) fn k))), (5, .int (iI k)), (4, .int (iI fn)), (3, .int (iI mu)), (0, .ref mo), (1, .int (iI nu)), (2, .int (iI c2))]) [0, 5, 1, 2, 3, 6, 7, 8, 9] rfl ?_
              exact ih_37 (k + 1) fn k (cost f lc lw lm mu (nu * lc + c2) fn k) ⟨(by omega), (by have := hcr fn k; omega), (by rw [← Int.add_assoc]; first | exact chM_lt hst2 (by omega) (by omega) rfl (by have := hcr fn k (by omega) (by omega); omega) (by omega) | exact chM_ge hst2 (by omega) (by omega) rfl (by omega) (by omega))⟩ (by omega)
