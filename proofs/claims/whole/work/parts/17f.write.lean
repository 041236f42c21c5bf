set_option maxHeartbeats 4000000 in
set_option maxRecDepth 100000 in
theorem mX8_write (l : Launch) (X : GX) (mo : Nat) (mc : Int) (mw : Int) (mt : Int) (as_ : Nat) (nb : Int) (aw : Nat) (bk : Int) (ac : Nat) (lc : Int) (lw : Int) (lm : Int) (al : Nat) (F : Int) (aco : Nat) (rn : Int) (rc : Int) (ars : Nat) (q : Int) (bg : Int) (ov : Int) (wg : Int) (acm : Nat) (ame : Nat) (tf : Int → Int) (w : Int → Int) (f : Int → Int) (cf : Int → Int) (me : Int → Int) (hc : 1 ≤ mc ∧ mc ≤ 2) (hl : 1 ≤ mw ∧ mw ≤ 64) (hn : 0 ≤ mt ∧ mt ≤ 400 * mc) (hf : ∀ j, -32768 ≤ f j ∧ f j ≤ 32767) (htf : ∀ j, -32768 ≤ tf j ∧ tf j ≤ 32767) (hme : ∀ j, -32768 ≤ me j ∧ me j ≤ 32767) : Ct l yX8_write cX8_write 3 (some .int) 4 110 0 0 X [.ref mo] [(mo, .inr (8, [.int (iI mc), .int (iI mw), .int (iI mt), .ref as_, .int (iI nb), .ref aw, .int (iI bk), .ref ac, .int (iI lc), .int (iI lw), .int (iI lm), .ref al, .int (iI F), .ref aco, .int (iI rn), .int (iI rc), .ref ars, .int (iI q), .int (iI bg), .int (iI ov), .int (iI wg), .ref acm, .ref ame])), (as_, .inl (X.2.1, 800, .inl (aI tf))), (aw, .inl (X.2.2, 64000, .inl (aI w))), (al, .inl (X.2.1, 800, .inl (aI f))), (ac, .inl (X.2.1, 3200, .inl (aI cf))), (ame, .inl (X.2.1, 8, .inl (aI me)))] (fun v u => ∃ (cf' me' : Int → Int), v = some (.int (iI ((pwrite (cpyI tf f (mt / mc * mc)) mc mw (mt / mc) w).2 / 8))) ∧ u = [(mo, .inr (8, [.int (iI mc), .int (iI mw), .int (iI mt), .ref as_, .int (iI ((pwrite (cpyI tf f (mt / mc * mc)) mc mw (mt / mc) w).2)), .ref aw, .int (iI (nblk mc mw (mt / mc))), .ref ac, .int (iI mc), .int (iI mw), .int (iI (mt / mc)), .ref al, .int (iI F), .ref aco, .int (iI rn), .int (iI rc), .ref ars, .int (iI q), .int (iI bg), .int (iI ov), .int (iI wg), .ref acm, .ref ame])), (as_, .inl (X.2.1, 800, .inl (aI tf))), (aw, .inl (X.2.2, 64000, .inl (aI ((pwrite (cpyI tf f (mt / mc * mc)) mc mw (mt / mc) w).1)))), (al, .inl (X.2.1, 800, .inl (aI (cpyI tf f (mt / mc * mc))))), (ac, .inl (X.2.1, 3200, .inl (aI cf'))), (ame, .inl (X.2.1, 8, .inl (aI me')))] ∧ okC (cpyI tf f (mt / mc * mc)) mc mw (mt / mc) cf' (nblk mc mw (mt / mc)) ∧ (∀ j, -32768 ≤ me' j ∧ me' j ≤ 32767)) := by
  refine Ct_of (own := RX8) (lv := [(0, .ref mo)]) (by decide +kernel) rfl (Nat.le_of_ble_eq_true rfl) rfl ?_
  intro p e s m args below meth c A cx hr hin
  have hm4 : 0 ≤ mt / mc ∧ mt / mc ≤ 400 ∧ 0 ≤ mt / mc * mc ∧ mt / mc * mc ≤ 800 ∧ mt / mc * mc ≤ mt := by rcases (show mc = 1 ∨ mc = 2 by omega) with e1 | e1 <;> subst e1 <;> omega
  have hF0 : ∀ j, -32768 ≤ (cpyI tf f (mt / mc * mc)) j ∧ (cpyI tf f (mt / mc * mc)) j ≤ 32767 := fun j => by unfold cpyI; split; (exact htf j); (exact hf j)
  have hnb := nblk_rng (ch := mc) (bl := mw) (many := mt / mc) hc hl.1 (by omega)
  have hph := phead_n (ch := mc) (bl := mw) (many := mt / mc) hc hl (by omega) w
  have ep0 : (plow 83 (8 : Int).toNat (w, 0)).2 = 8 := by rw [plow_nI (by decide)]; rfl
  have ep1 : (plow 66 (8 : Int).toNat (plow 83 (8 : Int).toNat (w, 0))).2 = 16 := by rw [plow_nI (by decide), ep0]; rfl
  have eq2 : nbits 2 mc = mc / 4 + 1 + 2 := rfl
  have eq4 : nbits 4 mw = mw / 16 + 1 + 4 := rfl
  have eq6 : nbits 6 (mt / mc) = (mt / mc) / 64 + 1 + 6 := rfl
  have ep2 : (pnum 2 mc (plow 66 (8 : Int).toNat (plow 83 (8 : Int).toNat (w, 0)))).2 = 16 + nbits 2 mc := by rw [pnum_n (by decide) (by omega), ep1]
  have ep3 : (pnum 4 mw (pnum 2 mc (plow 66 (8 : Int).toNat (plow 83 (8 : Int).toNat (w, 0))))).2 = 16 + nbits 2 mc + nbits 4 mw := by rw [pnum_n (by decide) (by omega), ep2]
  refine J_aload_n cx dX8_write_0 rfl 0 rfl ?_
  refine J_aload_n cx dX8_write_1 rfl 0 rfl ?_
  refine J_get cx inC8 0 rfl rfl 0 (by decide) T482 rfl rfl dX8_write_2 ?_
  refine J_put (ty := .int) (ws' := [(mo, .inr (8, [.int (iI mc), .int (iI mw), .int (iI mt), .ref as_, .int (iI nb), .ref aw, .int (iI bk), .ref ac, .int (iI mc), .int (iI lw), .int (iI lm), .ref al, .int (iI F), .ref aco, .int (iI rn), .int (iI rc), .ref ars, .int (iI q), .int (iI bg), .int (iI ov), .int (iI wg), .ref acm, .ref ame])), (as_, .inl (X.2.1, 800, .inl (aI tf))), (aw, .inl (X.2.2, 64000, .inl (aI w))), (al, .inl (X.2.1, 800, .inl (aI f))), (ac, .inl (X.2.1, 3200, .inl (aI cf))), (ame, .inl (X.2.1, 8, .inl (aI me)))]) cx inC8 tyX8_ok nmX8 0 rfl rfl 8 (by decide) T490 rfl rfl (by decide +kernel) (rfl) (rfl) (Nat.le_of_ble_eq_true rfl) rfl dX8_write_5 ?_
  refine J_aload_n cx dX8_write_8 rfl 0 rfl ?_
  refine J_aload_n cx dX8_write_9 rfl 0 rfl ?_
  refine J_get cx inC8 0 rfl rfl 1 (by decide) T483 rfl rfl dX8_write_10 ?_
  refine J_put (ty := .int) (ws' := [(mo, .inr (8, [.int (iI mc), .int (iI mw), .int (iI mt), .ref as_, .int (iI nb), .ref aw, .int (iI bk), .ref ac, .int (iI mc), .int (iI mw), .int (iI lm), .ref al, .int (iI F), .ref aco, .int (iI rn), .int (iI rc), .ref ars, .int (iI q), .int (iI bg), .int (iI ov), .int (iI wg), .ref acm, .ref ame])), (as_, .inl (X.2.1, 800, .inl (aI tf))), (aw, .inl (X.2.2, 64000, .inl (aI w))), (al, .inl (X.2.1, 800, .inl (aI f))), (ac, .inl (X.2.1, 3200, .inl (aI cf))), (ame, .inl (X.2.1, 8, .inl (aI me)))]) cx inC8 tyX8_ok nmX8 0 rfl rfl 9 (by decide) T491 rfl rfl (by decide +kernel) (rfl) (rfl) (Nat.le_of_ble_eq_true rfl) rfl dX8_write_13 ?_
  refine J_aload_n cx dX8_write_16 rfl 0 rfl ?_
  refine J_aload_n cx dX8_write_17 rfl 0 rfl ?_
  refine J_get cx inC8 0 rfl rfl 2 (by decide) T484 rfl rfl dX8_write_18 ?_
  refine J_aload_n cx dX8_write_21 rfl 0 rfl ?_
  refine J_get cx inC8 0 rfl rfl 0 (by decide) T482 rfl rfl dX8_write_22 ?_
  refine J_idiv cx dX8_write_25 (by omega) (by omega) ?_
  refine J_put (ty := .int) (ws' := [(mo, .inr (8, [.int (iI mc), .int (iI mw), .int (iI mt), .ref as_, .int (iI nb), .ref aw, .int (iI bk), .ref ac, .int (iI mc), .int (iI mw), .int (iI (mt / mc)), .ref al, .int (iI F), .ref aco, .int (iI rn), .int (iI rc), .ref ars, .int (iI q), .int (iI bg), .int (iI ov), .int (iI wg), .ref acm, .ref ame])), (as_, .inl (X.2.1, 800, .inl (aI tf))), (aw, .inl (X.2.2, 64000, .inl (aI w))), (al, .inl (X.2.1, 800, .inl (aI f))), (ac, .inl (X.2.1, 3200, .inl (aI cf))), (ame, .inl (X.2.1, 8, .inl (aI me)))]) cx inC8 tyX8_ok nmX8 0 rfl rfl 10 (by decide) T492 rfl rfl (by decide +kernel) (rfl) (rfl) (Nat.le_of_ble_eq_true rfl) rfl dX8_write_26 ?_
  refine J_iconst cx dX8_write_29 ?_
  refine J_istore_n (lv' := [(1, .int (iI 0)), (0, .ref mo)]) cx dX8_write_30 rfl (by decide) rfl ?_
  refine J_loop2 (fun (k : Int) (f2 : Int → Int) => [(mo, .inr (8, [.int (iI mc), .int (iI mw), .int (iI mt), .ref as_, .int (iI nb), .ref aw, .int (iI bk), .ref ac, .int (iI mc), .int (iI mw), .int (iI (mt / mc)), .ref al, .int (iI F), .ref aco, .int (iI rn), .int (iI rc), .ref ars, .int (iI q), .int (iI bg), .int (iI ov), .int (iI wg), .ref acm, .ref ame])), (as_, .inl (X.2.1, 800, .inl (aI tf))), (aw, .inl (X.2.2, 64000, .inl (aI w))), (al, .inl (X.2.1, 800, .inl (aI f2))), (ac, .inl (X.2.1, 3200, .inl (aI cf))), (ame, .inl (X.2.1, 8, .inl (aI me)))]) (fun (k : Int) (f2 : Int → Int) => [(1, .int (iI k)), (0, .ref mo)]) (fun (k : Int) (f2 : Int → Int) => (0 ≤ k ∧ k ≤ mt / mc * mc) ∧ (f2 = ovr tf f k)) (fun (k : Int) (f2 : Int → Int) => (mt / mc * mc - k).toNat) 0 f ⟨(by omega), ((ovr_0 _ _).symm)⟩ ?_
  intro k f2 hI ih_31
  obtain ⟨hk, hf2⟩ := hI
  try dsimp only at hk hf2
  refine J_iload_n cx dX8_write_31 rfl 0 rfl ?_
  refine J_aload_n cx dX8_write_32 rfl 1 rfl ?_
  refine J_get cx inC8 0 rfl rfl 10 (by decide) T492 rfl rfl dX8_write_33 ?_
  refine J_aload_n cx dX8_write_36 rfl 1 rfl ?_
  refine J_get cx inC8 0 rfl rfl 0 (by decide) T482 rfl rfl dX8_write_37 ?_
  refine J_imul cx dX8_write_40 ?_
  refine J_icmp_ge (tgt := 62) cx dX8_write_41 (by decide) (by omega) (by omega) (fun h_41 => ?_) (fun h_41 => ?_)
  · skip
    have hfk : f2 = cpyI tf f (mt / mc * mc) := by (rw [hf2, show k = mt / mc * mc by omega]); (rfl)
    subst hfk
    refine J_aload_n cx dX8_write_62 rfl 1 rfl ?_
    refine J_iconst cx dX8_write_63 ?_
    refine J_put (ty := .int) (ws' := [(mo, .inr (8, [.int (iI mc), .int (iI mw), .int (iI mt), .ref as_, .int (iI 0), .ref aw, .int (iI bk), .ref ac, .int (iI mc), .int (iI mw), .int (iI (mt / mc)), .ref al, .int (iI F), .ref aco, .int (iI rn), .int (iI rc), .ref ars, .int (iI q), .int (iI bg), .int (iI ov), .int (iI wg), .ref acm, .ref ame])), (as_, .inl (X.2.1, 800, .inl (aI tf))), (aw, .inl (X.2.2, 64000, .inl (aI w))), (al, .inl (X.2.1, 800, .inl (aI (cpyI tf f (mt / mc * mc))))), (ac, .inl (X.2.1, 3200, .inl (aI cf))), (ame, .inl (X.2.1, 8, .inl (aI me)))]) cx inC8 tyX8_ok nmX8 0 rfl rfl 4 (by decide) T486 rfl rfl (by decide +kernel) (rfl) (rfl) (Nat.le_of_ble_eq_true rfl) rfl dX8_write_64 ?_
    refine J_aload_n cx dX8_write_67 rfl 1 rfl ?_
    refine J_iconst cx dX8_write_68 ?_
    refine J_put (ty := .int) (ws' := [(mo, .inr (8, [.int (iI mc), .int (iI mw), .int (iI mt), .ref as_, .int (iI 0), .ref aw, .int (iI 0), .ref ac, .int (iI mc), .int (iI mw), .int (iI (mt / mc)), .ref al, .int (iI F), .ref aco, .int (iI rn), .int (iI rc), .ref ars, .int (iI q), .int (iI bg), .int (iI ov), .int (iI wg), .ref acm, .ref ame])), (as_, .inl (X.2.1, 800, .inl (aI tf))), (aw, .inl (X.2.2, 64000, .inl (aI w))), (al, .inl (X.2.1, 800, .inl (aI (cpyI tf f (mt / mc * mc))))), (ac, .inl (X.2.1, 3200, .inl (aI cf))), (ame, .inl (X.2.1, 8, .inl (aI me)))]) cx inC8 tyX8_ok nmX8 0 rfl rfl 6 (by decide) T488 rfl rfl (by decide +kernel) (rfl) (rfl) (Nat.le_of_ble_eq_true rfl) rfl dX8_write_69 ?_
    refine J_aload_n cx dX8_write_72 rfl 1 rfl ?_
    refine J_callV (C := RX8) (T := TX8) (N := 23) cx (As := []) (rest := []) (mX8_forgetMeans l X mo mc mw mt as_ 0 aw 0 ac mc mw (mt / mc) al F aco rn rc ars q bg ov wg acm ame me ) T567 T564 T566 S12 T9 ⟨rfl, hd_X8_forgetMeans⟩ rfl ⟨Nat.le_of_ble_eq_true rfl, Nat.le_of_ble_eq_true rfl⟩ (Nat.le_of_ble_eq_true rfl) ⟨Nat.le_of_ble_eq_true rfl, Nat.le_of_ble_eq_true rfl⟩ [0, 5] [1, 2, 3, 4] rfl rfl rfl rfl rfl (by decide) 0 rfl rfl dX8_write_73 rfl (J_f (ws' := [(mo, .inr (8, [.int (iI mc), .int (iI mw), .int (iI mt), .ref as_, .int (iI 0), .ref aw, .int (iI 0), .ref ac, .int (iI mc), .int (iI mw), .int (iI (mt / mc)), .ref al, .int (iI F), .ref aco, .int (iI rn), .int (iI rc), .ref ars, .int (iI q), .int (iI bg), .int (iI ov), .int (iI wg), .ref acm, .ref ame])), (as_, .inl (X.2.1, 800, .inl (aI tf))), (aw, .inl (X.2.2, 64000, .inl (aI w))), (al, .inl (X.2.1, 800, .inl (aI (cpyI tf f (mt / mc * mc))))), (ac, .inl (X.2.1, 3200, .inl (aI cf))), (ame, .inl (X.2.1, 8, .inl (aI (ovr (fun _ => 0) me 8))))]) (st' := []) [4, 0, 1, 2, 3, 5] rfl rfl rfl rfl ?_)
    refine J_ws (ws' := [(mo, .inr (8, [.int (iI mc), .int (iI mw), .int (iI mt), .ref as_, .int (iI ((w, 0).2)), .ref aw, .int (iI 0), .ref ac, .int (iI mc), .int (iI mw), .int (iI (mt / mc)), .ref al, .int (iI F), .ref aco, .int (iI rn), .int (iI rc), .ref ars, .int (iI q), .int (iI bg), .int (iI ov), .int (iI wg), .ref acm, .ref ame])), (as_, .inl (X.2.1, 800, .inl (aI tf))), (aw, .inl (X.2.2, 64000, .inl (aI ((w, 0).1)))), (al, .inl (X.2.1, 800, .inl (aI (cpyI tf f (mt / mc * mc))))), (ac, .inl (X.2.1, 3200, .inl (aI cf))), (ame, .inl (X.2.1, 8, .inl (aI (ovr (fun _ => 0) me 8))))]) rfl ?_
    refine J_bipush cx dX8_write_76 (by decide) ?_
    refine J_istore_n (lv' := [(1, .int (iI 7)), (0, .ref mo)]) cx dX8_write_78 rfl (by decide) rfl ?_
    refine J_loop2 (fun (sh : Int) (y : BB) => [(mo, .inr (8, [.int (iI mc), .int (iI mw), .int (iI mt), .ref as_, .int (iI y.2), .ref aw, .int (iI 0), .ref ac, .int (iI mc), .int (iI mw), .int (iI (mt / mc)), .ref al, .int (iI F), .ref aco, .int (iI rn), .int (iI rc), .ref ars, .int (iI q), .int (iI bg), .int (iI ov), .int (iI wg), .ref acm, .ref ame])), (as_, .inl (X.2.1, 800, .inl (aI tf))), (aw, .inl (X.2.2, 64000, .inl (aI y.1))), (al, .inl (X.2.1, 800, .inl (aI (cpyI tf f (mt / mc * mc))))), (ac, .inl (X.2.1, 3200, .inl (aI cf))), (ame, .inl (X.2.1, 8, .inl (aI (ovr (fun _ => 0) me 8))))]) (fun (sh : Int) (y : BB) => [(1, .int (iI sh)), (0, .ref mo)]) (fun (sh : Int) (y : BB) => (-1 ≤ sh ∧ sh ≤ 7) ∧ (plow 83 (sh + 1).toNat y = plow 83 (8 : Int).toNat (w, 0)) ∧ (y.2 + sh + 1 = 8)) (fun (sh : Int) (y : BB) => (sh + 1).toNat) 7 (w, 0) ⟨(by omega), (rfl), (rfl)⟩ ?_
    intro sh y hI ih_79
    obtain ⟨hsh, hy, hyn⟩ := hI
    try dsimp only at hsh hy hyn
    refine J_iload_n cx dX8_write_79 rfl 0 rfl ?_
    refine J_if_lt (tgt := 99) cx dX8_write_80 (by decide) (by omega) (fun h_80 => ?_) (fun h_80 => ?_)
    · skip
      have hyy : y = plow 83 (8 : Int).toNat (w, 0) := by rw [← hy, show (sh + 1).toNat = 0 by omega]; rfl
      subst hyy
      refine J_bipush cx dX8_write_99 (by decide) ?_
      refine J_istore_n (lv' := [(1, .int (iI 7)), (0, .ref mo)]) cx dX8_write_101 rfl (by decide) rfl ?_
      refine J_loop2 (fun (sh : Int) (y : BB) => [(mo, .inr (8, [.int (iI mc), .int (iI mw), .int (iI mt), .ref as_, .int (iI y.2), .ref aw, .int (iI 0), .ref ac, .int (iI mc), .int (iI mw), .int (iI (mt / mc)), .ref al, .int (iI F), .ref aco, .int (iI rn), .int (iI rc), .ref ars, .int (iI q), .int (iI bg), .int (iI ov), .int (iI wg), .ref acm, .ref ame])), (as_, .inl (X.2.1, 800, .inl (aI tf))), (aw, .inl (X.2.2, 64000, .inl (aI y.1))), (al, .inl (X.2.1, 800, .inl (aI (cpyI tf f (mt / mc * mc))))), (ac, .inl (X.2.1, 3200, .inl (aI cf))), (ame, .inl (X.2.1, 8, .inl (aI (ovr (fun _ => 0) me 8))))]) (fun (sh : Int) (y : BB) => [(1, .int (iI sh)), (0, .ref mo)]) (fun (sh : Int) (y : BB) => (-1 ≤ sh ∧ sh ≤ 7) ∧ (plow 66 (sh + 1).toNat y = plow 66 (8 : Int).toNat (plow 83 (8 : Int).toNat (w, 0))) ∧ (y.2 + sh + 1 = 16)) (fun (sh : Int) (y : BB) => (sh + 1).toNat) 7 (plow 83 (8 : Int).toNat (w, 0)) ⟨(by omega), (rfl), (by rw [ep0]; rfl)⟩ ?_
      intro sh y hI ih_102
      obtain ⟨hsh, hy, hyn⟩ := hI
      try dsimp only at hsh hy hyn
      refine J_iload_n cx dX8_write_102 rfl 0 rfl ?_
      refine J_if_lt (tgt := 122) cx dX8_write_103 (by decide) (by omega) (fun h_103 => ?_) (fun h_103 => ?_)
      · skip
        have hyy : y = plow 66 (8 : Int).toNat (plow 83 (8 : Int).toNat (w, 0)) := by rw [← hy, show (sh + 1).toNat = 0 by omega]; rfl
        subst hyy
        refine J_aload_n cx dX8_write_122 rfl 1 rfl ?_
        refine J_iconst cx dX8_write_123 ?_
        refine J_aload_n cx dX8_write_124 rfl 1 rfl ?_
        refine J_get cx inC8 0 rfl rfl 8 (by decide) T490 rfl rfl dX8_write_125 ?_
        refine J_callV (C := RX8) (T := TX8) (N := 23) cx (As := [.int (iI 2), .int (iI mc)]) (rest := []) (mX8_putNumber l X mo mc mw mt as_ aw 0 ac mc mw (mt / mc) al F aco rn rc ars q bg ov wg acm ame (plow 66 (8 : Int).toNat (plow 83 (8 : Int).toNat (w, 0))) 2 mc (by omega) (by omega) (by omega)) T575 T572 T574 S14 T9 ⟨rfl, hd_X8_putNumber⟩ rfl ⟨Nat.le_of_ble_eq_true rfl, Nat.le_of_ble_eq_true rfl⟩ (Nat.le_of_ble_eq_true rfl) ⟨Nat.le_of_ble_eq_true rfl, Nat.le_of_ble_eq_true rfl⟩ [0, 2] [1, 3, 4, 5] rfl rfl rfl rfl rfl (by decide) 0 rfl rfl dX8_write_128 rfl (J_f (ws' := [(mo, .inr (8, [.int (iI mc), .int (iI mw), .int (iI mt), .ref as_, .int (iI ((pnum 2 mc (plow 66 (8 : Int).toNat (plow 83 (8 : Int).toNat (w, 0)))).2)), .ref aw, .int (iI 0), .ref ac, .int (iI mc), .int (iI mw), .int (iI (mt / mc)), .ref al, .int (iI F), .ref aco, .int (iI rn), .int (iI rc), .ref ars, .int (iI q), .int (iI bg), .int (iI ov), .int (iI wg), .ref acm, .ref ame])), (as_, .inl (X.2.1, 800, .inl (aI tf))), (aw, .inl (X.2.2, 64000, .inl (aI ((pnum 2 mc (plow 66 (8 : Int).toNat (plow 83 (8 : Int).toNat (w, 0)))).1)))), (al, .inl (X.2.1, 800, .inl (aI (cpyI tf f (mt / mc * mc))))), (ac, .inl (X.2.1, 3200, .inl (aI cf))), (ame, .inl (X.2.1, 8, .inl (aI (ovr (fun _ => 0) me 8))))]) (st' := []) [4, 0, 5, 1, 2, 3] rfl rfl rfl rfl ?_)
        refine J_aload_n cx dX8_write_131 rfl 1 rfl ?_
        refine J_iconst cx dX8_write_132 ?_
        refine J_aload_n cx dX8_write_133 rfl 1 rfl ?_
        refine J_get cx inC8 0 rfl rfl 9 (by decide) T491 rfl rfl dX8_write_134 ?_
        refine J_callV (C := RX8) (T := TX8) (N := 23) cx (As := [.int (iI 4), .int (iI mw)]) (rest := []) (mX8_putNumber l X mo mc mw mt as_ aw 0 ac mc mw (mt / mc) al F aco rn rc ars q bg ov wg acm ame (pnum 2 mc (plow 66 (8 : Int).toNat (plow 83 (8 : Int).toNat (w, 0)))) 4 mw (by omega) (by omega) (by omega)) T575 T572 T574 S14 T9 ⟨rfl, hd_X8_putNumber⟩ rfl ⟨Nat.le_of_ble_eq_true rfl, Nat.le_of_ble_eq_true rfl⟩ (Nat.le_of_ble_eq_true rfl) ⟨Nat.le_of_ble_eq_true rfl, Nat.le_of_ble_eq_true rfl⟩ [0, 2] [1, 3, 4, 5] rfl rfl rfl rfl rfl (by decide) 0 rfl rfl dX8_write_137 rfl (J_f (ws' := [(mo, .inr (8, [.int (iI mc), .int (iI mw), .int (iI mt), .ref as_, .int (iI ((pnum 4 mw (pnum 2 mc (plow 66 (8 : Int).toNat (plow 83 (8 : Int).toNat (w, 0))))).2)), .ref aw, .int (iI 0), .ref ac, .int (iI mc), .int (iI mw), .int (iI (mt / mc)), .ref al, .int (iI F), .ref aco, .int (iI rn), .int (iI rc), .ref ars, .int (iI q), .int (iI bg), .int (iI ov), .int (iI wg), .ref acm, .ref ame])), (as_, .inl (X.2.1, 800, .inl (aI tf))), (aw, .inl (X.2.2, 64000, .inl (aI ((pnum 4 mw (pnum 2 mc (plow 66 (8 : Int).toNat (plow 83 (8 : Int).toNat (w, 0))))).1)))), (al, .inl (X.2.1, 800, .inl (aI (cpyI tf f (mt / mc * mc))))), (ac, .inl (X.2.1, 3200, .inl (aI cf))), (ame, .inl (X.2.1, 8, .inl (aI (ovr (fun _ => 0) me 8))))]) (st' := []) [4, 0, 5, 1, 2, 3] rfl rfl rfl rfl ?_)
        refine J_aload_n cx dX8_write_140 rfl 1 rfl ?_
        refine J_bipush cx dX8_write_141 (by decide) ?_
        refine J_aload_n cx dX8_write_143 rfl 1 rfl ?_
        refine J_get cx inC8 0 rfl rfl 10 (by decide) T492 rfl rfl dX8_write_144 ?_
        refine J_callV (C := RX8) (T := TX8) (N := 23) cx (As := [.int (iI 6), .int (iI (mt / mc))]) (rest := []) (mX8_putNumber l X mo mc mw mt as_ aw 0 ac mc mw (mt / mc) al F aco rn rc ars q bg ov wg acm ame (pnum 4 mw (pnum 2 mc (plow 66 (8 : Int).toNat (plow 83 (8 : Int).toNat (w, 0))))) 6 (mt / mc) (by omega) (by omega) (by omega)) T575 T572 T574 S14 T9 ⟨rfl, hd_X8_putNumber⟩ rfl ⟨Nat.le_of_ble_eq_true rfl, Nat.le_of_ble_eq_true rfl⟩ (Nat.le_of_ble_eq_true rfl) ⟨Nat.le_of_ble_eq_true rfl, Nat.le_of_ble_eq_true rfl⟩ [0, 2] [1, 3, 4, 5] rfl rfl rfl rfl rfl (by decide) 0 rfl rfl dX8_write_147 rfl (J_f (ws' := [(mo, .inr (8, [.int (iI mc), .int (iI mw), .int (iI mt), .ref as_, .int (iI ((pnum 6 (mt / mc) (pnum 4 mw (pnum 2 mc (plow 66 (8 : Int).toNat (plow 83 (8 : Int).toNat (w, 0)))))).2)), .ref aw, .int (iI 0), .ref ac, .int (iI mc), .int (iI mw), .int (iI (mt / mc)), .ref al, .int (iI F), .ref aco, .int (iI rn), .int (iI rc), .ref ars, .int (iI q), .int (iI bg), .int (iI ov), .int (iI wg), .ref acm, .ref ame])), (as_, .inl (X.2.1, 800, .inl (aI tf))), (aw, .inl (X.2.2, 64000, .inl (aI ((pnum 6 (mt / mc) (pnum 4 mw (pnum 2 mc (plow 66 (8 : Int).toNat (plow 83 (8 : Int).toNat (w, 0)))))).1)))), (al, .inl (X.2.1, 800, .inl (aI (cpyI tf f (mt / mc * mc))))), (ac, .inl (X.2.1, 3200, .inl (aI cf))), (ame, .inl (X.2.1, 8, .inl (aI (ovr (fun _ => 0) me 8))))]) (st' := []) [4, 0, 5, 1, 2, 3] rfl rfl rfl rfl ?_)
        refine J_iconst cx dX8_write_150 ?_
        refine J_istore_n (lv' := [(1, .int (iI 0)), (0, .ref mo)]) cx dX8_write_151 rfl (by decide) rfl ?_
        refine J_loop5 (fun (nu : Int) (y : BB) (bk2 : Int) (cf2 : Int → Int) (me2 : Int → Int) => [(mo, .inr (8, [.int (iI mc), .int (iI mw), .int (iI mt), .ref as_, .int (iI y.2), .ref aw, .int (iI bk2), .ref ac, .int (iI mc), .int (iI mw), .int (iI (mt / mc)), .ref al, .int (iI F), .ref aco, .int (iI rn), .int (iI rc), .ref ars, .int (iI q), .int (iI bg), .int (iI ov), .int (iI wg), .ref acm, .ref ame])), (as_, .inl (X.2.1, 800, .inl (aI tf))), (aw, .inl (X.2.2, 64000, .inl (aI y.1))), (al, .inl (X.2.1, 800, .inl (aI (cpyI tf f (mt / mc * mc))))), (ac, .inl (X.2.1, 3200, .inl (aI cf2))), (ame, .inl (X.2.1, 8, .inl (aI me2)))]) (fun (nu : Int) (y : BB) (bk2 : Int) (cf2 : Int → Int) (me2 : Int → Int) => [(1, .int (iI nu)), (0, .ref mo)]) (fun (nu : Int) (y : BB) (bk2 : Int) (cf2 : Int → Int) (me2 : Int → Int) => (0 ≤ nu ∧ (nu = 0 ∨ (nu - 1) * mw < mt / mc) ∧ 0 ≤ nu * mc ∧ nu * mc ≤ nblk mc mw (mt / mc) ∧ nu ≤ 800) ∧ (bk2 = nu * mc) ∧ (y = pallN (cpyI tf f (mt / mc * mc)) mc mw (mt / mc) (nu * mc).toNat (phead mc mw (mt / mc) w)) ∧ (0 ≤ y.2 ∧ y.2 ≤ 41 + 27 * ssN mc mw (mt / mc) (nu * mc).toNat) ∧ (0 ≤ ssN mc mw (mt / mc) (nu * mc).toNat ∧ ssN mc mw (mt / mc) (nu * mc).toNat ≤ 800) ∧ (okC (cpyI tf f (mt / mc * mc)) mc mw (mt / mc) cf2 (nu * mc)) ∧ (wins me2 (bmean (cpyI tf f (mt / mc * mc)) mc mw (mt / mc)) mc nu 0) ∧ (∀ j, -32768 ≤ me2 j ∧ me2 j ≤ 32767)) (fun (nu : Int) (y : BB) (bk2 : Int) (cf2 : Int → Int) (me2 : Int → Int) => (801 - nu).toNat) 0 (pnum 6 (mt / mc) (pnum 4 mw (pnum 2 mc (plow 66 (8 : Int).toNat (plow 83 (8 : Int).toNat (w, 0)))))) 0 cf (ovr (fun _ => 0) me 8) ⟨(by omega), (by omega), (by rw [Int.zero_mul]; rfl), (by rw [Int.zero_mul]; (show 0 ≤ (phead mc mw (mt / mc) w).2 ∧ (phead mc mw (mt / mc) w).2 ≤ 41 + 27 * 0); omega), (by rw [Int.zero_mul]; (show 0 ≤ (0 : Int) ∧ (0 : Int) ≤ 800); decide), (fun i h5 h6 => by omega), (wins_0 hc (fun j h5 h6 => ovr_in ⟨h5, h6⟩)), (ovr_rng (fun _ _ _ => by decide) hme)⟩ ?_
        intro nu y bk2 cf2 me2 hI ih_152
        obtain ⟨hnu, hbk, hy, hyn, hss, hoc, hwi, hmr⟩ := hI
        try dsimp only at hnu hbk hy hyn hss hoc hwi hmr
        have hnl : 0 ≤ nu * mw := Int.mul_nonneg hnu.1 (by omega)
        have hnm : nu * 1 ≤ nu * mc := Int.mul_le_mul_of_nonneg_left hc.1 hnu.1
        have hnl2 : nu * mw ≤ 800 * 64 := Int.mul_le_mul (by omega) (by omega) (by omega) (by decide)
        refine J_iload_n cx dX8_write_152 rfl 0 rfl ?_
        refine J_aload_n cx dX8_write_153 rfl 1 rfl ?_
        refine J_get cx inC8 0 rfl rfl 9 (by decide) T491 rfl rfl dX8_write_154 ?_
        refine J_imul cx dX8_write_157 ?_
        refine J_aload_n cx dX8_write_158 rfl 1 rfl ?_
        refine J_get cx inC8 0 rfl rfl 10 (by decide) T492 rfl rfl dX8_write_159 ?_
        refine J_icmp_ge (tgt := 193) cx dX8_write_162 (by decide) (by omega) (by omega) (fun h_162 => ?_) (fun h_162 => ?_)
        · skip
          have hnE : nu * mc = nblk mc mw (mt / mc) := nblk_nu (nu_end hl.1 hm4.1 hnu.1 hnu.2.1 (by omega))
          refine J_aload_n cx dX8_write_193 rfl 1 rfl ?_
          refine J_iconst cx dX8_write_194 ?_
          refine J_iconst cx dX8_write_195 ?_
          refine J_callV (C := RX8) (T := TX8) (N := 23) cx (As := [.int (iI 2), .int (iI 5)]) (rest := []) (mX8_putNumber l X mo mc mw mt as_ aw bk2 ac mc mw (mt / mc) al F aco rn rc ars q bg ov wg acm ame y 2 5 (by omega) (by omega) (by have : nbits 2 5 = 4 := rfl; omega)) T575 T572 T574 S14 T9 ⟨rfl, hd_X8_putNumber⟩ rfl ⟨Nat.le_of_ble_eq_true rfl, Nat.le_of_ble_eq_true rfl⟩ (Nat.le_of_ble_eq_true rfl) ⟨Nat.le_of_ble_eq_true rfl, Nat.le_of_ble_eq_true rfl⟩ [0, 2] [1, 3, 4, 5] rfl rfl rfl rfl rfl (by decide) 0 rfl rfl dX8_write_196 rfl (J_f (ws' := [(mo, .inr (8, [.int (iI mc), .int (iI mw), .int (iI mt), .ref as_, .int (iI ((pnum 2 5 y).2)), .ref aw, .int (iI bk2), .ref ac, .int (iI mc), .int (iI mw), .int (iI (mt / mc)), .ref al, .int (iI F), .ref aco, .int (iI rn), .int (iI rc), .ref ars, .int (iI q), .int (iI bg), .int (iI ov), .int (iI wg), .ref acm, .ref ame])), (as_, .inl (X.2.1, 800, .inl (aI tf))), (aw, .inl (X.2.2, 64000, .inl (aI ((pnum 2 5 y).1)))), (al, .inl (X.2.1, 800, .inl (aI (cpyI tf f (mt / mc * mc))))), (ac, .inl (X.2.1, 3200, .inl (aI cf2))), (ame, .inl (X.2.1, 8, .inl (aI me2)))]) (st' := []) [4, 0, 5, 1, 2, 3] rfl rfl rfl rfl ?_)
          have e26 : (pnum 2 5 y).2 = y.2 + 4 := by rw [pnum_n (by decide) (by decide)]; rfl
          have hpf := pfill_n (pnum 2 5 y) (by omega)
          have hfn : 0 ≤ (pnum 2 5 y).2 ∧ (pnum 2 5 y).2 ≤ (pwrite (cpyI tf f (mt / mc * mc)) mc mw (mt / mc) w).2 := by (rw [show pwrite (cpyI tf f (mt / mc * mc)) mc mw (mt / mc) w = pfill (pnum 2 5 y) from by rw [hy, hnE]; rfl]); (omega)
          have hfm : (pwrite (cpyI tf f (mt / mc * mc)) mc mw (mt / mc) w).2 ≤ 24000 := by (rw [show pwrite (cpyI tf f (mt / mc * mc)) mc mw (mt / mc) w = pfill (pnum 2 5 y) from by rw [hy, hnE]; rfl]); (omega)
          refine J_loop1 (fun (y : BB) => [(mo, .inr (8, [.int (iI mc), .int (iI mw), .int (iI mt), .ref as_, .int (iI y.2), .ref aw, .int (iI bk2), .ref ac, .int (iI mc), .int (iI mw), .int (iI (mt / mc)), .ref al, .int (iI F), .ref aco, .int (iI rn), .int (iI rc), .ref ars, .int (iI q), .int (iI bg), .int (iI ov), .int (iI wg), .ref acm, .ref ame])), (as_, .inl (X.2.1, 800, .inl (aI tf))), (aw, .inl (X.2.2, 64000, .inl (aI y.1))), (al, .inl (X.2.1, 800, .inl (aI (cpyI tf f (mt / mc * mc))))), (ac, .inl (X.2.1, 3200, .inl (aI cf2))), (ame, .inl (X.2.1, 8, .inl (aI me2)))]) (fun (y : BB) => [(1, .int (iI nu)), (0, .ref mo)]) (fun (y : BB) => (pfill y = pwrite (cpyI tf f (mt / mc * mc)) mc mw (mt / mc) w) ∧ (0 ≤ y.2 ∧ y.2 ≤ (pwrite (cpyI tf f (mt / mc * mc)) mc mw (mt / mc) w).2)) (fun (y : BB) => ((pwrite (cpyI tf f (mt / mc * mc)) mc mw (mt / mc) w).2 - y.2).toNat) (pnum 2 5 y) ⟨(by rw [hy, hnE]; rfl), (hfn)⟩ ?_
          intro y hI ih_199
          obtain ⟨hy, hyn⟩ := hI
          try dsimp only at hy hyn
          refine J_aload_n cx dX8_write_199 rfl 1 rfl ?_
          refine J_get cx inC8 0 rfl rfl 4 (by decide) T486 rfl rfl dX8_write_200 ?_
          refine J_bipush cx dX8_write_203 (by decide) ?_
          refine J_irem cx dX8_write_205 (by omega) (by omega) ?_
          refine J_if_eq (tgt := 217) cx dX8_write_206 (by decide) (by omega) (fun h_206 => ?_) (fun h_206 => ?_)
          · skip
            have hyy := pfill_x hy h_206
            subst hyy
            refine J_aload_n cx dX8_write_217 rfl 1 rfl ?_
            refine J_get cx inC8 0 rfl rfl 4 (by decide) T486 rfl rfl dX8_write_218 ?_
            refine J_bipush cx dX8_write_221 (by decide) ?_
            refine J_idiv cx dX8_write_223 (by omega) (by omega) ?_
            exact J_iret cx hr dX8_write_224 (⟨cf2, me2, rfl, by rw [hbk, hnE], by rw [← hnE]; exact hoc, hmr⟩)
          · skip
            have hyl : y.2 < (pwrite (cpyI tf f (mt / mc * mc)) mc mw (mt / mc) w).2 := by (have h5 := pfill_n y hyn.1); (rw [hy] at h5); (omega)
            refine J_aload_n cx dX8_write_209 rfl 1 rfl ?_
            refine J_iconst cx dX8_write_210 ?_
            refine J_callV (C := RX8) (T := TX8) (N := 23) cx (As := [.int (iI 0)]) (rest := []) (mX8_putBit l X mo mc mw mt as_ aw bk2 ac mc mw (mt / mc) al F aco rn rc ars q bg ov wg acm ame y 0 (by omega) (by omega)) T571 T568 T570 S13 T9 ⟨rfl, hd_X8_putBit⟩ rfl ⟨Nat.le_of_ble_eq_true rfl, Nat.le_of_ble_eq_true rfl⟩ (Nat.le_of_ble_eq_true rfl) ⟨Nat.le_of_ble_eq_true rfl, Nat.le_of_ble_eq_true rfl⟩ [0, 2] [1, 3, 4, 5] rfl rfl rfl rfl rfl (by decide) 0 rfl rfl dX8_write_211 rfl (J_f (ws' := [(mo, .inr (8, [.int (iI mc), .int (iI mw), .int (iI mt), .ref as_, .int (iI ((pbit 0 y).2)), .ref aw, .int (iI bk2), .ref ac, .int (iI mc), .int (iI mw), .int (iI (mt / mc)), .ref al, .int (iI F), .ref aco, .int (iI rn), .int (iI rc), .ref ars, .int (iI q), .int (iI bg), .int (iI ov), .int (iI wg), .ref acm, .ref ame])), (as_, .inl (X.2.1, 800, .inl (aI tf))), (aw, .inl (X.2.2, 64000, .inl (aI ((pbit 0 y).1)))), (al, .inl (X.2.1, 800, .inl (aI (cpyI tf f (mt / mc * mc))))), (ac, .inl (X.2.1, 3200, .inl (aI cf2))), (ame, .inl (X.2.1, 8, .inl (aI me2)))]) (st' := []) [4, 0, 5, 1, 2, 3] rfl rfl rfl rfl ?_)
            refine J_goto (tgt := 199) cx dX8_write_214 (by decide) ?_
            exact ih_199 (pbit 0 y) ⟨(pfill_go hyn.1 hy h_206), (by rw [pbit_2]; omega)⟩ (by rw [pbit_2]; omega)
        · skip
          refine J_iconst cx dX8_write_165 ?_
          refine J_istore_n (lv' := [(2, .int (iI 0)), (1, .int (iI nu)), (0, .ref mo)]) cx dX8_write_166 rfl (by decide) rfl ?_
          refine J_loop5 (fun (c2 : Int) (y3 : BB) (bk3 : Int) (cf3 : Int → Int) (me3 : Int → Int) => [(mo, .inr (8, [.int (iI mc), .int (iI mw), .int (iI mt), .ref as_, .int (iI y3.2), .ref aw, .int (iI bk3), .ref ac, .int (iI mc), .int (iI mw), .int (iI (mt / mc)), .ref al, .int (iI F), .ref aco, .int (iI rn), .int (iI rc), .ref ars, .int (iI q), .int (iI bg), .int (iI ov), .int (iI wg), .ref acm, .ref ame])), (as_, .inl (X.2.1, 800, .inl (aI tf))), (aw, .inl (X.2.2, 64000, .inl (aI y3.1))), (al, .inl (X.2.1, 800, .inl (aI (cpyI tf f (mt / mc * mc))))), (ac, .inl (X.2.1, 3200, .inl (aI cf3))), (ame, .inl (X.2.1, 8, .inl (aI me3)))]) (fun (c2 : Int) (y3 : BB) (bk3 : Int) (cf3 : Int → Int) (me3 : Int → Int) => [(2, .int (iI c2)), (1, .int (iI nu)), (0, .ref mo)]) (fun (c2 : Int) (y3 : BB) (bk3 : Int) (cf3 : Int → Int) (me3 : Int → Int) => (0 ≤ c2 ∧ c2 ≤ mc ∧ nu * mc + c2 ≤ nblk mc mw (mt / mc)) ∧ (bk3 = nu * mc + c2) ∧ (y3 = pallN (cpyI tf f (mt / mc * mc)) mc mw (mt / mc) (nu * mc + c2).toNat (phead mc mw (mt / mc) w)) ∧ (0 ≤ y3.2 ∧ y3.2 ≤ 41 + 27 * ssN mc mw (mt / mc) (nu * mc + c2).toNat) ∧ (0 ≤ ssN mc mw (mt / mc) (nu * mc + c2).toNat ∧ ssN mc mw (mt / mc) (nu * mc + c2).toNat ≤ 800) ∧ (okC (cpyI tf f (mt / mc * mc)) mc mw (mt / mc) cf3 (nu * mc + c2)) ∧ (wins me3 (bmean (cpyI tf f (mt / mc * mc)) mc mw (mt / mc)) mc nu c2) ∧ (∀ j, -32768 ≤ me3 j ∧ me3 j ≤ 32767)) (fun (c2 : Int) (y3 : BB) (bk3 : Int) (cf3 : Int → Int) (me3 : Int → Int) => (mc - c2).toNat) 0 y bk2 cf2 me2 ⟨(by omega), (by omega), (by rw [Int.add_zero]; exact hy), (by rw [Int.add_zero]; exact hyn), (by rw [Int.add_zero]; exact hss), (by rw [Int.add_zero]; exact hoc), (hwi), (hmr)⟩ ?_
          intro c2 y3 bk3 cf3 me3 hI ih_167
          obtain ⟨hc2, hbk3, hy3, hyn3, hss3, hoc3, hwi3, hmr3⟩ := hI
          try dsimp only at hc2 hbk3 hy3 hyn3 hss3 hoc3 hwi3 hmr3
          refine J_iload_n cx dX8_write_167 rfl 0 rfl ?_
          refine J_aload_n cx dX8_write_168 rfl 2 rfl ?_
          refine J_get cx inC8 0 rfl rfl 8 (by decide) T490 rfl rfl dX8_write_169 ?_
          refine J_icmp_ge (tgt := 187) cx dX8_write_172 (by decide) (by omega) (by omega) (fun h_172 => ?_) (fun h_172 => ?_)
          · skip
            have hcm : c2 = mc := by omega
            have ecm : (nu + 1) * mc = nu * mc + c2 := by rw [Int.add_mul]; omega
            refine J_iinc (q := 1) (lv' := [(1, .int (iI (nu + 1))), (2, .int (iI c2)), (0, .ref mo)]) cx dX8_write_187 rfl (by decide) rfl ?_
            refine J_goto (tgt := 152) cx dX8_write_190 (by decide) ?_
            refine J_lv (lv' := [(1, .int (iI (nu + 1))), (0, .ref mo)]) [0, 2] rfl ?_
            exact ih_152 (nu + 1) y3 bk3 cf3 me3 ⟨(by rw [ecm, Int.add_sub_cancel]; omega), (by rw [ecm]; exact hbk3), (by rw [ecm]; exact hy3), (by rw [ecm]; exact hyn3), (by rw [ecm]; exact hss3), (by rw [ecm]; exact hoc3), (wins_n (by rw [hcm] at hwi3; exact hwi3)), (hmr3)⟩ (by omega)
          · skip
            have hlt := nu_lt (ch := mc) (bl := mw) (many := mt / mc) (nu := nu) (c2 := c2) hc.1 hl.1 (by omega) (by omega)
            have hbs : 1 ≤ bsize mc mw (mt / mc) (nu * mc + c2) ∧ bsize mc mw (mt / mc) (nu * mc + c2) ≤ 64 := by (rw [bs_nu hc ⟨hc2.1, by omega⟩]); (unfold mnI); (split <;> omega)
            have hv := nblk_in (ch := mc) (bl := mw) (many := mt / mc) hc hl.1 (by omega) (show 0 ≤ nu * mc + c2 by omega) hlt
            have hsl := ss_le (ch := mc) (bl := mw) (many := mt / mc) hc hl.1 (show 0 ≤ nu * mc + c2 by omega) hv.2 hv.1
            have hwa := mwin_mean (wins_at hwi3 ⟨hc2.1, by omega⟩)
            have hmu2 : -32768 ≤ muOf (cpyI tf f (mt / mc * mc)) mc mw (mt / mc) (nu * mc + c2) ∧ muOf (cpyI tf f (mt / mc * mc)) mc mw (mt / mc) (nu * mc + c2) ≤ 32767 := by (have h5 : mean4 me3 c2 = muOf (cpyI tf f (mt / mc * mc)) mc mw (mt / mc) (nu * mc + c2) := hwa); (rw [← h5]); (have h6 := hmr3 (4 * c2)); (have h7 := hmr3 (4 * c2 + 1)); (have h8 := hmr3 (4 * c2 + 2)); (have h9 := hmr3 (4 * c2 + 3)); (exact rmean_rng (by decide) (by omega))
            have hcle := cB_le hF0 hmu2 hbs
            have hbm := bmean_rng hF0 hbs.1
            refine J_aload_n cx dX8_write_175 rfl 2 rfl ?_
            refine J_iload_n cx dX8_write_176 rfl 1 rfl ?_
            refine J_iload_n cx dX8_write_177 rfl 0 rfl ?_
            refine J_callV (C := RX8) (T := TX8) (N := 23) cx (As := [.int (iI nu), .int (iI c2)]) (rest := []) (mX8_writeBlock l X mo mc mw mt as_ aw bk3 ac mc mw (mt / mc) al F aco rn rc ars q bg ov wg acm ame y3 (cpyI tf f (mt / mc * mc)) cf3 me3 nu c2 (by omega) (by omega) (by omega) (⟨hc2.1, by omega⟩) (by omega) (hF0) (hmr3) (by omega) (hwa) (hmu2) (by omega)) T579 T576 T578 S15 T9 ⟨rfl, hd_X8_writeBlock⟩ rfl ⟨Nat.le_of_ble_eq_true rfl, Nat.le_of_ble_eq_true rfl⟩ (Nat.le_of_ble_eq_true rfl) ⟨Nat.le_of_ble_eq_true rfl, Nat.le_of_ble_eq_true rfl⟩ [0, 2, 3, 4, 5] [1] rfl rfl rfl rfl rfl (by decide) 0 rfl rfl dX8_write_178 rfl (J_f (ws' := [(mo, .inr (8, [.int (iI mc), .int (iI mw), .int (iI mt), .ref as_, .int (iI ((pblk (cpyI tf f (mt / mc * mc)) mc mw (mt / mc) (nu * mc + c2) y3).2)), .ref aw, .int (iI (bk3 + 1)), .ref ac, .int (iI mc), .int (iI mw), .int (iI (mt / mc)), .ref al, .int (iI F), .ref aco, .int (iI rn), .int (iI rc), .ref ars, .int (iI q), .int (iI bg), .int (iI ov), .int (iI wg), .ref acm, .ref ame])), (as_, .inl (X.2.1, 800, .inl (aI tf))), (aw, .inl (X.2.2, 64000, .inl (aI ((pblk (cpyI tf f (mt / mc * mc)) mc mw (mt / mc) (nu * mc + c2) y3).1)))), (al, .inl (X.2.1, 800, .inl (aI (cpyI tf f (mt / mc * mc))))), (ac, .inl (X.2.1, 3200, .inl (aI (cells4 cf3 bk3 c2 (cF (cpyI tf f (mt / mc * mc)) mc mw (mt / mc) (nu * mc + c2)) (cK (cpyI tf f (mt / mc * mc)) mc mw (mt / mc) (nu * mc + c2)) (cB (cpyI tf f (mt / mc * mc)) mc mw (mt / mc) (nu * mc + c2)))))), (ame, .inl (X.2.1, 8, .inl (aI (noted me3 c2 (bmean (cpyI tf f (mt / mc * mc)) mc mw (mt / mc) (nu * mc + c2))))))]) (st' := []) [1, 0, 2, 3, 4, 5] rfl rfl rfl rfl ?_)
            refine J_iinc (q := 0) (lv' := [(2, .int (iI (c2 + 1))), (1, .int (iI nu)), (0, .ref mo)]) cx dX8_write_181 rfl (by decide) rfl ?_
            refine J_goto (tgt := 167) cx dX8_write_184 (by decide) ?_
            exact ih_167 (c2 + 1) (pblk (cpyI tf f (mt / mc * mc)) mc mw (mt / mc) (nu * mc + c2) y3) (bk3 + 1) (cells4 cf3 bk3 c2 (cF (cpyI tf f (mt / mc * mc)) mc mw (mt / mc) (nu * mc + c2)) (cK (cpyI tf f (mt / mc * mc)) mc mw (mt / mc) (nu * mc + c2)) (cB (cpyI tf f (mt / mc * mc)) mc mw (mt / mc) (nu * mc + c2))) (noted me3 c2 (bmean (cpyI tf f (mt / mc * mc)) mc mw (mt / mc) (nu * mc + c2))) ⟨(by omega), (by omega), (by rw [← Int.add_assoc, hy3]; exact pall_s (by omega)), (by rw [← Int.add_assoc, pblk_n hF0 hmu2 hbs, ss_s (by omega)]; omega), (by rw [← Int.add_assoc, ss_s (by omega)]; omega), (by rw [← Int.add_assoc, hbk3]; exact okC_s hoc3 (by omega) (nu_c hc ⟨hc2.1, by omega⟩).2.symm rfl rfl rfl), (wins_s hc hwi3 ⟨hc2.1, by omega⟩ hnu.2.2.1 rfl), (noted_rng hmr3 hbm c2)⟩ (by omega)
      · skip
        refine J_aload_n cx dX8_write_106 rfl 1 rfl ?_
        refine J_bipush cx dX8_write_107 (by decide) ?_
        refine J_iload_n cx dX8_write_109 rfl 0 rfl ?_
        refine J_ishr cx dX8_write_110 (by omega) (by omega) ?_
        refine J_iconst cx dX8_write_111 ?_
        refine J_iand (r := (66 / p2 sh) % 2) cx dX8_write_112 (iI_and1 _) ?_
        refine J_callV (C := RX8) (T := TX8) (N := 23) cx (As := [.int (iI ((66 / p2 sh) % 2))]) (rest := []) (mX8_putBit l X mo mc mw mt as_ aw 0 ac mc mw (mt / mc) al F aco rn rc ars q bg ov wg acm ame y ((66 / p2 sh) % 2) (by omega) (by omega)) T571 T568 T570 S13 T9 ⟨rfl, hd_X8_putBit⟩ rfl ⟨Nat.le_of_ble_eq_true rfl, Nat.le_of_ble_eq_true rfl⟩ (Nat.le_of_ble_eq_true rfl) ⟨Nat.le_of_ble_eq_true rfl, Nat.le_of_ble_eq_true rfl⟩ [0, 2] [1, 3, 4, 5] rfl rfl rfl rfl rfl (by decide) 0 rfl rfl dX8_write_113 rfl (J_f (ws' := [(mo, .inr (8, [.int (iI mc), .int (iI mw), .int (iI mt), .ref as_, .int (iI ((pbit ((66 / p2 sh) % 2) y).2)), .ref aw, .int (iI 0), .ref ac, .int (iI mc), .int (iI mw), .int (iI (mt / mc)), .ref al, .int (iI F), .ref aco, .int (iI rn), .int (iI rc), .ref ars, .int (iI q), .int (iI bg), .int (iI ov), .int (iI wg), .ref acm, .ref ame])), (as_, .inl (X.2.1, 800, .inl (aI tf))), (aw, .inl (X.2.2, 64000, .inl (aI ((pbit ((66 / p2 sh) % 2) y).1)))), (al, .inl (X.2.1, 800, .inl (aI (cpyI tf f (mt / mc * mc))))), (ac, .inl (X.2.1, 3200, .inl (aI cf))), (ame, .inl (X.2.1, 8, .inl (aI (ovr (fun _ => 0) me 8))))]) (st' := []) [4, 0, 5, 1, 2, 3] rfl rfl rfl rfl ?_)
        refine J_iinc (q := 0) (lv' := [(1, .int (iI (sh + (-1)))), (0, .ref mo)]) cx dX8_write_116 rfl (by decide) rfl ?_
        refine J_goto (tgt := 102) cx dX8_write_119 (by decide) ?_
        exact ih_102 (sh + (-1)) (pbit ((66 / p2 sh) % 2) y) ⟨(by omega), (by have e5 := plow_step (v := 66) (y := y) (sh := sh) (by omega); rw [← hy, e5, show sh + -1 + 1 = sh by omega]), (by rw [pbit_2]; omega)⟩ (by omega)
    · skip
      refine J_aload_n cx dX8_write_83 rfl 1 rfl ?_
      refine J_bipush cx dX8_write_84 (by decide) ?_
      refine J_iload_n cx dX8_write_86 rfl 0 rfl ?_
      refine J_ishr cx dX8_write_87 (by omega) (by omega) ?_
      refine J_iconst cx dX8_write_88 ?_
      refine J_iand (r := (83 / p2 sh) % 2) cx dX8_write_89 (iI_and1 _) ?_
      refine J_callV (C := RX8) (T := TX8) (N := 23) cx (As := [.int (iI ((83 / p2 sh) % 2))]) (rest := []) (mX8_putBit l X mo mc mw mt as_ aw 0 ac mc mw (mt / mc) al F aco rn rc ars q bg ov wg acm ame y ((83 / p2 sh) % 2) (by omega) (by omega)) T571 T568 T570 S13 T9 ⟨rfl, hd_X8_putBit⟩ rfl ⟨Nat.le_of_ble_eq_true rfl, Nat.le_of_ble_eq_true rfl⟩ (Nat.le_of_ble_eq_true rfl) ⟨Nat.le_of_ble_eq_true rfl, Nat.le_of_ble_eq_true rfl⟩ [0, 2] [1, 3, 4, 5] rfl rfl rfl rfl rfl (by decide) 0 rfl rfl dX8_write_90 rfl (J_f (ws' := [(mo, .inr (8, [.int (iI mc), .int (iI mw), .int (iI mt), .ref as_, .int (iI ((pbit ((83 / p2 sh) % 2) y).2)), .ref aw, .int (iI 0), .ref ac, .int (iI mc), .int (iI mw), .int (iI (mt / mc)), .ref al, .int (iI F), .ref aco, .int (iI rn), .int (iI rc), .ref ars, .int (iI q), .int (iI bg), .int (iI ov), .int (iI wg), .ref acm, .ref ame])), (as_, .inl (X.2.1, 800, .inl (aI tf))), (aw, .inl (X.2.2, 64000, .inl (aI ((pbit ((83 / p2 sh) % 2) y).1)))), (al, .inl (X.2.1, 800, .inl (aI (cpyI tf f (mt / mc * mc))))), (ac, .inl (X.2.1, 3200, .inl (aI cf))), (ame, .inl (X.2.1, 8, .inl (aI (ovr (fun _ => 0) me 8))))]) (st' := []) [4, 0, 5, 1, 2, 3] rfl rfl rfl rfl ?_)
      refine J_iinc (q := 0) (lv' := [(1, .int (iI (sh + (-1)))), (0, .ref mo)]) cx dX8_write_93 rfl (by decide) rfl ?_
      refine J_goto (tgt := 79) cx dX8_write_96 (by decide) ?_
      exact ih_79 (sh + (-1)) (pbit ((83 / p2 sh) % 2) y) ⟨(by omega), (by have e5 := plow_step (v := 83) (y := y) (sh := sh) (by omega); rw [← hy, e5, show sh + -1 + 1 = sh by omega]), (by rw [pbit_2]; omega)⟩ (by omega)
  · skip
    refine J_aload_n cx dX8_write_44 rfl 1 rfl ?_
    refine J_get cx inC8 0 rfl rfl 11 (by decide) T493 rfl rfl dX8_write_45 ?_
    refine J_iload_n cx dX8_write_48 rfl 0 rfl ?_
    refine J_aload_n cx dX8_write_49 rfl 1 rfl ?_
    refine J_get cx inC8 0 rfl rfl 3 (by decide) T485 rfl rfl dX8_write_50 ?_
    refine J_iload_n cx dX8_write_53 rfl 0 rfl ?_
    refine J_iald cx 1 rfl (by omega) (by decide) dX8_write_54 ?_
    refine J_iast (ws' := [(mo, .inr (8, [.int (iI mc), .int (iI mw), .int (iI mt), .ref as_, .int (iI nb), .ref aw, .int (iI bk), .ref ac, .int (iI mc), .int (iI mw), .int (iI (mt / mc)), .ref al, .int (iI F), .ref aco, .int (iI rn), .int (iI rc), .ref ars, .int (iI q), .int (iI bg), .int (iI ov), .int (iI wg), .ref acm, .ref ame])), (as_, .inl (X.2.1, 800, .inl (aI tf))), (aw, .inl (X.2.2, 64000, .inl (aI w))), (al, .inl (X.2.1, 800, .inl (aI (upI f2 k (tf k))))), (ac, .inl (X.2.1, 3200, .inl (aI cf))), (ame, .inl (X.2.1, 8, .inl (aI me)))]) cx 3 rfl (by omega) (by decide) rfl dX8_write_55 ?_
    refine J_iinc (q := 0) (lv' := [(1, .int (iI (k + 1))), (0, .ref mo)]) cx dX8_write_56 rfl (by decide) rfl ?_
    refine J_goto (tgt := 31) cx dX8_write_59 (by decide) ?_
    exact ih_31 (k + 1) (upI f2 k (tf k)) ⟨(by omega), (by rw [hf2]; exact ovr_s (g := tf) hk.1)⟩ (by omega)
