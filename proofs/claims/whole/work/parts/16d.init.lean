set_option maxHeartbeats 4000000 in
set_option maxRecDepth 100000 in
theorem mX4_init (l : Launch) (X : GX) (h : Nat) (c2 : Int) (b2 : Int) : Ct l yX4_init cX4_init 3 none 1 20 1 800 X [.ref h, .int (iI c2), .int (iI b2)] [(h, .inr (4, [.null, .int (iI 0), .int (iI 0), .int (iI 0)]))] (fun v u => ∃ (a : Nat), v = none ∧ u = [(h, .inr (4, [.ref a, .int (iI c2), .int (iI b2), .int (iI 0)])), (a, .inl (X.2.1, 800, .inl (aI (fun _ => 0))))]) := by
  refine Ct_of (own := RX4) (lv := [(0, .ref h), (1, .int (iI c2)), (2, .int (iI b2))]) (by decide +kernel) rfl (Nat.le_of_ble_eq_true rfl) rfl ?_
  intro p e s m args below meth c A cx hr hin
  refine J_aload_n cx dX4_init_0 rfl 0 rfl ?_
  refine J_objInit cx T25 T18 T19 dX4_init_1 (Nat.le_of_ble_eq_true rfl) (Nat.le_of_ble_eq_true rfl) (Nat.le_of_ble_eq_true rfl) ?_
  refine J_aload_n cx dX4_init_4 rfl 0 rfl ?_
  refine J_sipush cx dX4_init_5 (by decide) ?_
  refine J_newarrI (n := 800) cx T45 (by decide) (Nat.le_of_ble_eq_true rfl) (Nat.le_of_ble_eq_true rfl) dX4_init_8 (fun q8 => ?_)
  refine J_ws (ws' := [(h, .inr (4, [.null, .int (iI 0), .int (iI 0), .int (iI 0)])), (q8, .inl (X.2.1, 800, .inl (aI (fun _ => 0))))]) rfl ?_
  refine J_widen (k := 1) (n := 800) (Nat.le_of_ble_eq_true rfl) (Nat.le_of_ble_eq_true rfl) ?_
  refine J_putF (ty := (.array .int)) (ws' := [(h, .inr (4, [.ref q8, .int (iI 0), .int (iI 0), .int (iI 0)])), (q8, .inl (X.2.1, 800, .inl (aI (fun _ => 0))))]) cx inC4 tyX4_ok nmX4 0 rfl rfl 0 (by decide) T26 rfl rfl hin rfl (by decide +kernel) rfl rfl (Nat.le_of_ble_eq_true rfl) rfl dX4_init_10 ?_
  refine J_aload_n cx dX4_init_13 rfl 0 rfl ?_
  refine J_iload_n cx dX4_init_14 rfl 1 rfl ?_
  refine J_put (ty := .int) (ws' := [(h, .inr (4, [.ref q8, .int (iI c2), .int (iI 0), .int (iI 0)])), (q8, .inl (X.2.1, 800, .inl (aI (fun _ => 0))))]) cx inC4 tyX4_ok nmX4 0 rfl rfl 1 (by decide) T27 rfl rfl (by decide +kernel) (rfl) (rfl) (Nat.le_of_ble_eq_true rfl) rfl dX4_init_15 ?_
  refine J_aload_n cx dX4_init_18 rfl 0 rfl ?_
  refine J_iload_n cx dX4_init_19 rfl 2 rfl ?_
  refine J_put (ty := .int) (ws' := [(h, .inr (4, [.ref q8, .int (iI c2), .int (iI b2), .int (iI 0)])), (q8, .inl (X.2.1, 800, .inl (aI (fun _ => 0))))]) cx inC4 tyX4_ok nmX4 0 rfl rfl 2 (by decide) T32 rfl rfl (by decide +kernel) (rfl) (rfl) (Nat.le_of_ble_eq_true rfl) rfl dX4_init_20 ?_
  exact J_vret cx hr dX4_init_23 (⟨q8, rfl, rfl⟩)
set_option maxHeartbeats 4000000 in
set_option maxRecDepth 100000 in
theorem mX3_init (l : Launch) (X : GX) (h : Nat) : Ct l yX3_init cX3_init 1 none 1 20 1 800 X [.ref h] [(h, .inr (3, [.null]))] (fun v u => ∃ (a : Nat), v = none ∧ u = [(h, .inr (3, [.ref a])), (a, .inl (X.2.1, 800, .inl (aI (fun _ => 0))))]) := by
  refine Ct_of (own := RX3) (lv := [(0, .ref h)]) (by decide +kernel) rfl (Nat.le_of_ble_eq_true rfl) rfl ?_
  intro p e s m args below meth c A cx hr hin
  refine J_aload_n cx dX3_init_0 rfl 0 rfl ?_
  refine J_objInit cx T59 T18 T19 dX3_init_1 (Nat.le_of_ble_eq_true rfl) (Nat.le_of_ble_eq_true rfl) (Nat.le_of_ble_eq_true rfl) ?_
  refine J_aload_n cx dX3_init_4 rfl 0 rfl ?_
  refine J_sipush cx dX3_init_5 (by decide) ?_
  refine J_newarrI (n := 800) cx T45 (by decide) (Nat.le_of_ble_eq_true rfl) (Nat.le_of_ble_eq_true rfl) dX3_init_8 (fun q8 => ?_)
  refine J_ws (ws' := [(h, .inr (3, [.null])), (q8, .inl (X.2.1, 800, .inl (aI (fun _ => 0))))]) rfl ?_
  refine J_widen (k := 1) (n := 800) (Nat.le_of_ble_eq_true rfl) (Nat.le_of_ble_eq_true rfl) ?_
  refine J_putF (ty := (.array .int)) (ws' := [(h, .inr (3, [.ref q8])), (q8, .inl (X.2.1, 800, .inl (aI (fun _ => 0))))]) cx inC3 tyX3_ok nmX3 0 rfl rfl 0 (by decide) T60 rfl rfl hin rfl (by decide +kernel) rfl rfl (Nat.le_of_ble_eq_true rfl) rfl dX3_init_10 ?_
  exact J_vret cx hr dX3_init_13 (⟨q8, rfl, rfl⟩)
set_option maxHeartbeats 4000000 in
set_option maxRecDepth 100000 in
theorem mX2_init (l : Launch) (X : GX) (h : Nat) : Ct l yX2_init cX2_init 1 none 1 20 1 3000 X [.ref h] [(h, .inr (2, [.null, .int (iI 0)]))] (fun v u => ∃ (a : Nat), v = none ∧ u = [(h, .inr (2, [.ref a, .int (iI 0)])), (a, .inl (X.2.2, 3000, .inl (aI (fun _ => 0))))]) := by
  refine Ct_of (own := RX2) (lv := [(0, .ref h)]) (by decide +kernel) rfl (Nat.le_of_ble_eq_true rfl) rfl ?_
  intro p e s m args below meth c A cx hr hin
  refine J_aload_n cx dX2_init_0 rfl 0 rfl ?_
  refine J_objInit cx T75 T18 T19 dX2_init_1 (Nat.le_of_ble_eq_true rfl) (Nat.le_of_ble_eq_true rfl) (Nat.le_of_ble_eq_true rfl) ?_
  refine J_aload_n cx dX2_init_4 rfl 0 rfl ?_
  refine J_sipush cx dX2_init_5 (by decide) ?_
  refine J_newarrB (n := 3000) cx T86 (by decide) (Nat.le_of_ble_eq_true rfl) (Nat.le_of_ble_eq_true rfl) dX2_init_8 (fun q8 => ?_)
  refine J_ws (ws' := [(h, .inr (2, [.null, .int (iI 0)])), (q8, .inl (X.2.2, 3000, .inl (aI (fun _ => 0))))]) rfl ?_
  refine J_widen (k := 1) (n := 3000) (Nat.le_of_ble_eq_true rfl) (Nat.le_of_ble_eq_true rfl) ?_
  refine J_putF (ty := (.array .byte)) (ws' := [(h, .inr (2, [.ref q8, .int (iI 0)])), (q8, .inl (X.2.2, 3000, .inl (aI (fun _ => 0))))]) cx inC2 tyX2_ok nmX2 0 rfl rfl 0 (by decide) T76 rfl rfl hin rfl (by decide +kernel) rfl rfl (Nat.le_of_ble_eq_true rfl) rfl dX2_init_10 ?_
  exact J_vret cx hr dX2_init_13 (⟨q8, rfl, rfl⟩)
set_option maxHeartbeats 4000000 in
set_option maxRecDepth 100000 in
theorem mX1_init (l : Launch) (X : GX) (h : Nat) : Ct l yX1_init cX1_init 1 none 2 40 2 3002 X [.ref h] [(h, .inr (1, [.null, .int (iI 0), .int (iI 0)]))] (fun v u => ∃ (b1 : Nat) (b2 : Nat), v = none ∧ u = [(h, .inr (1, [.ref b1, .int (iI 0), .int (iI 0)])), (b1, .inr (2, [.ref b2, .int (iI 0)])), (b2, .inl (X.2.2, 3000, .inl (aI (fun _ => 0))))]) := by
  refine Ct_of (own := RX1) (lv := [(0, .ref h)]) (by decide +kernel) rfl (Nat.le_of_ble_eq_true rfl) rfl ?_
  intro p e s m args below meth c A cx hr hin
  refine J_aload_n cx dX1_init_0 rfl 0 rfl ?_
  refine J_objInit cx T69 T18 T19 dX1_init_1 (Nat.le_of_ble_eq_true rfl) (Nat.le_of_ble_eq_true rfl) (Nat.le_of_ble_eq_true rfl) ?_
  refine J_aload_n cx dX1_init_4 rfl 0 rfl ?_
  refine J_new (ci := 2) (fs := [.null, .int (iI 0)]) cx inC2 tyX2 tyX2_ok T70 T71 T6 rfl (by decide) (Nat.le_of_ble_eq_true rfl) (Nat.le_of_ble_eq_true rfl) dX1_init_5 (fun q5 => ?_)
  refine J_ws (ws' := [(h, .inr (1, [.null, .int (iI 0), .int (iI 0)])), (q5, .inr (2, [.null, .int (iI 0)]))]) rfl ?_
  refine J_widen (k := 1) (n := 2) (Nat.le_of_ble_eq_true rfl) (Nat.le_of_ble_eq_true rfl) ?_
  refine J_dup cx dX1_init_8 rfl ?_
  refine J_callIN cx (As := []) (rest := [.ref q5, .ref h]) (mX2_init l X q5 ) T74 T72 T73 rfl T6 hd_X2_init rfl ⟨Nat.le_of_ble_eq_true rfl, Nat.le_of_ble_eq_true rfl⟩ (Nat.le_of_ble_eq_true rfl) ⟨Nat.le_of_ble_eq_true rfl, Nat.le_of_ble_eq_true rfl⟩ [1] [0] rfl rfl rfl rfl rfl (by decide) dX1_init_9 rfl ?_
  intro v_9 u_9 hp_9
  obtain ⟨a_9, rfl, rfl⟩ := hp_9
  refine J_sub (ws' := [(h, .inr (1, [.null, .int (iI 0), .int (iI 0)])), (q5, .inr (2, [.ref a_9, .int (iI 0)])), (a_9, .inl (X.2.2, 3000, .inl (aI (fun _ => 0))))]) [0, 1, 2] rfl rfl rfl ?_
  refine J_eq (pc' := 12) (st' := [.ref q5, .ref h]) rfl rfl ?_
  refine J_widen (k := 2) (n := 3002) (Nat.le_of_ble_eq_true rfl) (Nat.le_of_ble_eq_true rfl) ?_
  refine J_putF (ty := (.object "BlockSound$ByteRow")) (ws' := [(h, .inr (1, [.ref q5, .int (iI 0), .int (iI 0)])), (q5, .inr (2, [.ref a_9, .int (iI 0)])), (a_9, .inl (X.2.2, 3000, .inl (aI (fun _ => 0))))]) cx inC1 tyX1_ok nmX1 0 rfl rfl 0 (by decide) T87 rfl rfl hin rfl (by decide +kernel) rfl rfl (Nat.le_of_ble_eq_true rfl) rfl dX1_init_12 ?_
  exact J_vret cx hr dX1_init_15 (⟨q5, a_9, rfl, rfl⟩)
set_option maxHeartbeats 4000000 in
set_option maxRecDepth 100000 in
theorem mX0_init (l : Launch) (X : GX) (h : Nat) : Ct l yX0_init cX0_init 1 none 2 40 2 3002 X [.ref h] [(h, .inr (0, [.null, .int (iI 0), .int (iI 0)]))] (fun v u => ∃ (b1 : Nat) (b2 : Nat), v = none ∧ u = [(h, .inr (0, [.ref b1, .int (iI 0), .int (iI 0)])), (b1, .inr (2, [.ref b2, .int (iI 0)])), (b2, .inl (X.2.2, 3000, .inl (aI (fun _ => 0))))]) := by
  refine Ct_of (own := RX0) (lv := [(0, .ref h)]) (by decide +kernel) rfl (Nat.le_of_ble_eq_true rfl) rfl ?_
  intro p e s m args below meth c A cx hr hin
  refine J_aload_n cx dX0_init_0 rfl 0 rfl ?_
  refine J_objInit cx T141 T18 T19 dX0_init_1 (Nat.le_of_ble_eq_true rfl) (Nat.le_of_ble_eq_true rfl) (Nat.le_of_ble_eq_true rfl) ?_
  refine J_aload_n cx dX0_init_4 rfl 0 rfl ?_
  refine J_new (ci := 2) (fs := [.null, .int (iI 0)]) cx inC2 tyX2 tyX2_ok T142 T71 T6 rfl (by decide) (Nat.le_of_ble_eq_true rfl) (Nat.le_of_ble_eq_true rfl) dX0_init_5 (fun q5 => ?_)
  refine J_ws (ws' := [(h, .inr (0, [.null, .int (iI 0), .int (iI 0)])), (q5, .inr (2, [.null, .int (iI 0)]))]) rfl ?_
  refine J_widen (k := 1) (n := 2) (Nat.le_of_ble_eq_true rfl) (Nat.le_of_ble_eq_true rfl) ?_
  refine J_dup cx dX0_init_8 rfl ?_
  refine J_callIN cx (As := []) (rest := [.ref q5, .ref h]) (mX2_init l X q5 ) T74 T143 T73 rfl T6 hd_X2_init rfl ⟨Nat.le_of_ble_eq_true rfl, Nat.le_of_ble_eq_true rfl⟩ (Nat.le_of_ble_eq_true rfl) ⟨Nat.le_of_ble_eq_true rfl, Nat.le_of_ble_eq_true rfl⟩ [1] [0] rfl rfl rfl rfl rfl (by decide) dX0_init_9 rfl ?_
  intro v_9 u_9 hp_9
  obtain ⟨a_9, rfl, rfl⟩ := hp_9
  refine J_sub (ws' := [(h, .inr (0, [.null, .int (iI 0), .int (iI 0)])), (q5, .inr (2, [.ref a_9, .int (iI 0)])), (a_9, .inl (X.2.2, 3000, .inl (aI (fun _ => 0))))]) [0, 1, 2] rfl rfl rfl ?_
  refine J_eq (pc' := 12) (st' := [.ref q5, .ref h]) rfl rfl ?_
  refine J_widen (k := 2) (n := 3002) (Nat.le_of_ble_eq_true rfl) (Nat.le_of_ble_eq_true rfl) ?_
  refine J_putF (ty := (.object "BlockSound$ByteRow")) (ws' := [(h, .inr (0, [.ref q5, .int (iI 0), .int (iI 0)])), (q5, .inr (2, [.ref a_9, .int (iI 0)])), (a_9, .inl (X.2.2, 3000, .inl (aI (fun _ => 0))))]) cx inC0 tyX0_ok nmX0 0 rfl rfl 0 (by decide) T144 rfl rfl hin rfl (by decide +kernel) rfl rfl (Nat.le_of_ble_eq_true rfl) rfl dX0_init_12 ?_
  exact J_vret cx hr dX0_init_15 (⟨q5, a_9, rfl, rfl⟩)
set_option maxHeartbeats 4000000 in
set_option maxRecDepth 100000 in
theorem mX6_init (l : Launch) (X : GX) (h : Nat) : Ct l yX6_init cX6_init 1 none 3 60 10 6274 X [.ref h] [(h, .inr (6, [.null, .null, .null, .null, .null, .null, .int (iI 0), .int (iI 0)]))] (fun v u => ∃ (x1 : Nat) (x2 : Nat) (x3 : Nat) (x4 : Nat) (x5 : Nat) (x6 : Nat) (x7 : Nat) (x8 : Nat) (x9 : Nat) (x10 : Nat), v = none ∧ u = [(h, .inr (6, [.ref x1, .ref x3, .ref x5, .ref x8, .ref x9, .ref x10, .int (iI 0), .int (iI 0)])), (x1, .inr (4, [.ref x2, .int (iI 1), .int (iI 16), .int (iI 0)])), (x2, .inl (X.2.1, 800, .inl (aI (fun _ => 0)))), (x3, .inr (3, [.ref x4])), (x4, .inl (X.2.1, 800, .inl (aI (fun _ => 0)))), (x5, .inr (1, [.ref x6, .int (iI 0), .int (iI 0)])), (x6, .inr (2, [.ref x7, .int (iI 0)])), (x7, .inl (X.2.2, 3000, .inl (aI (fun _ => 0)))), (x8, .inl (X.2.1, 800, .inl (aI (fun _ => 0)))), (x9, .inl (X.2.1, 800, .inl (aI (fun _ => 0)))), (x10, .inl (X.2.1, 64, .inl (aI (fun _ => 0))))]) := by
  refine Ct_of (own := RX6) (lv := [(0, .ref h)]) (by decide +kernel) rfl (Nat.le_of_ble_eq_true rfl) rfl ?_
  intro p e s m args below meth c A cx hr hin
  refine J_aload_n cx dX6_init_0 rfl 0 rfl ?_
  refine J_objInit cx T51 T18 T19 dX6_init_1 (Nat.le_of_ble_eq_true rfl) (Nat.le_of_ble_eq_true rfl) (Nat.le_of_ble_eq_true rfl) ?_
  refine J_aload_n cx dX6_init_4 rfl 0 rfl ?_
  refine J_new (ci := 4) (fs := [.null, .int (iI 0), .int (iI 0), .int (iI 0)]) cx inC4 tyX4 tyX4_ok T52 T21 T2 rfl (by decide) (Nat.le_of_ble_eq_true rfl) (Nat.le_of_ble_eq_true rfl) dX6_init_5 (fun q5 => ?_)
  refine J_ws (ws' := [(h, .inr (6, [.null, .null, .null, .null, .null, .null, .int (iI 0), .int (iI 0)])), (q5, .inr (4, [.null, .int (iI 0), .int (iI 0), .int (iI 0)]))]) rfl ?_
  refine J_widen (k := 1) (n := 4) (Nat.le_of_ble_eq_true rfl) (Nat.le_of_ble_eq_true rfl) ?_
  refine J_dup cx dX6_init_8 rfl ?_
  refine J_iconst cx dX6_init_9 ?_
  refine J_bipush cx dX6_init_10 (by decide) ?_
  refine J_callI cx (As := [.int (iI 1), .int (iI 16)]) (rest := [.ref q5, .ref h]) (mX4_init l X q5 1 16 ) T24 T53 T23 rfl T2 hd_X4_init rfl ⟨Nat.le_of_ble_eq_true rfl, Nat.le_of_ble_eq_true rfl⟩ (Nat.le_of_ble_eq_true rfl) ⟨Nat.le_of_ble_eq_true rfl, Nat.le_of_ble_eq_true rfl⟩ [1] [0] rfl rfl rfl rfl rfl (by decide) dX6_init_12 rfl ?_
  intro v_12 u_12 hp_12
  obtain ⟨a_12, rfl, rfl⟩ := hp_12
  refine J_sub (ws' := [(h, .inr (6, [.null, .null, .null, .null, .null, .null, .int (iI 0), .int (iI 0)])), (q5, .inr (4, [.ref a_12, .int (iI 1), .int (iI 16), .int (iI 0)])), (a_12, .inl (X.2.1, 800, .inl (aI (fun _ => 0))))]) [0, 1, 2] rfl rfl rfl ?_
  refine J_eq (pc' := 15) (st' := [.ref q5, .ref h]) rfl rfl ?_
  refine J_widen (k := 2) (n := 804) (Nat.le_of_ble_eq_true rfl) (Nat.le_of_ble_eq_true rfl) ?_
  refine J_putF (ty := (.object "BlockSound$Sound")) (ws' := [(h, .inr (6, [.ref q5, .null, .null, .null, .null, .null, .int (iI 0), .int (iI 0)])), (q5, .inr (4, [.ref a_12, .int (iI 1), .int (iI 16), .int (iI 0)])), (a_12, .inl (X.2.1, 800, .inl (aI (fun _ => 0))))]) cx inC6 tyX6_ok nmX6 0 rfl rfl 0 (by decide) T98 rfl rfl hin rfl (by decide +kernel) rfl rfl (Nat.le_of_ble_eq_true rfl) rfl dX6_init_15 ?_
  refine J_aload_n cx dX6_init_18 rfl 0 rfl ?_
  refine J_new (ci := 3) (fs := [.null]) cx inC3 tyX3 tyX3_ok T54 T55 T4 rfl (by decide) (Nat.le_of_ble_eq_true rfl) (Nat.le_of_ble_eq_true rfl) dX6_init_19 (fun q19 => ?_)
  refine J_ws (ws' := [(h, .inr (6, [.ref q5, .null, .null, .null, .null, .null, .int (iI 0), .int (iI 0)])), (q5, .inr (4, [.ref a_12, .int (iI 1), .int (iI 16), .int (iI 0)])), (a_12, .inl (X.2.1, 800, .inl (aI (fun _ => 0)))), (q19, .inr (3, [.null]))]) rfl ?_
  refine J_widen (k := 3) (n := 805) (Nat.le_of_ble_eq_true rfl) (Nat.le_of_ble_eq_true rfl) ?_
  refine J_dup cx dX6_init_22 rfl ?_
  refine J_callIN cx (As := []) (rest := [.ref q19, .ref h]) (mX3_init l X q19 ) T58 T56 T57 rfl T4 hd_X3_init rfl ⟨Nat.le_of_ble_eq_true rfl, Nat.le_of_ble_eq_true rfl⟩ (Nat.le_of_ble_eq_true rfl) ⟨Nat.le_of_ble_eq_true rfl, Nat.le_of_ble_eq_true rfl⟩ [3] [0, 1, 2] rfl rfl rfl rfl rfl (by decide) dX6_init_23 rfl ?_
  intro v_23 u_23 hp_23
  obtain ⟨a_23, rfl, rfl⟩ := hp_23
  refine J_sub (ws' := [(h, .inr (6, [.ref q5, .null, .null, .null, .null, .null, .int (iI 0), .int (iI 0)])), (q5, .inr (4, [.ref a_12, .int (iI 1), .int (iI 16), .int (iI 0)])), (a_12, .inl (X.2.1, 800, .inl (aI (fun _ => 0)))), (q19, .inr (3, [.ref a_23])), (a_23, .inl (X.2.1, 800, .inl (aI (fun _ => 0))))]) [0, 1, 2, 3, 4] rfl rfl rfl ?_
  refine J_eq (pc' := 26) (st' := [.ref q19, .ref h]) rfl rfl ?_
  refine J_widen (k := 4) (n := 1605) (Nat.le_of_ble_eq_true rfl) (Nat.le_of_ble_eq_true rfl) ?_
  refine J_putF (ty := (.object "BlockSound$Means")) (ws' := [(h, .inr (6, [.ref q5, .ref q19, .null, .null, .null, .null, .int (iI 0), .int (iI 0)])), (q5, .inr (4, [.ref a_12, .int (iI 1), .int (iI 16), .int (iI 0)])), (a_12, .inl (X.2.1, 800, .inl (aI (fun _ => 0)))), (q19, .inr (3, [.ref a_23])), (a_23, .inl (X.2.1, 800, .inl (aI (fun _ => 0))))]) cx inC6 tyX6_ok nmX6 0 rfl rfl 1 (by decide) T100 rfl rfl hin rfl (by decide +kernel) rfl rfl (Nat.le_of_ble_eq_true rfl) rfl dX6_init_26 ?_
  refine J_aload_n cx dX6_init_29 rfl 0 rfl ?_
  refine J_new (ci := 1) (fs := [.null, .int (iI 0), .int (iI 0)]) cx inC1 tyX1 tyX1_ok T64 T65 T5 rfl (by decide) (Nat.le_of_ble_eq_true rfl) (Nat.le_of_ble_eq_true rfl) dX6_init_30 (fun q30 => ?_)
  refine J_ws (ws' := [(h, .inr (6, [.ref q5, .ref q19, .null, .null, .null, .null, .int (iI 0), .int (iI 0)])), (q5, .inr (4, [.ref a_12, .int (iI 1), .int (iI 16), .int (iI 0)])), (a_12, .inl (X.2.1, 800, .inl (aI (fun _ => 0)))), (q19, .inr (3, [.ref a_23])), (a_23, .inl (X.2.1, 800, .inl (aI (fun _ => 0)))), (q30, .inr (1, [.null, .int (iI 0), .int (iI 0)]))]) rfl ?_
  refine J_widen (k := 5) (n := 1608) (Nat.le_of_ble_eq_true rfl) (Nat.le_of_ble_eq_true rfl) ?_
  refine J_dup cx dX6_init_33 rfl ?_
  refine J_callIN cx (As := []) (rest := [.ref q30, .ref h]) (mX1_init l X q30 ) T68 T66 T67 rfl T5 hd_X1_init rfl ⟨Nat.le_of_ble_eq_true rfl, Nat.le_of_ble_eq_true rfl⟩ (Nat.le_of_ble_eq_true rfl) ⟨Nat.le_of_ble_eq_true rfl, Nat.le_of_ble_eq_true rfl⟩ [5] [0, 1, 2, 3, 4] rfl rfl rfl rfl rfl (by decide) dX6_init_34 rfl ?_
  intro v_34 u_34 hp_34
  obtain ⟨b1_34, b2_34, rfl, rfl⟩ := hp_34
  refine J_sub (ws' := [(h, .inr (6, [.ref q5, .ref q19, .null, .null, .null, .null, .int (iI 0), .int (iI 0)])), (q5, .inr (4, [.ref a_12, .int (iI 1), .int (iI 16), .int (iI 0)])), (a_12, .inl (X.2.1, 800, .inl (aI (fun _ => 0)))), (q19, .inr (3, [.ref a_23])), (a_23, .inl (X.2.1, 800, .inl (aI (fun _ => 0)))), (q30, .inr (1, [.ref b1_34, .int (iI 0), .int (iI 0)])), (b1_34, .inr (2, [.ref b2_34, .int (iI 0)])), (b2_34, .inl (X.2.2, 3000, .inl (aI (fun _ => 0))))]) [0, 1, 2, 3, 4, 5, 6, 7] rfl rfl rfl ?_
  refine J_eq (pc' := 37) (st' := [.ref q30, .ref h]) rfl rfl ?_
  refine J_widen (k := 7) (n := 4610) (Nat.le_of_ble_eq_true rfl) (Nat.le_of_ble_eq_true rfl) ?_
  refine J_putF (ty := (.object "BlockSound$BitWriter")) (ws' := [(h, .inr (6, [.ref q5, .ref q19, .ref q30, .null, .null, .null, .int (iI 0), .int (iI 0)])), (q5, .inr (4, [.ref a_12, .int (iI 1), .int (iI 16), .int (iI 0)])), (a_12, .inl (X.2.1, 800, .inl (aI (fun _ => 0)))), (q19, .inr (3, [.ref a_23])), (a_23, .inl (X.2.1, 800, .inl (aI (fun _ => 0)))), (q30, .inr (1, [.ref b1_34, .int (iI 0), .int (iI 0)])), (b1_34, .inr (2, [.ref b2_34, .int (iI 0)])), (b2_34, .inl (X.2.2, 3000, .inl (aI (fun _ => 0))))]) cx inC6 tyX6_ok nmX6 0 rfl rfl 2 (by decide) T101 rfl rfl hin rfl (by decide +kernel) rfl rfl (Nat.le_of_ble_eq_true rfl) rfl dX6_init_37 ?_
  refine J_aload_n cx dX6_init_40 rfl 0 rfl ?_
  refine J_sipush cx dX6_init_41 (by decide) ?_
  refine J_newarrI (n := 800) cx T45 (by decide) (Nat.le_of_ble_eq_true rfl) (Nat.le_of_ble_eq_true rfl) dX6_init_44 (fun q44 => ?_)
  refine J_ws (ws' := [(h, .inr (6, [.ref q5, .ref q19, .ref q30, .null, .null, .null, .int (iI 0), .int (iI 0)])), (q5, .inr (4, [.ref a_12, .int (iI 1), .int (iI 16), .int (iI 0)])), (a_12, .inl (X.2.1, 800, .inl (aI (fun _ => 0)))), (q19, .inr (3, [.ref a_23])), (a_23, .inl (X.2.1, 800, .inl (aI (fun _ => 0)))), (q30, .inr (1, [.ref b1_34, .int (iI 0), .int (iI 0)])), (b1_34, .inr (2, [.ref b2_34, .int (iI 0)])), (b2_34, .inl (X.2.2, 3000, .inl (aI (fun _ => 0)))), (q44, .inl (X.2.1, 800, .inl (aI (fun _ => 0))))]) rfl ?_
  refine J_widen (k := 8) (n := 5410) (Nat.le_of_ble_eq_true rfl) (Nat.le_of_ble_eq_true rfl) ?_
  refine J_putF (ty := (.array .int)) (ws' := [(h, .inr (6, [.ref q5, .ref q19, .ref q30, .ref q44, .null, .null, .int (iI 0), .int (iI 0)])), (q5, .inr (4, [.ref a_12, .int (iI 1), .int (iI 16), .int (iI 0)])), (a_12, .inl (X.2.1, 800, .inl (aI (fun _ => 0)))), (q19, .inr (3, [.ref a_23])), (a_23, .inl (X.2.1, 800, .inl (aI (fun _ => 0)))), (q30, .inr (1, [.ref b1_34, .int (iI 0), .int (iI 0)])), (b1_34, .inr (2, [.ref b2_34, .int (iI 0)])), (b2_34, .inl (X.2.2, 3000, .inl (aI (fun _ => 0)))), (q44, .inl (X.2.1, 800, .inl (aI (fun _ => 0))))]) cx inC6 tyX6_ok nmX6 0 rfl rfl 3 (by decide) T103 rfl rfl hin rfl (by decide +kernel) rfl rfl (Nat.le_of_ble_eq_true rfl) rfl dX6_init_46 ?_
  refine J_aload_n cx dX6_init_49 rfl 0 rfl ?_
  refine J_sipush cx dX6_init_50 (by decide) ?_
  refine J_newarrI (n := 800) cx T45 (by decide) (Nat.le_of_ble_eq_true rfl) (Nat.le_of_ble_eq_true rfl) dX6_init_53 (fun q53 => ?_)
  refine J_ws (ws' := [(h, .inr (6, [.ref q5, .ref q19, .ref q30, .ref q44, .null, .null, .int (iI 0), .int (iI 0)])), (q5, .inr (4, [.ref a_12, .int (iI 1), .int (iI 16), .int (iI 0)])), (a_12, .inl (X.2.1, 800, .inl (aI (fun _ => 0)))), (q19, .inr (3, [.ref a_23])), (a_23, .inl (X.2.1, 800, .inl (aI (fun _ => 0)))), (q30, .inr (1, [.ref b1_34, .int (iI 0), .int (iI 0)])), (b1_34, .inr (2, [.ref b2_34, .int (iI 0)])), (b2_34, .inl (X.2.2, 3000, .inl (aI (fun _ => 0)))), (q44, .inl (X.2.1, 800, .inl (aI (fun _ => 0)))), (q53, .inl (X.2.1, 800, .inl (aI (fun _ => 0))))]) rfl ?_
  refine J_widen (k := 9) (n := 6210) (Nat.le_of_ble_eq_true rfl) (Nat.le_of_ble_eq_true rfl) ?_
  refine J_putF (ty := (.array .int)) (ws' := [(h, .inr (6, [.ref q5, .ref q19, .ref q30, .ref q44, .ref q53, .null, .int (iI 0), .int (iI 0)])), (q5, .inr (4, [.ref a_12, .int (iI 1), .int (iI 16), .int (iI 0)])), (a_12, .inl (X.2.1, 800, .inl (aI (fun _ => 0)))), (q19, .inr (3, [.ref a_23])), (a_23, .inl (X.2.1, 800, .inl (aI (fun _ => 0)))), (q30, .inr (1, [.ref b1_34, .int (iI 0), .int (iI 0)])), (b1_34, .inr (2, [.ref b2_34, .int (iI 0)])), (b2_34, .inl (X.2.2, 3000, .inl (aI (fun _ => 0)))), (q44, .inl (X.2.1, 800, .inl (aI (fun _ => 0)))), (q53, .inl (X.2.1, 800, .inl (aI (fun _ => 0))))]) cx inC6 tyX6_ok nmX6 0 rfl rfl 4 (by decide) T105 rfl rfl hin rfl (by decide +kernel) rfl rfl (Nat.le_of_ble_eq_true rfl) rfl dX6_init_55 ?_
  refine J_aload_n cx dX6_init_58 rfl 0 rfl ?_
  refine J_bipush cx dX6_init_59 (by decide) ?_
  refine J_newarrI (n := 64) cx T45 (by decide) (Nat.le_of_ble_eq_true rfl) (Nat.le_of_ble_eq_true rfl) dX6_init_61 (fun q61 => ?_)
  refine J_ws (ws' := [(h, .inr (6, [.ref q5, .ref q19, .ref q30, .ref q44, .ref q53, .null, .int (iI 0), .int (iI 0)])), (q5, .inr (4, [.ref a_12, .int (iI 1), .int (iI 16), .int (iI 0)])), (a_12, .inl (X.2.1, 800, .inl (aI (fun _ => 0)))), (q19, .inr (3, [.ref a_23])), (a_23, .inl (X.2.1, 800, .inl (aI (fun _ => 0)))), (q30, .inr (1, [.ref b1_34, .int (iI 0), .int (iI 0)])), (b1_34, .inr (2, [.ref b2_34, .int (iI 0)])), (b2_34, .inl (X.2.2, 3000, .inl (aI (fun _ => 0)))), (q44, .inl (X.2.1, 800, .inl (aI (fun _ => 0)))), (q53, .inl (X.2.1, 800, .inl (aI (fun _ => 0)))), (q61, .inl (X.2.1, 64, .inl (aI (fun _ => 0))))]) rfl ?_
  refine J_widen (k := 10) (n := 6274) (Nat.le_of_ble_eq_true rfl) (Nat.le_of_ble_eq_true rfl) ?_
  refine J_putF (ty := (.array .int)) (ws' := [(h, .inr (6, [.ref q5, .ref q19, .ref q30, .ref q44, .ref q53, .ref q61, .int (iI 0), .int (iI 0)])), (q5, .inr (4, [.ref a_12, .int (iI 1), .int (iI 16), .int (iI 0)])), (a_12, .inl (X.2.1, 800, .inl (aI (fun _ => 0)))), (q19, .inr (3, [.ref a_23])), (a_23, .inl (X.2.1, 800, .inl (aI (fun _ => 0)))), (q30, .inr (1, [.ref b1_34, .int (iI 0), .int (iI 0)])), (b1_34, .inr (2, [.ref b2_34, .int (iI 0)])), (b2_34, .inl (X.2.2, 3000, .inl (aI (fun _ => 0)))), (q44, .inl (X.2.1, 800, .inl (aI (fun _ => 0)))), (q53, .inl (X.2.1, 800, .inl (aI (fun _ => 0)))), (q61, .inl (X.2.1, 64, .inl (aI (fun _ => 0))))]) cx inC6 tyX6_ok nmX6 0 rfl rfl 5 (by decide) T107 rfl rfl hin rfl (by decide +kernel) rfl rfl (Nat.le_of_ble_eq_true rfl) rfl dX6_init_63 ?_
  exact J_vret cx hr dX6_init_66 (⟨q5, a_12, q19, a_23, q30, b1_34, b2_34, q44, q53, q61, rfl, rfl⟩)
set_option maxHeartbeats 4000000 in
set_option maxRecDepth 100000 in
theorem mX5_init (l : Launch) (X : GX) (h : Nat) : Ct l yX5_init cX5_init 1 none 3 60 9 5414 X [.ref h] [(h, .inr (5, [.null, .null, .null, .null, .int (iI 0)]))] (fun v u => ∃ (x1 : Nat) (x2 : Nat) (x3 : Nat) (x4 : Nat) (x5 : Nat) (x6 : Nat) (x7 : Nat) (x8 : Nat) (x9 : Nat), v = none ∧ u = [(h, .inr (5, [.ref x1, .ref x3, .ref x6, .ref x8, .int (iI (-1))])), (x1, .inr (3, [.ref x2])), (x2, .inl (X.2.1, 800, .inl (aI (fun _ => 0)))), (x3, .inr (0, [.ref x4, .int (iI 0), .int (iI 0)])), (x4, .inr (2, [.ref x5, .int (iI 0)])), (x5, .inl (X.2.2, 3000, .inl (aI (fun _ => 0)))), (x6, .inr (4, [.ref x7, .int (iI 0), .int (iI 0), .int (iI 0)])), (x7, .inl (X.2.1, 800, .inl (aI (fun _ => 0)))), (x8, .inr (4, [.ref x9, .int (iI 0), .int (iI 0), .int (iI 0)])), (x9, .inl (X.2.1, 800, .inl (aI (fun _ => 0))))]) := by
  refine Ct_of (own := RX5) (lv := [(0, .ref h)]) (by decide +kernel) rfl (Nat.le_of_ble_eq_true rfl) rfl ?_
  intro p e s m args below meth c A cx hr hin
  refine J_aload_n cx dX5_init_0 rfl 0 rfl ?_
  refine J_objInit cx T133 T18 T19 dX5_init_1 (Nat.le_of_ble_eq_true rfl) (Nat.le_of_ble_eq_true rfl) (Nat.le_of_ble_eq_true rfl) ?_
  refine J_aload_n cx dX5_init_4 rfl 0 rfl ?_
  refine J_new (ci := 3) (fs := [.null]) cx inC3 tyX3 tyX3_ok T134 T55 T4 rfl (by decide) (Nat.le_of_ble_eq_true rfl) (Nat.le_of_ble_eq_true rfl) dX5_init_5 (fun q5 => ?_)
  refine J_ws (ws' := [(h, .inr (5, [.null, .null, .null, .null, .int (iI 0)])), (q5, .inr (3, [.null]))]) rfl ?_
  refine J_widen (k := 1) (n := 1) (Nat.le_of_ble_eq_true rfl) (Nat.le_of_ble_eq_true rfl) ?_
  refine J_dup cx dX5_init_8 rfl ?_
  refine J_callIN cx (As := []) (rest := [.ref q5, .ref h]) (mX3_init l X q5 ) T58 T135 T57 rfl T4 hd_X3_init rfl ⟨Nat.le_of_ble_eq_true rfl, Nat.le_of_ble_eq_true rfl⟩ (Nat.le_of_ble_eq_true rfl) ⟨Nat.le_of_ble_eq_true rfl, Nat.le_of_ble_eq_true rfl⟩ [1] [0] rfl rfl rfl rfl rfl (by decide) dX5_init_9 rfl ?_
  intro v_9 u_9 hp_9
  obtain ⟨a_9, rfl, rfl⟩ := hp_9
  refine J_sub (ws' := [(h, .inr (5, [.null, .null, .null, .null, .int (iI 0)])), (q5, .inr (3, [.ref a_9])), (a_9, .inl (X.2.1, 800, .inl (aI (fun _ => 0))))]) [0, 1, 2] rfl rfl rfl ?_
  refine J_eq (pc' := 12) (st' := [.ref q5, .ref h]) rfl rfl ?_
  refine J_widen (k := 2) (n := 801) (Nat.le_of_ble_eq_true rfl) (Nat.le_of_ble_eq_true rfl) ?_
  refine J_putF (ty := (.object "BlockSound$Means")) (ws' := [(h, .inr (5, [.ref q5, .null, .null, .null, .int (iI 0)])), (q5, .inr (3, [.ref a_9])), (a_9, .inl (X.2.1, 800, .inl (aI (fun _ => 0))))]) cx inC5 tyX5_ok nmX5 0 rfl rfl 0 (by decide) T159 rfl rfl hin rfl (by decide +kernel) rfl rfl (Nat.le_of_ble_eq_true rfl) rfl dX5_init_12 ?_
  refine J_aload_n cx dX5_init_15 rfl 0 rfl ?_
  refine J_new (ci := 0) (fs := [.null, .int (iI 0), .int (iI 0)]) cx inC0 tyX0 tyX0_ok T136 T137 T8 rfl (by decide) (Nat.le_of_ble_eq_true rfl) (Nat.le_of_ble_eq_true rfl) dX5_init_16 (fun q16 => ?_)
  refine J_ws (ws' := [(h, .inr (5, [.ref q5, .null, .null, .null, .int (iI 0)])), (q5, .inr (3, [.ref a_9])), (a_9, .inl (X.2.1, 800, .inl (aI (fun _ => 0)))), (q16, .inr (0, [.null, .int (iI 0), .int (iI 0)]))]) rfl ?_
  refine J_widen (k := 3) (n := 804) (Nat.le_of_ble_eq_true rfl) (Nat.le_of_ble_eq_true rfl) ?_
  refine J_dup cx dX5_init_19 rfl ?_
  refine J_callIN cx (As := []) (rest := [.ref q16, .ref h]) (mX0_init l X q16 ) T140 T138 T139 rfl T8 hd_X0_init rfl ⟨Nat.le_of_ble_eq_true rfl, Nat.le_of_ble_eq_true rfl⟩ (Nat.le_of_ble_eq_true rfl) ⟨Nat.le_of_ble_eq_true rfl, Nat.le_of_ble_eq_true rfl⟩ [3] [0, 1, 2] rfl rfl rfl rfl rfl (by decide) dX5_init_20 rfl ?_
  intro v_20 u_20 hp_20
  obtain ⟨b1_20, b2_20, rfl, rfl⟩ := hp_20
  refine J_sub (ws' := [(h, .inr (5, [.ref q5, .null, .null, .null, .int (iI 0)])), (q5, .inr (3, [.ref a_9])), (a_9, .inl (X.2.1, 800, .inl (aI (fun _ => 0)))), (q16, .inr (0, [.ref b1_20, .int (iI 0), .int (iI 0)])), (b1_20, .inr (2, [.ref b2_20, .int (iI 0)])), (b2_20, .inl (X.2.2, 3000, .inl (aI (fun _ => 0))))]) [0, 1, 2, 3, 4, 5] rfl rfl rfl ?_
  refine J_eq (pc' := 23) (st' := [.ref q16, .ref h]) rfl rfl ?_
  refine J_widen (k := 5) (n := 3806) (Nat.le_of_ble_eq_true rfl) (Nat.le_of_ble_eq_true rfl) ?_
  refine J_putF (ty := (.object "BlockSound$BitReader")) (ws' := [(h, .inr (5, [.ref q5, .ref q16, .null, .null, .int (iI 0)])), (q5, .inr (3, [.ref a_9])), (a_9, .inl (X.2.1, 800, .inl (aI (fun _ => 0)))), (q16, .inr (0, [.ref b1_20, .int (iI 0), .int (iI 0)])), (b1_20, .inr (2, [.ref b2_20, .int (iI 0)])), (b2_20, .inl (X.2.2, 3000, .inl (aI (fun _ => 0))))]) cx inC5 tyX5_ok nmX5 0 rfl rfl 1 (by decide) T160 rfl rfl hin rfl (by decide +kernel) rfl rfl (Nat.le_of_ble_eq_true rfl) rfl dX5_init_23 ?_
  refine J_aload_n cx dX5_init_26 rfl 0 rfl ?_
  refine J_new (ci := 4) (fs := [.null, .int (iI 0), .int (iI 0), .int (iI 0)]) cx inC4 tyX4 tyX4_ok T157 T21 T2 rfl (by decide) (Nat.le_of_ble_eq_true rfl) (Nat.le_of_ble_eq_true rfl) dX5_init_27 (fun q27 => ?_)
  refine J_ws (ws' := [(h, .inr (5, [.ref q5, .ref q16, .null, .null, .int (iI 0)])), (q5, .inr (3, [.ref a_9])), (a_9, .inl (X.2.1, 800, .inl (aI (fun _ => 0)))), (q16, .inr (0, [.ref b1_20, .int (iI 0), .int (iI 0)])), (b1_20, .inr (2, [.ref b2_20, .int (iI 0)])), (b2_20, .inl (X.2.2, 3000, .inl (aI (fun _ => 0)))), (q27, .inr (4, [.null, .int (iI 0), .int (iI 0), .int (iI 0)]))]) rfl ?_
  refine J_widen (k := 6) (n := 3810) (Nat.le_of_ble_eq_true rfl) (Nat.le_of_ble_eq_true rfl) ?_
  refine J_dup cx dX5_init_30 rfl ?_
  refine J_iconst cx dX5_init_31 ?_
  refine J_iconst cx dX5_init_32 ?_
  refine J_callI cx (As := [.int (iI 0), .int (iI 0)]) (rest := [.ref q27, .ref h]) (mX4_init l X q27 0 0 ) T24 T158 T23 rfl T2 hd_X4_init rfl ⟨Nat.le_of_ble_eq_true rfl, Nat.le_of_ble_eq_true rfl⟩ (Nat.le_of_ble_eq_true rfl) ⟨Nat.le_of_ble_eq_true rfl, Nat.le_of_ble_eq_true rfl⟩ [6] [0, 1, 2, 3, 4, 5] rfl rfl rfl rfl rfl (by decide) dX5_init_33 rfl ?_
  intro v_33 u_33 hp_33
  obtain ⟨a_33, rfl, rfl⟩ := hp_33
  refine J_sub (ws' := [(h, .inr (5, [.ref q5, .ref q16, .null, .null, .int (iI 0)])), (q5, .inr (3, [.ref a_9])), (a_9, .inl (X.2.1, 800, .inl (aI (fun _ => 0)))), (q16, .inr (0, [.ref b1_20, .int (iI 0), .int (iI 0)])), (b1_20, .inr (2, [.ref b2_20, .int (iI 0)])), (b2_20, .inl (X.2.2, 3000, .inl (aI (fun _ => 0)))), (q27, .inr (4, [.ref a_33, .int (iI 0), .int (iI 0), .int (iI 0)])), (a_33, .inl (X.2.1, 800, .inl (aI (fun _ => 0))))]) [0, 1, 2, 3, 4, 5, 6, 7] rfl rfl rfl ?_
  refine J_eq (pc' := 36) (st' := [.ref q27, .ref h]) rfl rfl ?_
  refine J_widen (k := 7) (n := 4610) (Nat.le_of_ble_eq_true rfl) (Nat.le_of_ble_eq_true rfl) ?_
  refine J_put (ty := (.object "BlockSound$Sound")) (ws' := [(h, .inr (5, [.ref q5, .ref q16, .ref q27, .null, .int (iI 0)])), (q5, .inr (3, [.ref a_9])), (a_9, .inl (X.2.1, 800, .inl (aI (fun _ => 0)))), (q16, .inr (0, [.ref b1_20, .int (iI 0), .int (iI 0)])), (b1_20, .inr (2, [.ref b2_20, .int (iI 0)])), (b2_20, .inl (X.2.2, 3000, .inl (aI (fun _ => 0)))), (q27, .inr (4, [.ref a_33, .int (iI 0), .int (iI 0), .int (iI 0)])), (a_33, .inl (X.2.1, 800, .inl (aI (fun _ => 0))))]) cx inC5 tyX5_ok nmX5 0 rfl rfl 2 (by decide) T162 rfl rfl (by decide +kernel) (rfl) (rfl) (Nat.le_of_ble_eq_true rfl) rfl dX5_init_36 ?_
  refine J_aload_n cx dX5_init_39 rfl 0 rfl ?_
  refine J_new (ci := 4) (fs := [.null, .int (iI 0), .int (iI 0), .int (iI 0)]) cx inC4 tyX4 tyX4_ok T157 T21 T2 rfl (by decide) (Nat.le_of_ble_eq_true rfl) (Nat.le_of_ble_eq_true rfl) dX5_init_40 (fun q40 => ?_)
  refine J_ws (ws' := [(h, .inr (5, [.ref q5, .ref q16, .ref q27, .null, .int (iI 0)])), (q5, .inr (3, [.ref a_9])), (a_9, .inl (X.2.1, 800, .inl (aI (fun _ => 0)))), (q16, .inr (0, [.ref b1_20, .int (iI 0), .int (iI 0)])), (b1_20, .inr (2, [.ref b2_20, .int (iI 0)])), (b2_20, .inl (X.2.2, 3000, .inl (aI (fun _ => 0)))), (q27, .inr (4, [.ref a_33, .int (iI 0), .int (iI 0), .int (iI 0)])), (a_33, .inl (X.2.1, 800, .inl (aI (fun _ => 0)))), (q40, .inr (4, [.null, .int (iI 0), .int (iI 0), .int (iI 0)]))]) rfl ?_
  refine J_widen (k := 8) (n := 4614) (Nat.le_of_ble_eq_true rfl) (Nat.le_of_ble_eq_true rfl) ?_
  refine J_dup cx dX5_init_43 rfl ?_
  refine J_iconst cx dX5_init_44 ?_
  refine J_iconst cx dX5_init_45 ?_
  refine J_callI cx (As := [.int (iI 0), .int (iI 0)]) (rest := [.ref q40, .ref h]) (mX4_init l X q40 0 0 ) T24 T158 T23 rfl T2 hd_X4_init rfl ⟨Nat.le_of_ble_eq_true rfl, Nat.le_of_ble_eq_true rfl⟩ (Nat.le_of_ble_eq_true rfl) ⟨Nat.le_of_ble_eq_true rfl, Nat.le_of_ble_eq_true rfl⟩ [8] [0, 1, 2, 3, 4, 5, 6, 7] rfl rfl rfl rfl rfl (by decide) dX5_init_46 rfl ?_
  intro v_46 u_46 hp_46
  obtain ⟨a_46, rfl, rfl⟩ := hp_46
  refine J_sub (ws' := [(h, .inr (5, [.ref q5, .ref q16, .ref q27, .null, .int (iI 0)])), (q5, .inr (3, [.ref a_9])), (a_9, .inl (X.2.1, 800, .inl (aI (fun _ => 0)))), (q16, .inr (0, [.ref b1_20, .int (iI 0), .int (iI 0)])), (b1_20, .inr (2, [.ref b2_20, .int (iI 0)])), (b2_20, .inl (X.2.2, 3000, .inl (aI (fun _ => 0)))), (q27, .inr (4, [.ref a_33, .int (iI 0), .int (iI 0), .int (iI 0)])), (a_33, .inl (X.2.1, 800, .inl (aI (fun _ => 0)))), (q40, .inr (4, [.ref a_46, .int (iI 0), .int (iI 0), .int (iI 0)])), (a_46, .inl (X.2.1, 800, .inl (aI (fun _ => 0))))]) [0, 1, 2, 3, 4, 5, 6, 7, 8, 9] rfl rfl rfl ?_
  refine J_eq (pc' := 49) (st' := [.ref q40, .ref h]) rfl rfl ?_
  refine J_widen (k := 9) (n := 5414) (Nat.le_of_ble_eq_true rfl) (Nat.le_of_ble_eq_true rfl) ?_
  refine J_put (ty := (.object "BlockSound$Sound")) (ws' := [(h, .inr (5, [.ref q5, .ref q16, .ref q27, .ref q40, .int (iI 0)])), (q5, .inr (3, [.ref a_9])), (a_9, .inl (X.2.1, 800, .inl (aI (fun _ => 0)))), (q16, .inr (0, [.ref b1_20, .int (iI 0), .int (iI 0)])), (b1_20, .inr (2, [.ref b2_20, .int (iI 0)])), (b2_20, .inl (X.2.2, 3000, .inl (aI (fun _ => 0)))), (q27, .inr (4, [.ref a_33, .int (iI 0), .int (iI 0), .int (iI 0)])), (a_33, .inl (X.2.1, 800, .inl (aI (fun _ => 0)))), (q40, .inr (4, [.ref a_46, .int (iI 0), .int (iI 0), .int (iI 0)])), (a_46, .inl (X.2.1, 800, .inl (aI (fun _ => 0))))]) cx inC5 tyX5_ok nmX5 0 rfl rfl 3 (by decide) T164 rfl rfl (by decide +kernel) (rfl) (rfl) (Nat.le_of_ble_eq_true rfl) rfl dX5_init_49 ?_
  refine J_aload_n cx dX5_init_52 rfl 0 rfl ?_
  refine J_iconst cx dX5_init_53 ?_
  refine J_put (ty := .int) (ws' := [(h, .inr (5, [.ref q5, .ref q16, .ref q27, .ref q40, .int (iI (-1))])), (q5, .inr (3, [.ref a_9])), (a_9, .inl (X.2.1, 800, .inl (aI (fun _ => 0)))), (q16, .inr (0, [.ref b1_20, .int (iI 0), .int (iI 0)])), (b1_20, .inr (2, [.ref b2_20, .int (iI 0)])), (b2_20, .inl (X.2.2, 3000, .inl (aI (fun _ => 0)))), (q27, .inr (4, [.ref a_33, .int (iI 0), .int (iI 0), .int (iI 0)])), (a_33, .inl (X.2.1, 800, .inl (aI (fun _ => 0)))), (q40, .inr (4, [.ref a_46, .int (iI 0), .int (iI 0), .int (iI 0)])), (a_46, .inl (X.2.1, 800, .inl (aI (fun _ => 0))))]) cx inC5 tyX5_ok nmX5 0 rfl rfl 4 (by decide) T165 rfl rfl (by decide +kernel) (rfl) (rfl) (Nat.le_of_ble_eq_true rfl) rfl dX5_init_54 ?_
  exact J_vret cx hr dX5_init_57 (⟨q5, a_9, q16, b1_20, b2_20, q27, a_33, q40, a_46, rfl, rfl⟩)
set_option maxHeartbeats 4000000 in
set_option maxRecDepth 100000 in
theorem mX7_init (l : Launch) (X : GX) (h : Nat) : Ct l yX7_init cX7_init 1 none 4 80 23 12505 X [.ref h] [(h, .inr (7, [.null, .null, .null, .null, .null]))] (fun v u => ∃ (y1 : Nat) (y2 : Nat) (y3 : Nat) (y4 : Nat) (y5 : Nat) (y6 : Nat) (y7 : Nat) (y8 : Nat) (y9 : Nat) (y10 : Nat) (y11 : Nat) (y12 : Nat) (y13 : Nat) (y14 : Nat) (y15 : Nat) (y16 : Nat) (y17 : Nat) (y18 : Nat) (y19 : Nat) (y20 : Nat) (y21 : Nat) (y22 : Nat) (y23 : Nat), v = none ∧ u = [(h, .inr (7, [.ref y1, .ref y3, .ref y14, .ref y9, .ref y18])), (y1, .inr (4, [.ref y2, .int (iI 1), .int (iI 16), .int (iI 0)])), (y2, .inl (X.2.1, 800, .inl (aI (fun _ => 0)))), (y3, .inr (6, [.ref y4, .ref y6, .ref y8, .ref y11, .ref y12, .ref y13, .int (iI 0), .int (iI 0)])), (y4, .inr (4, [.ref y5, .int (iI 1), .int (iI 16), .int (iI 0)])), (y5, .inl (X.2.1, 800, .inl (aI (fun _ => 0)))), (y6, .inr (3, [.ref y7])), (y7, .inl (X.2.1, 800, .inl (aI (fun _ => 0)))), (y8, .inr (1, [.ref y9, .int (iI 0), .int (iI 0)])), (y9, .inr (2, [.ref y10, .int (iI 0)])), (y10, .inl (X.2.2, 3000, .inl (aI (fun _ => 0)))), (y11, .inl (X.2.1, 800, .inl (aI (fun _ => 0)))), (y12, .inl (X.2.1, 800, .inl (aI (fun _ => 0)))), (y13, .inl (X.2.1, 64, .inl (aI (fun _ => 0)))), (y14, .inr (5, [.ref y15, .ref y17, .ref y20, .ref y22, .int (iI (-1))])), (y15, .inr (3, [.ref y16])), (y16, .inl (X.2.1, 800, .inl (aI (fun _ => 0)))), (y17, .inr (0, [.ref y18, .int (iI 0), .int (iI 0)])), (y18, .inr (2, [.ref y19, .int (iI 0)])), (y19, .inl (X.2.2, 3000, .inl (aI (fun _ => 0)))), (y20, .inr (4, [.ref y21, .int (iI 0), .int (iI 0), .int (iI 0)])), (y21, .inl (X.2.1, 800, .inl (aI (fun _ => 0)))), (y22, .inr (4, [.ref y23, .int (iI 0), .int (iI 0), .int (iI 0)])), (y23, .inl (X.2.1, 800, .inl (aI (fun _ => 0))))]) := by
  refine Ct_of (own := RX7) (lv := [(0, .ref h)]) (by decide +kernel) rfl (Nat.le_of_ble_eq_true rfl) rfl ?_
  intro p e s m args below meth c A cx hr hin
  refine J_aload_n cx dX7_init_0 rfl 0 rfl ?_
  refine J_objInit cx T17 T18 T19 dX7_init_1 (Nat.le_of_ble_eq_true rfl) (Nat.le_of_ble_eq_true rfl) (Nat.le_of_ble_eq_true rfl) ?_
  refine J_aload_n cx dX7_init_4 rfl 0 rfl ?_
  refine J_new (ci := 4) (fs := [.null, .int (iI 0), .int (iI 0), .int (iI 0)]) cx inC4 tyX4 tyX4_ok T20 T21 T2 rfl (by decide) (Nat.le_of_ble_eq_true rfl) (Nat.le_of_ble_eq_true rfl) dX7_init_5 (fun q5 => ?_)
  refine J_ws (ws' := [(h, .inr (7, [.null, .null, .null, .null, .null])), (q5, .inr (4, [.null, .int (iI 0), .int (iI 0), .int (iI 0)]))]) rfl ?_
  refine J_widen (k := 1) (n := 4) (Nat.le_of_ble_eq_true rfl) (Nat.le_of_ble_eq_true rfl) ?_
  refine J_dup cx dX7_init_8 rfl ?_
  refine J_iconst cx dX7_init_9 ?_
  refine J_bipush cx dX7_init_10 (by decide) ?_
  refine J_callI cx (As := [.int (iI 1), .int (iI 16)]) (rest := [.ref q5, .ref h]) (mX4_init l X q5 1 16 ) T24 T22 T23 rfl T2 hd_X4_init rfl ⟨Nat.le_of_ble_eq_true rfl, Nat.le_of_ble_eq_true rfl⟩ (Nat.le_of_ble_eq_true rfl) ⟨Nat.le_of_ble_eq_true rfl, Nat.le_of_ble_eq_true rfl⟩ [1] [0] rfl rfl rfl rfl rfl (by decide) dX7_init_12 rfl ?_
  intro v_12 u_12 hp_12
  obtain ⟨a_12, rfl, rfl⟩ := hp_12
  refine J_sub (ws' := [(h, .inr (7, [.null, .null, .null, .null, .null])), (q5, .inr (4, [.ref a_12, .int (iI 1), .int (iI 16), .int (iI 0)])), (a_12, .inl (X.2.1, 800, .inl (aI (fun _ => 0))))]) [0, 1, 2] rfl rfl rfl ?_
  refine J_eq (pc' := 15) (st' := [.ref q5, .ref h]) rfl rfl ?_
  refine J_widen (k := 2) (n := 804) (Nat.le_of_ble_eq_true rfl) (Nat.le_of_ble_eq_true rfl) ?_
  refine J_putF (ty := (.object "BlockSound$Sound")) (ws' := [(h, .inr (7, [.ref q5, .null, .null, .null, .null])), (q5, .inr (4, [.ref a_12, .int (iI 1), .int (iI 16), .int (iI 0)])), (a_12, .inl (X.2.1, 800, .inl (aI (fun _ => 0))))]) cx inC7 tyX7_ok nmX7 0 rfl rfl 0 (by decide) T177 rfl rfl hin rfl (by decide +kernel) rfl rfl (Nat.le_of_ble_eq_true rfl) rfl dX7_init_15 ?_
  refine J_aload_n cx dX7_init_18 rfl 0 rfl ?_
  refine J_new (ci := 6) (fs := [.null, .null, .null, .null, .null, .null, .int (iI 0), .int (iI 0)]) cx inC6 tyX6 tyX6_ok T46 T47 T3 rfl (by decide) (Nat.le_of_ble_eq_true rfl) (Nat.le_of_ble_eq_true rfl) dX7_init_19 (fun q19 => ?_)
  refine J_ws (ws' := [(h, .inr (7, [.ref q5, .null, .null, .null, .null])), (q5, .inr (4, [.ref a_12, .int (iI 1), .int (iI 16), .int (iI 0)])), (a_12, .inl (X.2.1, 800, .inl (aI (fun _ => 0)))), (q19, .inr (6, [.null, .null, .null, .null, .null, .null, .int (iI 0), .int (iI 0)]))]) rfl ?_
  refine J_widen (k := 3) (n := 812) (Nat.le_of_ble_eq_true rfl) (Nat.le_of_ble_eq_true rfl) ?_
  refine J_dup cx dX7_init_22 rfl ?_
  refine J_callIN cx (As := []) (rest := [.ref q19, .ref h]) (mX6_init l X q19 ) T50 T48 T49 rfl T3 hd_X6_init rfl ⟨Nat.le_of_ble_eq_true rfl, Nat.le_of_ble_eq_true rfl⟩ (Nat.le_of_ble_eq_true rfl) ⟨Nat.le_of_ble_eq_true rfl, Nat.le_of_ble_eq_true rfl⟩ [3] [0, 1, 2] rfl rfl rfl rfl rfl (by decide) dX7_init_23 rfl ?_
  intro v_23 u_23 hp_23
  obtain ⟨x1_23, x2_23, x3_23, x4_23, x5_23, x6_23, x7_23, x8_23, x9_23, x10_23, rfl, rfl⟩ := hp_23
  refine J_sub (ws' := [(h, .inr (7, [.ref q5, .null, .null, .null, .null])), (q5, .inr (4, [.ref a_12, .int (iI 1), .int (iI 16), .int (iI 0)])), (a_12, .inl (X.2.1, 800, .inl (aI (fun _ => 0)))), (q19, .inr (6, [.ref x1_23, .ref x3_23, .ref x5_23, .ref x8_23, .ref x9_23, .ref x10_23, .int (iI 0), .int (iI 0)])), (x1_23, .inr (4, [.ref x2_23, .int (iI 1), .int (iI 16), .int (iI 0)])), (x2_23, .inl (X.2.1, 800, .inl (aI (fun _ => 0)))), (x3_23, .inr (3, [.ref x4_23])), (x4_23, .inl (X.2.1, 800, .inl (aI (fun _ => 0)))), (x5_23, .inr (1, [.ref x6_23, .int (iI 0), .int (iI 0)])), (x6_23, .inr (2, [.ref x7_23, .int (iI 0)])), (x7_23, .inl (X.2.2, 3000, .inl (aI (fun _ => 0)))), (x8_23, .inl (X.2.1, 800, .inl (aI (fun _ => 0)))), (x9_23, .inl (X.2.1, 800, .inl (aI (fun _ => 0)))), (x10_23, .inl (X.2.1, 64, .inl (aI (fun _ => 0))))]) [0, 1, 2, 3, 4, 5, 6, 7, 8, 9, 10, 11, 12, 13] rfl rfl rfl ?_
  refine J_eq (pc' := 26) (st' := [.ref q19, .ref h]) rfl rfl ?_
  refine J_widen (k := 13) (n := 7086) (Nat.le_of_ble_eq_true rfl) (Nat.le_of_ble_eq_true rfl) ?_
  refine J_putF (ty := (.object "BlockSound$StreamWriter")) (ws' := [(h, .inr (7, [.ref q5, .ref q19, .null, .null, .null])), (q5, .inr (4, [.ref a_12, .int (iI 1), .int (iI 16), .int (iI 0)])), (a_12, .inl (X.2.1, 800, .inl (aI (fun _ => 0)))), (q19, .inr (6, [.ref x1_23, .ref x3_23, .ref x5_23, .ref x8_23, .ref x9_23, .ref x10_23, .int (iI 0), .int (iI 0)])), (x1_23, .inr (4, [.ref x2_23, .int (iI 1), .int (iI 16), .int (iI 0)])), (x2_23, .inl (X.2.1, 800, .inl (aI (fun _ => 0)))), (x3_23, .inr (3, [.ref x4_23])), (x4_23, .inl (X.2.1, 800, .inl (aI (fun _ => 0)))), (x5_23, .inr (1, [.ref x6_23, .int (iI 0), .int (iI 0)])), (x6_23, .inr (2, [.ref x7_23, .int (iI 0)])), (x7_23, .inl (X.2.2, 3000, .inl (aI (fun _ => 0)))), (x8_23, .inl (X.2.1, 800, .inl (aI (fun _ => 0)))), (x9_23, .inl (X.2.1, 800, .inl (aI (fun _ => 0)))), (x10_23, .inl (X.2.1, 64, .inl (aI (fun _ => 0))))]) cx inC7 tyX7_ok nmX7 0 rfl rfl 1 (by decide) T178 rfl rfl hin rfl (by decide +kernel) rfl rfl (Nat.le_of_ble_eq_true rfl) rfl dX7_init_26 ?_
  refine J_aload_n cx dX7_init_29 rfl 0 rfl ?_
  refine J_new (ci := 5) (fs := [.null, .null, .null, .null, .int (iI 0)]) cx inC5 tyX5 tyX5_ok T128 T129 T7 rfl (by decide) (Nat.le_of_ble_eq_true rfl) (Nat.le_of_ble_eq_true rfl) dX7_init_30 (fun q30 => ?_)
  refine J_ws (ws' := [(h, .inr (7, [.ref q5, .ref q19, .null, .null, .null])), (q5, .inr (4, [.ref a_12, .int (iI 1), .int (iI 16), .int (iI 0)])), (a_12, .inl (X.2.1, 800, .inl (aI (fun _ => 0)))), (q19, .inr (6, [.ref x1_23, .ref x3_23, .ref x5_23, .ref x8_23, .ref x9_23, .ref x10_23, .int (iI 0), .int (iI 0)])), (x1_23, .inr (4, [.ref x2_23, .int (iI 1), .int (iI 16), .int (iI 0)])), (x2_23, .inl (X.2.1, 800, .inl (aI (fun _ => 0)))), (x3_23, .inr (3, [.ref x4_23])), (x4_23, .inl (X.2.1, 800, .inl (aI (fun _ => 0)))), (x5_23, .inr (1, [.ref x6_23, .int (iI 0), .int (iI 0)])), (x6_23, .inr (2, [.ref x7_23, .int (iI 0)])), (x7_23, .inl (X.2.2, 3000, .inl (aI (fun _ => 0)))), (x8_23, .inl (X.2.1, 800, .inl (aI (fun _ => 0)))), (x9_23, .inl (X.2.1, 800, .inl (aI (fun _ => 0)))), (x10_23, .inl (X.2.1, 64, .inl (aI (fun _ => 0)))), (q30, .inr (5, [.null, .null, .null, .null, .int (iI 0)]))]) rfl ?_
  refine J_widen (k := 14) (n := 7091) (Nat.le_of_ble_eq_true rfl) (Nat.le_of_ble_eq_true rfl) ?_
  refine J_dup cx dX7_init_33 rfl ?_
  refine J_callIN cx (As := []) (rest := [.ref q30, .ref h]) (mX5_init l X q30 ) T132 T130 T131 rfl T7 hd_X5_init rfl ⟨Nat.le_of_ble_eq_true rfl, Nat.le_of_ble_eq_true rfl⟩ (Nat.le_of_ble_eq_true rfl) ⟨Nat.le_of_ble_eq_true rfl, Nat.le_of_ble_eq_true rfl⟩ [14] [0, 1, 2, 3, 4, 5, 6, 7, 8, 9, 10, 11, 12, 13] rfl rfl rfl rfl rfl (by decide) dX7_init_34 rfl ?_
  intro v_34 u_34 hp_34
  obtain ⟨x1_34, x2_34, x3_34, x4_34, x5_34, x6_34, x7_34, x8_34, x9_34, rfl, rfl⟩ := hp_34
  refine J_sub (ws' := [(h, .inr (7, [.ref q5, .ref q19, .null, .null, .null])), (q5, .inr (4, [.ref a_12, .int (iI 1), .int (iI 16), .int (iI 0)])), (a_12, .inl (X.2.1, 800, .inl (aI (fun _ => 0)))), (q19, .inr (6, [.ref x1_23, .ref x3_23, .ref x5_23, .ref x8_23, .ref x9_23, .ref x10_23, .int (iI 0), .int (iI 0)])), (x1_23, .inr (4, [.ref x2_23, .int (iI 1), .int (iI 16), .int (iI 0)])), (x2_23, .inl (X.2.1, 800, .inl (aI (fun _ => 0)))), (x3_23, .inr (3, [.ref x4_23])), (x4_23, .inl (X.2.1, 800, .inl (aI (fun _ => 0)))), (x5_23, .inr (1, [.ref x6_23, .int (iI 0), .int (iI 0)])), (x6_23, .inr (2, [.ref x7_23, .int (iI 0)])), (x7_23, .inl (X.2.2, 3000, .inl (aI (fun _ => 0)))), (x8_23, .inl (X.2.1, 800, .inl (aI (fun _ => 0)))), (x9_23, .inl (X.2.1, 800, .inl (aI (fun _ => 0)))), (x10_23, .inl (X.2.1, 64, .inl (aI (fun _ => 0)))), (q30, .inr (5, [.ref x1_34, .ref x3_34, .ref x6_34, .ref x8_34, .int (iI (-1))])), (x1_34, .inr (3, [.ref x2_34])), (x2_34, .inl (X.2.1, 800, .inl (aI (fun _ => 0)))), (x3_34, .inr (0, [.ref x4_34, .int (iI 0), .int (iI 0)])), (x4_34, .inr (2, [.ref x5_34, .int (iI 0)])), (x5_34, .inl (X.2.2, 3000, .inl (aI (fun _ => 0)))), (x6_34, .inr (4, [.ref x7_34, .int (iI 0), .int (iI 0), .int (iI 0)])), (x7_34, .inl (X.2.1, 800, .inl (aI (fun _ => 0)))), (x8_34, .inr (4, [.ref x9_34, .int (iI 0), .int (iI 0), .int (iI 0)])), (x9_34, .inl (X.2.1, 800, .inl (aI (fun _ => 0))))]) [0, 1, 2, 3, 4, 5, 6, 7, 8, 9, 10, 11, 12, 13, 14, 15, 16, 17, 18, 19, 20, 21, 22, 23] rfl rfl rfl ?_
  refine J_eq (pc' := 37) (st' := [.ref q30, .ref h]) rfl rfl ?_
  refine J_widen (k := 23) (n := 12505) (Nat.le_of_ble_eq_true rfl) (Nat.le_of_ble_eq_true rfl) ?_
  refine J_putF (ty := (.object "BlockSound$StreamReader")) (ws' := [(h, .inr (7, [.ref q5, .ref q19, .ref q30, .null, .null])), (q5, .inr (4, [.ref a_12, .int (iI 1), .int (iI 16), .int (iI 0)])), (a_12, .inl (X.2.1, 800, .inl (aI (fun _ => 0)))), (q19, .inr (6, [.ref x1_23, .ref x3_23, .ref x5_23, .ref x8_23, .ref x9_23, .ref x10_23, .int (iI 0), .int (iI 0)])), (x1_23, .inr (4, [.ref x2_23, .int (iI 1), .int (iI 16), .int (iI 0)])), (x2_23, .inl (X.2.1, 800, .inl (aI (fun _ => 0)))), (x3_23, .inr (3, [.ref x4_23])), (x4_23, .inl (X.2.1, 800, .inl (aI (fun _ => 0)))), (x5_23, .inr (1, [.ref x6_23, .int (iI 0), .int (iI 0)])), (x6_23, .inr (2, [.ref x7_23, .int (iI 0)])), (x7_23, .inl (X.2.2, 3000, .inl (aI (fun _ => 0)))), (x8_23, .inl (X.2.1, 800, .inl (aI (fun _ => 0)))), (x9_23, .inl (X.2.1, 800, .inl (aI (fun _ => 0)))), (x10_23, .inl (X.2.1, 64, .inl (aI (fun _ => 0)))), (q30, .inr (5, [.ref x1_34, .ref x3_34, .ref x6_34, .ref x8_34, .int (iI (-1))])), (x1_34, .inr (3, [.ref x2_34])), (x2_34, .inl (X.2.1, 800, .inl (aI (fun _ => 0)))), (x3_34, .inr (0, [.ref x4_34, .int (iI 0), .int (iI 0)])), (x4_34, .inr (2, [.ref x5_34, .int (iI 0)])), (x5_34, .inl (X.2.2, 3000, .inl (aI (fun _ => 0)))), (x6_34, .inr (4, [.ref x7_34, .int (iI 0), .int (iI 0), .int (iI 0)])), (x7_34, .inl (X.2.1, 800, .inl (aI (fun _ => 0)))), (x8_34, .inr (4, [.ref x9_34, .int (iI 0), .int (iI 0), .int (iI 0)])), (x9_34, .inl (X.2.1, 800, .inl (aI (fun _ => 0))))]) cx inC7 tyX7_ok nmX7 0 rfl rfl 2 (by decide) T179 rfl rfl hin rfl (by decide +kernel) rfl rfl (Nat.le_of_ble_eq_true rfl) rfl dX7_init_37 ?_
  refine J_aload_n cx dX7_init_40 rfl 0 rfl ?_
  refine J_aload_n cx dX7_init_41 rfl 0 rfl ?_
  refine J_get cx inC7 0 rfl rfl 1 (by decide) T178 rfl rfl dX7_init_42 ?_
  refine J_getN cx inC6 3 rfl rfl 2 (by decide) T102 rfl rfl dX7_init_45 ?_
  refine J_getN cx inC1 8 rfl rfl 0 (by decide) T88 rfl rfl dX7_init_48 ?_
  refine J_putF (ty := (.object "BlockSound$ByteRow")) (ws' := [(h, .inr (7, [.ref q5, .ref q19, .ref q30, .ref x6_23, .null])), (q5, .inr (4, [.ref a_12, .int (iI 1), .int (iI 16), .int (iI 0)])), (a_12, .inl (X.2.1, 800, .inl (aI (fun _ => 0)))), (q19, .inr (6, [.ref x1_23, .ref x3_23, .ref x5_23, .ref x8_23, .ref x9_23, .ref x10_23, .int (iI 0), .int (iI 0)])), (x1_23, .inr (4, [.ref x2_23, .int (iI 1), .int (iI 16), .int (iI 0)])), (x2_23, .inl (X.2.1, 800, .inl (aI (fun _ => 0)))), (x3_23, .inr (3, [.ref x4_23])), (x4_23, .inl (X.2.1, 800, .inl (aI (fun _ => 0)))), (x5_23, .inr (1, [.ref x6_23, .int (iI 0), .int (iI 0)])), (x6_23, .inr (2, [.ref x7_23, .int (iI 0)])), (x7_23, .inl (X.2.2, 3000, .inl (aI (fun _ => 0)))), (x8_23, .inl (X.2.1, 800, .inl (aI (fun _ => 0)))), (x9_23, .inl (X.2.1, 800, .inl (aI (fun _ => 0)))), (x10_23, .inl (X.2.1, 64, .inl (aI (fun _ => 0)))), (q30, .inr (5, [.ref x1_34, .ref x3_34, .ref x6_34, .ref x8_34, .int (iI (-1))])), (x1_34, .inr (3, [.ref x2_34])), (x2_34, .inl (X.2.1, 800, .inl (aI (fun _ => 0)))), (x3_34, .inr (0, [.ref x4_34, .int (iI 0), .int (iI 0)])), (x4_34, .inr (2, [.ref x5_34, .int (iI 0)])), (x5_34, .inl (X.2.2, 3000, .inl (aI (fun _ => 0)))), (x6_34, .inr (4, [.ref x7_34, .int (iI 0), .int (iI 0), .int (iI 0)])), (x7_34, .inl (X.2.1, 800, .inl (aI (fun _ => 0)))), (x8_34, .inr (4, [.ref x9_34, .int (iI 0), .int (iI 0), .int (iI 0)])), (x9_34, .inl (X.2.1, 800, .inl (aI (fun _ => 0))))]) cx inC7 tyX7_ok nmX7 0 rfl rfl 3 (by decide) T180 rfl rfl hin rfl (by decide +kernel) rfl rfl (Nat.le_of_ble_eq_true rfl) rfl dX7_init_51 ?_
  refine J_aload_n cx dX7_init_54 rfl 0 rfl ?_
  refine J_aload_n cx dX7_init_55 rfl 0 rfl ?_
  refine J_get cx inC7 0 rfl rfl 2 (by decide) T179 rfl rfl dX7_init_56 ?_
  refine J_getN cx inC5 14 rfl rfl 1 (by decide) T161 rfl rfl dX7_init_59 ?_
  refine J_getN cx inC0 17 rfl rfl 0 (by decide) T145 rfl rfl dX7_init_62 ?_
  refine J_putF (ty := (.object "BlockSound$ByteRow")) (ws' := [(h, .inr (7, [.ref q5, .ref q19, .ref q30, .ref x6_23, .ref x4_34])), (q5, .inr (4, [.ref a_12, .int (iI 1), .int (iI 16), .int (iI 0)])), (a_12, .inl (X.2.1, 800, .inl (aI (fun _ => 0)))), (q19, .inr (6, [.ref x1_23, .ref x3_23, .ref x5_23, .ref x8_23, .ref x9_23, .ref x10_23, .int (iI 0), .int (iI 0)])), (x1_23, .inr (4, [.ref x2_23, .int (iI 1), .int (iI 16), .int (iI 0)])), (x2_23, .inl (X.2.1, 800, .inl (aI (fun _ => 0)))), (x3_23, .inr (3, [.ref x4_23])), (x4_23, .inl (X.2.1, 800, .inl (aI (fun _ => 0)))), (x5_23, .inr (1, [.ref x6_23, .int (iI 0), .int (iI 0)])), (x6_23, .inr (2, [.ref x7_23, .int (iI 0)])), (x7_23, .inl (X.2.2, 3000, .inl (aI (fun _ => 0)))), (x8_23, .inl (X.2.1, 800, .inl (aI (fun _ => 0)))), (x9_23, .inl (X.2.1, 800, .inl (aI (fun _ => 0)))), (x10_23, .inl (X.2.1, 64, .inl (aI (fun _ => 0)))), (q30, .inr (5, [.ref x1_34, .ref x3_34, .ref x6_34, .ref x8_34, .int (iI (-1))])), (x1_34, .inr (3, [.ref x2_34])), (x2_34, .inl (X.2.1, 800, .inl (aI (fun _ => 0)))), (x3_34, .inr (0, [.ref x4_34, .int (iI 0), .int (iI 0)])), (x4_34, .inr (2, [.ref x5_34, .int (iI 0)])), (x5_34, .inl (X.2.2, 3000, .inl (aI (fun _ => 0)))), (x6_34, .inr (4, [.ref x7_34, .int (iI 0), .int (iI 0), .int (iI 0)])), (x7_34, .inl (X.2.1, 800, .inl (aI (fun _ => 0)))), (x8_34, .inr (4, [.ref x9_34, .int (iI 0), .int (iI 0), .int (iI 0)])), (x9_34, .inl (X.2.1, 800, .inl (aI (fun _ => 0))))]) cx inC7 tyX7_ok nmX7 0 rfl rfl 4 (by decide) T181 rfl rfl hin rfl (by decide +kernel) rfl rfl (Nat.le_of_ble_eq_true rfl) rfl dX7_init_65 ?_
  exact J_vret cx hr dX7_init_68 (⟨q5, a_12, q19, x1_23, x2_23, x3_23, x4_23, x5_23, x6_23, x7_23, x8_23, x9_23, x10_23, q30, x1_34, x2_34, x3_34, x4_34, x5_34, x6_34, x7_34, x8_34, x9_34, rfl, rfl⟩)
