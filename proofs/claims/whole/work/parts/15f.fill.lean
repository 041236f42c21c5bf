set_option maxHeartbeats 4000000 in
set_option maxRecDepth 100000 in
theorem mX5_parseFilling (l : Launch) (X : GX) (h : Nat) (hm2 : Nat) (gb : Nat) (s1 : Nat) (s2 : Nat) (er : Int) (gr : Nat) (ga : Nat) (r : Int → Int) (q : Int) (E : Int) (F : Int) (hE : 0 ≤ E ∧ E ≤ 24000) (hrr : ∀ j, -128 ≤ r j ∧ r j < 128) (hE8 : E % 8 = 0) (hok : okP E q er) : Ct l yX5_parseFilling cX5_parseFilling 2 none 1 20 0 0 X [.ref h] [(h, .inr (5, [.ref hm2, .ref gb, .ref s1, .ref s2, .int (iI er)])), (gb, .inr (0, [.ref gr, .int (iI q), .int (iI E)])), (gr, .inr (2, [.ref ga, .int (iI F)])), (ga, .inl (X.2.2, 3000, .inl (aI r)))] (fun v u => ∃ q' : Int, v = none ∧ u = [(h, .inr (5, [.ref hm2, .ref gb, .ref s1, .ref s2, .int (iI (flE r E q er))])), (gb, .inr (0, [.ref gr, .int (iI q'), .int (iI E)])), (gr, .inr (2, [.ref ga, .int (iI F)])), (ga, .inl (X.2.2, 3000, .inl (aI r)))]) := by
  refine Ct_of (own := RX5) (lv := [(0, .ref h)]) (by decide +kernel) rfl (Nat.le_of_ble_eq_true rfl) rfl ?_
  intro p e s m args below meth c A cx hr hin
  have hok1 := hok.1
  have hok2 := hok.2.1
  have hok3 := hok.2.2
  have hu8 := up8_rng q
  refine J_aload_n cx dX5_parseFilling_0 rfl 0 rfl ?_
  refine J_get cx inC5 0 rfl rfl 1 (by decide) T160 rfl rfl dX5_parseFilling_1 ?_
  refine J_getN cx inC0 1 rfl rfl 1 (by decide) T147 rfl rfl dX5_parseFilling_4 ?_
  refine J_bipush cx dX5_parseFilling_7 (by decide) ?_
  refine J_iadd cx dX5_parseFilling_9 ?_
  refine J_bipush cx dX5_parseFilling_10 (by decide) ?_
  refine J_iand (r := (q + 7) - (q + 7) % 8) cx dX5_parseFilling_12 (iI_andm8 _) ?_
  refine J_istore_n (lv' := [(1, .int (iI ((q + 7) - (q + 7) % 8))), (0, .ref h)]) cx dX5_parseFilling_13 rfl (by decide) rfl ?_
  refine J_loop2 (fun (t : Int) (er2 : Int) => [(h, .inr (5, [.ref hm2, .ref gb, .ref s1, .ref s2, .int (iI er2)])), (gb, .inr (0, [.ref gr, .int (iI t), .int (iI E)])), (gr, .inr (2, [.ref ga, .int (iI F)])), (ga, .inl (X.2.2, 3000, .inl (aI r)))]) (fun (t : Int) (er2 : Int) => [(1, .int (iI ((q + 7) - (q + 7) % 8))), (0, .ref h)]) (fun (t : Int) (er2 : Int) => (0 ≤ t ∧ t ≤ 24020) ∧ (-1 ≤ er2 ∧ er2 ≤ 24010) ∧ (flI r q er t er2)) (fun (t : Int) (er2 : Int) => (up8 q - t).toNat) q er ⟨(by omega), (by omega), (flI_0)⟩ ?_
  intro t er2 hI ih_14
  obtain ⟨ht, her2r, hin2⟩ := hI
  try dsimp only at ht her2r hin2
  refine J_aload_n cx dX5_parseFilling_14 rfl 1 rfl ?_
  refine J_callV (C := RX5) (T := TX5) (N := 5) cx (As := []) (rest := []) (mX5_isRight l X h hm2 gb s1 s2 er2 (by omega)) T406 T403 T405 S7 T7 ⟨rfl, hd_X5_isRight⟩ rfl ⟨Nat.le_of_ble_eq_true rfl, Nat.le_of_ble_eq_true rfl⟩ (Nat.le_of_ble_eq_true rfl) ⟨Nat.le_of_ble_eq_true rfl, Nat.le_of_ble_eq_true rfl⟩ [0] [1, 2, 3] rfl rfl rfl rfl rfl (by decide) 0 rfl rfl dX5_parseFilling_15 rfl (J_f (ws' := [(h, .inr (5, [.ref hm2, .ref gb, .ref s1, .ref s2, .int (iI er2)])), (gb, .inr (0, [.ref gr, .int (iI t), .int (iI E)])), (gr, .inr (2, [.ref ga, .int (iI F)])), (ga, .inl (X.2.2, 3000, .inl (aI r)))]) (st' := [.int (iI (if er2 = -1 then 1 else 0))]) [3, 0, 1, 2] rfl rfl rfl rfl ?_)
  refine J_if_eq (tgt := 69) cx dX5_parseFilling_18 (by decide) (by split <;> omega) (fun h_18 => ?_) (fun h_18 => ?_)
  · skip
    have her2 : ¬ er2 = -1 := by (intro h5; rw [if_pos h5] at h_18; omega)
    have hfin : er2 = flE r E q er := flI_e hin2 her2
    refine J_aload_n cx dX5_parseFilling_69 rfl 1 rfl ?_
    refine J_callV (C := RX5) (T := TX5) (N := 5) cx (As := []) (rest := []) (mX5_isRight l X h hm2 gb s1 s2 er2 (by omega)) T406 T403 T405 S7 T7 ⟨rfl, hd_X5_isRight⟩ rfl ⟨Nat.le_of_ble_eq_true rfl, Nat.le_of_ble_eq_true rfl⟩ (Nat.le_of_ble_eq_true rfl) ⟨Nat.le_of_ble_eq_true rfl, Nat.le_of_ble_eq_true rfl⟩ [0] [1, 2, 3] rfl rfl rfl rfl rfl (by decide) 0 rfl rfl dX5_parseFilling_70 rfl (J_f (ws' := [(h, .inr (5, [.ref hm2, .ref gb, .ref s1, .ref s2, .int (iI er2)])), (gb, .inr (0, [.ref gr, .int (iI t), .int (iI E)])), (gr, .inr (2, [.ref ga, .int (iI F)])), (ga, .inl (X.2.2, 3000, .inl (aI r)))]) (st' := [.int (iI (if er2 = -1 then 1 else 0))]) [3, 0, 1, 2] rfl rfl rfl rfl ?_)
    refine J_top (b := 0) (if_neg her2) ?_
    refine J_if_eq (tgt := 104) cx dX5_parseFilling_73 (by decide) (by decide) (fun h_73 => ?_) (fun h_73 => ?_)
    rotate_left
    · exact absurd h_73 (by decide)
    exact J_vret cx hr dX5_parseFilling_104 (by refine ⟨t, rfl, ?_⟩; rw [← hfin])
  · skip
    have her2 : er2 = -1 := by (split at h_18); (assumption); (omega)
    subst her2
    have hfr := flI_r hin2
    have hqE := hok3 hfr.1
    refine J_aload_n cx dX5_parseFilling_21 rfl 1 rfl ?_
    refine J_get cx inC5 0 rfl rfl 1 (by decide) T160 rfl rfl dX5_parseFilling_22 ?_
    refine J_getN cx inC0 1 rfl rfl 1 (by decide) T147 rfl rfl dX5_parseFilling_25 ?_
    refine J_iload_n cx dX5_parseFilling_28 rfl 0 rfl ?_
    refine J_icmp_ge (tgt := 69) cx dX5_parseFilling_29 (by decide) (by omega) (by have : q + 7 - (q + 7) % 8 = up8 q := rfl; omega) (fun h_29 => ?_) (fun h_29 => ?_)
    · skip
      have hfx := flI_x (E := E) hin2 (show up8 q ≤ t from h_29)
      refine J_aload_n cx dX5_parseFilling_69 rfl 1 rfl ?_
      refine J_callV (C := RX5) (T := TX5) (N := 5) cx (As := []) (rest := []) (mX5_isRight l X h hm2 gb s1 s2 (-1) (by omega)) T406 T403 T405 S7 T7 ⟨rfl, hd_X5_isRight⟩ rfl ⟨Nat.le_of_ble_eq_true rfl, Nat.le_of_ble_eq_true rfl⟩ (Nat.le_of_ble_eq_true rfl) ⟨Nat.le_of_ble_eq_true rfl, Nat.le_of_ble_eq_true rfl⟩ [0] [1, 2, 3] rfl rfl rfl rfl rfl (by decide) 0 rfl rfl dX5_parseFilling_70 rfl (J_f (ws' := [(h, .inr (5, [.ref hm2, .ref gb, .ref s1, .ref s2, .int (iI (-1))])), (gb, .inr (0, [.ref gr, .int (iI t), .int (iI E)])), (gr, .inr (2, [.ref ga, .int (iI F)])), (ga, .inl (X.2.2, 3000, .inl (aI r)))]) (st' := [.int (iI (if (-1) = -1 then 1 else 0))]) [3, 0, 1, 2] rfl rfl rfl rfl ?_)
      refine J_top (b := 1) (by decide) ?_
      refine J_if_eq (tgt := 104) cx dX5_parseFilling_73 (by decide) (by decide) (fun h_73 => ?_) (fun h_73 => ?_)
      · exact absurd h_73 (by decide)
      refine J_aload_n cx dX5_parseFilling_76 rfl 1 rfl ?_
      refine J_get cx inC5 0 rfl rfl 1 (by decide) T160 rfl rfl dX5_parseFilling_77 ?_
      refine J_getN cx inC0 1 rfl rfl 1 (by decide) T147 rfl rfl dX5_parseFilling_80 ?_
      refine J_aload_n cx dX5_parseFilling_83 rfl 1 rfl ?_
      refine J_get cx inC5 0 rfl rfl 1 (by decide) T160 rfl rfl dX5_parseFilling_84 ?_
      refine J_getN cx inC0 1 rfl rfl 2 (by decide) T149 rfl rfl dX5_parseFilling_87 ?_
      refine J_icmp_ge (tgt := 104) cx dX5_parseFilling_90 (by decide) (by omega) (by omega) (fun h_90 => ?_) (fun h_90 => ?_)
      · skip
        have hfin : (-1 : Int) = flE r E q er := by (rw [hfx.2, if_neg (by omega)])
        exact J_vret cx hr dX5_parseFilling_104 (by refine ⟨t, rfl, ?_⟩; rw [← hfin])
      · skip
        have hfin : t = flE r E q er := by (rw [hfx.2, if_pos (by omega)]); (exact hfx.1)
        refine J_aload_n cx dX5_parseFilling_93 rfl 1 rfl ?_
        refine J_aload_n cx dX5_parseFilling_94 rfl 1 rfl ?_
        refine J_get cx inC5 0 rfl rfl 1 (by decide) T160 rfl rfl dX5_parseFilling_95 ?_
        refine J_getN cx inC0 1 rfl rfl 1 (by decide) T147 rfl rfl dX5_parseFilling_98 ?_
        refine J_put (ty := .int) (ws' := [(h, .inr (5, [.ref hm2, .ref gb, .ref s1, .ref s2, .int (iI t)])), (gb, .inr (0, [.ref gr, .int (iI t), .int (iI E)])), (gr, .inr (2, [.ref ga, .int (iI F)])), (ga, .inl (X.2.2, 3000, .inl (aI r)))]) cx inC5 tyX5_ok nmX5 0 rfl rfl 4 (by decide) T165 rfl rfl (by decide +kernel) (rfl) (rfl) (Nat.le_of_ble_eq_true rfl) rfl dX5_parseFilling_101 ?_
        exact J_vret cx hr dX5_parseFilling_104 (by refine ⟨t, rfl, ?_⟩; rw [← hfin])
    · skip
      have ht8 : t < up8 q := by (have h5 : ¬ up8 q ≤ t := h_29); (omega)
      refine J_aload_n cx dX5_parseFilling_32 rfl 1 rfl ?_
      refine J_get cx inC5 0 rfl rfl 1 (by decide) T160 rfl rfl dX5_parseFilling_33 ?_
      refine J_callV (C := RX0) (T := TX0) (N := 3) cx (As := []) (rest := []) (mX0_bitHere l X gb gr ga r t E F (by omega) (by omega) (hrr)) T414 T455 T412 T413 T8 ⟨rfl, hd_X0_bitHere⟩ rfl ⟨Nat.le_of_ble_eq_true rfl, Nat.le_of_ble_eq_true rfl⟩ (Nat.le_of_ble_eq_true rfl) ⟨Nat.le_of_ble_eq_true rfl, Nat.le_of_ble_eq_true rfl⟩ [1, 2, 3] [0] rfl rfl rfl rfl rfl (by decide) 1 rfl rfl dX5_parseFilling_36 rfl (J_f (ws' := [(h, .inr (5, [.ref hm2, .ref gb, .ref s1, .ref s2, .int (iI (-1))])), (gb, .inr (0, [.ref gr, .int (iI t), .int (iI E)])), (gr, .inr (2, [.ref ga, .int (iI F)])), (ga, .inl (X.2.2, 3000, .inl (aI r)))]) (st' := [.int (iI (if t < E then cbit r t else 0))]) [0, 1, 2, 3] rfl rfl rfl rfl ?_)
      refine J_top (b := (cbit r t)) (if_pos (by omega)) ?_
      refine J_if_eq (tgt := 53) cx dX5_parseFilling_39 (by decide) (by have := cbit_01 r t; omega) (fun h_39 => ?_) (fun h_39 => ?_)
      · skip
        refine J_aload_n cx dX5_parseFilling_53 rfl 1 rfl ?_
        refine J_get cx inC5 0 rfl rfl 1 (by decide) T160 rfl rfl dX5_parseFilling_54 ?_
        refine J_dup cx dX5_parseFilling_57 rfl ?_
        refine J_getN cx inC0 1 rfl rfl 1 (by decide) T147 rfl rfl dX5_parseFilling_58 ?_
        refine J_iconst cx dX5_parseFilling_61 ?_
        refine J_iadd cx dX5_parseFilling_62 ?_
        refine J_putN (ty := .int) (ws' := [(h, .inr (5, [.ref hm2, .ref gb, .ref s1, .ref s2, .int (iI (-1))])), (gb, .inr (0, [.ref gr, .int (iI (t + 1)), .int (iI E)])), (gr, .inr (2, [.ref ga, .int (iI F)])), (ga, .inl (X.2.2, 3000, .inl (aI r)))]) cx inC0 tyX0_ok nmX0 1 rfl rfl 1 (by decide) T147 rfl rfl (by decide +kernel) (rfl) (rfl) (Nat.le_of_ble_eq_true rfl) rfl dX5_parseFilling_63 ?_
        refine J_goto (tgt := 14) cx dX5_parseFilling_66 (by decide) ?_
        exact ih_14 (t + 1) (-1) ⟨(by omega), (by omega), (by first | exact flI_go hin2 ht8 h_39 | exact flI_no hin2 ht.1 ht8 h_39)⟩ (by omega)
      · skip
        refine J_aload_n cx dX5_parseFilling_42 rfl 1 rfl ?_
        refine J_aload_n cx dX5_parseFilling_43 rfl 1 rfl ?_
        refine J_get cx inC5 0 rfl rfl 1 (by decide) T160 rfl rfl dX5_parseFilling_44 ?_
        refine J_getN cx inC0 1 rfl rfl 1 (by decide) T147 rfl rfl dX5_parseFilling_47 ?_
        refine J_put (ty := .int) (ws' := [(h, .inr (5, [.ref hm2, .ref gb, .ref s1, .ref s2, .int (iI t)])), (gb, .inr (0, [.ref gr, .int (iI t), .int (iI E)])), (gr, .inr (2, [.ref ga, .int (iI F)])), (ga, .inl (X.2.2, 3000, .inl (aI r)))]) cx inC5 tyX5_ok nmX5 0 rfl rfl 4 (by decide) T165 rfl rfl (by decide +kernel) (rfl) (rfl) (Nat.le_of_ble_eq_true rfl) rfl dX5_parseFilling_50 ?_
        refine J_aload_n cx dX5_parseFilling_53 rfl 1 rfl ?_
        refine J_get cx inC5 0 rfl rfl 1 (by decide) T160 rfl rfl dX5_parseFilling_54 ?_
        refine J_dup cx dX5_parseFilling_57 rfl ?_
        refine J_getN cx inC0 1 rfl rfl 1 (by decide) T147 rfl rfl dX5_parseFilling_58 ?_
        refine J_iconst cx dX5_parseFilling_61 ?_
        refine J_iadd cx dX5_parseFilling_62 ?_
        refine J_putN (ty := .int) (ws' := [(h, .inr (5, [.ref hm2, .ref gb, .ref s1, .ref s2, .int (iI t)])), (gb, .inr (0, [.ref gr, .int (iI (t + 1)), .int (iI E)])), (gr, .inr (2, [.ref ga, .int (iI F)])), (ga, .inl (X.2.2, 3000, .inl (aI r)))]) cx inC0 tyX0_ok nmX0 1 rfl rfl 1 (by decide) T147 rfl rfl (by decide +kernel) (rfl) (rfl) (Nat.le_of_ble_eq_true rfl) rfl dX5_parseFilling_63 ?_
        refine J_goto (tgt := 14) cx dX5_parseFilling_66 (by decide) ?_
        exact ih_14 (t + 1) t ⟨(by omega), (by omega), (by first | exact flI_go hin2 ht8 h_39 | exact flI_no hin2 ht.1 ht8 h_39)⟩ (by omega)
