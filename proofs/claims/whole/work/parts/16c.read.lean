set_option maxHeartbeats 4000000 in
set_option maxRecDepth 100000 in
theorem mX7_readA (l : Launch) (X : GX) (z : Nat) (ht : Nat) (hw : Nat) (hrd : Nat) (gr : Nat) (gr2 : Nat) (hm3 : Nat) (gb2 : Nat) (s1 : Nat) (s2 : Nat) (er : Int) (ga2 : Nat) (r : Int → Int) (q : Int) (E : Int) (F : Int) (a2 : Nat) (f : Int → Int) (ch : Int) (bl : Int) (n : Int) (am3 : Nat) (mf : Int → Int) (hF : 0 ≤ F ∧ F ≤ 3000) (hrr : ∀ j, -128 ≤ r j ∧ r j < 128) (hf : ∀ j, -32768 ≤ f j ∧ f j ≤ 32767) (hm : ∀ j, -32768 ≤ mf j ∧ mf j ≤ 32767) (hfin : rdE r (8 * F) f mf = -1) : Ct l yX7_read cX7_read 2 (some .int) 6 144 0 0 X [.ref z] [(z, .inr (7, [.ref ht, .ref hw, .ref hrd, .ref gr, .ref gr2])), (hrd, .inr (5, [.ref hm3, .ref gb2, .ref s1, .ref s2, .int (iI er)])), (gb2, .inr (0, [.ref gr2, .int (iI q), .int (iI E)])), (gr2, .inr (2, [.ref ga2, .int (iI F)])), (ga2, .inl (X.2.2, 3000, .inl (aI r))), (s2, .inr (4, [.ref a2, .int (iI ch), .int (iI bl), .int (iI n)])), (a2, .inl (X.2.1, 800, .inl (aI f))), (hm3, .inr (3, [.ref am3])), (am3, .inl (X.2.1, 800, .inl (aI mf)))] (fun v u => ∃ q' : Int, v = some (.int (iI (hN r (8 * F) * hC r (8 * F)))) ∧ u = [(z, .inr (7, [.ref ht, .ref hw, .ref hrd, .ref gr, .ref gr2])), (hrd, .inr (5, [.ref hm3, .ref gb2, .ref s2, .ref s1, .int (iI (-1))])), (gb2, .inr (0, [.ref gr2, .int (iI q'), .int (iI (8 * F))])), (gr2, .inr (2, [.ref ga2, .int (iI 0)])), (ga2, .inl (X.2.2, 3000, .inl (aI r))), (s2, .inr (4, [.ref a2, .int (iI (hC r (8 * F))), .int (iI (hB r (8 * F))), .int (iI (hN r (8 * F) * hC r (8 * F)))])), (a2, .inl (X.2.1, 800, .inl (aI ((rdA r (8 * F) f mf).1)))), (hm3, .inr (3, [.ref am3])), (am3, .inl (X.2.1, 800, .inl (aI ((rdA r (8 * F) f mf).2.1))))]) := by
  refine Ct_of (own := RX7) (lv := [(0, .ref z)]) (by decide +kernel) rfl (Nat.le_of_ble_eq_true rfl) rfl ?_
  intro p e s m args below meth c A cx hr hin
  refine J_aload_n cx dX7_read_0 rfl 0 rfl ?_
  refine J_get cx inC7 0 rfl rfl 2 (by decide) T179 rfl rfl dX7_read_1 ?_
  refine J_callV (C := RX5) (T := TX5) (N := 5) cx (As := []) (rest := []) (mX5_parseA l X hrd hm3 gb2 s1 s2 er gr2 ga2 r q E F a2 f ch bl n am3 mf (hF) (hrr) (hf) (hm) (hfin)) T390 T387 T388 T389 T7 ⟨rfl, hd_X5_parse⟩ rfl ⟨Nat.le_of_ble_eq_true rfl, Nat.le_of_ble_eq_true rfl⟩ (Nat.le_of_ble_eq_true rfl) ⟨Nat.le_of_ble_eq_true rfl, Nat.le_of_ble_eq_true rfl⟩ [1, 2, 3, 4, 5, 6, 7, 8] [0] rfl rfl rfl rfl rfl (by decide) 1 rfl rfl dX7_read_4 rfl ?_
  intro v_4 u_4 hp_4
  obtain ⟨q'_4, rfl, rfl⟩ := hp_4
  refine J_sub (ws' := [(z, .inr (7, [.ref ht, .ref hw, .ref hrd, .ref gr, .ref gr2])), (hrd, .inr (5, [.ref hm3, .ref gb2, .ref s2, .ref s1, .int (iI (-1))])), (gb2, .inr (0, [.ref gr2, .int (iI q'_4), .int (iI (8 * F))])), (gr2, .inr (2, [.ref ga2, .int (iI F)])), (ga2, .inl (X.2.2, 3000, .inl (aI r))), (s2, .inr (4, [.ref a2, .int (iI (hC r (8 * F))), .int (iI (hB r (8 * F))), .int (iI (hN r (8 * F) * hC r (8 * F)))])), (a2, .inl (X.2.1, 800, .inl (aI ((rdA r (8 * F) f mf).1)))), (hm3, .inr (3, [.ref am3])), (am3, .inl (X.2.1, 800, .inl (aI ((rdA r (8 * F) f mf).2.1))))]) [0, 1, 2, 3, 4, 5, 6, 7, 8] rfl rfl rfl ?_
  refine J_eq (pc' := 7) (st' := [.int (iI (-1))]) rfl rfl ?_
  refine J_istore_n (lv' := [(1, .int (iI (-1))), (0, .ref z)]) cx dX7_read_7 rfl (by decide) rfl ?_
  refine J_aload_n cx dX7_read_8 rfl 1 rfl ?_
  refine J_get cx inC7 0 rfl rfl 4 (by decide) T181 rfl rfl dX7_read_9 ?_
  refine J_callV (C := RX2) (T := TX2) (N := 2) cx (As := []) (rest := []) (mX2_clear l X gr2 ga2 r F ) T250 T456 T248 T249 T6 ⟨rfl, hd_X2_clear⟩ rfl ⟨Nat.le_of_ble_eq_true rfl, Nat.le_of_ble_eq_true rfl⟩ (Nat.le_of_ble_eq_true rfl) ⟨Nat.le_of_ble_eq_true rfl, Nat.le_of_ble_eq_true rfl⟩ [3, 4] [0, 1, 2, 5, 6, 7, 8] rfl rfl rfl rfl rfl (by decide) 3 rfl rfl dX7_read_12 rfl (J_f (ws' := [(z, .inr (7, [.ref ht, .ref hw, .ref hrd, .ref gr, .ref gr2])), (hrd, .inr (5, [.ref hm3, .ref gb2, .ref s2, .ref s1, .int (iI (-1))])), (gb2, .inr (0, [.ref gr2, .int (iI q'_4), .int (iI (8 * F))])), (gr2, .inr (2, [.ref ga2, .int (iI 0)])), (ga2, .inl (X.2.2, 3000, .inl (aI r))), (s2, .inr (4, [.ref a2, .int (iI (hC r (8 * F))), .int (iI (hB r (8 * F))), .int (iI (hN r (8 * F) * hC r (8 * F)))])), (a2, .inl (X.2.1, 800, .inl (aI ((rdA r (8 * F) f mf).1)))), (hm3, .inr (3, [.ref am3])), (am3, .inl (X.2.1, 800, .inl (aI ((rdA r (8 * F) f mf).2.1))))]) (st' := []) [0, 1, 2, 7, 8, 3, 4, 5, 6] rfl rfl rfl rfl ?_)
  refine J_iload_n cx dX7_read_15 rfl 0 rfl ?_
  refine J_iconst cx dX7_read_16 ?_
  refine J_icmp_ne (tgt := 33) cx dX7_read_17 (by decide) (by decide) (by decide) (fun h_17 => ?_) (fun h_17 => ?_)
  · exact absurd h_17 (by decide)
  refine J_aload_n cx dX7_read_20 rfl 1 rfl ?_
  refine J_get cx inC7 0 rfl rfl 2 (by decide) T179 rfl rfl dX7_read_21 ?_
  refine J_getN cx inC5 1 rfl rfl 2 (by decide) T163 rfl rfl dX7_read_24 ?_
  refine J_getN cx inC4 5 rfl rfl 3 (by decide) T35 rfl rfl dX7_read_27 ?_
  refine J_goto (tgt := 36) cx dX7_read_30 (by decide) ?_
  exact J_iret cx hr dX7_read_36 (⟨_, rfl, rfl⟩)
set_option maxHeartbeats 4000000 in
set_option maxRecDepth 100000 in
theorem mX7_readB1 (l : Launch) (X : GX) (z : Nat) (ht : Nat) (hw : Nat) (hrd : Nat) (gr : Nat) (gr2 : Nat) (hm3 : Nat) (gb2 : Nat) (s1 : Nat) (s2 : Nat) (er : Int) (ga2 : Nat) (r : Int → Int) (q : Int) (E : Int) (F : Int) (a2 : Nat) (f : Int → Int) (ch : Int) (bl : Int) (n : Int) (am3 : Nat) (mf : Int → Int) (hF : 0 ≤ F ∧ F ≤ 3000) (hrr : ∀ j, -128 ≤ r j ∧ r j < 128) (hf : ∀ j, -32768 ≤ f j ∧ f j ≤ 32767) (hm : ∀ j, -32768 ≤ mf j ∧ mf j ≤ 32767) (hbad : ¬ (hP5 r (8 * F)).2 = -1) : Ct l yX7_read cX7_read 2 (some .int) 6 144 0 0 X [.ref z] [(z, .inr (7, [.ref ht, .ref hw, .ref hrd, .ref gr, .ref gr2])), (hrd, .inr (5, [.ref hm3, .ref gb2, .ref s1, .ref s2, .int (iI er)])), (gb2, .inr (0, [.ref gr2, .int (iI q), .int (iI E)])), (gr2, .inr (2, [.ref ga2, .int (iI F)])), (ga2, .inl (X.2.2, 3000, .inl (aI r))), (s2, .inr (4, [.ref a2, .int (iI ch), .int (iI bl), .int (iI n)])), (a2, .inl (X.2.1, 800, .inl (aI f))), (hm3, .inr (3, [.ref am3])), (am3, .inl (X.2.1, 800, .inl (aI mf)))] (fun v u => ∃ (g' mf' : Int → Int) (q' c' b' n' : Int), v = some (.int (iI (-1 - ((hP5 r (8 * F)).2)))) ∧ u = [(z, .inr (7, [.ref ht, .ref hw, .ref hrd, .ref gr, .ref gr2])), (hrd, .inr (5, [.ref hm3, .ref gb2, .ref s1, .ref s2, .int (iI ((hP5 r (8 * F)).2))])), (gb2, .inr (0, [.ref gr2, .int (iI q'), .int (iI (8 * F))])), (gr2, .inr (2, [.ref ga2, .int (iI 0)])), (ga2, .inl (X.2.2, 3000, .inl (aI r))), (s2, .inr (4, [.ref a2, .int (iI c'), .int (iI b'), .int (iI n')])), (a2, .inl (X.2.1, 800, .inl (aI g'))), (hm3, .inr (3, [.ref am3])), (am3, .inl (X.2.1, 800, .inl (aI mf')))] ∧ (∀ j, -32768 ≤ g' j ∧ g' j ≤ 32767) ∧ (∀ j, -32768 ≤ mf' j ∧ mf' j ≤ 32767)) := by
  refine Ct_of (own := RX7) (lv := [(0, .ref z)]) (by decide +kernel) rfl (Nat.le_of_ble_eq_true rfl) rfl ?_
  intro p e s m args below meth c A cx hr hin
  have hE : 0 ≤ (8 * F) ∧ (8 * F) ≤ 24000 := by omega
  have hrE : -1 ≤ (hP5 r (8 * F)).2 ∧ (hP5 r (8 * F)).2 ≤ 24010 := (hP_ok r hE).2.2.2.2.2.1
  refine J_aload_n cx dX7_read_0 rfl 0 rfl ?_
  refine J_get cx inC7 0 rfl rfl 2 (by decide) T179 rfl rfl dX7_read_1 ?_
  refine J_callV (C := RX5) (T := TX5) (N := 5) cx (As := []) (rest := []) (mX5_parseB1 l X hrd hm3 gb2 s1 s2 er gr2 ga2 r q E F a2 f ch bl n am3 mf (hF) (hrr) (hf) (hm) (hbad)) T390 T387 T388 T389 T7 ⟨rfl, hd_X5_parse⟩ rfl ⟨Nat.le_of_ble_eq_true rfl, Nat.le_of_ble_eq_true rfl⟩ (Nat.le_of_ble_eq_true rfl) ⟨Nat.le_of_ble_eq_true rfl, Nat.le_of_ble_eq_true rfl⟩ [1, 2, 3, 4, 5, 6, 7, 8] [0] rfl rfl rfl rfl rfl (by decide) 1 rfl rfl dX7_read_4 rfl ?_
  intro v_4 u_4 hp_4
  obtain ⟨g'_4, mf'_4, q'_4, c'_4, b'_4, n'_4, rfl, rfl, hg_4, hmf_4⟩ := hp_4
  refine J_sub (ws' := [(z, .inr (7, [.ref ht, .ref hw, .ref hrd, .ref gr, .ref gr2])), (hrd, .inr (5, [.ref hm3, .ref gb2, .ref s1, .ref s2, .int (iI ((hP5 r (8 * F)).2))])), (gb2, .inr (0, [.ref gr2, .int (iI q'_4), .int (iI (8 * F))])), (gr2, .inr (2, [.ref ga2, .int (iI F)])), (ga2, .inl (X.2.2, 3000, .inl (aI r))), (s2, .inr (4, [.ref a2, .int (iI c'_4), .int (iI b'_4), .int (iI n'_4)])), (a2, .inl (X.2.1, 800, .inl (aI g'_4))), (hm3, .inr (3, [.ref am3])), (am3, .inl (X.2.1, 800, .inl (aI mf'_4)))]) [0, 1, 2, 3, 4, 5, 6, 7, 8] rfl rfl rfl ?_
  refine J_eq (pc' := 7) (st' := [.int (iI ((hP5 r (8 * F)).2))]) rfl rfl ?_
  refine J_istore_n (lv' := [(1, .int (iI ((hP5 r (8 * F)).2))), (0, .ref z)]) cx dX7_read_7 rfl (by decide) rfl ?_
  refine J_aload_n cx dX7_read_8 rfl 1 rfl ?_
  refine J_get cx inC7 0 rfl rfl 4 (by decide) T181 rfl rfl dX7_read_9 ?_
  refine J_callV (C := RX2) (T := TX2) (N := 2) cx (As := []) (rest := []) (mX2_clear l X gr2 ga2 r F ) T250 T456 T248 T249 T6 ⟨rfl, hd_X2_clear⟩ rfl ⟨Nat.le_of_ble_eq_true rfl, Nat.le_of_ble_eq_true rfl⟩ (Nat.le_of_ble_eq_true rfl) ⟨Nat.le_of_ble_eq_true rfl, Nat.le_of_ble_eq_true rfl⟩ [3, 4] [0, 1, 2, 5, 6, 7, 8] rfl rfl rfl rfl rfl (by decide) 3 rfl rfl dX7_read_12 rfl (J_f (ws' := [(z, .inr (7, [.ref ht, .ref hw, .ref hrd, .ref gr, .ref gr2])), (hrd, .inr (5, [.ref hm3, .ref gb2, .ref s1, .ref s2, .int (iI ((hP5 r (8 * F)).2))])), (gb2, .inr (0, [.ref gr2, .int (iI q'_4), .int (iI (8 * F))])), (gr2, .inr (2, [.ref ga2, .int (iI 0)])), (ga2, .inl (X.2.2, 3000, .inl (aI r))), (s2, .inr (4, [.ref a2, .int (iI c'_4), .int (iI b'_4), .int (iI n'_4)])), (a2, .inl (X.2.1, 800, .inl (aI g'_4))), (hm3, .inr (3, [.ref am3])), (am3, .inl (X.2.1, 800, .inl (aI mf'_4)))]) (st' := []) [0, 1, 2, 7, 8, 3, 4, 5, 6] rfl rfl rfl rfl ?_)
  refine J_iload_n cx dX7_read_15 rfl 0 rfl ?_
  refine J_iconst cx dX7_read_16 ?_
  refine J_icmp_ne (tgt := 33) cx dX7_read_17 (by decide) (by omega) (by decide) (fun h_17 => ?_) (fun h_17 => ?_)
  · skip
    refine J_iconst cx dX7_read_33 ?_
    refine J_iload_n cx dX7_read_34 rfl 0 rfl ?_
    refine J_isub cx dX7_read_35 ?_
    exact J_iret cx hr dX7_read_36 (⟨_, _, _, _, _, _, rfl, rfl, hg_4, hmf_4⟩)
  · exfalso; exact hbad h_17
set_option maxHeartbeats 4000000 in
set_option maxRecDepth 100000 in
theorem mX7_readB2 (l : Launch) (X : GX) (z : Nat) (ht : Nat) (hw : Nat) (hrd : Nat) (gr : Nat) (gr2 : Nat) (hm3 : Nat) (gb2 : Nat) (s1 : Nat) (s2 : Nat) (er : Int) (ga2 : Nat) (r : Int → Int) (q : Int) (E : Int) (F : Int) (a2 : Nat) (f : Int → Int) (ch : Int) (bl : Int) (n : Int) (am3 : Nat) (mf : Int → Int) (hF : 0 ≤ F ∧ F ≤ 3000) (hrr : ∀ j, -128 ≤ r j ∧ r j < 128) (hf : ∀ j, -32768 ≤ f j ∧ f j ≤ 32767) (hm : ∀ j, -32768 ≤ mf j ∧ mf j ≤ 32767) (h5 : (hP5 r (8 * F)).2 = -1) (hbad : ¬ rdE r (8 * F) f mf = -1) : Ct l yX7_read cX7_read 2 (some .int) 6 144 0 0 X [.ref z] [(z, .inr (7, [.ref ht, .ref hw, .ref hrd, .ref gr, .ref gr2])), (hrd, .inr (5, [.ref hm3, .ref gb2, .ref s1, .ref s2, .int (iI er)])), (gb2, .inr (0, [.ref gr2, .int (iI q), .int (iI E)])), (gr2, .inr (2, [.ref ga2, .int (iI F)])), (ga2, .inl (X.2.2, 3000, .inl (aI r))), (s2, .inr (4, [.ref a2, .int (iI ch), .int (iI bl), .int (iI n)])), (a2, .inl (X.2.1, 800, .inl (aI f))), (hm3, .inr (3, [.ref am3])), (am3, .inl (X.2.1, 800, .inl (aI mf)))] (fun v u => ∃ (g' mf' : Int → Int) (q' c' b' n' : Int), v = some (.int (iI (-1 - (rdE r (8 * F) f mf)))) ∧ u = [(z, .inr (7, [.ref ht, .ref hw, .ref hrd, .ref gr, .ref gr2])), (hrd, .inr (5, [.ref hm3, .ref gb2, .ref s1, .ref s2, .int (iI (rdE r (8 * F) f mf))])), (gb2, .inr (0, [.ref gr2, .int (iI q'), .int (iI (8 * F))])), (gr2, .inr (2, [.ref ga2, .int (iI 0)])), (ga2, .inl (X.2.2, 3000, .inl (aI r))), (s2, .inr (4, [.ref a2, .int (iI c'), .int (iI b'), .int (iI n')])), (a2, .inl (X.2.1, 800, .inl (aI g'))), (hm3, .inr (3, [.ref am3])), (am3, .inl (X.2.1, 800, .inl (aI mf')))] ∧ (∀ j, -32768 ≤ g' j ∧ g' j ≤ 32767) ∧ (∀ j, -32768 ≤ mf' j ∧ mf' j ≤ 32767)) := by
  refine Ct_of (own := RX7) (lv := [(0, .ref z)]) (by decide +kernel) rfl (Nat.le_of_ble_eq_true rfl) rfl ?_
  intro p e s m args below meth c A cx hr hin
  have hE : 0 ≤ (8 * F) ∧ (8 * F) ≤ 24000 := by omega
  have hrE : -1 ≤ rdE r (8 * F) f mf ∧ rdE r (8 * F) f mf ≤ 24010 := rdE_rng hE hf hm
  refine J_aload_n cx dX7_read_0 rfl 0 rfl ?_
  refine J_get cx inC7 0 rfl rfl 2 (by decide) T179 rfl rfl dX7_read_1 ?_
  refine J_callV (C := RX5) (T := TX5) (N := 5) cx (As := []) (rest := []) (mX5_parseB2 l X hrd hm3 gb2 s1 s2 er gr2 ga2 r q E F a2 f ch bl n am3 mf (hF) (hrr) (hf) (hm) (h5) (hbad)) T390 T387 T388 T389 T7 ⟨rfl, hd_X5_parse⟩ rfl ⟨Nat.le_of_ble_eq_true rfl, Nat.le_of_ble_eq_true rfl⟩ (Nat.le_of_ble_eq_true rfl) ⟨Nat.le_of_ble_eq_true rfl, Nat.le_of_ble_eq_true rfl⟩ [1, 2, 3, 4, 5, 6, 7, 8] [0] rfl rfl rfl rfl rfl (by decide) 1 rfl rfl dX7_read_4 rfl ?_
  intro v_4 u_4 hp_4
  obtain ⟨g'_4, mf'_4, q'_4, c'_4, b'_4, n'_4, rfl, rfl, hg_4, hmf_4⟩ := hp_4
  refine J_sub (ws' := [(z, .inr (7, [.ref ht, .ref hw, .ref hrd, .ref gr, .ref gr2])), (hrd, .inr (5, [.ref hm3, .ref gb2, .ref s1, .ref s2, .int (iI (rdE r (8 * F) f mf))])), (gb2, .inr (0, [.ref gr2, .int (iI q'_4), .int (iI (8 * F))])), (gr2, .inr (2, [.ref ga2, .int (iI F)])), (ga2, .inl (X.2.2, 3000, .inl (aI r))), (s2, .inr (4, [.ref a2, .int (iI c'_4), .int (iI b'_4), .int (iI n'_4)])), (a2, .inl (X.2.1, 800, .inl (aI g'_4))), (hm3, .inr (3, [.ref am3])), (am3, .inl (X.2.1, 800, .inl (aI mf'_4)))]) [0, 1, 2, 3, 4, 5, 6, 7, 8] rfl rfl rfl ?_
  refine J_eq (pc' := 7) (st' := [.int (iI (rdE r (8 * F) f mf))]) rfl rfl ?_
  refine J_istore_n (lv' := [(1, .int (iI (rdE r (8 * F) f mf))), (0, .ref z)]) cx dX7_read_7 rfl (by decide) rfl ?_
  refine J_aload_n cx dX7_read_8 rfl 1 rfl ?_
  refine J_get cx inC7 0 rfl rfl 4 (by decide) T181 rfl rfl dX7_read_9 ?_
  refine J_callV (C := RX2) (T := TX2) (N := 2) cx (As := []) (rest := []) (mX2_clear l X gr2 ga2 r F ) T250 T456 T248 T249 T6 ⟨rfl, hd_X2_clear⟩ rfl ⟨Nat.le_of_ble_eq_true rfl, Nat.le_of_ble_eq_true rfl⟩ (Nat.le_of_ble_eq_true rfl) ⟨Nat.le_of_ble_eq_true rfl, Nat.le_of_ble_eq_true rfl⟩ [3, 4] [0, 1, 2, 5, 6, 7, 8] rfl rfl rfl rfl rfl (by decide) 3 rfl rfl dX7_read_12 rfl (J_f (ws' := [(z, .inr (7, [.ref ht, .ref hw, .ref hrd, .ref gr, .ref gr2])), (hrd, .inr (5, [.ref hm3, .ref gb2, .ref s1, .ref s2, .int (iI (rdE r (8 * F) f mf))])), (gb2, .inr (0, [.ref gr2, .int (iI q'_4), .int (iI (8 * F))])), (gr2, .inr (2, [.ref ga2, .int (iI 0)])), (ga2, .inl (X.2.2, 3000, .inl (aI r))), (s2, .inr (4, [.ref a2, .int (iI c'_4), .int (iI b'_4), .int (iI n'_4)])), (a2, .inl (X.2.1, 800, .inl (aI g'_4))), (hm3, .inr (3, [.ref am3])), (am3, .inl (X.2.1, 800, .inl (aI mf'_4)))]) (st' := []) [0, 1, 2, 7, 8, 3, 4, 5, 6] rfl rfl rfl rfl ?_)
  refine J_iload_n cx dX7_read_15 rfl 0 rfl ?_
  refine J_iconst cx dX7_read_16 ?_
  refine J_icmp_ne (tgt := 33) cx dX7_read_17 (by decide) (by omega) (by decide) (fun h_17 => ?_) (fun h_17 => ?_)
  · skip
    refine J_iconst cx dX7_read_33 ?_
    refine J_iload_n cx dX7_read_34 rfl 0 rfl ?_
    refine J_isub cx dX7_read_35 ?_
    exact J_iret cx hr dX7_read_36 (⟨_, _, _, _, _, _, rfl, rfl, hg_4, hmf_4⟩)
  · exfalso; exact hbad h_17
