theorem zero_rng : ∀ j : Int, -32768 ≤ (fun _ : Int => (0 : Int)) j ∧ (fun _ : Int => (0 : Int)) j ≤ 32767 := fun _ => ⟨by show (-32768 : Int) ≤ 0; decide, by show (0 : Int) ≤ 32767; decide⟩
set_option maxHeartbeats 4000000 in
set_option maxRecDepth 100000 in
theorem law_start (l : Launch) (X : GX) {p : Program} {e : Env} {s : State} {m : MethodId} {below : List Frame} {meth : Method} {c : Code} {A : Nat → Prop} {sb L : Nat} {sc : Int → Int} (cx : Cx p s m #[Value.ref sb] meth c X A 4 cL_law RL) (hX : va_X sb L (aI sc) s s.heap) (hbl : sb < s.heap.size) (hbA : ¬ A sb) (hL : L ≤ 2048) (hsc : ∀ j, -2147483648 ≤ sc j ∧ sc j < 2147483648) (hA : ∀ q, A q → s.heap.size ≤ q) (hret : meth.sig.returnType = ret) : J p l e room_1 s m #[Value.ref sb] below meth c X A 4 0 0 (lw_Z below #[Value.ref sb] s) [] [(0, .ref sb)] 0 [] := by
  refine J_new (ci := 7) (fs := [.null, .null, .null, .null, .null]) cx inC7 tyX7 tyX7_ok T12 T13 T1 rfl (by decide) (Nat.le_of_ble_eq_true rfl) (Nat.le_of_ble_eq_true rfl) dL_law_0 (fun q0 => ?_)
  refine J_ws (ws' := [(q0, .inr (7, [.null, .null, .null, .null, .null]))]) rfl ?_
  refine J_widen (k := 1) (n := 5) (Nat.le_of_ble_eq_true rfl) (Nat.le_of_ble_eq_true rfl) ?_
  refine J_dup cx dL_law_3 rfl ?_
  refine J_callI cx (As := []) (rest := [.ref q0]) (mX7_init l X q0 ) T16 T14 T15 rfl T1 hd_X7_init rfl ⟨Nat.le_of_ble_eq_true rfl, Nat.le_of_ble_eq_true rfl⟩ (Nat.le_of_ble_eq_true rfl) ⟨Nat.le_of_ble_eq_true rfl, Nat.le_of_ble_eq_true rfl⟩ [0] [] rfl rfl rfl rfl rfl (by decide) dL_law_4 rfl ?_
  intro v_4 u_4 hp_4
  obtain ⟨y1_4, y2_4, y3_4, y4_4, y5_4, y6_4, y7_4, y8_4, y9_4, y10_4, y11_4, y12_4, y13_4, y14_4, y15_4, y16_4, y17_4, y18_4, y19_4, y20_4, y21_4, y22_4, y23_4, rfl, rfl⟩ := hp_4
  refine J_sub (ws' := [(q0, .inr (7, [.ref y1_4, .ref y3_4, .ref y14_4, .ref y9_4, .ref y18_4])), (y1_4, .inr (4, [.ref y2_4, .int (iI 1), .int (iI 16), .int (iI 0)])), (y2_4, .inl (X.2.1, 800, .inl (aI (fun _ => 0)))), (y3_4, .inr (6, [.ref y4_4, .ref y6_4, .ref y8_4, .ref y11_4, .ref y12_4, .ref y13_4, .int (iI 0), .int (iI 0)])), (y4_4, .inr (4, [.ref y5_4, .int (iI 1), .int (iI 16), .int (iI 0)])), (y5_4, .inl (X.2.1, 800, .inl (aI (fun _ => 0)))), (y6_4, .inr (3, [.ref y7_4])), (y7_4, .inl (X.2.1, 800, .inl (aI (fun _ => 0)))), (y8_4, .inr (1, [.ref y9_4, .int (iI 0), .int (iI 0)])), (y9_4, .inr (2, [.ref y10_4, .int (iI 0)])), (y10_4, .inl (X.2.2, 3000, .inl (aI (fun _ => 0)))), (y11_4, .inl (X.2.1, 800, .inl (aI (fun _ => 0)))), (y12_4, .inl (X.2.1, 800, .inl (aI (fun _ => 0)))), (y13_4, .inl (X.2.1, 64, .inl (aI (fun _ => 0)))), (y14_4, .inr (5, [.ref y15_4, .ref y17_4, .ref y20_4, .ref y22_4, .int (iI (-1))])), (y15_4, .inr (3, [.ref y16_4])), (y16_4, .inl (X.2.1, 800, .inl (aI (fun _ => 0)))), (y17_4, .inr (0, [.ref y18_4, .int (iI 0), .int (iI 0)])), (y18_4, .inr (2, [.ref y19_4, .int (iI 0)])), (y19_4, .inl (X.2.2, 3000, .inl (aI (fun _ => 0)))), (y20_4, .inr (4, [.ref y21_4, .int (iI 0), .int (iI 0), .int (iI 0)])), (y21_4, .inl (X.2.1, 800, .inl (aI (fun _ => 0)))), (y22_4, .inr (4, [.ref y23_4, .int (iI 0), .int (iI 0), .int (iI 0)])), (y23_4, .inl (X.2.1, 800, .inl (aI (fun _ => 0))))]) [0, 1, 2, 3, 4, 5, 6, 7, 8, 9, 10, 11, 12, 13, 14, 15, 16, 17, 18, 19, 20, 21, 22, 23] rfl rfl rfl ?_
  refine J_eq (pc' := 7) (st' := [.ref q0]) rfl rfl ?_
  refine J_widen (k := 24) (n := 12510) (Nat.le_of_ble_eq_true rfl) (Nat.le_of_ble_eq_true rfl) ?_
  refine J_astore_n (lv' := [(1, .ref q0), (0, .ref sb)]) cx dL_law_7 rfl (by decide) rfl ?_
  refine J_new (ci := 8) (fs := [.int (iI 0), .int (iI 0), .int (iI 0), .null, .int (iI 0), .null, .int (iI 0), .null, .int (iI 0), .int (iI 0), .int (iI 0), .null, .int (iI 0), .null, .int (iI 0), .int (iI 0), .null, .int (iI 0), .int (iI 0), .int (iI 0), .int (iI 0), .null, .null]) cx inC8 tyX8 tyX8_ok T475 T476 T9 rfl (by decide) (Nat.le_of_ble_eq_true rfl) (Nat.le_of_ble_eq_true rfl) dL_law_8 (fun q8 => ?_)
  refine J_ws (ws' := [(q0, .inr (7, [.ref y1_4, .ref y3_4, .ref y14_4, .ref y9_4, .ref y18_4])), (y1_4, .inr (4, [.ref y2_4, .int (iI 1), .int (iI 16), .int (iI 0)])), (y2_4, .inl (X.2.1, 800, .inl (aI (fun _ => 0)))), (y3_4, .inr (6, [.ref y4_4, .ref y6_4, .ref y8_4, .ref y11_4, .ref y12_4, .ref y13_4, .int (iI 0), .int (iI 0)])), (y4_4, .inr (4, [.ref y5_4, .int (iI 1), .int (iI 16), .int (iI 0)])), (y5_4, .inl (X.2.1, 800, .inl (aI (fun _ => 0)))), (y6_4, .inr (3, [.ref y7_4])), (y7_4, .inl (X.2.1, 800, .inl (aI (fun _ => 0)))), (y8_4, .inr (1, [.ref y9_4, .int (iI 0), .int (iI 0)])), (y9_4, .inr (2, [.ref y10_4, .int (iI 0)])), (y10_4, .inl (X.2.2, 3000, .inl (aI (fun _ => 0)))), (y11_4, .inl (X.2.1, 800, .inl (aI (fun _ => 0)))), (y12_4, .inl (X.2.1, 800, .inl (aI (fun _ => 0)))), (y13_4, .inl (X.2.1, 64, .inl (aI (fun _ => 0)))), (y14_4, .inr (5, [.ref y15_4, .ref y17_4, .ref y20_4, .ref y22_4, .int (iI (-1))])), (y15_4, .inr (3, [.ref y16_4])), (y16_4, .inl (X.2.1, 800, .inl (aI (fun _ => 0)))), (y17_4, .inr (0, [.ref y18_4, .int (iI 0), .int (iI 0)])), (y18_4, .inr (2, [.ref y19_4, .int (iI 0)])), (y19_4, .inl (X.2.2, 3000, .inl (aI (fun _ => 0)))), (y20_4, .inr (4, [.ref y21_4, .int (iI 0), .int (iI 0), .int (iI 0)])), (y21_4, .inl (X.2.1, 800, .inl (aI (fun _ => 0)))), (y22_4, .inr (4, [.ref y23_4, .int (iI 0), .int (iI 0), .int (iI 0)])), (y23_4, .inl (X.2.1, 800, .inl (aI (fun _ => 0)))), (q8, .inr (8, [.int (iI 0), .int (iI 0), .int (iI 0), .null, .int (iI 0), .null, .int (iI 0), .null, .int (iI 0), .int (iI 0), .int (iI 0), .null, .int (iI 0), .null, .int (iI 0), .int (iI 0), .null, .int (iI 0), .int (iI 0), .int (iI 0), .int (iI 0), .null, .null]))]) rfl ?_
  refine J_widen (k := 25) (n := 12533) (Nat.le_of_ble_eq_true rfl) (Nat.le_of_ble_eq_true rfl) ?_
  refine J_dup cx dL_law_11 rfl ?_
  refine J_callI cx (As := []) (rest := [.ref q8]) (mX8_init l X q8 ) T479 T477 T478 rfl T9 hd_X8_init rfl ⟨Nat.le_of_ble_eq_true rfl, Nat.le_of_ble_eq_true rfl⟩ (Nat.le_of_ble_eq_true rfl) ⟨Nat.le_of_ble_eq_true rfl, Nat.le_of_ble_eq_true rfl⟩ [24] [0, 1, 2, 3, 4, 5, 6, 7, 8, 9, 10, 11, 12, 13, 14, 15, 16, 17, 18, 19, 20, 21, 22, 23] rfl rfl rfl rfl rfl (by decide) dL_law_12 rfl ?_
  intro v_12 u_12 hp_12
  obtain ⟨a1_12, a2_12, a3_12, a4_12, a5_12, a6_12, a7_12, a8_12, rfl, rfl⟩ := hp_12
  refine J_sub (ws' := [(q0, .inr (7, [.ref y1_4, .ref y3_4, .ref y14_4, .ref y9_4, .ref y18_4])), (y1_4, .inr (4, [.ref y2_4, .int (iI 1), .int (iI 16), .int (iI 0)])), (y2_4, .inl (X.2.1, 800, .inl (aI (fun _ => 0)))), (y3_4, .inr (6, [.ref y4_4, .ref y6_4, .ref y8_4, .ref y11_4, .ref y12_4, .ref y13_4, .int (iI 0), .int (iI 0)])), (y4_4, .inr (4, [.ref y5_4, .int (iI 1), .int (iI 16), .int (iI 0)])), (y5_4, .inl (X.2.1, 800, .inl (aI (fun _ => 0)))), (y6_4, .inr (3, [.ref y7_4])), (y7_4, .inl (X.2.1, 800, .inl (aI (fun _ => 0)))), (y8_4, .inr (1, [.ref y9_4, .int (iI 0), .int (iI 0)])), (y9_4, .inr (2, [.ref y10_4, .int (iI 0)])), (y10_4, .inl (X.2.2, 3000, .inl (aI (fun _ => 0)))), (y11_4, .inl (X.2.1, 800, .inl (aI (fun _ => 0)))), (y12_4, .inl (X.2.1, 800, .inl (aI (fun _ => 0)))), (y13_4, .inl (X.2.1, 64, .inl (aI (fun _ => 0)))), (y14_4, .inr (5, [.ref y15_4, .ref y17_4, .ref y20_4, .ref y22_4, .int (iI (-1))])), (y15_4, .inr (3, [.ref y16_4])), (y16_4, .inl (X.2.1, 800, .inl (aI (fun _ => 0)))), (y17_4, .inr (0, [.ref y18_4, .int (iI 0), .int (iI 0)])), (y18_4, .inr (2, [.ref y19_4, .int (iI 0)])), (y19_4, .inl (X.2.2, 3000, .inl (aI (fun _ => 0)))), (y20_4, .inr (4, [.ref y21_4, .int (iI 0), .int (iI 0), .int (iI 0)])), (y21_4, .inl (X.2.1, 800, .inl (aI (fun _ => 0)))), (y22_4, .inr (4, [.ref y23_4, .int (iI 0), .int (iI 0), .int (iI 0)])), (y23_4, .inl (X.2.1, 800, .inl (aI (fun _ => 0)))), (q8, .inr (8, [.int (iI 1), .int (iI 16), .int (iI 0), .ref a1_12, .int (iI 0), .ref a2_12, .int (iI 0), .ref a3_12, .int (iI 0), .int (iI 0), .int (iI 0), .ref a4_12, .int (iI 0), .ref a5_12, .int (iI 0), .int (iI 0), .ref a6_12, .int (iI 0), .int (iI 0), .int (iI 0), .int (iI 0), .ref a7_12, .ref a8_12])), (a1_12, .inl (X.2.1, 800, .inl (aI (fun _ => 0)))), (a2_12, .inl (X.2.2, 64000, .inl (aI (fun _ => 0)))), (a3_12, .inl (X.2.1, 3200, .inl (aI (fun _ => 0)))), (a4_12, .inl (X.2.1, 800, .inl (aI (fun _ => 0)))), (a5_12, .inl (X.2.1, 3000, .inl (aI (fun _ => 0)))), (a6_12, .inl (X.2.1, 800, .inl (aI (fun _ => 0)))), (a7_12, .inl (X.2.1, 800, .inl (aI (fun _ => 0)))), (a8_12, .inl (X.2.1, 8, .inl (aI (fun _ => 0))))]) [0, 1, 2, 3, 4, 5, 6, 7, 8, 9, 10, 11, 12, 13, 14, 15, 16, 17, 18, 19, 20, 21, 22, 23, 24, 25, 26, 27, 28, 29, 30, 31, 32] rfl rfl rfl ?_
  refine J_eq (pc' := 15) (st' := [.ref q8]) rfl rfl ?_
  refine J_widen (k := 33) (n := 85941) (Nat.le_of_ble_eq_true rfl) (Nat.le_of_ble_eq_true rfl) ?_
  refine J_astore_n (lv' := [(2, .ref q8), (1, .ref q0), (0, .ref sb)]) cx dL_law_15 rfl (by decide) rfl ?_
  refine J_iconst cx dL_law_16 ?_
  refine J_istore_n (lv' := [(3, .int (iI 0)), (2, .ref q8), (1, .ref q0), (0, .ref sb)]) cx dL_law_17 rfl (by decide) rfl ?_
  exact law_loop l X cx hX hbl hbA hL hsc hA hret 5000 q0 y1_4 y2_4 y3_4 y4_4 y5_4 y6_4 y7_4 y8_4 y9_4 y10_4 y11_4 y12_4 y13_4 y14_4 y15_4 y16_4 y17_4 y18_4 y19_4 y20_4 y21_4 y22_4 y23_4 q8 a1_12 a2_12 a3_12 a4_12 a5_12 a6_12 a7_12 a8_12 1 16 0 0 0 1 16 0 0 0 (-1) 0 0 0 0 0 0 0 0 0 0 0 0 0 0 0 0 (fun _ => 0) (fun _ => 0) (fun _ => 0) (fun _ => 0) (fun _ => 0) (fun _ => 0) (fun _ => 0) (fun _ => 0) (fun _ => 0) (fun _ => 0) (fun _ => 0) (fun _ => 0) (fun _ => 0) (fun _ => 0) (fun _ => 0) ((fun _ => 0), 0) 0 ⟨(by decide), (by decide), (by decide), (zero_rng), (zero_rng), (by decide), (by decide), (by decide), (by decide), (fun h => absurd h (by decide)), (by decide), (fun i a1 a2 => absurd a2 (by omega)), (fun i a1 a2 => absurd a2 (by omega)), (zero_rng), (by decide), (fun _ => Or.inl rfl), (fun j a1 a2 => absurd (show j < 0 / 8 from a2) (by omega)), (by decide), (fun j a1 a2 => absurd a2 (by omega)), (by decide), (by decide), (zero_rng), (zero_rng), (fun _ _ _ => rfl), (zero_rng), (zero_rng), (zero_rng), (zero_rng)⟩ (by decide) (by decide) (by omega)
theorem GW_tbl {w : Cond} (h : w ∈ GW) : w ∈ lw_tbl := (List.mem_filter.mp h).1
theorem arr_known {s : State} {args : Array Value} {ty : FieldType} (hty : ∀ C, ty ≠ .object C) (h : (Cond.arrayClass ty).before args s = true) : ∃ cA : ClassId, ArrOfT s cA ty ∧ va_RA s cA ty := by
  obtain ⟨cA, kA, comp, h1, h2, h3⟩ := Cond.arrayClass_spec h
  refine ⟨cA, fun n z => ⟨fun k h => (by cases h), kA, h2, comp, h3⟩, ?_⟩
  cases ty with
  | object C => exact absurd rfl (hty C)
  | _ => exact h1
set_option maxHeartbeats 4000000 in
set_option maxRecDepth 100000 in
theorem whole_start {p : Program} {e : Env} {s : State} {m : MethodId} {below : List Frame} {meth : Method} {c : Code} (l : Launch) {b L : Nat} {xs : Nat → Int32} (hL : L ≤ 2048) (C0 : lw_At p s m meth c b L xs) : W p l e room_1 s m #[Value.ref b] below meth c s.heap [] 0 0 (lw_Z below #[Value.ref b] s) (entryFrame m ([Value.ref b] : List Value).toArray 4) := by
  obtain ⟨hx, hb, hr, hml, hown, hts, hX, hbl, hlocks, -⟩ := C0
  obtain ⟨c0, i0, k0⟩ := u_known (C := RX0) (T := TX0) (N := 3) (n := 3) hts (fun w h => GW_tbl (inC0 w h)) (hts _ (GW_tbl T137))
  obtain ⟨c1, i1, k1⟩ := u_known (C := RX1) (T := TX1) (N := 3) (n := 3) hts (fun w h => GW_tbl (inC1 w h)) (hts _ (GW_tbl T65))
  obtain ⟨c2, i2, k2⟩ := u_known (C := RX2) (T := TX2) (N := 2) (n := 2) hts (fun w h => GW_tbl (inC2 w h)) (hts _ (GW_tbl T71))
  obtain ⟨c3, i3, k3⟩ := u_known (C := RX3) (T := TX3) (N := 1) (n := 1) hts (fun w h => GW_tbl (inC3 w h)) (hts _ (GW_tbl T55))
  obtain ⟨c4, i4, k4⟩ := u_known (C := RX4) (T := TX4) (N := 4) (n := 4) hts (fun w h => GW_tbl (inC4 w h)) (hts _ (GW_tbl T21))
  obtain ⟨c5, i5, k5⟩ := u_known (C := RX5) (T := TX5) (N := 5) (n := 5) hts (fun w h => GW_tbl (inC5 w h)) (hts _ (GW_tbl T129))
  obtain ⟨c6, i6, k6⟩ := u_known (C := RX6) (T := TX6) (N := 8) (n := 8) hts (fun w h => GW_tbl (inC6 w h)) (hts _ (GW_tbl T47))
  obtain ⟨c7, i7, k7⟩ := u_known (C := RX7) (T := TX7) (N := 5) (n := 5) hts (fun w h => GW_tbl (inC7 w h)) (hts _ (GW_tbl T13))
  obtain ⟨c8, i8, k8⟩ := u_known (C := RX8) (T := TX8) (N := 23) (n := 23) hts (fun w h => GW_tbl (inC8 w h)) (hts _ (GW_tbl T476))
  obtain ⟨cI, hI1, hI2⟩ := arr_known (fun C h => by cases h) (hts _ (GW_tbl T45))
  obtain ⟨cB, hB1, hB2⟩ := arr_known (fun C h => by cases h) (hts _ (GW_tbl T86))
  obtain ⟨dC, dI, hKc⟩ : ∃ (dC : Nat → ClassId) (dI : Nat → Nat → Nat), ∀ (k : Nat) (q : vw_C), vwCl[k]? = some q → u_Kn s q.1 q.2.1 q.2.2 (dC k) (dI k) := by
    refine ⟨fun k => if k = 0 then c0 else if k = 1 then c1 else if k = 2 then c2 else if k = 3 then c3 else if k = 4 then c4 else if k = 5 then c5 else if k = 6 then c6 else if k = 7 then c7 else c8, fun k => if k = 0 then i0 else if k = 1 then i1 else if k = 2 then i2 else if k = 3 then i3 else if k = 4 then i4 else if k = 5 then i5 else if k = 6 then i6 else if k = 7 then i7 else i8, ?_⟩
    intro k q hq
    match k, hq with
    | 0, hq => cases hq; exact k0
    | 1, hq => cases hq; exact k1
    | 2, hq => cases hq; exact k2
    | 3, hq => cases hq; exact k3
    | 4, hq => cases hq; exact k4
    | 5, hq => cases hq; exact k5
    | 6, hq => cases hq; exact k6
    | 7, hq => cases hq; exact k7
    | 8, hq => cases hq; exact k8
    | k + 9, hq => simp [vwCl] at hq
  have hK : KX ((dC, dI), cI, cB) s := by
    refine ⟨⟨hKc, fun k q h => ?_⟩, fun w hw => va_Nw.of (nest_tab (List.mem_filter.mp hw).2) (hts w (List.mem_filter.mp hw).1)⟩
    match k, h with
    | 0, h => cases h; exact ⟨hI1, hI2⟩
    | 1, h => cases h; exact ⟨hB1, hB2⟩
    | k + 2, h => simp [tyX] at h
  have hbA : ¬ (fun q : Nat => s.heap.size ≤ q) b := Nat.not_le.mpr hbl
  have hxs : aI (fun j => (xs j.toNat).toInt) = xs := by
    funext j
    show iI (xs ((j : Int).toNat)).toInt = xs j
    rw [Int.toNat_natCast]
    exact Int32.ofInt_toInt _
  have cx : Cx p s m #[Value.ref b] meth c ((dC, dI), cI, cB) (fun q : Nat => s.heap.size ≤ q) 4 cL_law RL := ⟨hx, hb, hml, hown, fun w hw => hts w (GW_tbl hw), hK, fun _ h => h, hlocks⟩
  have hl := lv_entry ([.ref b]) (n := 4) (Nat.le_of_ble_eq_true rfl)
  rw [lg_entry_eq]
  exact law_start l ((dC, dI), cI, cB) (sc := fun j => (xs j.toNat).toInt) cx (by rw [hxs]; exact hX) hbl hbA hL (fun j => ⟨Int32.le_toInt _, Int32.toInt_lt _⟩) (fun _ h => h) hr _ _ _ (fun k q h => by simp at h) ⟨fun i j p q h => by simp at h, fun k q h => by simp at h⟩ va_S.rf hl
