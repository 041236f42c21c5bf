set_option maxHeartbeats 4000000 in
set_option maxRecDepth 100000 in
theorem mX5_isRight (l : Launch) (X : GX) (h : Nat) (hm2 : Nat) (gb : Nat) (s1 : Nat) (s2 : Nat) (er : Int) (her : -1 ≤ er ∧ er ≤ 24010) : Ct l yX5_isRight cX5_isRight 1 (some .boolean) 0 0 0 0 X [.ref h] [(h, .inr (5, [.ref hm2, .ref gb, .ref s1, .ref s2, .int (iI er)]))] (fun1 (some (.int (iI (if er = -1 then 1 else 0)))) [(h, .inr (5, [.ref hm2, .ref gb, .ref s1, .ref s2, .int (iI er)]))]) := by
  refine Ct_of (own := RX5) (lv := [(0, .ref h)]) (by decide +kernel) rfl (Nat.le_of_ble_eq_true rfl) rfl ?_
  intro p e s m args below meth c A cx hr hin
  refine J_aload_n cx dX5_isRight_0 rfl 0 rfl ?_
  refine J_get cx inC5 0 rfl rfl 4 (by decide) T165 rfl rfl dX5_isRight_1 ?_
  refine J_iconst cx dX5_isRight_4 ?_
  refine J_icmp_ne (tgt := 12) cx dX5_isRight_5 (by decide) (by omega) (by decide) (fun h_5 => ?_) (fun h_5 => ?_)
  · skip
    refine J_iconst cx dX5_isRight_12 ?_
    refine J_top (b := (if er = -1 then 1 else 0)) (by split <;> first | rfl | omega) ?_
    exact J_zret cx hr (by split <;> omega) dX5_isRight_13 ⟨rfl, rfl⟩
  · skip
    refine J_iconst cx dX5_isRight_8 ?_
    refine J_goto (tgt := 13) cx dX5_isRight_9 (by decide) ?_
    refine J_top (b := (if er = -1 then 1 else 0)) (by split <;> first | rfl | omega) ?_
    exact J_zret cx hr (by split <;> omega) dX5_isRight_13 ⟨rfl, rfl⟩
set_option maxHeartbeats 4000000 in
set_option maxRecDepth 100000 in
theorem mX5_judge (l : Launch) (X : GX) (h : Nat) (hm2 : Nat) (gb : Nat) (s1 : Nat) (s2 : Nat) (er : Int) (gr : Nat) (q : Int) (E : Int) (q0 : Int) (v : Int) (lo : Int) (hi : Int) (hv : -2147483648 ≤ v ∧ v < 2147483648) (hlo : -2147483648 ≤ lo ∧ lo < 2147483648) (hhi : -2147483648 ≤ hi ∧ hi < 2147483648) : Ct l yX5_judge cX5_judge 5 none 0 0 0 0 X [.ref h, .int (iI q0), .int (iI v), .int (iI lo), .int (iI hi)] [(h, .inr (5, [.ref hm2, .ref gb, .ref s1, .ref s2, .int (iI er)])), (gb, .inr (0, [.ref gr, .int (iI q), .int (iI E)]))] (fun1 none [(h, .inr (5, [.ref hm2, .ref gb, .ref s1, .ref s2, .int (iI (if v = -1 then E else if v < lo ∨ hi < v then q0 else er))])), (gb, .inr (0, [.ref gr, .int (iI q), .int (iI E)]))]) := by
  refine Ct_of (own := RX5) (lv := [(0, .ref h), (1, .int (iI q0)), (2, .int (iI v)), (3, .int (iI lo)), (4, .int (iI hi))]) (by decide +kernel) rfl (Nat.le_of_ble_eq_true rfl) rfl ?_
  intro p e s m args below meth c A cx hr hin
  refine J_iload_n cx dX5_judge_0 rfl 2 rfl ?_
  refine J_iconst cx dX5_judge_1 ?_
  refine J_icmp_ne (tgt := 19) cx dX5_judge_2 (by decide) (by omega) (by decide) (fun h_2 => ?_) (fun h_2 => ?_)
  · skip
    refine J_iload_n cx dX5_judge_19 rfl 2 rfl ?_
    refine J_iload_n cx dX5_judge_20 rfl 3 rfl ?_
    refine J_icmp_lt (tgt := 30) cx dX5_judge_21 (by decide) (by omega) (by omega) (fun h_21 => ?_) (fun h_21 => ?_)
    · skip
      refine J_aload_n cx dX5_judge_30 rfl 0 rfl ?_
      refine J_iload_n cx dX5_judge_31 rfl 1 rfl ?_
      refine J_put (ty := .int) (ws' := [(h, .inr (5, [.ref hm2, .ref gb, .ref s1, .ref s2, .int (iI q0)])), (gb, .inr (0, [.ref gr, .int (iI q), .int (iI E)]))]) cx inC5 tyX5_ok nmX5 0 rfl rfl 4 (by decide) T165 rfl rfl (by decide +kernel) (rfl) (rfl) (Nat.le_of_ble_eq_true rfl) rfl dX5_judge_32 ?_
      refine J_ws (ws' := [(h, .inr (5, [.ref hm2, .ref gb, .ref s1, .ref s2, .int (iI (if v = -1 then E else if v < lo ∨ hi < v then q0 else er))])), (gb, .inr (0, [.ref gr, .int (iI q), .int (iI E)]))]) (by rw [← show (q0) = if v = -1 then E else if v < lo ∨ hi < v then q0 else er from by split <;> first | rfl | omega | (split <;> first | rfl | omega)]) ?_
      exact J_vret cx hr dX5_judge_35 ⟨rfl, rfl⟩
    · skip
      refine J_iload_n cx dX5_judge_24 rfl 2 rfl ?_
      refine J_iload cx dX5_judge_25 4 rfl ?_
      refine J_icmp_le (tgt := 35) cx dX5_judge_27 (by decide) (by omega) (by omega) (fun h_27 => ?_) (fun h_27 => ?_)
      · skip
        refine J_ws (ws' := [(h, .inr (5, [.ref hm2, .ref gb, .ref s1, .ref s2, .int (iI (if v = -1 then E else if v < lo ∨ hi < v then q0 else er))])), (gb, .inr (0, [.ref gr, .int (iI q), .int (iI E)]))]) (by rw [← show (er) = if v = -1 then E else if v < lo ∨ hi < v then q0 else er from by split <;> first | rfl | omega | (split <;> first | rfl | omega)]) ?_
        exact J_vret cx hr dX5_judge_35 ⟨rfl, rfl⟩
      · skip
        refine J_aload_n cx dX5_judge_30 rfl 0 rfl ?_
        refine J_iload_n cx dX5_judge_31 rfl 1 rfl ?_
        refine J_put (ty := .int) (ws' := [(h, .inr (5, [.ref hm2, .ref gb, .ref s1, .ref s2, .int (iI q0)])), (gb, .inr (0, [.ref gr, .int (iI q), .int (iI E)]))]) cx inC5 tyX5_ok nmX5 0 rfl rfl 4 (by decide) T165 rfl rfl (by decide +kernel) (rfl) (rfl) (Nat.le_of_ble_eq_true rfl) rfl dX5_judge_32 ?_
        refine J_ws (ws' := [(h, .inr (5, [.ref hm2, .ref gb, .ref s1, .ref s2, .int (iI (if v = -1 then E else if v < lo ∨ hi < v then q0 else er))])), (gb, .inr (0, [.ref gr, .int (iI q), .int (iI E)]))]) (by rw [← show (q0) = if v = -1 then E else if v < lo ∨ hi < v then q0 else er from by split <;> first | rfl | omega | (split <;> first | rfl | omega)]) ?_
        exact J_vret cx hr dX5_judge_35 ⟨rfl, rfl⟩
  · skip
    refine J_aload_n cx dX5_judge_5 rfl 0 rfl ?_
    refine J_aload_n cx dX5_judge_6 rfl 0 rfl ?_
    refine J_get cx inC5 0 rfl rfl 1 (by decide) T160 rfl rfl dX5_judge_7 ?_
    refine J_getN cx inC0 1 rfl rfl 2 (by decide) T149 rfl rfl dX5_judge_10 ?_
    refine J_put (ty := .int) (ws' := [(h, .inr (5, [.ref hm2, .ref gb, .ref s1, .ref s2, .int (iI E)])), (gb, .inr (0, [.ref gr, .int (iI q), .int (iI E)]))]) cx inC5 tyX5_ok nmX5 0 rfl rfl 4 (by decide) T165 rfl rfl (by decide +kernel) (rfl) (rfl) (Nat.le_of_ble_eq_true rfl) rfl dX5_judge_13 ?_
    refine J_goto (tgt := 35) cx dX5_judge_16 (by decide) ?_
    refine J_ws (ws' := [(h, .inr (5, [.ref hm2, .ref gb, .ref s1, .ref s2, .int (iI (if v = -1 then E else if v < lo ∨ hi < v then q0 else er))])), (gb, .inr (0, [.ref gr, .int (iI q), .int (iI E)]))]) (by rw [← show (E) = if v = -1 then E else if v < lo ∨ hi < v then q0 else er from by split <;> first | rfl | omega | (split <;> first | rfl | omega)]) ?_
    exact J_vret cx hr dX5_judge_35 ⟨rfl, rfl⟩
set_option maxHeartbeats 4000000 in
set_option maxRecDepth 100000 in
theorem mX5_nextWithin (l : Launch) (X : GX) (h : Nat) (hm2 : Nat) (gb : Nat) (s1 : Nat) (s2 : Nat) (er : Int) (gr : Nat) (ga : Nat) (r : Int → Int) (q : Int) (E : Int) (F : Int) (k : Int) (lo : Int) (hi : Int) (hE : 0 ≤ E ∧ E ≤ 24000) (hrr : ∀ j, -128 ≤ r j ∧ r j < 128) (hk : 0 ≤ k ∧ k ≤ 15) (hlo : 0 ≤ lo ∧ lo ≤ hi ∧ hi < 2147483648) (hok : okP E q er) : Ct l yX5_nextWithin cX5_nextWithin 6 (some .int) 3 67 0 0 X [.ref h, .int (iI k), .int (iI lo), .int (iI hi)] [(h, .inr (5, [.ref hm2, .ref gb, .ref s1, .ref s2, .int (iI er)])), (gb, .inr (0, [.ref gr, .int (iI q), .int (iI E)])), (gr, .inr (2, [.ref ga, .int (iI F)])), (ga, .inl (X.2.2, 3000, .inl (aI r)))] (fun1 (some (.int (iI (nwV r E q er k lo hi)))) [(h, .inr (5, [.ref hm2, .ref gb, .ref s1, .ref s2, .int (iI (nwE r E q er k lo hi))])), (gb, .inr (0, [.ref gr, .int (iI (nwQ r E q er k)), .int (iI E)])), (gr, .inr (2, [.ref ga, .int (iI F)])), (ga, .inl (X.2.2, 3000, .inl (aI r)))]) := by
  refine Ct_of (own := RX5) (lv := [(0, .ref h), (1, .int (iI k)), (2, .int (iI lo)), (3, .int (iI hi))]) (by decide +kernel) rfl (Nat.le_of_ble_eq_true rfl) rfl ?_
  intro p e s m args below meth c A cx hr hin
  have hok1 := hok.1
  have hok2 := hok.2.1
  have hok3 := hok.2.2
  have hnv : er = -1 → -1 ≤ nnv r E q k ∧ nnv r E q k ≤ 786464767 := fun h5 => nnv_rng r hE ⟨hok1.1, hok3 h5⟩ hk
  refine J_aload_n cx dX5_nextWithin_0 rfl 0 rfl ?_
  refine J_callV (C := RX5) (T := TX5) (N := 5) cx (As := []) (rest := []) (mX5_isRight l X h hm2 gb s1 s2 er (by omega)) T406 T403 T405 S7 T7 ⟨rfl, hd_X5_isRight⟩ rfl ⟨Nat.le_of_ble_eq_true rfl, Nat.le_of_ble_eq_true rfl⟩ (Nat.le_of_ble_eq_true rfl) ⟨Nat.le_of_ble_eq_true rfl, Nat.le_of_ble_eq_true rfl⟩ [0] [1, 2, 3] rfl rfl rfl rfl rfl (by decide) 0 rfl rfl dX5_nextWithin_1 rfl (J_f (ws' := [(h, .inr (5, [.ref hm2, .ref gb, .ref s1, .ref s2, .int (iI er)])), (gb, .inr (0, [.ref gr, .int (iI q), .int (iI E)])), (gr, .inr (2, [.ref ga, .int (iI F)])), (ga, .inl (X.2.2, 3000, .inl (aI r)))]) (st' := [.int (iI (if er = -1 then 1 else 0))]) [3, 0, 1, 2] rfl rfl rfl rfl ?_)
  refine J_if_ne (tgt := 9) cx dX5_nextWithin_4 (by decide) (by split <;> omega) (fun h_4 => ?_) (fun h_4 => ?_)
  · skip
    have her1 : er = -1 := by (split at h_4); (assumption); (omega)
    subst her1
    have hnv := hnv rfl
    refine J_aload_n cx dX5_nextWithin_9 rfl 0 rfl ?_
    refine J_get cx inC5 0 rfl rfl 1 (by decide) T160 rfl rfl dX5_nextWithin_10 ?_
    refine J_getN cx inC0 1 rfl rfl 1 (by decide) T147 rfl rfl dX5_nextWithin_13 ?_
    refine J_istore (lv' := [(4, .int (iI q)), (0, .ref h), (1, .int (iI k)), (2, .int (iI lo)), (3, .int (iI hi))]) cx dX5_nextWithin_16 (by decide) rfl ?_
    refine J_aload_n cx dX5_nextWithin_18 rfl 1 rfl ?_
    refine J_get cx inC5 0 rfl rfl 1 (by decide) T160 rfl rfl dX5_nextWithin_19 ?_
    refine J_iload_n cx dX5_nextWithin_22 rfl 2 rfl ?_
    refine J_callV (C := RX0) (T := TX0) (N := 3) cx (As := [.int (iI k)]) (rest := []) (mX0_nextNumber l X gb gr ga r q E F k (by omega) (by omega) (hrr) (by omega)) T426 T423 T424 T425 T8 ⟨rfl, hd_X0_nextNumber⟩ rfl ⟨Nat.le_of_ble_eq_true rfl, Nat.le_of_ble_eq_true rfl⟩ (Nat.le_of_ble_eq_true rfl) ⟨Nat.le_of_ble_eq_true rfl, Nat.le_of_ble_eq_true rfl⟩ [1, 2, 3] [0] rfl rfl rfl rfl rfl (by decide) 1 rfl rfl dX5_nextWithin_23 rfl (J_f (ws' := [(h, .inr (5, [.ref hm2, .ref gb, .ref s1, .ref s2, .int (iI (-1))])), (gb, .inr (0, [.ref gr, .int (iI (nnp r E q k)), .int (iI E)])), (gr, .inr (2, [.ref ga, .int (iI F)])), (ga, .inl (X.2.2, 3000, .inl (aI r)))]) (st' := [.int (iI (nnv r E q k))]) [0, 1, 2, 3] rfl rfl rfl rfl ?_)
    refine J_istore (lv' := [(5, .int (iI (nnv r E q k))), (4, .int (iI q)), (0, .ref h), (1, .int (iI k)), (2, .int (iI lo)), (3, .int (iI hi))]) cx dX5_nextWithin_26 (by decide) rfl ?_
    refine J_aload_n cx dX5_nextWithin_28 rfl 2 rfl ?_
    refine J_iload cx dX5_nextWithin_29 1 rfl ?_
    refine J_iload cx dX5_nextWithin_31 0 rfl ?_
    refine J_iload_n cx dX5_nextWithin_33 rfl 4 rfl ?_
    refine J_iload_n cx dX5_nextWithin_34 rfl 5 rfl ?_
    refine J_callV (C := RX5) (T := TX5) (N := 5) cx (As := [.int (iI q), .int (iI (nnv r E q k)), .int (iI lo), .int (iI hi)]) (rest := []) (mX5_judge l X h hm2 gb s1 s2 (-1) gr (nnp r E q k) E q (nnv r E q k) lo hi (by omega) (by omega) (by omega)) T418 T415 T417 S8 T7 ⟨rfl, hd_X5_judge⟩ rfl ⟨Nat.le_of_ble_eq_true rfl, Nat.le_of_ble_eq_true rfl⟩ (Nat.le_of_ble_eq_true rfl) ⟨Nat.le_of_ble_eq_true rfl, Nat.le_of_ble_eq_true rfl⟩ [0, 1] [2, 3] rfl rfl rfl rfl rfl (by decide) 0 rfl rfl dX5_nextWithin_35 rfl (J_f (ws' := [(h, .inr (5, [.ref hm2, .ref gb, .ref s1, .ref s2, .int (iI (if (nnv r E q k) = -1 then E else if (nnv r E q k) < lo ∨ hi < (nnv r E q k) then q else (-1)))])), (gb, .inr (0, [.ref gr, .int (iI (nnp r E q k)), .int (iI E)])), (gr, .inr (2, [.ref ga, .int (iI F)])), (ga, .inl (X.2.2, 3000, .inl (aI r)))]) (st' := []) [2, 3, 0, 1] rfl rfl rfl rfl ?_)
    refine J_ws (ws' := [(h, .inr (5, [.ref hm2, .ref gb, .ref s1, .ref s2, .int (iI (nwE r E q (-1) k lo hi))])), (gb, .inr (0, [.ref gr, .int (iI (nwQ r E q (-1) k)), .int (iI E)])), (gr, .inr (2, [.ref ga, .int (iI F)])), (ga, .inl (X.2.2, 3000, .inl (aI r)))]) rfl ?_
    refine J_aload_n cx dX5_nextWithin_38 rfl 2 rfl ?_
    refine J_callV (C := RX5) (T := TX5) (N := 5) cx (As := []) (rest := []) (mX5_isRight l X h hm2 gb s1 s2 (nwE r E q (-1) k lo hi) (by exact judge_rng (E := E) (q := q) hE hok1)) T406 T403 T405 S7 T7 ⟨rfl, hd_X5_isRight⟩ rfl ⟨Nat.le_of_ble_eq_true rfl, Nat.le_of_ble_eq_true rfl⟩ (Nat.le_of_ble_eq_true rfl) ⟨Nat.le_of_ble_eq_true rfl, Nat.le_of_ble_eq_true rfl⟩ [0] [1, 2, 3] rfl rfl rfl rfl rfl (by decide) 0 rfl rfl dX5_nextWithin_39 rfl (J_f (ws' := [(h, .inr (5, [.ref hm2, .ref gb, .ref s1, .ref s2, .int (iI (nwE r E q (-1) k lo hi))])), (gb, .inr (0, [.ref gr, .int (iI (nwQ r E q (-1) k)), .int (iI E)])), (gr, .inr (2, [.ref ga, .int (iI F)])), (ga, .inl (X.2.2, 3000, .inl (aI r)))]) (st' := [.int (iI (if (nwE r E q (-1) k lo hi) = -1 then 1 else 0))]) [3, 0, 1, 2] rfl rfl rfl rfl ?_)
    refine J_if_eq (tgt := 50) cx dX5_nextWithin_42 (by decide) (by split <;> omega) (fun h_42 => ?_) (fun h_42 => ?_)
    · skip
      have e5 : ¬ judgeE E q (nnv r E q k) lo hi = -1 := by (intro h5; have h6 : nwE r E q (-1) k lo hi = -1 := h5; rw [if_pos h6] at h_42; omega)
      refine J_iload_n cx dX5_nextWithin_50 rfl 4 rfl ?_
      refine J_top (b := (nwV r E q (-1) k lo hi)) (by unfold nwV; rw [if_pos rfl]; first | (rw [if_neg e5]; done) | (rw [if_pos e5]; done)) ?_
      exact J_iret cx hr dX5_nextWithin_51 ⟨rfl, rfl⟩
    · skip
      have e6 : nwE r E q (-1) k lo hi = -1 := by (split at h_42); (assumption); (omega)
      have e5 : judgeE E q (nnv r E q k) lo hi = -1 := e6
      refine J_iload cx dX5_nextWithin_45 0 rfl ?_
      refine J_goto (tgt := 51) cx dX5_nextWithin_47 (by decide) ?_
      refine J_top (b := (nwV r E q (-1) k lo hi)) (by unfold nwV; rw [if_pos rfl]; first | (rw [if_neg e5]; done) | (rw [if_pos e5]; done)) ?_
      exact J_iret cx hr dX5_nextWithin_51 ⟨rfl, rfl⟩
  · skip
    have her1 : ¬ er = -1 := by (intro h5; rw [if_pos h5] at h_4; omega)
    refine J_iload_n cx dX5_nextWithin_7 rfl 2 rfl ?_
    refine J_ws (ws' := [(h, .inr (5, [.ref hm2, .ref gb, .ref s1, .ref s2, .int (iI (nwE r E q er k lo hi))])), (gb, .inr (0, [.ref gr, .int (iI (nwQ r E q er k)), .int (iI E)])), (gr, .inr (2, [.ref ga, .int (iI F)])), (ga, .inl (X.2.2, 3000, .inl (aI r)))]) (by rw [← show (er) = nwE r E q er k lo hi from by unfold nwE; rw [if_neg her1], ← show (q) = nwQ r E q er k from by unfold nwQ; rw [if_neg her1]]) ?_
    refine J_top (b := (nwV r E q er k lo hi)) (by unfold nwV; rw [if_neg her1]) ?_
    exact J_iret cx hr dX5_nextWithin_8 ⟨rfl, rfl⟩
set_option maxHeartbeats 4000000 in
set_option maxRecDepth 100000 in
theorem mX5_nextByte (l : Launch) (X : GX) (h : Nat) (hm2 : Nat) (gb : Nat) (s1 : Nat) (s2 : Nat) (er : Int) (gr : Nat) (ga : Nat) (r : Int → Int) (q : Int) (E : Int) (F : Int) (du : Int) (hE : 0 ≤ E ∧ E ≤ 24000) (hrr : ∀ j, -128 ≤ r j ∧ r j < 128) (hdu : 0 ≤ du ∧ du ≤ 255) (hok : okP E q er) : Ct l yX5_nextByte cX5_nextByte 3 none 2 43 0 0 X [.ref h, .int (iI du)] [(h, .inr (5, [.ref hm2, .ref gb, .ref s1, .ref s2, .int (iI er)])), (gb, .inr (0, [.ref gr, .int (iI q), .int (iI E)])), (gr, .inr (2, [.ref ga, .int (iI F)])), (ga, .inl (X.2.2, 3000, .inl (aI r)))] (fun1 none [(h, .inr (5, [.ref hm2, .ref gb, .ref s1, .ref s2, .int (iI (nbE r E q er du))])), (gb, .inr (0, [.ref gr, .int (iI (nbQ r E q er)), .int (iI E)])), (gr, .inr (2, [.ref ga, .int (iI F)])), (ga, .inl (X.2.2, 3000, .inl (aI r)))]) := by
  refine Ct_of (own := RX5) (lv := [(0, .ref h), (1, .int (iI du))]) (by decide +kernel) rfl (Nat.le_of_ble_eq_true rfl) rfl ?_
  intro p e s m args below meth c A cx hr hin
  have hok1 := hok.1
  have hok2 := hok.2.1
  have hok3 := hok.2.2
  refine J_aload_n cx dX5_nextByte_0 rfl 0 rfl ?_
  refine J_get cx inC5 0 rfl rfl 1 (by decide) T160 rfl rfl dX5_nextByte_1 ?_
  refine J_getN cx inC0 1 rfl rfl 1 (by decide) T147 rfl rfl dX5_nextByte_4 ?_
  refine J_istore_n (lv' := [(2, .int (iI q)), (0, .ref h), (1, .int (iI du))]) cx dX5_nextByte_7 rfl (by decide) rfl ?_
  refine J_aload_n cx dX5_nextByte_8 rfl 1 rfl ?_
  refine J_callV (C := RX5) (T := TX5) (N := 5) cx (As := []) (rest := []) (mX5_isRight l X h hm2 gb s1 s2 er (by omega)) T406 T403 T405 S7 T7 ⟨rfl, hd_X5_isRight⟩ rfl ⟨Nat.le_of_ble_eq_true rfl, Nat.le_of_ble_eq_true rfl⟩ (Nat.le_of_ble_eq_true rfl) ⟨Nat.le_of_ble_eq_true rfl, Nat.le_of_ble_eq_true rfl⟩ [0] [1, 2, 3] rfl rfl rfl rfl rfl (by decide) 0 rfl rfl dX5_nextByte_9 rfl (J_f (ws' := [(h, .inr (5, [.ref hm2, .ref gb, .ref s1, .ref s2, .int (iI er)])), (gb, .inr (0, [.ref gr, .int (iI q), .int (iI E)])), (gr, .inr (2, [.ref ga, .int (iI F)])), (ga, .inl (X.2.2, 3000, .inl (aI r)))]) (st' := [.int (iI (if er = -1 then 1 else 0))]) [3, 0, 1, 2] rfl rfl rfl rfl ?_)
  refine J_if_eq (tgt := 31) cx dX5_nextByte_12 (by decide) (by split <;> omega) (fun h_12 => ?_) (fun h_12 => ?_)
  · skip
    have her1 : ¬ er = -1 := by (intro h5; rw [if_pos h5] at h_12; omega)
    refine J_ws (ws' := [(h, .inr (5, [.ref hm2, .ref gb, .ref s1, .ref s2, .int (iI (nbE r E q er du))])), (gb, .inr (0, [.ref gr, .int (iI (nbQ r E q er)), .int (iI E)])), (gr, .inr (2, [.ref ga, .int (iI F)])), (ga, .inl (X.2.2, 3000, .inl (aI r)))]) (by rw [← show (er) = nbE r E q er du from by unfold nbE; first | (rw [if_neg her1]; done) | rfl, ← show (q) = nbQ r E q er from by unfold nbQ; first | (rw [if_neg her1]; done) | rfl]) ?_
    exact J_vret cx hr dX5_nextByte_31 ⟨rfl, rfl⟩
  · skip
    have her1 : er = -1 := by (split at h_12); (assumption); (omega)
    subst her1
    have hp8 := pkc_rng r q (k := 8) (by decide)
    refine J_aload_n cx dX5_nextByte_15 rfl 1 rfl ?_
    refine J_iload_n cx dX5_nextByte_16 rfl 0 rfl ?_
    refine J_aload_n cx dX5_nextByte_17 rfl 1 rfl ?_
    refine J_get cx inC5 0 rfl rfl 1 (by decide) T160 rfl rfl dX5_nextByte_18 ?_
    refine J_bipush cx dX5_nextByte_21 (by decide) ?_
    refine J_callV (C := RX0) (T := TX0) (N := 3) cx (As := [.int (iI 8)]) (rest := [.int (iI q), .ref h]) (mX0_nextLowBits l X gb gr ga r q E F 8 (by omega) (by omega) (hrr) (by omega)) T410 T407 T408 T409 T8 ⟨rfl, hd_X0_nextLowBits⟩ rfl ⟨Nat.le_of_ble_eq_true rfl, Nat.le_of_ble_eq_true rfl⟩ (Nat.le_of_ble_eq_true rfl) ⟨Nat.le_of_ble_eq_true rfl, Nat.le_of_ble_eq_true rfl⟩ [1, 2, 3] [0] rfl rfl rfl rfl rfl (by decide) 1 rfl rfl dX5_nextByte_23 rfl (J_f (ws' := [(h, .inr (5, [.ref hm2, .ref gb, .ref s1, .ref s2, .int (iI (-1))])), (gb, .inr (0, [.ref gr, .int (iI (if E - q < 8 then q else q + 8)), .int (iI E)])), (gr, .inr (2, [.ref ga, .int (iI F)])), (ga, .inl (X.2.2, 3000, .inl (aI r)))]) (st' := [.int (iI (if E - q < 8 then -1 else pk (cbit r) q 8)), .int (iI q), .ref h]) [0, 1, 2, 3] rfl rfl rfl rfl ?_)
    refine J_iload_n cx dX5_nextByte_26 rfl 2 rfl ?_
    refine J_iload_n cx dX5_nextByte_27 rfl 2 rfl ?_
    refine J_callV (C := RX5) (T := TX5) (N := 5) cx (As := [.int (iI q), .int (iI (if E - q < 8 then -1 else pk (cbit r) q 8)), .int (iI du), .int (iI du)]) (rest := []) (mX5_judge l X h hm2 gb s1 s2 (-1) gr (if E - q < 8 then q else q + 8) E q (if E - q < 8 then -1 else pk (cbit r) q 8) du du (by split <;> omega) (by omega) (by omega)) T418 T415 T417 S8 T7 ⟨rfl, hd_X5_judge⟩ rfl ⟨Nat.le_of_ble_eq_true rfl, Nat.le_of_ble_eq_true rfl⟩ (Nat.le_of_ble_eq_true rfl) ⟨Nat.le_of_ble_eq_true rfl, Nat.le_of_ble_eq_true rfl⟩ [0, 1] [2, 3] rfl rfl rfl rfl rfl (by decide) 0 rfl rfl dX5_nextByte_28 rfl (J_f (ws' := [(h, .inr (5, [.ref hm2, .ref gb, .ref s1, .ref s2, .int (iI (if (if E - q < 8 then -1 else pk (cbit r) q 8) = -1 then E else if (if E - q < 8 then -1 else pk (cbit r) q 8) < du ∨ du < (if E - q < 8 then -1 else pk (cbit r) q 8) then q else (-1)))])), (gb, .inr (0, [.ref gr, .int (iI (if E - q < 8 then q else q + 8)), .int (iI E)])), (gr, .inr (2, [.ref ga, .int (iI F)])), (ga, .inl (X.2.2, 3000, .inl (aI r)))]) (st' := []) [2, 3, 0, 1] rfl rfl rfl rfl ?_)
    refine J_ws (ws' := [(h, .inr (5, [.ref hm2, .ref gb, .ref s1, .ref s2, .int (iI (nbE r E q (-1) du))])), (gb, .inr (0, [.ref gr, .int (iI (nbQ r E q (-1))), .int (iI E)])), (gr, .inr (2, [.ref ga, .int (iI F)])), (ga, .inl (X.2.2, 3000, .inl (aI r)))]) rfl ?_
    exact J_vret cx hr dX5_nextByte_31 ⟨rfl, rfl⟩
