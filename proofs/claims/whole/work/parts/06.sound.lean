set_option maxHeartbeats 4000000 in
set_option maxRecDepth 100000 in
theorem mX4_restart (l : Launch) (X : GX) (h : Nat) (a : Nat) (f : Int → Int) (ch : Int) (bl : Int) (n : Int) (ch2 : Int) (bl2 : Int) : Ct l yX4_restart cX4_restart 3 none 0 0 0 0 X [.ref h, .int (iI ch2), .int (iI bl2)] [(h, .inr (4, [.ref a, .int (iI ch), .int (iI bl), .int (iI n)])), (a, .inl (X.2.1, 800, .inl (aI f)))] (fun1 none [(h, .inr (4, [.ref a, .int (iI ch2), .int (iI bl2), .int (iI 0)])), (a, .inl (X.2.1, 800, .inl (aI f)))]) := by
  refine Ct_of (own := RX4) (lv := [(0, .ref h), (1, .int (iI ch2)), (2, .int (iI bl2))]) (by decide +kernel) rfl (Nat.le_of_ble_eq_true rfl) rfl ?_
  intro p e s m args below meth c A cx hr hin
  refine J_aload_n cx dX4_restart_0 rfl 0 rfl ?_
  refine J_iload_n cx dX4_restart_1 rfl 1 rfl ?_
  refine J_put (ty := .int) (ws' := [(h, .inr (4, [.ref a, .int (iI ch2), .int (iI bl), .int (iI n)])), (a, .inl (X.2.1, 800, .inl (aI f)))]) cx inC4 tyX4_ok nmX4 0 rfl rfl 1 (by decide) T27 rfl rfl (by decide +kernel) (rfl) (rfl) (Nat.le_of_ble_eq_true rfl) rfl dX4_restart_2 ?_
  refine J_aload_n cx dX4_restart_5 rfl 0 rfl ?_
  refine J_iload_n cx dX4_restart_6 rfl 2 rfl ?_
  refine J_put (ty := .int) (ws' := [(h, .inr (4, [.ref a, .int (iI ch2), .int (iI bl2), .int (iI n)])), (a, .inl (X.2.1, 800, .inl (aI f)))]) cx inC4 tyX4_ok nmX4 0 rfl rfl 2 (by decide) T32 rfl rfl (by decide +kernel) (rfl) (rfl) (Nat.le_of_ble_eq_true rfl) rfl dX4_restart_7 ?_
  refine J_aload_n cx dX4_restart_10 rfl 0 rfl ?_
  refine J_iconst cx dX4_restart_11 ?_
  refine J_put (ty := .int) (ws' := [(h, .inr (4, [.ref a, .int (iI ch2), .int (iI bl2), .int (iI 0)])), (a, .inl (X.2.1, 800, .inl (aI f)))]) cx inC4 tyX4_ok nmX4 0 rfl rfl 3 (by decide) T34 rfl rfl (by decide +kernel) (rfl) (rfl) (Nat.le_of_ble_eq_true rfl) rfl dX4_restart_12 ?_
  exact J_vret cx hr dX4_restart_15 ⟨rfl, rfl⟩
set_option maxHeartbeats 4000000 in
set_option maxRecDepth 100000 in
theorem mX4_each (l : Launch) (X : GX) (h : Nat) (a : Nat) (f : Int → Int) (ch : Int) (bl : Int) (n : Int) (hc : 1 ≤ ch ∧ ch ≤ 2) (hn : 0 ≤ n ∧ n ≤ 800) : Ct l yX4_each cX4_each 1 (some .int) 0 0 0 0 X [.ref h] [(h, .inr (4, [.ref a, .int (iI ch), .int (iI bl), .int (iI n)])), (a, .inl (X.2.1, 800, .inl (aI f)))] (fun1 (some (.int (iI (n / ch)))) [(h, .inr (4, [.ref a, .int (iI ch), .int (iI bl), .int (iI n)])), (a, .inl (X.2.1, 800, .inl (aI f)))]) := by
  refine Ct_of (own := RX4) (lv := [(0, .ref h)]) (by decide +kernel) rfl (Nat.le_of_ble_eq_true rfl) rfl ?_
  intro p e s m args below meth c A cx hr hin
  refine J_aload_n cx dX4_each_0 rfl 0 rfl ?_
  refine J_get cx inC4 0 rfl rfl 1 (by decide) T27 rfl rfl dX4_each_1 ?_
  refine J_iconst cx dX4_each_4 ?_
  refine J_icmp_ge (tgt := 12) cx dX4_each_5 (by decide) (by omega) (by decide) (fun h_5 => ?_) (fun h_5 => ?_)
  · skip
    refine J_aload_n cx dX4_each_12 rfl 0 rfl ?_
    refine J_get cx inC4 0 rfl rfl 3 (by decide) T34 rfl rfl dX4_each_13 ?_
    refine J_aload_n cx dX4_each_16 rfl 0 rfl ?_
    refine J_get cx inC4 0 rfl rfl 1 (by decide) T27 rfl rfl dX4_each_17 ?_
    refine J_idiv cx dX4_each_20 (by omega) (by omega) ?_
    exact J_iret cx hr dX4_each_21 ⟨rfl, rfl⟩
  · exfalso; omega
set_option maxHeartbeats 4000000 in
set_option maxRecDepth 100000 in
theorem mX4_wholeSize (l : Launch) (X : GX) (h : Nat) (a : Nat) (f : Int → Int) (ch : Int) (bl : Int) (n : Int) (hc : 1 ≤ ch ∧ ch ≤ 2) (hn : 0 ≤ n ∧ n ≤ 800) : Ct l yX4_wholeSize cX4_wholeSize 1 (some .int) 1 20 0 0 X [.ref h] [(h, .inr (4, [.ref a, .int (iI ch), .int (iI bl), .int (iI n)])), (a, .inl (X.2.1, 800, .inl (aI f)))] (fun1 (some (.int (iI (n / ch * ch)))) [(h, .inr (4, [.ref a, .int (iI ch), .int (iI bl), .int (iI n)])), (a, .inl (X.2.1, 800, .inl (aI f)))]) := by
  refine Ct_of (own := RX4) (lv := [(0, .ref h)]) (by decide +kernel) rfl (Nat.le_of_ble_eq_true rfl) rfl ?_
  intro p e s m args below meth c A cx hr hin
  refine J_aload_n cx dX4_wholeSize_0 rfl 0 rfl ?_
  refine J_callV (C := RX4) (T := TX4) (N := 4) cx (As := []) (rest := []) (mX4_each l X h a f ch bl n (by omega) (by omega)) T232 T229 T230 T231 T2 ⟨rfl, hd_X4_each⟩ rfl ⟨Nat.le_of_ble_eq_true rfl, Nat.le_of_ble_eq_true rfl⟩ (Nat.le_of_ble_eq_true rfl) ⟨Nat.le_of_ble_eq_true rfl, Nat.le_of_ble_eq_true rfl⟩ [0, 1] [] rfl rfl rfl rfl rfl (by decide) 0 rfl rfl dX4_wholeSize_1 rfl (J_f (ws' := [(h, .inr (4, [.ref a, .int (iI ch), .int (iI bl), .int (iI n)])), (a, .inl (X.2.1, 800, .inl (aI f)))]) (st' := [.int (iI (n / ch))]) [0, 1] rfl rfl rfl rfl ?_)
  refine J_aload_n cx dX4_wholeSize_4 rfl 0 rfl ?_
  refine J_get cx inC4 0 rfl rfl 1 (by decide) T27 rfl rfl dX4_wholeSize_5 ?_
  refine J_imul cx dX4_wholeSize_8 ?_
  refine J_top (b := (n / ch * ch)) (by omega) ?_
  exact J_iret cx hr dX4_wholeSize_9 ⟨rfl, rfl⟩
set_option maxHeartbeats 4000000 in
set_option maxRecDepth 100000 in
theorem mX4_lay (l : Launch) (X : GX) (h : Nat) (a : Nat) (f : Int → Int) (ch : Int) (bl : Int) (n : Int) (ch2 : Int) (bl2 : Int) (ea : Int) (h2 : 0 ≤ ea * ch2 ∧ ea * ch2 ≤ 800) : Ct l yX4_lay cX4_lay 4 none 1 22 0 0 X [.ref h, .int (iI ch2), .int (iI bl2), .int (iI ea)] [(h, .inr (4, [.ref a, .int (iI ch), .int (iI bl), .int (iI n)])), (a, .inl (X.2.1, 800, .inl (aI f)))] (fun1 none [(h, .inr (4, [.ref a, .int (iI ch2), .int (iI bl2), .int (iI (ea * ch2))])), (a, .inl (X.2.1, 800, .inl (aI f)))]) := by
  refine Ct_of (own := RX4) (lv := [(0, .ref h), (1, .int (iI ch2)), (2, .int (iI bl2)), (3, .int (iI ea))]) (by decide +kernel) rfl (Nat.le_of_ble_eq_true rfl) rfl ?_
  intro p e s m args below meth c A cx hr hin
  refine J_aload_n cx dX4_lay_0 rfl 0 rfl ?_
  refine J_iload_n cx dX4_lay_1 rfl 1 rfl ?_
  refine J_iload_n cx dX4_lay_2 rfl 2 rfl ?_
  refine J_callV (C := RX4) (T := TX4) (N := 4) cx (As := [.int (iI ch2), .int (iI bl2)]) (rest := []) (mX4_restart l X h a f ch bl n ch2 bl2 ) T200 T224 T198 T199 T2 ⟨rfl, hd_X4_restart⟩ rfl ⟨Nat.le_of_ble_eq_true rfl, Nat.le_of_ble_eq_true rfl⟩ (Nat.le_of_ble_eq_true rfl) ⟨Nat.le_of_ble_eq_true rfl, Nat.le_of_ble_eq_true rfl⟩ [0, 1] [] rfl rfl rfl rfl rfl (by decide) 0 rfl rfl dX4_lay_3 rfl (J_f (ws' := [(h, .inr (4, [.ref a, .int (iI ch2), .int (iI bl2), .int (iI 0)])), (a, .inl (X.2.1, 800, .inl (aI f)))]) (st' := []) [0, 1] rfl rfl rfl rfl ?_)
  refine J_aload_n cx dX4_lay_6 rfl 0 rfl ?_
  refine J_iload_n cx dX4_lay_7 rfl 3 rfl ?_
  refine J_iload_n cx dX4_lay_8 rfl 1 rfl ?_
  refine J_imul cx dX4_lay_9 ?_
  refine J_sipush cx dX4_lay_10 (by decide) ?_
  refine J_callS cx (As := [.int (iI (ea * ch2)), .int (iI 800)]) (rest := [.ref h]) (mJ9_min_7cf53 l X (ea * ch2) 800 (by omega) (by omega)) T242 T281 T241 T11 hd_J9_min_7cf53 rfl ⟨Nat.le_of_ble_eq_true rfl, Nat.le_of_ble_eq_true rfl⟩ (Nat.le_of_ble_eq_true rfl) ⟨Nat.le_of_ble_eq_true rfl, Nat.le_of_ble_eq_true rfl⟩ [] [0, 1] rfl rfl rfl rfl rfl (by decide) dX4_lay_13 rfl (J_f (ws' := [(h, .inr (4, [.ref a, .int (iI ch2), .int (iI bl2), .int (iI 0)])), (a, .inl (X.2.1, 800, .inl (aI f)))]) (st' := [.int (iI (mnI (ea * ch2) 800)), .ref h]) [0, 1] rfl rfl rfl rfl ?_)
  refine J_put (ty := .int) (ws' := [(h, .inr (4, [.ref a, .int (iI ch2), .int (iI bl2), .int (iI (mnI (ea * ch2) 800))])), (a, .inl (X.2.1, 800, .inl (aI f)))]) cx inC4 tyX4_ok nmX4 0 rfl rfl 3 (by decide) T34 rfl rfl (by decide +kernel) (rfl) (rfl) (Nat.le_of_ble_eq_true rfl) rfl dX4_lay_16 ?_
  refine J_ws (ws' := [(h, .inr (4, [.ref a, .int (iI ch2), .int (iI bl2), .int (iI (ea * ch2))])), (a, .inl (X.2.1, 800, .inl (aI f)))]) (by rw [show (mnI (ea * ch2) 800) = ea * ch2 from by unfold mnI; split <;> omega]) ?_
  exact J_vret cx hr dX4_lay_19 ⟨rfl, rfl⟩
set_option maxHeartbeats 4000000 in
set_option maxRecDepth 100000 in
theorem mX4_append (l : Launch) (X : GX) (h : Nat) (a : Nat) (f : Int → Int) (ch : Int) (bl : Int) (n : Int) (v : Int) (hc : 1 ≤ ch ∧ ch ≤ 2) (hn : 0 ≤ n ∧ n ≤ 800) : Ct l yX4_append cX4_append 2 (some .boolean) 0 0 0 0 X [.ref h, .int (iI v)] [(h, .inr (4, [.ref a, .int (iI ch), .int (iI bl), .int (iI n)])), (a, .inl (X.2.1, 800, .inl (aI f)))] (fun1 (some (.int (iI (if n < ch * 400 then 1 else 0)))) [(h, .inr (4, [.ref a, .int (iI ch), .int (iI bl), .int (iI (if n < ch * 400 then n + 1 else n))])), (a, .inl (X.2.1, 800, .inl (aI (if n < ch * 400 then upI f n v else f))))]) := by
  refine Ct_of (own := RX4) (lv := [(0, .ref h), (1, .int (iI v))]) (by decide +kernel) rfl (Nat.le_of_ble_eq_true rfl) rfl ?_
  intro p e s m args below meth c A cx hr hin
  refine J_aload_n cx dX4_append_0 rfl 0 rfl ?_
  refine J_get cx inC4 0 rfl rfl 3 (by decide) T34 rfl rfl dX4_append_1 ?_
  refine J_aload_n cx dX4_append_4 rfl 0 rfl ?_
  refine J_get cx inC4 0 rfl rfl 1 (by decide) T27 rfl rfl dX4_append_5 ?_
  refine J_sipush cx dX4_append_8 (by decide) ?_
  refine J_imul cx dX4_append_11 ?_
  refine J_icmp_ge (tgt := 25) cx dX4_append_12 (by decide) (by omega) (by omega) (fun h_12 => ?_) (fun h_12 => ?_)
  · skip
    refine J_iconst cx dX4_append_25 ?_
    refine J_ws (ws' := [(h, .inr (4, [.ref a, .int (iI ch), .int (iI bl), .int (iI (if n < ch * 400 then n + 1 else n))])), (a, .inl (X.2.1, 800, .inl (aI (if n < ch * 400 then upI f n v else f))))]) (by rw [← show (n) = if n < ch * 400 then n + 1 else n from by split <;> first | rfl | omega, ← show (f) = if n < ch * 400 then upI f n v else f from by split <;> first | rfl | omega]) ?_
    refine J_top (b := (if n < ch * 400 then 1 else 0)) (by split <;> first | rfl | omega) ?_
    exact J_zret cx hr (by split <;> omega) dX4_append_26 ⟨rfl, rfl⟩
  · skip
    refine J_aload_n cx dX4_append_15 rfl 0 rfl ?_
    refine J_get cx inC4 0 rfl rfl 3 (by decide) T34 rfl rfl dX4_append_16 ?_
    refine J_sipush cx dX4_append_19 (by decide) ?_
    refine J_icmp_lt (tgt := 27) cx dX4_append_22 (by decide) (by omega) (by decide) (fun h_22 => ?_) (fun h_22 => ?_)
    · skip
      refine J_aload_n cx dX4_append_27 rfl 0 rfl ?_
      refine J_get cx inC4 0 rfl rfl 0 (by decide) T26 rfl rfl dX4_append_28 ?_
      refine J_aload_n cx dX4_append_31 rfl 0 rfl ?_
      refine J_get cx inC4 0 rfl rfl 3 (by decide) T34 rfl rfl dX4_append_32 ?_
      refine J_iload_n cx dX4_append_35 rfl 1 rfl ?_
      refine J_iast (ws' := [(h, .inr (4, [.ref a, .int (iI ch), .int (iI bl), .int (iI n)])), (a, .inl (X.2.1, 800, .inl (aI (upI f n v))))]) cx 1 rfl (by omega) (by decide) rfl dX4_append_36 ?_
      refine J_aload_n cx dX4_append_37 rfl 0 rfl ?_
      refine J_dup cx dX4_append_38 rfl ?_
      refine J_get cx inC4 0 rfl rfl 3 (by decide) T34 rfl rfl dX4_append_39 ?_
      refine J_iconst cx dX4_append_42 ?_
      refine J_iadd cx dX4_append_43 ?_
      refine J_put (ty := .int) (ws' := [(h, .inr (4, [.ref a, .int (iI ch), .int (iI bl), .int (iI (n + 1))])), (a, .inl (X.2.1, 800, .inl (aI (upI f n v))))]) cx inC4 tyX4_ok nmX4 0 rfl rfl 3 (by decide) T34 rfl rfl (by decide +kernel) (rfl) (rfl) (Nat.le_of_ble_eq_true rfl) rfl dX4_append_44 ?_
      refine J_iconst cx dX4_append_47 ?_
      refine J_ws (ws' := [(h, .inr (4, [.ref a, .int (iI ch), .int (iI bl), .int (iI (if n < ch * 400 then n + 1 else n))])), (a, .inl (X.2.1, 800, .inl (aI (if n < ch * 400 then upI f n v else f))))]) (by rw [← show (n + 1) = if n < ch * 400 then n + 1 else n from by split <;> first | rfl | omega, ← show (upI f n v) = if n < ch * 400 then upI f n v else f from by split <;> first | rfl | omega]) ?_
      refine J_top (b := (if n < ch * 400 then 1 else 0)) (by split <;> first | rfl | omega) ?_
      exact J_zret cx hr (by split <;> omega) dX4_append_48 ⟨rfl, rfl⟩
    · skip
      refine J_iconst cx dX4_append_25 ?_
      refine J_ws (ws' := [(h, .inr (4, [.ref a, .int (iI ch), .int (iI bl), .int (iI (if n < ch * 400 then n + 1 else n))])), (a, .inl (X.2.1, 800, .inl (aI (if n < ch * 400 then upI f n v else f))))]) (by rw [← show (n) = if n < ch * 400 then n + 1 else n from by split <;> first | rfl | omega, ← show (f) = if n < ch * 400 then upI f n v else f from by split <;> first | rfl | omega]) ?_
      refine J_top (b := (if n < ch * 400 then 1 else 0)) (by split <;> first | rfl | omega) ?_
      exact J_zret cx hr (by split <;> omega) dX4_append_26 ⟨rfl, rfl⟩
set_option maxHeartbeats 4000000 in
set_option maxRecDepth 100000 in
theorem mX4_copyWhole (l : Launch) (X : GX) (h : Nat) (a : Nat) (f : Int → Int) (ch : Int) (bl : Int) (n : Int) (h2 : Nat) (a2 : Nat) (f2 : Int → Int) (ch2 : Int) (bl2 : Int) (n2 : Int) (hc : 1 ≤ ch2 ∧ ch2 ≤ 2) (hn : 0 ≤ n2 ∧ n2 ≤ 800) : Ct l yX4_copyWhole cX4_copyWhole 2 none 2 40 0 0 X [.ref h, .ref h2] [(h, .inr (4, [.ref a, .int (iI ch), .int (iI bl), .int (iI n)])), (a, .inl (X.2.1, 800, .inl (aI f))), (h2, .inr (4, [.ref a2, .int (iI ch2), .int (iI bl2), .int (iI n2)])), (a2, .inl (X.2.1, 800, .inl (aI f2)))] (fun1 none [(h, .inr (4, [.ref a, .int (iI ch2), .int (iI bl2), .int (iI (n2 / ch2 * ch2))])), (a, .inl (X.2.1, 800, .inl (aI (cpyI f2 f (n2 / ch2 * ch2))))), (h2, .inr (4, [.ref a2, .int (iI ch2), .int (iI bl2), .int (iI n2)])), (a2, .inl (X.2.1, 800, .inl (aI f2)))]) := by
  refine Ct_of (own := RX4) (lv := [(0, .ref h), (1, .ref h2)]) (by decide +kernel) rfl (Nat.le_of_ble_eq_true rfl) rfl ?_
  intro p e s m args below meth c A cx hr hin
  refine J_aload_n cx dX4_copyWhole_0 rfl 0 rfl ?_
  refine J_aload_n cx dX4_copyWhole_1 rfl 1 rfl ?_
  refine J_get cx inC4 2 rfl rfl 1 (by decide) T27 rfl rfl dX4_copyWhole_2 ?_
  refine J_aload_n cx dX4_copyWhole_5 rfl 1 rfl ?_
  refine J_get cx inC4 2 rfl rfl 2 (by decide) T32 rfl rfl dX4_copyWhole_6 ?_
  refine J_callV (C := RX4) (T := TX4) (N := 4) cx (As := [.int (iI ch2), .int (iI bl2)]) (rest := []) (mX4_restart l X h a f ch bl n ch2 bl2 ) T200 T224 T198 T199 T2 ⟨rfl, hd_X4_restart⟩ rfl ⟨Nat.le_of_ble_eq_true rfl, Nat.le_of_ble_eq_true rfl⟩ (Nat.le_of_ble_eq_true rfl) ⟨Nat.le_of_ble_eq_true rfl, Nat.le_of_ble_eq_true rfl⟩ [0, 1] [2, 3] rfl rfl rfl rfl rfl (by decide) 0 rfl rfl dX4_copyWhole_9 rfl (J_f (ws' := [(h, .inr (4, [.ref a, .int (iI ch2), .int (iI bl2), .int (iI 0)])), (a, .inl (X.2.1, 800, .inl (aI f))), (h2, .inr (4, [.ref a2, .int (iI ch2), .int (iI bl2), .int (iI n2)])), (a2, .inl (X.2.1, 800, .inl (aI f2)))]) (st' := []) [2, 3, 0, 1] rfl rfl rfl rfl ?_)
  refine J_aload_n cx dX4_copyWhole_12 rfl 0 rfl ?_
  refine J_aload_n cx dX4_copyWhole_13 rfl 1 rfl ?_
  refine J_callV (C := RX4) (T := TX4) (N := 4) cx (As := []) (rest := [.ref h]) (mX4_wholeSize l X h2 a2 f2 ch2 bl2 n2 (by omega) (by omega)) T228 T225 T226 T227 T2 ⟨rfl, hd_X4_wholeSize⟩ rfl ⟨Nat.le_of_ble_eq_true rfl, Nat.le_of_ble_eq_true rfl⟩ (Nat.le_of_ble_eq_true rfl) ⟨Nat.le_of_ble_eq_true rfl, Nat.le_of_ble_eq_true rfl⟩ [2, 3] [0, 1] rfl rfl rfl rfl rfl (by decide) 2 rfl rfl dX4_copyWhole_14 rfl (J_f (ws' := [(h, .inr (4, [.ref a, .int (iI ch2), .int (iI bl2), .int (iI 0)])), (a, .inl (X.2.1, 800, .inl (aI f))), (h2, .inr (4, [.ref a2, .int (iI ch2), .int (iI bl2), .int (iI n2)])), (a2, .inl (X.2.1, 800, .inl (aI f2)))]) (st' := [.int (iI (n2 / ch2 * ch2)), .ref h]) [0, 1, 2, 3] rfl rfl rfl rfl ?_)
  refine J_put (ty := .int) (ws' := [(h, .inr (4, [.ref a, .int (iI ch2), .int (iI bl2), .int (iI (n2 / ch2 * ch2))])), (a, .inl (X.2.1, 800, .inl (aI f))), (h2, .inr (4, [.ref a2, .int (iI ch2), .int (iI bl2), .int (iI n2)])), (a2, .inl (X.2.1, 800, .inl (aI f2)))]) cx inC4 tyX4_ok nmX4 0 rfl rfl 3 (by decide) T34 rfl rfl (by decide +kernel) (rfl) (rfl) (Nat.le_of_ble_eq_true rfl) rfl dX4_copyWhole_17 ?_
  refine J_aload_n cx dX4_copyWhole_20 rfl 1 rfl ?_
  refine J_get cx inC4 2 rfl rfl 0 (by decide) T26 rfl rfl dX4_copyWhole_21 ?_
  refine J_iconst cx dX4_copyWhole_24 ?_
  refine J_aload_n cx dX4_copyWhole_25 rfl 0 rfl ?_
  refine J_get cx inC4 0 rfl rfl 0 (by decide) T26 rfl rfl dX4_copyWhole_26 ?_
  refine J_iconst cx dX4_copyWhole_29 ?_
  refine J_aload_n cx dX4_copyWhole_30 rfl 0 rfl ?_
  refine J_get cx inC4 0 rfl rfl 3 (by decide) T34 rfl rfl dX4_copyWhole_31 ?_
  refine J_copyI (ws' := [(h, .inr (4, [.ref a, .int (iI ch2), .int (iI bl2), .int (iI (n2 / ch2 * ch2))])), (a, .inl (X.2.1, 800, .inl (aI (cpyI f2 f (n2 / ch2 * ch2))))), (h2, .inr (4, [.ref a2, .int (iI ch2), .int (iI bl2), .int (iI n2)])), (a2, .inl (X.2.1, 800, .inl (aI f2)))]) cx T233 T235 T234 T10 3 1 rfl rfl (by rcases (show ch2 = 1 ∨ ch2 = 2 by omega) with e1 | e1 <;> subst e1 <;> omega) (by decide) (by decide) (fun _ _ => rfl) rfl (Nat.le_of_ble_eq_true rfl) (Nat.le_of_ble_eq_true rfl) (by decide) dX4_copyWhole_34 ?_
  exact J_vret cx hr dX4_copyWhole_37 ⟨rfl, rfl⟩
set_option maxHeartbeats 4000000 in
set_option maxRecDepth 100000 in
theorem mX4_channelOf (l : Launch) (X : GX) (h : Nat) (a : Nat) (f : Int → Int) (ch : Int) (bl : Int) (n : Int) (i : Int) (hc : 1 ≤ ch ∧ ch ≤ 2) (hi : 0 ≤ i ∧ i < 100000) : Ct l yX4_channelOf cX4_channelOf 2 (some .int) 0 0 0 0 X [.ref h, .int (iI i)] [(h, .inr (4, [.ref a, .int (iI ch), .int (iI bl), .int (iI n)])), (a, .inl (X.2.1, 800, .inl (aI f)))] (fun1 (some (.int (iI (i % ch)))) [(h, .inr (4, [.ref a, .int (iI ch), .int (iI bl), .int (iI n)])), (a, .inl (X.2.1, 800, .inl (aI f)))]) := by
  refine Ct_of (own := RX4) (lv := [(0, .ref h), (1, .int (iI i))]) (by decide +kernel) rfl (Nat.le_of_ble_eq_true rfl) rfl ?_
  intro p e s m args below meth c A cx hr hin
  refine J_aload_n cx dX4_channelOf_0 rfl 0 rfl ?_
  refine J_get cx inC4 0 rfl rfl 1 (by decide) T27 rfl rfl dX4_channelOf_1 ?_
  refine J_iconst cx dX4_channelOf_4 ?_
  refine J_icmp_ge (tgt := 12) cx dX4_channelOf_5 (by decide) (by omega) (by decide) (fun h_5 => ?_) (fun h_5 => ?_)
  · skip
    refine J_iload_n cx dX4_channelOf_12 rfl 1 rfl ?_
    refine J_aload_n cx dX4_channelOf_13 rfl 0 rfl ?_
    refine J_get cx inC4 0 rfl rfl 1 (by decide) T27 rfl rfl dX4_channelOf_14 ?_
    refine J_irem cx dX4_channelOf_17 (by omega) (by omega) ?_
    exact J_iret cx hr dX4_channelOf_18 ⟨rfl, rfl⟩
  · exfalso; omega
set_option maxHeartbeats 4000000 in
set_option maxRecDepth 100000 in
theorem mX4_samplesBefore (l : Launch) (X : GX) (h : Nat) (a : Nat) (f : Int → Int) (ch : Int) (bl : Int) (n : Int) (i : Int) (hc : 1 ≤ ch ∧ ch ≤ 2) (hi : 0 ≤ i ∧ i < 100000) : Ct l yX4_samplesBefore cX4_samplesBefore 2 (some .int) 0 0 0 0 X [.ref h, .int (iI i)] [(h, .inr (4, [.ref a, .int (iI ch), .int (iI bl), .int (iI n)])), (a, .inl (X.2.1, 800, .inl (aI f)))] (fun1 (some (.int (iI (i / ch * bl)))) [(h, .inr (4, [.ref a, .int (iI ch), .int (iI bl), .int (iI n)])), (a, .inl (X.2.1, 800, .inl (aI f)))]) := by
  refine Ct_of (own := RX4) (lv := [(0, .ref h), (1, .int (iI i))]) (by decide +kernel) rfl (Nat.le_of_ble_eq_true rfl) rfl ?_
  intro p e s m args below meth c A cx hr hin
  refine J_aload_n cx dX4_samplesBefore_0 rfl 0 rfl ?_
  refine J_get cx inC4 0 rfl rfl 1 (by decide) T27 rfl rfl dX4_samplesBefore_1 ?_
  refine J_iconst cx dX4_samplesBefore_4 ?_
  refine J_icmp_ge (tgt := 12) cx dX4_samplesBefore_5 (by decide) (by omega) (by decide) (fun h_5 => ?_) (fun h_5 => ?_)
  · skip
    refine J_iload_n cx dX4_samplesBefore_12 rfl 1 rfl ?_
    refine J_aload_n cx dX4_samplesBefore_13 rfl 0 rfl ?_
    refine J_get cx inC4 0 rfl rfl 1 (by decide) T27 rfl rfl dX4_samplesBefore_14 ?_
    refine J_idiv cx dX4_samplesBefore_17 (by omega) (by omega) ?_
    refine J_aload_n cx dX4_samplesBefore_18 rfl 0 rfl ?_
    refine J_get cx inC4 0 rfl rfl 2 (by decide) T32 rfl rfl dX4_samplesBefore_19 ?_
    refine J_imul cx dX4_samplesBefore_22 ?_
    refine J_top (b := (i / ch * bl)) (by omega) ?_
    exact J_iret cx hr dX4_samplesBefore_23 ⟨rfl, rfl⟩
  · exfalso; omega
set_option maxHeartbeats 4000000 in
set_option maxRecDepth 100000 in
theorem mX4_firstPlace (l : Launch) (X : GX) (h : Nat) (a : Nat) (f : Int → Int) (ch : Int) (bl : Int) (n : Int) (i : Int) (hc : 1 ≤ ch ∧ ch ≤ 2) (hi : 0 ≤ i ∧ i < 100000) : Ct l yX4_firstPlace cX4_firstPlace 2 (some .int) 1 21 0 0 X [.ref h, .int (iI i)] [(h, .inr (4, [.ref a, .int (iI ch), .int (iI bl), .int (iI n)])), (a, .inl (X.2.1, 800, .inl (aI f)))] (fun1 (some (.int (iI (bfirst ch bl i)))) [(h, .inr (4, [.ref a, .int (iI ch), .int (iI bl), .int (iI n)])), (a, .inl (X.2.1, 800, .inl (aI f)))]) := by
  refine Ct_of (own := RX4) (lv := [(0, .ref h), (1, .int (iI i))]) (by decide +kernel) rfl (Nat.le_of_ble_eq_true rfl) rfl ?_
  intro p e s m args below meth c A cx hr hin
  refine J_aload_n cx dX4_firstPlace_0 rfl 0 rfl ?_
  refine J_iload_n cx dX4_firstPlace_1 rfl 1 rfl ?_
  refine J_callV (C := RX4) (T := TX4) (N := 4) cx (As := [.int (iI i)]) (rest := []) (mX4_samplesBefore l X h a f ch bl n i (by omega) (by omega)) T280 T277 T278 T279 T2 ⟨rfl, hd_X4_samplesBefore⟩ rfl ⟨Nat.le_of_ble_eq_true rfl, Nat.le_of_ble_eq_true rfl⟩ (Nat.le_of_ble_eq_true rfl) ⟨Nat.le_of_ble_eq_true rfl, Nat.le_of_ble_eq_true rfl⟩ [0, 1] [] rfl rfl rfl rfl rfl (by decide) 0 rfl rfl dX4_firstPlace_2 rfl (J_f (ws' := [(h, .inr (4, [.ref a, .int (iI ch), .int (iI bl), .int (iI n)])), (a, .inl (X.2.1, 800, .inl (aI f)))]) (st' := [.int (iI (i / ch * bl))]) [0, 1] rfl rfl rfl rfl ?_)
  refine J_aload_n cx dX4_firstPlace_5 rfl 0 rfl ?_
  refine J_get cx inC4 0 rfl rfl 1 (by decide) T27 rfl rfl dX4_firstPlace_6 ?_
  refine J_imul cx dX4_firstPlace_9 ?_
  refine J_aload_n cx dX4_firstPlace_10 rfl 0 rfl ?_
  refine J_iload_n cx dX4_firstPlace_11 rfl 1 rfl ?_
  refine J_callV (C := RX4) (T := TX4) (N := 4) cx (As := [.int (iI i)]) (rest := [.int (iI ((i / ch * bl) * ch))]) (mX4_channelOf l X h a f ch bl n i (by omega) (by omega)) T289 T286 T287 T288 T2 ⟨rfl, hd_X4_channelOf⟩ rfl ⟨Nat.le_of_ble_eq_true rfl, Nat.le_of_ble_eq_true rfl⟩ (Nat.le_of_ble_eq_true rfl) ⟨Nat.le_of_ble_eq_true rfl, Nat.le_of_ble_eq_true rfl⟩ [0, 1] [] rfl rfl rfl rfl rfl (by decide) 0 rfl rfl dX4_firstPlace_12 rfl (J_f (ws' := [(h, .inr (4, [.ref a, .int (iI ch), .int (iI bl), .int (iI n)])), (a, .inl (X.2.1, 800, .inl (aI f)))]) (st' := [.int (iI (i % ch)), .int (iI ((i / ch * bl) * ch))]) [0, 1] rfl rfl rfl rfl ?_)
  refine J_iadd cx dX4_firstPlace_15 ?_
  refine J_top (b := (bfirst ch bl i)) (rfl) ?_
  exact J_iret cx hr dX4_firstPlace_16 ⟨rfl, rfl⟩
set_option maxHeartbeats 4000000 in
set_option maxRecDepth 100000 in
theorem mX4_blockSize (l : Launch) (X : GX) (h : Nat) (a : Nat) (f : Int → Int) (ch : Int) (bl : Int) (n : Int) (i : Int) (hc : 1 ≤ ch ∧ ch ≤ 2) (hn : 0 ≤ n ∧ n ≤ 800) (hi : 0 ≤ i ∧ i < 100000) (hb : 1 ≤ bl ∧ bl ≤ 64) (hib : 0 ≤ i / ch * bl ∧ i / ch * bl < 1000000) : Ct l yX4_blockSize cX4_blockSize 2 (some .int) 1 21 0 0 X [.ref h, .int (iI i)] [(h, .inr (4, [.ref a, .int (iI ch), .int (iI bl), .int (iI n)])), (a, .inl (X.2.1, 800, .inl (aI f)))] (fun1 (some (.int (iI (bsize ch bl (n / ch) i)))) [(h, .inr (4, [.ref a, .int (iI ch), .int (iI bl), .int (iI n)])), (a, .inl (X.2.1, 800, .inl (aI f)))]) := by
  refine Ct_of (own := RX4) (lv := [(0, .ref h), (1, .int (iI i))]) (by decide +kernel) rfl (Nat.le_of_ble_eq_true rfl) rfl ?_
  intro p e s m args below meth c A cx hr hin
  have hd1 : 0 ≤ n / ch ∧ n / ch ≤ 800 := by rcases (show ch = 1 ∨ ch = 2 by omega) with e1 | e1 <;> subst e1 <;> omega
  refine J_aload_n cx dX4_blockSize_0 rfl 0 rfl ?_
  refine J_get cx inC4 0 rfl rfl 2 (by decide) T32 rfl rfl dX4_blockSize_1 ?_
  refine J_aload_n cx dX4_blockSize_4 rfl 0 rfl ?_
  refine J_callV (C := RX4) (T := TX4) (N := 4) cx (As := []) (rest := [.int (iI bl)]) (mX4_each l X h a f ch bl n (by omega) (by omega)) T232 T229 T230 T231 T2 ⟨rfl, hd_X4_each⟩ rfl ⟨Nat.le_of_ble_eq_true rfl, Nat.le_of_ble_eq_true rfl⟩ (Nat.le_of_ble_eq_true rfl) ⟨Nat.le_of_ble_eq_true rfl, Nat.le_of_ble_eq_true rfl⟩ [0, 1] [] rfl rfl rfl rfl rfl (by decide) 0 rfl rfl dX4_blockSize_5 rfl (J_f (ws' := [(h, .inr (4, [.ref a, .int (iI ch), .int (iI bl), .int (iI n)])), (a, .inl (X.2.1, 800, .inl (aI f)))]) (st' := [.int (iI (n / ch)), .int (iI bl)]) [0, 1] rfl rfl rfl rfl ?_)
  refine J_aload_n cx dX4_blockSize_8 rfl 0 rfl ?_
  refine J_iload_n cx dX4_blockSize_9 rfl 1 rfl ?_
  refine J_callV (C := RX4) (T := TX4) (N := 4) cx (As := [.int (iI i)]) (rest := [.int (iI (n / ch)), .int (iI bl)]) (mX4_samplesBefore l X h a f ch bl n i (by omega) (by omega)) T280 T277 T278 T279 T2 ⟨rfl, hd_X4_samplesBefore⟩ rfl ⟨Nat.le_of_ble_eq_true rfl, Nat.le_of_ble_eq_true rfl⟩ (Nat.le_of_ble_eq_true rfl) ⟨Nat.le_of_ble_eq_true rfl, Nat.le_of_ble_eq_true rfl⟩ [0, 1] [] rfl rfl rfl rfl rfl (by decide) 0 rfl rfl dX4_blockSize_10 rfl (J_f (ws' := [(h, .inr (4, [.ref a, .int (iI ch), .int (iI bl), .int (iI n)])), (a, .inl (X.2.1, 800, .inl (aI f)))]) (st' := [.int (iI (i / ch * bl)), .int (iI (n / ch)), .int (iI bl)]) [0, 1] rfl rfl rfl rfl ?_)
  refine J_isub cx dX4_blockSize_13 ?_
  refine J_callS cx (As := [.int (iI bl), .int (iI ((n / ch) - (i / ch * bl)))]) (rest := []) (mJ9_min_7cf53 l X bl ((n / ch) - (i / ch * bl)) (by omega) (by omega)) T242 T281 T241 T11 hd_J9_min_7cf53 rfl ⟨Nat.le_of_ble_eq_true rfl, Nat.le_of_ble_eq_true rfl⟩ (Nat.le_of_ble_eq_true rfl) ⟨Nat.le_of_ble_eq_true rfl, Nat.le_of_ble_eq_true rfl⟩ [] [0, 1] rfl rfl rfl rfl rfl (by decide) dX4_blockSize_14 rfl (J_f (ws' := [(h, .inr (4, [.ref a, .int (iI ch), .int (iI bl), .int (iI n)])), (a, .inl (X.2.1, 800, .inl (aI f)))]) (st' := [.int (iI (mnI bl ((n / ch) - (i / ch * bl))))]) [0, 1] rfl rfl rfl rfl ?_)
  refine J_top (b := (bsize ch bl (n / ch) i)) (rfl) ?_
  exact J_iret cx hr dX4_blockSize_17 ⟨rfl, rfl⟩
set_option maxHeartbeats 4000000 in
set_option maxRecDepth 100000 in
theorem mX4_blockCount (l : Launch) (X : GX) (h : Nat) (a : Nat) (f : Int → Int) (ch : Int) (bl : Int) (n : Int) (hc : 1 ≤ ch ∧ ch ≤ 2) (hn : 0 ≤ n ∧ n ≤ 800) (hb : 1 ≤ bl ∧ bl ≤ 64) : Ct l yX4_blockCount cX4_blockCount 1 (some .int) 1 20 0 0 X [.ref h] [(h, .inr (4, [.ref a, .int (iI ch), .int (iI bl), .int (iI n)])), (a, .inl (X.2.1, 800, .inl (aI f)))] (fun1 (some (.int (iI (nblk ch bl (n / ch))))) [(h, .inr (4, [.ref a, .int (iI ch), .int (iI bl), .int (iI n)])), (a, .inl (X.2.1, 800, .inl (aI f)))]) := by
  refine Ct_of (own := RX4) (lv := [(0, .ref h)]) (by decide +kernel) rfl (Nat.le_of_ble_eq_true rfl) rfl ?_
  intro p e s m args below meth c A cx hr hin
  have hd1 : 0 ≤ n / ch ∧ n / ch ≤ 800 := by rcases (show ch = 1 ∨ ch = 2 by omega) with e1 | e1 <;> subst e1 <;> omega
  refine J_aload_n cx dX4_blockCount_0 rfl 0 rfl ?_
  refine J_get cx inC4 0 rfl rfl 2 (by decide) T32 rfl rfl dX4_blockCount_1 ?_
  refine J_iconst cx dX4_blockCount_4 ?_
  refine J_icmp_ge (tgt := 12) cx dX4_blockCount_5 (by decide) (by omega) (by decide) (fun h_5 => ?_) (fun h_5 => ?_)
  · skip
    refine J_aload_n cx dX4_blockCount_12 rfl 0 rfl ?_
    refine J_callV (C := RX4) (T := TX4) (N := 4) cx (As := []) (rest := []) (mX4_each l X h a f ch bl n (by omega) (by omega)) T232 T229 T230 T231 T2 ⟨rfl, hd_X4_each⟩ rfl ⟨Nat.le_of_ble_eq_true rfl, Nat.le_of_ble_eq_true rfl⟩ (Nat.le_of_ble_eq_true rfl) ⟨Nat.le_of_ble_eq_true rfl, Nat.le_of_ble_eq_true rfl⟩ [0, 1] [] rfl rfl rfl rfl rfl (by decide) 0 rfl rfl dX4_blockCount_13 rfl (J_f (ws' := [(h, .inr (4, [.ref a, .int (iI ch), .int (iI bl), .int (iI n)])), (a, .inl (X.2.1, 800, .inl (aI f)))]) (st' := [.int (iI (n / ch))]) [0, 1] rfl rfl rfl rfl ?_)
    refine J_aload_n cx dX4_blockCount_16 rfl 0 rfl ?_
    refine J_get cx inC4 0 rfl rfl 2 (by decide) T32 rfl rfl dX4_blockCount_17 ?_
    refine J_iadd cx dX4_blockCount_20 ?_
    refine J_iconst cx dX4_blockCount_21 ?_
    refine J_isub cx dX4_blockCount_22 ?_
    refine J_aload_n cx dX4_blockCount_23 rfl 0 rfl ?_
    refine J_get cx inC4 0 rfl rfl 2 (by decide) T32 rfl rfl dX4_blockCount_24 ?_
    refine J_idiv cx dX4_blockCount_27 (by omega) (by omega) ?_
    refine J_aload_n cx dX4_blockCount_28 rfl 0 rfl ?_
    refine J_get cx inC4 0 rfl rfl 1 (by decide) T27 rfl rfl dX4_blockCount_29 ?_
    refine J_imul cx dX4_blockCount_32 ?_
    refine J_top (b := (nblk ch bl (n / ch))) (rfl) ?_
    exact J_iret cx hr dX4_blockCount_33 ⟨rfl, rfl⟩
  · exfalso; omega
set_option maxHeartbeats 4000000 in
set_option maxRecDepth 100000 in
theorem mX4_sampleAt (l : Launch) (X : GX) (h : Nat) (a : Nat) (f : Int → Int) (ch : Int) (bl : Int) (n : Int) (pl : Int) (hp : -2147483648 ≤ pl ∧ pl < 2147483648) (hn : 0 ≤ n ∧ n ≤ 800) : Ct l yX4_sampleAt cX4_sampleAt 2 (some .int) 0 0 0 0 X [.ref h, .int (iI pl)] [(h, .inr (4, [.ref a, .int (iI ch), .int (iI bl), .int (iI n)])), (a, .inl (X.2.1, 800, .inl (aI f)))] (fun1 (some (.int (iI (smpA f n pl)))) [(h, .inr (4, [.ref a, .int (iI ch), .int (iI bl), .int (iI n)])), (a, .inl (X.2.1, 800, .inl (aI f)))]) := by
  refine Ct_of (own := RX4) (lv := [(0, .ref h), (1, .int (iI pl))]) (by decide +kernel) rfl (Nat.le_of_ble_eq_true rfl) rfl ?_
  intro p e s m args below meth c A cx hr hin
  refine J_iload_n cx dX4_sampleAt_0 rfl 1 rfl ?_
  refine J_if_lt (tgt := 12) cx dX4_sampleAt_1 (by decide) (by omega) (fun h_1 => ?_) (fun h_1 => ?_)
  · skip
    refine J_iconst cx dX4_sampleAt_12 ?_
    refine J_goto (tgt := 22) cx dX4_sampleAt_13 (by decide) ?_
    refine J_top (b := (smpA f n pl)) (by unfold smpA; split <;> first | rfl | omega) ?_
    exact J_iret cx hr dX4_sampleAt_22 ⟨rfl, rfl⟩
  · skip
    refine J_iload_n cx dX4_sampleAt_4 rfl 1 rfl ?_
    refine J_aload_n cx dX4_sampleAt_5 rfl 0 rfl ?_
    refine J_get cx inC4 0 rfl rfl 3 (by decide) T34 rfl rfl dX4_sampleAt_6 ?_
    refine J_icmp_lt (tgt := 16) cx dX4_sampleAt_9 (by decide) (by omega) (by omega) (fun h_9 => ?_) (fun h_9 => ?_)
    · skip
      refine J_aload_n cx dX4_sampleAt_16 rfl 0 rfl ?_
      refine J_get cx inC4 0 rfl rfl 0 (by decide) T26 rfl rfl dX4_sampleAt_17 ?_
      refine J_iload_n cx dX4_sampleAt_20 rfl 1 rfl ?_
      refine J_iald cx 1 rfl (by omega) (by decide) dX4_sampleAt_21 ?_
      refine J_top (b := (smpA f n pl)) (by unfold smpA; split <;> first | rfl | omega) ?_
      exact J_iret cx hr dX4_sampleAt_22 ⟨rfl, rfl⟩
    · skip
      refine J_iconst cx dX4_sampleAt_12 ?_
      refine J_goto (tgt := 22) cx dX4_sampleAt_13 (by decide) ?_
      refine J_top (b := (smpA f n pl)) (by unfold smpA; split <;> first | rfl | omega) ?_
      exact J_iret cx hr dX4_sampleAt_22 ⟨rfl, rfl⟩
set_option maxHeartbeats 4000000 in
set_option maxRecDepth 100000 in
theorem mX4_setAt (l : Launch) (X : GX) (h : Nat) (a : Nat) (f : Int → Int) (ch : Int) (bl : Int) (n : Int) (pl : Int) (v : Int) (hp : 0 ≤ pl ∧ pl < n) (hn : 0 ≤ n ∧ n ≤ 800) : Ct l yX4_setAt cX4_setAt 3 none 0 0 0 0 X [.ref h, .int (iI pl), .int (iI v)] [(h, .inr (4, [.ref a, .int (iI ch), .int (iI bl), .int (iI n)])), (a, .inl (X.2.1, 800, .inl (aI f)))] (fun1 none [(h, .inr (4, [.ref a, .int (iI ch), .int (iI bl), .int (iI n)])), (a, .inl (X.2.1, 800, .inl (aI (upI f pl v))))]) := by
  refine Ct_of (own := RX4) (lv := [(0, .ref h), (1, .int (iI pl)), (2, .int (iI v))]) (by decide +kernel) rfl (Nat.le_of_ble_eq_true rfl) rfl ?_
  intro p e s m args below meth c A cx hr hin
  refine J_iload_n cx dX4_setAt_0 rfl 1 rfl ?_
  refine J_if_lt (tgt := 19) cx dX4_setAt_1 (by decide) (by omega) (fun h_1 => ?_) (fun h_1 => ?_)
  · exfalso; omega
  · skip
    refine J_iload_n cx dX4_setAt_4 rfl 1 rfl ?_
    refine J_aload_n cx dX4_setAt_5 rfl 0 rfl ?_
    refine J_get cx inC4 0 rfl rfl 3 (by decide) T34 rfl rfl dX4_setAt_6 ?_
    refine J_icmp_ge (tgt := 19) cx dX4_setAt_9 (by decide) (by omega) (by omega) (fun h_9 => ?_) (fun h_9 => ?_)
    · skip
      refine J_ws (ws' := [(h, .inr (4, [.ref a, .int (iI ch), .int (iI bl), .int (iI n)])), (a, .inl (X.2.1, 800, .inl (aI (upI f pl v))))]) (by rw [← show (f) = upI f pl v from by omega]) ?_
      exact J_vret cx hr dX4_setAt_19 ⟨rfl, rfl⟩
    · skip
      refine J_aload_n cx dX4_setAt_12 rfl 0 rfl ?_
      refine J_get cx inC4 0 rfl rfl 0 (by decide) T26 rfl rfl dX4_setAt_13 ?_
      refine J_iload_n cx dX4_setAt_16 rfl 1 rfl ?_
      refine J_iload_n cx dX4_setAt_17 rfl 2 rfl ?_
      refine J_iast (ws' := [(h, .inr (4, [.ref a, .int (iI ch), .int (iI bl), .int (iI n)])), (a, .inl (X.2.1, 800, .inl (aI (upI f pl v))))]) cx 1 rfl (by omega) (by decide) rfl dX4_setAt_18 ?_
      exact J_vret cx hr dX4_setAt_19 ⟨rfl, rfl⟩
set_option maxHeartbeats 4000000 in
set_option maxRecDepth 100000 in
theorem mX4_toldAhead (l : Launch) (X : GX) (h : Nat) (a : Nat) (f : Int → Int) (ch : Int) (bl : Int) (n : Int) (fn : Int) (pl : Int) (mu : Int) (hc : 1 ≤ ch ∧ ch ≤ 2) (hn : 0 ≤ n ∧ n ≤ 800) (hp : 0 ≤ pl ∧ pl < n) (hf : 0 ≤ fn ∧ fn ≤ 4) : Ct l yX4_toldAhead cX4_toldAhead 7 (some .int) 1 21 0 0 X [.ref h, .int (iI fn), .int (iI pl), .int (iI mu)] [(h, .inr (4, [.ref a, .int (iI ch), .int (iI bl), .int (iI n)])), (a, .inl (X.2.1, 800, .inl (aI f)))] (fun1 (some (.int (iI (tah f ch fn pl mu)))) [(h, .inr (4, [.ref a, .int (iI ch), .int (iI bl), .int (iI n)])), (a, .inl (X.2.1, 800, .inl (aI f)))]) := by
  refine Ct_of (own := RX4) (lv := [(0, .ref h), (1, .int (iI fn)), (2, .int (iI pl)), (3, .int (iI mu))]) (by decide +kernel) rfl (Nat.le_of_ble_eq_true rfl) rfl ?_
  intro p e s m args below meth c A cx hr hin
  refine J_aload_n cx dX4_toldAhead_0 rfl 0 rfl ?_
  refine J_iload_n cx dX4_toldAhead_1 rfl 2 rfl ?_
  refine J_aload_n cx dX4_toldAhead_2 rfl 0 rfl ?_
  refine J_get cx inC4 0 rfl rfl 1 (by decide) T27 rfl rfl dX4_toldAhead_3 ?_
  refine J_isub cx dX4_toldAhead_6 ?_
  refine J_callV (C := RX4) (T := TX4) (N := 4) cx (As := [.int (iI (pl - ch))]) (rest := []) (mX4_sampleAt l X h a f ch bl n (pl - ch) (by omega) (by omega)) T293 T319 T291 T292 T2 ⟨rfl, hd_X4_sampleAt⟩ rfl ⟨Nat.le_of_ble_eq_true rfl, Nat.le_of_ble_eq_true rfl⟩ (Nat.le_of_ble_eq_true rfl) ⟨Nat.le_of_ble_eq_true rfl, Nat.le_of_ble_eq_true rfl⟩ [0, 1] [] rfl rfl rfl rfl rfl (by decide) 0 rfl rfl dX4_toldAhead_7 rfl (J_f (ws' := [(h, .inr (4, [.ref a, .int (iI ch), .int (iI bl), .int (iI n)])), (a, .inl (X.2.1, 800, .inl (aI f)))]) (st' := [.int (iI (smpA f n (pl - ch)))]) [0, 1] rfl rfl rfl rfl ?_)
  refine J_istore (lv' := [(4, .int (iI (smpA f n (pl - ch)))), (0, .ref h), (1, .int (iI fn)), (2, .int (iI pl)), (3, .int (iI mu))]) cx dX4_toldAhead_10 (by decide) rfl ?_
  refine J_aload_n cx dX4_toldAhead_12 rfl 1 rfl ?_
  refine J_iload_n cx dX4_toldAhead_13 rfl 3 rfl ?_
  refine J_iconst cx dX4_toldAhead_14 ?_
  refine J_aload_n cx dX4_toldAhead_15 rfl 1 rfl ?_
  refine J_get cx inC4 0 rfl rfl 1 (by decide) T27 rfl rfl dX4_toldAhead_16 ?_
  refine J_imul cx dX4_toldAhead_19 ?_
  refine J_isub cx dX4_toldAhead_20 ?_
  refine J_callV (C := RX4) (T := TX4) (N := 4) cx (As := [.int (iI (pl - (2 * ch)))]) (rest := []) (mX4_sampleAt l X h a f ch bl n (pl - (2 * ch)) (by omega) (by omega)) T293 T319 T291 T292 T2 ⟨rfl, hd_X4_sampleAt⟩ rfl ⟨Nat.le_of_ble_eq_true rfl, Nat.le_of_ble_eq_true rfl⟩ (Nat.le_of_ble_eq_true rfl) ⟨Nat.le_of_ble_eq_true rfl, Nat.le_of_ble_eq_true rfl⟩ [0, 1] [] rfl rfl rfl rfl rfl (by decide) 0 rfl rfl dX4_toldAhead_21 rfl (J_f (ws' := [(h, .inr (4, [.ref a, .int (iI ch), .int (iI bl), .int (iI n)])), (a, .inl (X.2.1, 800, .inl (aI f)))]) (st' := [.int (iI (smpA f n (pl - (2 * ch))))]) [0, 1] rfl rfl rfl rfl ?_)
  refine J_istore (lv' := [(5, .int (iI (smpA f n (pl - (2 * ch))))), (4, .int (iI (smpA f n (pl - ch)))), (0, .ref h), (1, .int (iI fn)), (2, .int (iI pl)), (3, .int (iI mu))]) cx dX4_toldAhead_24 (by decide) rfl ?_
  refine J_aload_n cx dX4_toldAhead_26 rfl 2 rfl ?_
  refine J_iload_n cx dX4_toldAhead_27 rfl 4 rfl ?_
  refine J_iconst cx dX4_toldAhead_28 ?_
  refine J_aload_n cx dX4_toldAhead_29 rfl 2 rfl ?_
  refine J_get cx inC4 0 rfl rfl 1 (by decide) T27 rfl rfl dX4_toldAhead_30 ?_
  refine J_imul cx dX4_toldAhead_33 ?_
  refine J_isub cx dX4_toldAhead_34 ?_
  refine J_callV (C := RX4) (T := TX4) (N := 4) cx (As := [.int (iI (pl - (3 * ch)))]) (rest := []) (mX4_sampleAt l X h a f ch bl n (pl - (3 * ch)) (by omega) (by omega)) T293 T319 T291 T292 T2 ⟨rfl, hd_X4_sampleAt⟩ rfl ⟨Nat.le_of_ble_eq_true rfl, Nat.le_of_ble_eq_true rfl⟩ (Nat.le_of_ble_eq_true rfl) ⟨Nat.le_of_ble_eq_true rfl, Nat.le_of_ble_eq_true rfl⟩ [0, 1] [] rfl rfl rfl rfl rfl (by decide) 0 rfl rfl dX4_toldAhead_35 rfl (J_f (ws' := [(h, .inr (4, [.ref a, .int (iI ch), .int (iI bl), .int (iI n)])), (a, .inl (X.2.1, 800, .inl (aI f)))]) (st' := [.int (iI (smpA f n (pl - (3 * ch))))]) [0, 1] rfl rfl rfl rfl ?_)
  refine J_istore (lv' := [(6, .int (iI (smpA f n (pl - (3 * ch))))), (5, .int (iI (smpA f n (pl - (2 * ch))))), (4, .int (iI (smpA f n (pl - ch)))), (0, .ref h), (1, .int (iI fn)), (2, .int (iI pl)), (3, .int (iI mu))]) cx dX4_toldAhead_38 (by decide) rfl ?_
  refine J_iload_n cx dX4_toldAhead_40 rfl 4 rfl ?_
  have hsw_41 : fn = 1 ∨ fn = 2 ∨ fn = 3 ∨ (fn < 1 ∨ 3 < fn) := by omega
  rcases hsw_41 with h_41 | h_41 | h_41 | h_41
  · skip
    refine J_tin (k := 1) (tgt := 68) cx dX4_toldAhead_41 (by omega) h_41 rfl (by decide) (by decide) (by decide) ?_
    refine J_iload cx dX4_toldAhead_68 2 rfl ?_
    refine J_top (b := (tah f ch fn pl mu)) (by unfold tah; rw [if_pos h_41, smpA_bef (by omega)]) ?_
    exact J_iret cx hr dX4_toldAhead_70 ⟨rfl, rfl⟩
  · skip
    refine J_tin (k := 2) (tgt := 71) cx dX4_toldAhead_41 (by omega) h_41 rfl (by decide) (by decide) (by decide) ?_
    refine J_iconst cx dX4_toldAhead_71 ?_
    refine J_iload cx dX4_toldAhead_72 2 rfl ?_
    refine J_imul cx dX4_toldAhead_74 ?_
    refine J_iload cx dX4_toldAhead_75 1 rfl ?_
    refine J_isub cx dX4_toldAhead_77 ?_
    refine J_top (b := (tah f ch fn pl mu)) (by unfold tah; rw [if_neg (by omega), if_pos h_41, smpA_bef (by omega), smpA_bef (by omega)]) ?_
    exact J_iret cx hr dX4_toldAhead_78 ⟨rfl, rfl⟩
  · skip
    refine J_tin (k := 3) (tgt := 79) cx dX4_toldAhead_41 (by omega) h_41 rfl (by decide) (by decide) (by decide) ?_
    refine J_iconst cx dX4_toldAhead_79 ?_
    refine J_iload cx dX4_toldAhead_80 2 rfl ?_
    refine J_imul cx dX4_toldAhead_82 ?_
    refine J_iconst cx dX4_toldAhead_83 ?_
    refine J_iload cx dX4_toldAhead_84 1 rfl ?_
    refine J_imul cx dX4_toldAhead_86 ?_
    refine J_isub cx dX4_toldAhead_87 ?_
    refine J_iload cx dX4_toldAhead_88 0 rfl ?_
    refine J_iadd cx dX4_toldAhead_90 ?_
    refine J_top (b := (tah f ch fn pl mu)) (by unfold tah; rw [if_neg (by omega), if_neg (by omega), if_pos h_41, smpA_bef (by omega), smpA_bef (by omega), smpA_bef (by omega)]) ?_
    exact J_iret cx hr dX4_toldAhead_91 ⟨rfl, rfl⟩
  · skip
    refine J_tout (tgt := 92) cx dX4_toldAhead_41 (by omega) h_41 (by decide) ?_
    refine J_iload_n cx dX4_toldAhead_92 rfl 6 rfl ?_
    refine J_top (b := (tah f ch fn pl mu)) (by unfold tah; rw [if_neg (by omega), if_neg (by omega), if_neg (by omega)]) ?_
    exact J_iret cx hr dX4_toldAhead_93 ⟨rfl, rfl⟩
set_option maxHeartbeats 4000000 in
set_option maxRecDepth 100000 in
theorem mX4_hasSameWhole (l : Launch) (X : GX) (h : Nat) (a : Nat) (f : Int → Int) (ch : Int) (bl : Int) (n : Int) (h2 : Nat) (a2 : Nat) (f2 : Int → Int) (ch2 : Int) (bl2 : Int) (n2 : Int) (hc : 1 ≤ ch ∧ ch ≤ 2) (hn : 0 ≤ n ∧ n ≤ 800) (hn2 : 0 ≤ n2 ∧ n2 ≤ 800) (hc2 : 0 ≤ ch2 ∧ ch2 ≤ 2) (hf : ∀ j, -32768 ≤ f j ∧ f j ≤ 32767) (hf2 : ∀ j, -32768 ≤ f2 j ∧ f2 j ≤ 32767) : Ct l yX4_hasSameWhole cX4_hasSameWhole 3 (some .boolean) 2 40 0 0 X [.ref h, .ref h2] [(h, .inr (4, [.ref a, .int (iI ch), .int (iI bl), .int (iI n)])), (a, .inl (X.2.1, 800, .inl (aI f))), (h2, .inr (4, [.ref a2, .int (iI ch2), .int (iI bl2), .int (iI n2)])), (a2, .inl (X.2.1, 800, .inl (aI f2)))] (fun1 (some (.int (iI (sameV f ch n f2 ch2 n2)))) [(h, .inr (4, [.ref a, .int (iI ch), .int (iI bl), .int (iI n)])), (a, .inl (X.2.1, 800, .inl (aI f))), (h2, .inr (4, [.ref a2, .int (iI ch2), .int (iI bl2), .int (iI n2)])), (a2, .inl (X.2.1, 800, .inl (aI f2)))]) := by
  refine Ct_of (own := RX4) (lv := [(0, .ref h), (1, .ref h2)]) (by decide +kernel) rfl (Nat.le_of_ble_eq_true rfl) rfl ?_
  intro p e s m args below meth c A cx hr hin
  have hd1 := half_rng hc hn
  refine J_aload_n cx dX4_hasSameWhole_0 rfl 0 rfl ?_
  refine J_get cx inC4 0 rfl rfl 1 (by decide) T27 rfl rfl dX4_hasSameWhole_1 ?_
  refine J_aload_n cx dX4_hasSameWhole_4 rfl 1 rfl ?_
  refine J_get cx inC4 2 rfl rfl 1 (by decide) T27 rfl rfl dX4_hasSameWhole_5 ?_
  refine J_icmp_ne (tgt := 22) cx dX4_hasSameWhole_8 (by decide) (by omega) (by omega) (fun h_8 => ?_) (fun h_8 => ?_)
  · skip
    refine J_iconst cx dX4_hasSameWhole_22 ?_
    refine J_top (b := (sameV f ch n f2 ch2 n2)) (sameV_no (by omega)) ?_
    exact J_zret cx hr (sameV_01 _ _ _ _ _ _) dX4_hasSameWhole_23 ⟨rfl, rfl⟩
  · skip
    refine J_aload_n cx dX4_hasSameWhole_11 rfl 0 rfl ?_
    refine J_callV (C := RX4) (T := TX4) (N := 4) cx (As := []) (rest := []) (mX4_wholeSize l X h a f ch bl n (by omega) (by omega)) T228 T225 T226 T227 T2 ⟨rfl, hd_X4_wholeSize⟩ rfl ⟨Nat.le_of_ble_eq_true rfl, Nat.le_of_ble_eq_true rfl⟩ (Nat.le_of_ble_eq_true rfl) ⟨Nat.le_of_ble_eq_true rfl, Nat.le_of_ble_eq_true rfl⟩ [0, 1] [2, 3] rfl rfl rfl rfl rfl (by decide) 0 rfl rfl dX4_hasSameWhole_12 rfl (J_f (ws' := [(h, .inr (4, [.ref a, .int (iI ch), .int (iI bl), .int (iI n)])), (a, .inl (X.2.1, 800, .inl (aI f))), (h2, .inr (4, [.ref a2, .int (iI ch2), .int (iI bl2), .int (iI n2)])), (a2, .inl (X.2.1, 800, .inl (aI f2)))]) (st' := [.int (iI (n / ch * ch))]) [2, 3, 0, 1] rfl rfl rfl rfl ?_)
    refine J_aload_n cx dX4_hasSameWhole_15 rfl 1 rfl ?_
    refine J_get cx inC4 2 rfl rfl 3 (by decide) T34 rfl rfl dX4_hasSameWhole_16 ?_
    refine J_icmp_eq (tgt := 24) cx dX4_hasSameWhole_19 (by decide) (by omega) (by omega) (fun h_19 => ?_) (fun h_19 => ?_)
    · skip
      refine J_iconst cx dX4_hasSameWhole_24 ?_
      refine J_istore_n (lv' := [(2, .int (iI 0)), (0, .ref h), (1, .ref h2)]) cx dX4_hasSameWhole_25 rfl (by decide) rfl ?_
      refine J_loop1 (fun (j : Int) => [(h, .inr (4, [.ref a, .int (iI ch), .int (iI bl), .int (iI n)])), (a, .inl (X.2.1, 800, .inl (aI f))), (h2, .inr (4, [.ref a2, .int (iI ch2), .int (iI bl2), .int (iI n2)])), (a2, .inl (X.2.1, 800, .inl (aI f2)))]) (fun (j : Int) => [(2, .int (iI j)), (0, .ref h), (1, .ref h2)]) (fun (j : Int) => (0 ≤ j ∧ j ≤ n2) ∧ (eqU f f2 j.toNat = true)) (fun (j : Int) => (n2 - j).toNat) 0 ⟨(by omega), (rfl)⟩ ?_
      intro j hI ih_26
      obtain ⟨hj, hj2⟩ := hI
      try dsimp only at hj hj2
      refine J_iload_n cx dX4_hasSameWhole_26 rfl 0 rfl ?_
      refine J_aload_n cx dX4_hasSameWhole_27 rfl 2 rfl ?_
      refine J_get cx inC4 2 rfl rfl 3 (by decide) T34 rfl rfl dX4_hasSameWhole_28 ?_
      refine J_icmp_ge (tgt := 57) cx dX4_hasSameWhole_31 (by decide) (by omega) (by omega) (fun h_31 => ?_) (fun h_31 => ?_)
      · skip
        refine J_iconst cx dX4_hasSameWhole_57 ?_
        refine J_top (b := (sameV f ch n f2 ch2 n2)) (by unfold sameV; rw [if_pos ⟨by omega, by omega, by rw [← show j = n2 by omega]; exact hj2⟩]) ?_
        exact J_zret cx hr (sameV_01 _ _ _ _ _ _) dX4_hasSameWhole_58 ⟨rfl, rfl⟩
      · skip
        refine J_aload_n cx dX4_hasSameWhole_34 rfl 1 rfl ?_
        refine J_get cx inC4 0 rfl rfl 0 (by decide) T26 rfl rfl dX4_hasSameWhole_35 ?_
        refine J_iload_n cx dX4_hasSameWhole_38 rfl 0 rfl ?_
        refine J_iald cx 1 rfl (by omega) (by decide) dX4_hasSameWhole_39 ?_
        refine J_aload_n cx dX4_hasSameWhole_40 rfl 2 rfl ?_
        refine J_get cx inC4 2 rfl rfl 0 (by decide) T26 rfl rfl dX4_hasSameWhole_41 ?_
        refine J_iload_n cx dX4_hasSameWhole_44 rfl 0 rfl ?_
        refine J_iald cx 3 rfl (by omega) (by decide) dX4_hasSameWhole_45 ?_
        refine J_icmp_eq (tgt := 51) cx dX4_hasSameWhole_46 (by decide) (by have := hf j; omega) (by have := hf2 j; omega) (fun h_46 => ?_) (fun h_46 => ?_)
        · skip
          refine J_iinc (q := 0) (lv' := [(2, .int (iI (j + 1))), (0, .ref h), (1, .ref h2)]) cx dX4_hasSameWhole_51 rfl (by decide) rfl ?_
          refine J_goto (tgt := 26) cx dX4_hasSameWhole_54 (by decide) ?_
          exact ih_26 (j + 1) ⟨(by omega), (eqU_s (by omega) hj2 h_46)⟩ (by omega)
        · skip
          refine J_iconst cx dX4_hasSameWhole_49 ?_
          refine J_top (b := (sameV f ch n f2 ch2 n2)) (sameV_at (j := j) (by omega) (by omega) h_46) ?_
          exact J_zret cx hr (sameV_01 _ _ _ _ _ _) dX4_hasSameWhole_50 ⟨rfl, rfl⟩
    · skip
      refine J_iconst cx dX4_hasSameWhole_22 ?_
      refine J_top (b := (sameV f ch n f2 ch2 n2)) (sameV_no (by omega)) ?_
      exact J_zret cx hr (sameV_01 _ _ _ _ _ _) dX4_hasSameWhole_23 ⟨rfl, rfl⟩
