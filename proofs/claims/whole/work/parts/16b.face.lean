set_option maxHeartbeats 4000000 in
set_option maxRecDepth 100000 in
theorem mX7_settings (l : Launch) (X : GX) (z : Nat) (ht : Nat) (hw : Nat) (hrd : Nat) (gr : Nat) (gr2 : Nat) (at_ : Nat) (tf : Int → Int) (tch : Int) (tbl : Int) (tn : Int) (c2 : Int) (b2 : Int) (h1 : -2147483648 ≤ c2 ∧ c2 < 2147483648) (h2 : -2147483648 ≤ b2 ∧ b2 < 2147483648) : Ct l yX7_settings cX7_settings 3 (some .boolean) 1 22 0 0 X [.ref z, .int (iI c2), .int (iI b2)] [(z, .inr (7, [.ref ht, .ref hw, .ref hrd, .ref gr, .ref gr2])), (ht, .inr (4, [.ref at_, .int (iI tch), .int (iI tbl), .int (iI tn)])), (at_, .inl (X.2.1, 800, .inl (aI tf)))] (fun1 (some (.int (iI (if 1 ≤ c2 ∧ c2 ≤ 2 ∧ 1 ≤ b2 ∧ b2 ≤ 64 then 1 else 0)))) [(z, .inr (7, [.ref ht, .ref hw, .ref hrd, .ref gr, .ref gr2])), (ht, .inr (4, [.ref at_, .int (iI (if 1 ≤ c2 ∧ c2 ≤ 2 ∧ 1 ≤ b2 ∧ b2 ≤ 64 then c2 else tch)), .int (iI (if 1 ≤ c2 ∧ c2 ≤ 2 ∧ 1 ≤ b2 ∧ b2 ≤ 64 then b2 else tbl)), .int (iI (if 1 ≤ c2 ∧ c2 ≤ 2 ∧ 1 ≤ b2 ∧ b2 ≤ 64 then 0 else tn))])), (at_, .inl (X.2.1, 800, .inl (aI tf)))]) := by
  refine Ct_of (own := RX7) (lv := [(0, .ref z), (1, .int (iI c2)), (2, .int (iI b2))]) (by decide +kernel) rfl (Nat.le_of_ble_eq_true rfl) rfl ?_
  intro p e s m args below meth c A cx hr hin
  refine J_iload_n cx dX7_settings_0 rfl 1 rfl ?_
  refine J_iconst cx dX7_settings_1 ?_
  refine J_icmp_lt (tgt := 21) cx dX7_settings_2 (by decide) (by omega) (by decide) (fun h_2 => ?_) (fun h_2 => ?_)
  · skip
    refine J_iconst cx dX7_settings_21 ?_
    refine J_ws (ws' := [(z, .inr (7, [.ref ht, .ref hw, .ref hrd, .ref gr, .ref gr2])), (ht, .inr (4, [.ref at_, .int (iI (if 1 ≤ c2 ∧ c2 ≤ 2 ∧ 1 ≤ b2 ∧ b2 ≤ 64 then c2 else tch)), .int (iI (if 1 ≤ c2 ∧ c2 ≤ 2 ∧ 1 ≤ b2 ∧ b2 ≤ 64 then b2 else tbl)), .int (iI (if 1 ≤ c2 ∧ c2 ≤ 2 ∧ 1 ≤ b2 ∧ b2 ≤ 64 then 0 else tn))])), (at_, .inl (X.2.1, 800, .inl (aI tf)))]) (by rw [if_neg (by omega), if_neg (by omega), if_neg (by omega)]) ?_
    refine J_top (b := (if 1 ≤ c2 ∧ c2 ≤ 2 ∧ 1 ≤ b2 ∧ b2 ≤ 64 then 1 else 0)) (by split <;> first | rfl | omega) ?_
    exact J_zret cx hr (by split <;> omega) dX7_settings_22 ⟨rfl, rfl⟩
  · skip
    refine J_iload_n cx dX7_settings_5 rfl 1 rfl ?_
    refine J_iconst cx dX7_settings_6 ?_
    refine J_icmp_gt (tgt := 21) cx dX7_settings_7 (by decide) (by omega) (by decide) (fun h_7 => ?_) (fun h_7 => ?_)
    · skip
      refine J_iconst cx dX7_settings_21 ?_
      refine J_ws (ws' := [(z, .inr (7, [.ref ht, .ref hw, .ref hrd, .ref gr, .ref gr2])), (ht, .inr (4, [.ref at_, .int (iI (if 1 ≤ c2 ∧ c2 ≤ 2 ∧ 1 ≤ b2 ∧ b2 ≤ 64 then c2 else tch)), .int (iI (if 1 ≤ c2 ∧ c2 ≤ 2 ∧ 1 ≤ b2 ∧ b2 ≤ 64 then b2 else tbl)), .int (iI (if 1 ≤ c2 ∧ c2 ≤ 2 ∧ 1 ≤ b2 ∧ b2 ≤ 64 then 0 else tn))])), (at_, .inl (X.2.1, 800, .inl (aI tf)))]) (by rw [if_neg (by omega), if_neg (by omega), if_neg (by omega)]) ?_
      refine J_top (b := (if 1 ≤ c2 ∧ c2 ≤ 2 ∧ 1 ≤ b2 ∧ b2 ≤ 64 then 1 else 0)) (by split <;> first | rfl | omega) ?_
      exact J_zret cx hr (by split <;> omega) dX7_settings_22 ⟨rfl, rfl⟩
    · skip
      refine J_iload_n cx dX7_settings_10 rfl 2 rfl ?_
      refine J_iconst cx dX7_settings_11 ?_
      refine J_icmp_lt (tgt := 21) cx dX7_settings_12 (by decide) (by omega) (by decide) (fun h_12 => ?_) (fun h_12 => ?_)
      · skip
        refine J_iconst cx dX7_settings_21 ?_
        refine J_ws (ws' := [(z, .inr (7, [.ref ht, .ref hw, .ref hrd, .ref gr, .ref gr2])), (ht, .inr (4, [.ref at_, .int (iI (if 1 ≤ c2 ∧ c2 ≤ 2 ∧ 1 ≤ b2 ∧ b2 ≤ 64 then c2 else tch)), .int (iI (if 1 ≤ c2 ∧ c2 ≤ 2 ∧ 1 ≤ b2 ∧ b2 ≤ 64 then b2 else tbl)), .int (iI (if 1 ≤ c2 ∧ c2 ≤ 2 ∧ 1 ≤ b2 ∧ b2 ≤ 64 then 0 else tn))])), (at_, .inl (X.2.1, 800, .inl (aI tf)))]) (by rw [if_neg (by omega), if_neg (by omega), if_neg (by omega)]) ?_
        refine J_top (b := (if 1 ≤ c2 ∧ c2 ≤ 2 ∧ 1 ≤ b2 ∧ b2 ≤ 64 then 1 else 0)) (by split <;> first | rfl | omega) ?_
        exact J_zret cx hr (by split <;> omega) dX7_settings_22 ⟨rfl, rfl⟩
      · skip
        refine J_iload_n cx dX7_settings_15 rfl 2 rfl ?_
        refine J_bipush cx dX7_settings_16 (by decide) ?_
        refine J_icmp_le (tgt := 23) cx dX7_settings_18 (by decide) (by omega) (by decide) (fun h_18 => ?_) (fun h_18 => ?_)
        · skip
          refine J_aload_n cx dX7_settings_23 rfl 0 rfl ?_
          refine J_get cx inC7 0 rfl rfl 0 (by decide) T177 rfl rfl dX7_settings_24 ?_
          refine J_iload_n cx dX7_settings_27 rfl 1 rfl ?_
          refine J_iload_n cx dX7_settings_28 rfl 2 rfl ?_
          refine J_callV (C := RX4) (T := TX4) (N := 4) cx (As := [.int (iI c2), .int (iI b2)]) (rest := []) (mX4_restart l X ht at_ tf tch tbl tn c2 b2 ) T200 T197 T198 T199 T2 ⟨rfl, hd_X4_restart⟩ rfl ⟨Nat.le_of_ble_eq_true rfl, Nat.le_of_ble_eq_true rfl⟩ (Nat.le_of_ble_eq_true rfl) ⟨Nat.le_of_ble_eq_true rfl, Nat.le_of_ble_eq_true rfl⟩ [1, 2] [0] rfl rfl rfl rfl rfl (by decide) 1 rfl rfl dX7_settings_29 rfl (J_f (ws' := [(z, .inr (7, [.ref ht, .ref hw, .ref hrd, .ref gr, .ref gr2])), (ht, .inr (4, [.ref at_, .int (iI c2), .int (iI b2), .int (iI 0)])), (at_, .inl (X.2.1, 800, .inl (aI tf)))]) (st' := []) [0, 1, 2] rfl rfl rfl rfl ?_)
          refine J_iconst cx dX7_settings_32 ?_
          refine J_ws (ws' := [(z, .inr (7, [.ref ht, .ref hw, .ref hrd, .ref gr, .ref gr2])), (ht, .inr (4, [.ref at_, .int (iI (if 1 ≤ c2 ∧ c2 ≤ 2 ∧ 1 ≤ b2 ∧ b2 ≤ 64 then c2 else tch)), .int (iI (if 1 ≤ c2 ∧ c2 ≤ 2 ∧ 1 ≤ b2 ∧ b2 ≤ 64 then b2 else tbl)), .int (iI (if 1 ≤ c2 ∧ c2 ≤ 2 ∧ 1 ≤ b2 ∧ b2 ≤ 64 then 0 else tn))])), (at_, .inl (X.2.1, 800, .inl (aI tf)))]) (by rw [if_pos (by omega), if_pos (by omega), if_pos (by omega)]) ?_
          refine J_top (b := (if 1 ≤ c2 ∧ c2 ≤ 2 ∧ 1 ≤ b2 ∧ b2 ≤ 64 then 1 else 0)) (by split <;> first | rfl | omega) ?_
          exact J_zret cx hr (by split <;> omega) dX7_settings_33 ⟨rfl, rfl⟩
        · skip
          refine J_iconst cx dX7_settings_21 ?_
          refine J_ws (ws' := [(z, .inr (7, [.ref ht, .ref hw, .ref hrd, .ref gr, .ref gr2])), (ht, .inr (4, [.ref at_, .int (iI (if 1 ≤ c2 ∧ c2 ≤ 2 ∧ 1 ≤ b2 ∧ b2 ≤ 64 then c2 else tch)), .int (iI (if 1 ≤ c2 ∧ c2 ≤ 2 ∧ 1 ≤ b2 ∧ b2 ≤ 64 then b2 else tbl)), .int (iI (if 1 ≤ c2 ∧ c2 ≤ 2 ∧ 1 ≤ b2 ∧ b2 ≤ 64 then 0 else tn))])), (at_, .inl (X.2.1, 800, .inl (aI tf)))]) (by rw [if_neg (by omega), if_neg (by omega), if_neg (by omega)]) ?_
          refine J_top (b := (if 1 ≤ c2 ∧ c2 ≤ 2 ∧ 1 ≤ b2 ∧ b2 ≤ 64 then 1 else 0)) (by split <;> first | rfl | omega) ?_
          exact J_zret cx hr (by split <;> omega) dX7_settings_22 ⟨rfl, rfl⟩
set_option maxHeartbeats 4000000 in
set_option maxRecDepth 100000 in
theorem mX7_sample (l : Launch) (X : GX) (z : Nat) (ht : Nat) (hw : Nat) (hrd : Nat) (gr : Nat) (gr2 : Nat) (at_ : Nat) (tf : Int → Int) (tch : Int) (tbl : Int) (tn : Int) (v : Int) (hc : 1 ≤ tch ∧ tch ≤ 2) (hn : 0 ≤ tn ∧ tn ≤ 800) (hv : -2147483648 ≤ v ∧ v < 2147483648) : Ct l yX7_sample cX7_sample 2 (some .int) 1 21 0 0 X [.ref z, .int (iI v)] [(z, .inr (7, [.ref ht, .ref hw, .ref hrd, .ref gr, .ref gr2])), (ht, .inr (4, [.ref at_, .int (iI tch), .int (iI tbl), .int (iI tn)])), (at_, .inl (X.2.1, 800, .inl (aI tf)))] (fun1 (some (.int (iI (if (-32768 ≤ v ∧ v ≤ 32767) ∧ tn < tch * 400 then tn + 1 else -1)))) [(z, .inr (7, [.ref ht, .ref hw, .ref hrd, .ref gr, .ref gr2])), (ht, .inr (4, [.ref at_, .int (iI tch), .int (iI tbl), .int (iI (if (-32768 ≤ v ∧ v ≤ 32767) ∧ tn < tch * 400 then tn + 1 else tn))])), (at_, .inl (X.2.1, 800, .inl (aI (if (-32768 ≤ v ∧ v ≤ 32767) ∧ tn < tch * 400 then upI tf tn v else tf))))]) := by
  refine Ct_of (own := RX7) (lv := [(0, .ref z), (1, .int (iI v))]) (by decide +kernel) rfl (Nat.le_of_ble_eq_true rfl) rfl ?_
  intro p e s m args below meth c A cx hr hin
  refine J_iload_n cx dX7_sample_0 rfl 1 rfl ?_
  refine J_callS cx (As := [.int (iI v)]) (rest := []) (mX7_isSample l X v (by omega)) T207 T205 T206 T1 hd_X7_isSample rfl ⟨Nat.le_of_ble_eq_true rfl, Nat.le_of_ble_eq_true rfl⟩ (Nat.le_of_ble_eq_true rfl) ⟨Nat.le_of_ble_eq_true rfl, Nat.le_of_ble_eq_true rfl⟩ [] [0, 1, 2] rfl rfl rfl rfl rfl (by decide) dX7_sample_1 rfl (J_f (ws' := [(z, .inr (7, [.ref ht, .ref hw, .ref hrd, .ref gr, .ref gr2])), (ht, .inr (4, [.ref at_, .int (iI tch), .int (iI tbl), .int (iI tn)])), (at_, .inl (X.2.1, 800, .inl (aI tf)))]) (st' := [.int (iI (smpB v))]) [0, 1, 2] rfl rfl rfl rfl ?_)
  refine J_if_eq (tgt := 28) cx dX7_sample_4 (by decide) (by unfold smpB; split <;> omega) (fun h_4 => ?_) (fun h_4 => ?_)
  · skip
    have hs0 := smpB_0 h_4
    have hs1 : ¬ (-32768 ≤ v ∧ v ≤ 32767) := by (intro h5; apply hs0; unfold smpB; rw [if_pos h5])
    have hS : ¬ ((-32768 ≤ v ∧ v ≤ 32767) ∧ tn < tch * 400) := fun h5 => hs1 h5.1
    refine J_iconst cx dX7_sample_28 ?_
    refine J_ws (ws' := [(z, .inr (7, [.ref ht, .ref hw, .ref hrd, .ref gr, .ref gr2])), (ht, .inr (4, [.ref at_, .int (iI tch), .int (iI tbl), .int (iI (if (-32768 ≤ v ∧ v ≤ 32767) ∧ tn < tch * 400 then tn + 1 else tn))])), (at_, .inl (X.2.1, 800, .inl (aI (if (-32768 ≤ v ∧ v ≤ 32767) ∧ tn < tch * 400 then upI tf tn v else tf))))]) (by first | (simp only [if_neg hS]; done) | (simp only [if_neg hS, if_neg hs2]; done) | (simp only [if_pos hS, if_pos hs2]; done)) ?_
    refine J_top (b := (if (-32768 ≤ v ∧ v ≤ 32767) ∧ tn < tch * 400 then tn + 1 else -1)) (by first | (simp only [if_neg hS]; done) | (simp only [if_neg hS, if_neg hs2]; done) | (simp only [if_pos hS, if_pos hs2]; done)) ?_
    exact J_iret cx hr dX7_sample_29 ⟨rfl, rfl⟩
  · skip
    have hs1 := smpB_1 (smpB_n0 h_4)
    refine J_aload_n cx dX7_sample_7 rfl 0 rfl ?_
    refine J_get cx inC7 0 rfl rfl 0 (by decide) T177 rfl rfl dX7_sample_8 ?_
    refine J_iload_n cx dX7_sample_11 rfl 1 rfl ?_
    refine J_callV (C := RX4) (T := TX4) (N := 4) cx (As := [.int (iI v)]) (rest := []) (mX4_append l X ht at_ tf tch tbl tn v (by omega) (by omega)) T211 T208 T209 T210 T2 ⟨rfl, hd_X4_append⟩ rfl ⟨Nat.le_of_ble_eq_true rfl, Nat.le_of_ble_eq_true rfl⟩ (Nat.le_of_ble_eq_true rfl) ⟨Nat.le_of_ble_eq_true rfl, Nat.le_of_ble_eq_true rfl⟩ [1, 2] [0] rfl rfl rfl rfl rfl (by decide) 1 rfl rfl dX7_sample_12 rfl (J_f (ws' := [(z, .inr (7, [.ref ht, .ref hw, .ref hrd, .ref gr, .ref gr2])), (ht, .inr (4, [.ref at_, .int (iI tch), .int (iI tbl), .int (iI (if tn < tch * 400 then tn + 1 else tn))])), (at_, .inl (X.2.1, 800, .inl (aI (if tn < tch * 400 then upI tf tn v else tf))))]) (st' := [.int (iI (if tn < tch * 400 then 1 else 0))]) [0, 1, 2] rfl rfl rfl rfl ?_)
    refine J_if_eq (tgt := 28) cx dX7_sample_15 (by decide) (by split <;> omega) (fun h_15 => ?_) (fun h_15 => ?_)
    · skip
      have hs2 : ¬ tn < tch * 400 := by (intro h5; rw [if_pos h5] at h_15; omega)
      have hS : ¬ ((-32768 ≤ v ∧ v ≤ 32767) ∧ tn < tch * 400) := fun h5 => hs2 h5.2
      refine J_iconst cx dX7_sample_28 ?_
      refine J_ws (ws' := [(z, .inr (7, [.ref ht, .ref hw, .ref hrd, .ref gr, .ref gr2])), (ht, .inr (4, [.ref at_, .int (iI tch), .int (iI tbl), .int (iI (if (-32768 ≤ v ∧ v ≤ 32767) ∧ tn < tch * 400 then tn + 1 else tn))])), (at_, .inl (X.2.1, 800, .inl (aI (if (-32768 ≤ v ∧ v ≤ 32767) ∧ tn < tch * 400 then upI tf tn v else tf))))]) (by first | (simp only [if_neg hS]; done) | (simp only [if_neg hS, if_neg hs2]; done) | (simp only [if_pos hS, if_pos hs2]; done)) ?_
      refine J_top (b := (if (-32768 ≤ v ∧ v ≤ 32767) ∧ tn < tch * 400 then tn + 1 else -1)) (by first | (simp only [if_neg hS]; done) | (simp only [if_neg hS, if_neg hs2]; done) | (simp only [if_pos hS, if_pos hs2]; done)) ?_
      exact J_iret cx hr dX7_sample_29 ⟨rfl, rfl⟩
    · skip
      have hs2 : tn < tch * 400 := by (split at h_15); (assumption); (omega)
      have hS : (-32768 ≤ v ∧ v ≤ 32767) ∧ tn < tch * 400 := ⟨hs1, hs2⟩
      refine J_aload_n cx dX7_sample_18 rfl 0 rfl ?_
      refine J_get cx inC7 0 rfl rfl 0 (by decide) T177 rfl rfl dX7_sample_19 ?_
      refine J_getN cx inC4 1 rfl rfl 3 (by decide) T35 rfl rfl dX7_sample_22 ?_
      refine J_goto (tgt := 29) cx dX7_sample_25 (by decide) ?_
      refine J_ws (ws' := [(z, .inr (7, [.ref ht, .ref hw, .ref hrd, .ref gr, .ref gr2])), (ht, .inr (4, [.ref at_, .int (iI tch), .int (iI tbl), .int (iI (if (-32768 ≤ v ∧ v ≤ 32767) ∧ tn < tch * 400 then tn + 1 else tn))])), (at_, .inl (X.2.1, 800, .inl (aI (if (-32768 ≤ v ∧ v ≤ 32767) ∧ tn < tch * 400 then upI tf tn v else tf))))]) (by first | (simp only [if_neg hS]; done) | (simp only [if_neg hS, if_neg hs2]; done) | (simp only [if_pos hS, if_pos hs2]; done)) ?_
      refine J_top (b := (if (-32768 ≤ v ∧ v ≤ 32767) ∧ tn < tch * 400 then tn + 1 else -1)) (by first | (simp only [if_neg hS]; done) | (simp only [if_neg hS, if_neg hs2]; done) | (simp only [if_pos hS, if_pos hs2]; done)) ?_
      exact J_iret cx hr dX7_sample_29 ⟨rfl, rfl⟩
set_option maxHeartbeats 4000000 in
set_option maxRecDepth 100000 in
theorem mX7_at (l : Launch) (X : GX) (z : Nat) (ht : Nat) (hw : Nat) (hrd : Nat) (gr : Nat) (gr2 : Nat) (ga : Nat) (r : Int → Int) (n : Int) (i : Int) (hn : 0 ≤ n ∧ n ≤ 3000) (hi : -2147483648 ≤ i ∧ i < 2147483648) : Ct l yX7_at cX7_at 2 (some .int) 1 21 0 0 X [.ref z, .int (iI i)] [(z, .inr (7, [.ref ht, .ref hw, .ref hrd, .ref gr, .ref gr2])), (gr, .inr (2, [.ref ga, .int (iI n)])), (ga, .inl (X.2.2, 3000, .inl (aI r)))] (fun1 (some (.int (iI (if i < 0 ∨ n ≤ i then -1 else r i % 256)))) [(z, .inr (7, [.ref ht, .ref hw, .ref hrd, .ref gr, .ref gr2])), (gr, .inr (2, [.ref ga, .int (iI n)])), (ga, .inl (X.2.2, 3000, .inl (aI r)))]) := by
  refine Ct_of (own := RX7) (lv := [(0, .ref z), (1, .int (iI i))]) (by decide +kernel) rfl (Nat.le_of_ble_eq_true rfl) rfl ?_
  intro p e s m args below meth c A cx hr hin
  refine J_aload_n cx dX7_at_0 rfl 0 rfl ?_
  refine J_get cx inC7 0 rfl rfl 3 (by decide) T180 rfl rfl dX7_at_1 ?_
  refine J_iload_n cx dX7_at_4 rfl 1 rfl ?_
  refine J_callV (C := RX2) (T := TX2) (N := 2) cx (As := [.int (iI i)]) (rest := []) (mX2_byteAt l X gr ga r n i (by omega) (by omega)) T350 T347 T348 T349 T6 ⟨rfl, hd_X2_byteAt⟩ rfl ⟨Nat.le_of_ble_eq_true rfl, Nat.le_of_ble_eq_true rfl⟩ (Nat.le_of_ble_eq_true rfl) ⟨Nat.le_of_ble_eq_true rfl, Nat.le_of_ble_eq_true rfl⟩ [1, 2] [0] rfl rfl rfl rfl rfl (by decide) 1 rfl rfl dX7_at_5 rfl (J_f (ws' := [(z, .inr (7, [.ref ht, .ref hw, .ref hrd, .ref gr, .ref gr2])), (gr, .inr (2, [.ref ga, .int (iI n)])), (ga, .inl (X.2.2, 3000, .inl (aI r)))]) (st' := [.int (iI (if i < 0 ∨ n ≤ i then -1 else r i % 256))]) [0, 1, 2] rfl rfl rfl rfl ?_)
  exact J_iret cx hr dX7_at_8 ⟨rfl, rfl⟩
set_option maxHeartbeats 4000000 in
set_option maxRecDepth 100000 in
theorem mX7_feed (l : Launch) (X : GX) (z : Nat) (ht : Nat) (hw : Nat) (hrd : Nat) (gr : Nat) (gr2 : Nat) (ga2 : Nat) (r2 : Int → Int) (n2 : Int) (b : Int) (hn : 0 ≤ n2 ∧ n2 ≤ 3000) (hb0 : -2147483648 ≤ b ∧ b < 2147483648) : Ct l yX7_feed cX7_feed 2 (some .boolean) 1 21 0 0 X [.ref z, .int (iI b)] [(z, .inr (7, [.ref ht, .ref hw, .ref hrd, .ref gr, .ref gr2])), (gr2, .inr (2, [.ref ga2, .int (iI n2)])), (ga2, .inl (X.2.2, 3000, .inl (aI r2)))] (fun1 (some (.int (iI (if 0 ≤ b ∧ b ≤ 255 ∧ n2 < 3000 then 1 else 0)))) [(z, .inr (7, [.ref ht, .ref hw, .ref hrd, .ref gr, .ref gr2])), (gr2, .inr (2, [.ref ga2, .int (iI (if 0 ≤ b ∧ b ≤ 255 ∧ n2 < 3000 then n2 + 1 else n2))])), (ga2, .inl (X.2.2, 3000, .inl (aI (if 0 ≤ b ∧ b ≤ 255 ∧ n2 < 3000 then upI r2 n2 (w8 b) else r2))))]) := by
  refine Ct_of (own := RX7) (lv := [(0, .ref z), (1, .int (iI b))]) (by decide +kernel) rfl (Nat.le_of_ble_eq_true rfl) rfl ?_
  intro p e s m args below meth c A cx hr hin
  refine J_iload_n cx dX7_feed_0 rfl 1 rfl ?_
  refine J_if_lt (tgt := 26) cx dX7_feed_1 (by decide) (by omega) (fun h_1 => ?_) (fun h_1 => ?_)
  · skip
    refine J_iconst cx dX7_feed_26 ?_
    refine J_ws (ws' := [(z, .inr (7, [.ref ht, .ref hw, .ref hrd, .ref gr, .ref gr2])), (gr2, .inr (2, [.ref ga2, .int (iI (if 0 ≤ b ∧ b ≤ 255 ∧ n2 < 3000 then n2 + 1 else n2))])), (ga2, .inl (X.2.2, 3000, .inl (aI (if 0 ≤ b ∧ b ≤ 255 ∧ n2 < 3000 then upI r2 n2 (w8 b) else r2))))]) (by first | (rw [if_neg (by omega), if_neg (by omega)]; done) | (rw [if_pos hs2, if_pos hs2, if_pos (by omega), if_pos (by omega)]; done) | (rw [if_neg hs2, if_neg hs2, if_neg (by omega), if_neg (by omega)]; done)) ?_
    refine J_top (b := (if 0 ≤ b ∧ b ≤ 255 ∧ n2 < 3000 then 1 else 0)) (by split <;> omega) ?_
    exact J_zret cx hr (by split <;> omega) dX7_feed_27 ⟨rfl, rfl⟩
  · skip
    refine J_iload_n cx dX7_feed_4 rfl 1 rfl ?_
    refine J_sipush cx dX7_feed_5 (by decide) ?_
    refine J_icmp_gt (tgt := 26) cx dX7_feed_8 (by decide) (by omega) (by decide) (fun h_8 => ?_) (fun h_8 => ?_)
    · skip
      refine J_iconst cx dX7_feed_26 ?_
      refine J_ws (ws' := [(z, .inr (7, [.ref ht, .ref hw, .ref hrd, .ref gr, .ref gr2])), (gr2, .inr (2, [.ref ga2, .int (iI (if 0 ≤ b ∧ b ≤ 255 ∧ n2 < 3000 then n2 + 1 else n2))])), (ga2, .inl (X.2.2, 3000, .inl (aI (if 0 ≤ b ∧ b ≤ 255 ∧ n2 < 3000 then upI r2 n2 (w8 b) else r2))))]) (by first | (rw [if_neg (by omega), if_neg (by omega)]; done) | (rw [if_pos hs2, if_pos hs2, if_pos (by omega), if_pos (by omega)]; done) | (rw [if_neg hs2, if_neg hs2, if_neg (by omega), if_neg (by omega)]; done)) ?_
      refine J_top (b := (if 0 ≤ b ∧ b ≤ 255 ∧ n2 < 3000 then 1 else 0)) (by split <;> omega) ?_
      exact J_zret cx hr (by split <;> omega) dX7_feed_27 ⟨rfl, rfl⟩
    · skip
      refine J_aload_n cx dX7_feed_11 rfl 0 rfl ?_
      refine J_get cx inC7 0 rfl rfl 4 (by decide) T181 rfl rfl dX7_feed_12 ?_
      refine J_iload_n cx dX7_feed_15 rfl 1 rfl ?_
      refine J_callV (C := RX2) (T := TX2) (N := 2) cx (As := [.int (iI b)]) (rest := []) (mX2_append l X gr2 ga2 r2 n2 b (by omega)) T262 T373 T260 T261 T6 ⟨rfl, hd_X2_append⟩ rfl ⟨Nat.le_of_ble_eq_true rfl, Nat.le_of_ble_eq_true rfl⟩ (Nat.le_of_ble_eq_true rfl) ⟨Nat.le_of_ble_eq_true rfl, Nat.le_of_ble_eq_true rfl⟩ [1, 2] [0] rfl rfl rfl rfl rfl (by decide) 1 rfl rfl dX7_feed_16 rfl (J_f (ws' := [(z, .inr (7, [.ref ht, .ref hw, .ref hrd, .ref gr, .ref gr2])), (gr2, .inr (2, [.ref ga2, .int (iI (if n2 < 3000 then n2 + 1 else n2))])), (ga2, .inl (X.2.2, 3000, .inl (aI (if n2 < 3000 then upI r2 n2 (w8 b) else r2))))]) (st' := [.int (iI (if n2 < 3000 then 1 else 0))]) [0, 1, 2] rfl rfl rfl rfl ?_)
      refine J_if_eq (tgt := 26) cx dX7_feed_19 (by decide) (by split <;> omega) (fun h_19 => ?_) (fun h_19 => ?_)
      · skip
        have hs2 : ¬ n2 < 3000 := by (intro h5; rw [if_pos h5] at h_19; omega)
        refine J_iconst cx dX7_feed_26 ?_
        refine J_ws (ws' := [(z, .inr (7, [.ref ht, .ref hw, .ref hrd, .ref gr, .ref gr2])), (gr2, .inr (2, [.ref ga2, .int (iI (if 0 ≤ b ∧ b ≤ 255 ∧ n2 < 3000 then n2 + 1 else n2))])), (ga2, .inl (X.2.2, 3000, .inl (aI (if 0 ≤ b ∧ b ≤ 255 ∧ n2 < 3000 then upI r2 n2 (w8 b) else r2))))]) (by first | (rw [if_neg (by omega), if_neg (by omega)]; done) | (rw [if_pos hs2, if_pos hs2, if_pos (by omega), if_pos (by omega)]; done) | (rw [if_neg hs2, if_neg hs2, if_neg (by omega), if_neg (by omega)]; done)) ?_
        refine J_top (b := (if 0 ≤ b ∧ b ≤ 255 ∧ n2 < 3000 then 1 else 0)) (by split <;> omega) ?_
        exact J_zret cx hr (by split <;> omega) dX7_feed_27 ⟨rfl, rfl⟩
      · skip
        have hs2 : n2 < 3000 := by (split at h_19); (assumption); (omega)
        refine J_iconst cx dX7_feed_22 ?_
        refine J_goto (tgt := 27) cx dX7_feed_23 (by decide) ?_
        refine J_ws (ws' := [(z, .inr (7, [.ref ht, .ref hw, .ref hrd, .ref gr, .ref gr2])), (gr2, .inr (2, [.ref ga2, .int (iI (if 0 ≤ b ∧ b ≤ 255 ∧ n2 < 3000 then n2 + 1 else n2))])), (ga2, .inl (X.2.2, 3000, .inl (aI (if 0 ≤ b ∧ b ≤ 255 ∧ n2 < 3000 then upI r2 n2 (w8 b) else r2))))]) (by first | (rw [if_neg (by omega), if_neg (by omega)]; done) | (rw [if_pos hs2, if_pos hs2, if_pos (by omega), if_pos (by omega)]; done) | (rw [if_neg hs2, if_neg hs2, if_neg (by omega), if_neg (by omega)]; done)) ?_
        refine J_top (b := (if 0 ≤ b ∧ b ≤ 255 ∧ n2 < 3000 then 1 else 0)) (by split <;> omega) ?_
        exact J_zret cx hr (by split <;> omega) dX7_feed_27 ⟨rfl, rfl⟩
set_option maxHeartbeats 4000000 in
set_option maxRecDepth 100000 in
theorem mX7_take (l : Launch) (X : GX) (z : Nat) (ht : Nat) (hw : Nat) (hrd : Nat) (gr : Nat) (gr2 : Nat) (ga : Nat) (r : Int → Int) (n : Int) (ga2 : Nat) (r2 : Int → Int) (n2 : Int) (hn : 0 ≤ n ∧ n ≤ 3000) (hwr : ∀ j, 0 ≤ j → j < n → w8 (r j) = r j) : Ct l yX7_take cX7_take 1 (some .int) 2 61 0 0 X [.ref z] [(z, .inr (7, [.ref ht, .ref hw, .ref hrd, .ref gr, .ref gr2])), (gr, .inr (2, [.ref ga, .int (iI n)])), (ga, .inl (X.2.2, 3000, .inl (aI r))), (gr2, .inr (2, [.ref ga2, .int (iI n2)])), (ga2, .inl (X.2.2, 3000, .inl (aI r2)))] (fun1 (some (.int (iI n))) [(z, .inr (7, [.ref ht, .ref hw, .ref hrd, .ref gr, .ref gr2])), (gr, .inr (2, [.ref ga, .int (iI n)])), (ga, .inl (X.2.2, 3000, .inl (aI r))), (gr2, .inr (2, [.ref ga2, .int (iI n)])), (ga2, .inl (X.2.2, 3000, .inl (aI (cpyI r r2 n))))]) := by
  refine Ct_of (own := RX7) (lv := [(0, .ref z)]) (by decide +kernel) rfl (Nat.le_of_ble_eq_true rfl) rfl ?_
  intro p e s m args below meth c A cx hr hin
  refine J_aload_n cx dX7_take_0 rfl 0 rfl ?_
  refine J_get cx inC7 0 rfl rfl 4 (by decide) T181 rfl rfl dX7_take_1 ?_
  refine J_aload_n cx dX7_take_4 rfl 0 rfl ?_
  refine J_get cx inC7 0 rfl rfl 3 (by decide) T180 rfl rfl dX7_take_5 ?_
  refine J_callV (C := RX2) (T := TX2) (N := 2) cx (As := [.ref gr]) (rest := []) (mX2_copy l X gr2 ga2 r2 n2 gr ga r n (by omega) (hwr)) T381 T378 T379 T380 T6 ⟨rfl, hd_X2_copy⟩ rfl ⟨Nat.le_of_ble_eq_true rfl, Nat.le_of_ble_eq_true rfl⟩ (Nat.le_of_ble_eq_true rfl) ⟨Nat.le_of_ble_eq_true rfl, Nat.le_of_ble_eq_true rfl⟩ [3, 4, 1, 2] [0] rfl rfl rfl rfl rfl (by decide) 3 rfl rfl dX7_take_8 rfl (J_f (ws' := [(z, .inr (7, [.ref ht, .ref hw, .ref hrd, .ref gr, .ref gr2])), (gr, .inr (2, [.ref ga, .int (iI n)])), (ga, .inl (X.2.2, 3000, .inl (aI r))), (gr2, .inr (2, [.ref ga2, .int (iI n)])), (ga2, .inl (X.2.2, 3000, .inl (aI (cpyI r r2 n))))]) (st' := []) [0, 3, 4, 1, 2] rfl rfl rfl rfl ?_)
  refine J_aload_n cx dX7_take_11 rfl 0 rfl ?_
  refine J_get cx inC7 0 rfl rfl 4 (by decide) T181 rfl rfl dX7_take_12 ?_
  refine J_getN cx inC2 3 rfl rfl 1 (by decide) T80 rfl rfl dX7_take_15 ?_
  exact J_iret cx hr dX7_take_18 ⟨rfl, rfl⟩
set_option maxHeartbeats 4000000 in
set_option maxRecDepth 100000 in
theorem mX7_value (l : Launch) (X : GX) (z : Nat) (ht : Nat) (hw : Nat) (hrd : Nat) (gr : Nat) (gr2 : Nat) (hm3 : Nat) (gb2 : Nat) (s1 : Nat) (s2 : Nat) (er : Int) (a1 : Nat) (f1 : Int → Int) (ch1 : Int) (bl1 : Int) (n1 : Int) (i : Int) (hn : 0 ≤ n1 ∧ n1 ≤ 800) (hi0 : -2147483648 ≤ i ∧ i < 2147483648) : Ct l yX7_value cX7_value 2 (some .int) 1 21 0 0 X [.ref z, .int (iI i)] [(z, .inr (7, [.ref ht, .ref hw, .ref hrd, .ref gr, .ref gr2])), (hrd, .inr (5, [.ref hm3, .ref gb2, .ref s1, .ref s2, .int (iI er)])), (s1, .inr (4, [.ref a1, .int (iI ch1), .int (iI bl1), .int (iI n1)])), (a1, .inl (X.2.1, 800, .inl (aI f1)))] (fun1 (some (.int (iI (if i < 0 ∨ n1 ≤ i then -99999 else f1 i)))) [(z, .inr (7, [.ref ht, .ref hw, .ref hrd, .ref gr, .ref gr2])), (hrd, .inr (5, [.ref hm3, .ref gb2, .ref s1, .ref s2, .int (iI er)])), (s1, .inr (4, [.ref a1, .int (iI ch1), .int (iI bl1), .int (iI n1)])), (a1, .inl (X.2.1, 800, .inl (aI f1)))]) := by
  refine Ct_of (own := RX7) (lv := [(0, .ref z), (1, .int (iI i))]) (by decide +kernel) rfl (Nat.le_of_ble_eq_true rfl) rfl ?_
  intro p e s m args below meth c A cx hr hin
  refine J_iload_n cx dX7_value_0 rfl 1 rfl ?_
  refine J_if_lt (tgt := 32) cx dX7_value_1 (by decide) (by omega) (fun h_1 => ?_) (fun h_1 => ?_)
  · skip
    refine J_ldc cx T462 dX7_value_32 ?_
    refine J_top (b := (if i < 0 ∨ n1 ≤ i then -99999 else f1 i)) (by first | (rw [if_pos (by omega)]; done) | (rw [if_neg (by omega), smpA_in (by omega)]; done)) ?_
    exact J_iret cx hr dX7_value_34 ⟨rfl, rfl⟩
  · skip
    refine J_iload_n cx dX7_value_4 rfl 1 rfl ?_
    refine J_aload_n cx dX7_value_5 rfl 0 rfl ?_
    refine J_get cx inC7 0 rfl rfl 2 (by decide) T179 rfl rfl dX7_value_6 ?_
    refine J_getN cx inC5 1 rfl rfl 2 (by decide) T163 rfl rfl dX7_value_9 ?_
    refine J_getN cx inC4 2 rfl rfl 3 (by decide) T35 rfl rfl dX7_value_12 ?_
    refine J_icmp_ge (tgt := 32) cx dX7_value_15 (by decide) (by omega) (by omega) (fun h_15 => ?_) (fun h_15 => ?_)
    · skip
      refine J_ldc cx T462 dX7_value_32 ?_
      refine J_top (b := (if i < 0 ∨ n1 ≤ i then -99999 else f1 i)) (by first | (rw [if_pos (by omega)]; done) | (rw [if_neg (by omega), smpA_in (by omega)]; done)) ?_
      exact J_iret cx hr dX7_value_34 ⟨rfl, rfl⟩
    · skip
      refine J_aload_n cx dX7_value_18 rfl 0 rfl ?_
      refine J_get cx inC7 0 rfl rfl 2 (by decide) T179 rfl rfl dX7_value_19 ?_
      refine J_getN cx inC5 1 rfl rfl 2 (by decide) T163 rfl rfl dX7_value_22 ?_
      refine J_iload_n cx dX7_value_25 rfl 1 rfl ?_
      refine J_callV (C := RX4) (T := TX4) (N := 4) cx (As := [.int (iI i)]) (rest := []) (mX4_sampleAt l X s1 a1 f1 ch1 bl1 n1 i (by omega) (by omega)) T293 T461 T291 T292 T2 ⟨rfl, hd_X4_sampleAt⟩ rfl ⟨Nat.le_of_ble_eq_true rfl, Nat.le_of_ble_eq_true rfl⟩ (Nat.le_of_ble_eq_true rfl) ⟨Nat.le_of_ble_eq_true rfl, Nat.le_of_ble_eq_true rfl⟩ [2, 3] [0, 1] rfl rfl rfl rfl rfl (by decide) 2 rfl rfl dX7_value_26 rfl (J_f (ws' := [(z, .inr (7, [.ref ht, .ref hw, .ref hrd, .ref gr, .ref gr2])), (hrd, .inr (5, [.ref hm3, .ref gb2, .ref s1, .ref s2, .int (iI er)])), (s1, .inr (4, [.ref a1, .int (iI ch1), .int (iI bl1), .int (iI n1)])), (a1, .inl (X.2.1, 800, .inl (aI f1)))]) (st' := [.int (iI (smpA f1 n1 i))]) [0, 1, 2, 3] rfl rfl rfl rfl ?_)
      refine J_goto (tgt := 34) cx dX7_value_29 (by decide) ?_
      refine J_top (b := (if i < 0 ∨ n1 ≤ i then -99999 else f1 i)) (by first | (rw [if_pos (by omega)]; done) | (rw [if_neg (by omega), smpA_in (by omega)]; done)) ?_
      exact J_iret cx hr dX7_value_34 ⟨rfl, rfl⟩
set_option maxHeartbeats 4000000 in
set_option maxRecDepth 100000 in
theorem mX7_same (l : Launch) (X : GX) (z : Nat) (ht : Nat) (hw : Nat) (hrd : Nat) (gr : Nat) (gr2 : Nat) (at_ : Nat) (tf : Int → Int) (tch : Int) (tbl : Int) (tn : Int) (hm3 : Nat) (gb2 : Nat) (s1 : Nat) (s2 : Nat) (er : Int) (a1 : Nat) (f1 : Int → Int) (ch1 : Int) (bl1 : Int) (n1 : Int) (hc : 1 ≤ tch ∧ tch ≤ 2) (hn : 0 ≤ tn ∧ tn ≤ 800) (hn2 : 0 ≤ n1 ∧ n1 ≤ 800) (hc2 : 0 ≤ ch1 ∧ ch1 ≤ 2) (htf : ∀ j, -32768 ≤ tf j ∧ tf j ≤ 32767) (hf1 : ∀ j, -32768 ≤ f1 j ∧ f1 j ≤ 32767) : Ct l yX7_same cX7_same 1 (some .boolean) 3 62 0 0 X [.ref z] [(z, .inr (7, [.ref ht, .ref hw, .ref hrd, .ref gr, .ref gr2])), (ht, .inr (4, [.ref at_, .int (iI tch), .int (iI tbl), .int (iI tn)])), (at_, .inl (X.2.1, 800, .inl (aI tf))), (hrd, .inr (5, [.ref hm3, .ref gb2, .ref s1, .ref s2, .int (iI er)])), (s1, .inr (4, [.ref a1, .int (iI ch1), .int (iI bl1), .int (iI n1)])), (a1, .inl (X.2.1, 800, .inl (aI f1)))] (fun1 (some (.int (iI (sameV tf tch tn f1 ch1 n1)))) [(z, .inr (7, [.ref ht, .ref hw, .ref hrd, .ref gr, .ref gr2])), (ht, .inr (4, [.ref at_, .int (iI tch), .int (iI tbl), .int (iI tn)])), (at_, .inl (X.2.1, 800, .inl (aI tf))), (hrd, .inr (5, [.ref hm3, .ref gb2, .ref s1, .ref s2, .int (iI er)])), (s1, .inr (4, [.ref a1, .int (iI ch1), .int (iI bl1), .int (iI n1)])), (a1, .inl (X.2.1, 800, .inl (aI f1)))]) := by
  refine Ct_of (own := RX7) (lv := [(0, .ref z)]) (by decide +kernel) rfl (Nat.le_of_ble_eq_true rfl) rfl ?_
  intro p e s m args below meth c A cx hr hin
  refine J_aload_n cx dX7_same_0 rfl 0 rfl ?_
  refine J_get cx inC7 0 rfl rfl 0 (by decide) T177 rfl rfl dX7_same_1 ?_
  refine J_aload_n cx dX7_same_4 rfl 0 rfl ?_
  refine J_get cx inC7 0 rfl rfl 2 (by decide) T179 rfl rfl dX7_same_5 ?_
  refine J_getN cx inC5 3 rfl rfl 2 (by decide) T163 rfl rfl dX7_same_8 ?_
  refine J_callV (C := RX4) (T := TX4) (N := 4) cx (As := [.ref s1]) (rest := []) (mX4_hasSameWhole l X ht at_ tf tch tbl tn s1 a1 f1 ch1 bl1 n1 (by omega) (by omega) (by omega) (by omega) (htf) (hf1)) T470 T467 T468 T469 T2 ⟨rfl, hd_X4_hasSameWhole⟩ rfl ⟨Nat.le_of_ble_eq_true rfl, Nat.le_of_ble_eq_true rfl⟩ (Nat.le_of_ble_eq_true rfl) ⟨Nat.le_of_ble_eq_true rfl, Nat.le_of_ble_eq_true rfl⟩ [1, 2, 4, 5] [0, 3] rfl rfl rfl rfl rfl (by decide) 1 rfl rfl dX7_same_11 rfl (J_f (ws' := [(z, .inr (7, [.ref ht, .ref hw, .ref hrd, .ref gr, .ref gr2])), (ht, .inr (4, [.ref at_, .int (iI tch), .int (iI tbl), .int (iI tn)])), (at_, .inl (X.2.1, 800, .inl (aI tf))), (hrd, .inr (5, [.ref hm3, .ref gb2, .ref s1, .ref s2, .int (iI er)])), (s1, .inr (4, [.ref a1, .int (iI ch1), .int (iI bl1), .int (iI n1)])), (a1, .inl (X.2.1, 800, .inl (aI f1)))]) (st' := [.int (iI (sameV tf tch tn f1 ch1 n1))]) [0, 2, 3, 1, 4, 5] rfl rfl rfl rfl ?_)
  exact J_zret cx hr (sameV_01 _ _ _ _ _ _) dX7_same_14 ⟨rfl, rfl⟩
set_option maxHeartbeats 4000000 in
set_option maxRecDepth 100000 in
theorem mX7_count (l : Launch) (X : GX) (z : Nat) (ht : Nat) (hw : Nat) (hrd : Nat) (gr : Nat) (gr2 : Nat) (at_ : Nat) (tch : Int) (tbl : Int) (tn : Int) (ga : Nat) (n : Int) (ga2 : Nat) (n2 : Int) (hs : Nat) (hm2 : Nat) (gb : Nat) (af : Nat) (ak : Nat) (ar : Nat) (rc : Int) (bc : Int) (hm3 : Nat) (gb2 : Nat) (s1 : Nat) (s2 : Nat) (er : Int) (a1 : Nat) (ch1 : Int) (bl1 : Int) (n1 : Int) (wh : Int) (hwh : -2147483648 ≤ wh ∧ wh < 2147483648) : Ct l yX7_count cX7_count 2 (some .int) 0 0 0 0 X [.ref z, .int (iI wh)] [(z, .inr (7, [.ref ht, .ref hw, .ref hrd, .ref gr, .ref gr2])), (ht, .inr (4, [.ref at_, .int (iI tch), .int (iI tbl), .int (iI tn)])), (gr, .inr (2, [.ref ga, .int (iI n)])), (hw, .inr (6, [.ref hs, .ref hm2, .ref gb, .ref af, .ref ak, .ref ar, .int (iI rc), .int (iI bc)])), (gr2, .inr (2, [.ref ga2, .int (iI n2)])), (hrd, .inr (5, [.ref hm3, .ref gb2, .ref s1, .ref s2, .int (iI er)])), (s1, .inr (4, [.ref a1, .int (iI ch1), .int (iI bl1), .int (iI n1)]))] (fun1 (some (.int (iI (cntV tn n bc n2 n1 ch1 wh)))) [(z, .inr (7, [.ref ht, .ref hw, .ref hrd, .ref gr, .ref gr2])), (ht, .inr (4, [.ref at_, .int (iI tch), .int (iI tbl), .int (iI tn)])), (gr, .inr (2, [.ref ga, .int (iI n)])), (hw, .inr (6, [.ref hs, .ref hm2, .ref gb, .ref af, .ref ak, .ref ar, .int (iI rc), .int (iI bc)])), (gr2, .inr (2, [.ref ga2, .int (iI n2)])), (hrd, .inr (5, [.ref hm3, .ref gb2, .ref s1, .ref s2, .int (iI er)])), (s1, .inr (4, [.ref a1, .int (iI ch1), .int (iI bl1), .int (iI n1)]))]) := by
  refine Ct_of (own := RX7) (lv := [(0, .ref z), (1, .int (iI wh))]) (by decide +kernel) rfl (Nat.le_of_ble_eq_true rfl) rfl ?_
  intro p e s m args below meth c A cx hr hin
  refine J_iload_n cx dX7_count_0 rfl 1 rfl ?_
  have hsw_1 : wh = 0 ∨ wh = 1 ∨ wh = 2 ∨ wh = 3 ∨ wh = 4 ∨ wh = 5 ∨ (wh < 0 ∨ 5 < wh) := by omega
  rcases hsw_1 with h_1 | h_1 | h_1 | h_1 | h_1 | h_1 | h_1
  · skip
    refine J_tin (k := 0) (tgt := 40) cx dX7_count_1 (by omega) h_1 rfl (by decide) (by decide) (by decide) ?_
    refine J_aload_n cx dX7_count_40 rfl 0 rfl ?_
    refine J_get cx inC7 0 rfl rfl 0 (by decide) T177 rfl rfl dX7_count_41 ?_
    refine J_getN cx inC4 1 rfl rfl 3 (by decide) T35 rfl rfl dX7_count_44 ?_
    refine J_top (b := (cntV tn n bc n2 n1 ch1 wh)) (by unfold cntV; rw [if_pos h_1]) ?_
    exact J_iret cx hr dX7_count_47 ⟨rfl, rfl⟩
  · skip
    refine J_tin (k := 1) (tgt := 48) cx dX7_count_1 (by omega) h_1 rfl (by decide) (by decide) (by decide) ?_
    refine J_aload_n cx dX7_count_48 rfl 0 rfl ?_
    refine J_get cx inC7 0 rfl rfl 3 (by decide) T180 rfl rfl dX7_count_49 ?_
    refine J_getN cx inC2 2 rfl rfl 1 (by decide) T80 rfl rfl dX7_count_52 ?_
    refine J_top (b := (cntV tn n bc n2 n1 ch1 wh)) (by unfold cntV; rw [if_neg (by omega), if_pos h_1]) ?_
    exact J_iret cx hr dX7_count_55 ⟨rfl, rfl⟩
  · skip
    refine J_tin (k := 2) (tgt := 56) cx dX7_count_1 (by omega) h_1 rfl (by decide) (by decide) (by decide) ?_
    refine J_aload_n cx dX7_count_56 rfl 0 rfl ?_
    refine J_get cx inC7 0 rfl rfl 1 (by decide) T178 rfl rfl dX7_count_57 ?_
    refine J_getN cx inC6 3 rfl rfl 7 (by decide) T110 rfl rfl dX7_count_60 ?_
    refine J_top (b := (cntV tn n bc n2 n1 ch1 wh)) (by unfold cntV; rw [if_neg (by omega), if_neg (by omega), if_pos h_1]) ?_
    exact J_iret cx hr dX7_count_63 ⟨rfl, rfl⟩
  · skip
    refine J_tin (k := 3) (tgt := 64) cx dX7_count_1 (by omega) h_1 rfl (by decide) (by decide) (by decide) ?_
    refine J_aload_n cx dX7_count_64 rfl 0 rfl ?_
    refine J_get cx inC7 0 rfl rfl 4 (by decide) T181 rfl rfl dX7_count_65 ?_
    refine J_getN cx inC2 4 rfl rfl 1 (by decide) T80 rfl rfl dX7_count_68 ?_
    refine J_top (b := (cntV tn n bc n2 n1 ch1 wh)) (by unfold cntV; rw [if_neg (by omega), if_neg (by omega), if_neg (by omega), if_pos h_1]) ?_
    exact J_iret cx hr dX7_count_71 ⟨rfl, rfl⟩
  · skip
    refine J_tin (k := 4) (tgt := 72) cx dX7_count_1 (by omega) h_1 rfl (by decide) (by decide) (by decide) ?_
    refine J_aload_n cx dX7_count_72 rfl 0 rfl ?_
    refine J_get cx inC7 0 rfl rfl 2 (by decide) T179 rfl rfl dX7_count_73 ?_
    refine J_getN cx inC5 5 rfl rfl 2 (by decide) T163 rfl rfl dX7_count_76 ?_
    refine J_getN cx inC4 6 rfl rfl 3 (by decide) T35 rfl rfl dX7_count_79 ?_
    refine J_top (b := (cntV tn n bc n2 n1 ch1 wh)) (by unfold cntV; rw [if_neg (by omega), if_neg (by omega), if_neg (by omega), if_neg (by omega), if_pos h_1]) ?_
    exact J_iret cx hr dX7_count_82 ⟨rfl, rfl⟩
  · skip
    refine J_tin (k := 5) (tgt := 83) cx dX7_count_1 (by omega) h_1 rfl (by decide) (by decide) (by decide) ?_
    refine J_aload_n cx dX7_count_83 rfl 0 rfl ?_
    refine J_get cx inC7 0 rfl rfl 2 (by decide) T179 rfl rfl dX7_count_84 ?_
    refine J_getN cx inC5 5 rfl rfl 2 (by decide) T163 rfl rfl dX7_count_87 ?_
    refine J_getN cx inC4 6 rfl rfl 1 (by decide) T31 rfl rfl dX7_count_90 ?_
    refine J_top (b := (cntV tn n bc n2 n1 ch1 wh)) (by unfold cntV; rw [if_neg (by omega), if_neg (by omega), if_neg (by omega), if_neg (by omega), if_neg (by omega), if_pos h_1]) ?_
    exact J_iret cx hr dX7_count_93 ⟨rfl, rfl⟩
  · skip
    refine J_tout (tgt := 94) cx dX7_count_1 (by omega) h_1 (by decide) ?_
    refine J_iconst cx dX7_count_94 ?_
    refine J_top (b := (cntV tn n bc n2 n1 ch1 wh)) (by unfold cntV; rw [if_neg (by omega), if_neg (by omega), if_neg (by omega), if_neg (by omega), if_neg (by omega), if_neg (by omega)]) ?_
    exact J_iret cx hr dX7_count_95 ⟨rfl, rfl⟩
set_option maxHeartbeats 4000000 in
set_option maxRecDepth 100000 in
theorem mX7_write (l : Launch) (X : GX) (z : Nat) (ht : Nat) (hw : Nat) (hrd : Nat) (gr : Nat) (gr2 : Nat) (hs : Nat) (hm2 : Nat) (gb : Nat) (af : Nat) (ak : Nat) (ar : Nat) (rc : Int) (bc : Int) (as_ : Nat) (f : Int → Int) (ch : Int) (bl : Int) (n : Int) (am : Nat) (mf : Int → Int) (rs : Int → Int) (ff : Int → Int) (kk : Int → Int) (ga : Nat) (o : Int → Int) (pe : Int) (pb : Int) (bn : Int) (at_ : Nat) (tf : Int → Int) (tch : Int) (tbl : Int) (tn : Int) (w : Int → Int) (hc : 1 ≤ tch ∧ tch ≤ 2) (hb : 1 ≤ tbl ∧ tbl ≤ 64) (hn : 0 ≤ tn ∧ tn ≤ 400 * tch) (hf : ∀ j, -32768 ≤ f j ∧ f j ≤ 32767) (htf : ∀ j, -32768 ≤ tf j ∧ tf j ≤ 32767) (hm : ∀ j, -32768 ≤ mf j ∧ mf j ≤ 32767) : Ct l yX7_write cX7_write 1 (some .int) 6 141 0 0 X [.ref z] [(z, .inr (7, [.ref ht, .ref hw, .ref hrd, .ref gr, .ref gr2])), (hw, .inr (6, [.ref hs, .ref hm2, .ref gb, .ref af, .ref ak, .ref ar, .int (iI rc), .int (iI bc)])), (hs, .inr (4, [.ref as_, .int (iI ch), .int (iI bl), .int (iI n)])), (as_, .inl (X.2.1, 800, .inl (aI f))), (hm2, .inr (3, [.ref am])), (am, .inl (X.2.1, 800, .inl (aI mf))), (af, .inl (X.2.1, 800, .inl (aI ff))), (ak, .inl (X.2.1, 800, .inl (aI kk))), (ar, .inl (X.2.1, 64, .inl (aI rs))), (gb, .inr (1, [.ref gr, .int (iI pe), .int (iI pb)])), (gr, .inr (2, [.ref ga, .int (iI bn)])), (ga, .inl (X.2.2, 3000, .inl (aI o))), (ht, .inr (4, [.ref at_, .int (iI tch), .int (iI tbl), .int (iI tn)])), (at_, .inl (X.2.1, 800, .inl (aI tf)))] (fun v u => ∃ (r' : Int → Int) (rc' : Int), v = some (.int (iI ((pwrite (cpyI tf f (tn / tch * tch)) tch tbl ((tn / tch * tch) / tch) w).2 / 8))) ∧ u = [(z, .inr (7, [.ref ht, .ref hw, .ref hrd, .ref gr, .ref gr2])), (hw, .inr (6, [.ref hs, .ref hm2, .ref gb, .ref af, .ref ak, .ref ar, .int (iI rc'), .int (iI (nblk tch tbl ((tn / tch * tch) / tch)))])), (hs, .inr (4, [.ref as_, .int (iI tch), .int (iI tbl), .int (iI (tn / tch * tch))])), (as_, .inl (X.2.1, 800, .inl (aI (cpyI tf f (tn / tch * tch))))), (hm2, .inr (3, [.ref am])), (am, .inl (X.2.1, 800, .inl (aI (ovr (bmean (cpyI tf f (tn / tch * tch)) tch tbl ((tn / tch * tch) / tch)) mf (nblk tch tbl ((tn / tch * tch) / tch)))))), (af, .inl (X.2.1, 800, .inl (aI (ovr (cF (cpyI tf f (tn / tch * tch)) tch tbl ((tn / tch * tch) / tch)) ff (nblk tch tbl ((tn / tch * tch) / tch)))))), (ak, .inl (X.2.1, 800, .inl (aI (ovr (cK (cpyI tf f (tn / tch * tch)) tch tbl ((tn / tch * tch) / tch)) kk (nblk tch tbl ((tn / tch * tch) / tch)))))), (ar, .inl (X.2.1, 64, .inl (aI r'))), (gb, .inr (1, [.ref gr, .int (iI (pk (pwrite (cpyI tf f (tn / tch * tch)) tch tbl ((tn / tch * tch) / tch) w).1 (8 * ((pwrite (cpyI tf f (tn / tch * tch)) tch tbl ((tn / tch * tch) / tch) w).2 / 8)) ((pwrite (cpyI tf f (tn / tch * tch)) tch tbl ((tn / tch * tch) / tch) w).2 % 8))), .int (iI ((pwrite (cpyI tf f (tn / tch * tch)) tch tbl ((tn / tch * tch) / tch) w).2 % 8))])), (gr, .inr (2, [.ref ga, .int (iI ((pwrite (cpyI tf f (tn / tch * tch)) tch tbl ((tn / tch * tch) / tch) w).2 / 8))])), (ga, .inl (X.2.2, 3000, .inl (aI (rowOf o (pwrite (cpyI tf f (tn / tch * tch)) tch tbl ((tn / tch * tch) / tch) w).1 (pwrite (cpyI tf f (tn / tch * tch)) tch tbl ((tn / tch * tch) / tch) w).2)))), (ht, .inr (4, [.ref at_, .int (iI tch), .int (iI tbl), .int (iI tn)])), (at_, .inl (X.2.1, 800, .inl (aI tf)))]) := by
  refine Ct_of (own := RX7) (lv := [(0, .ref z)]) (by decide +kernel) rfl (Nat.le_of_ble_eq_true rfl) rfl ?_
  intro p e s m args below meth c A cx hr hin
  refine J_aload_n cx dX7_write_0 rfl 0 rfl ?_
  refine J_get cx inC7 0 rfl rfl 1 (by decide) T178 rfl rfl dX7_write_1 ?_
  refine J_aload_n cx dX7_write_4 rfl 0 rfl ?_
  refine J_get cx inC7 0 rfl rfl 0 (by decide) T177 rfl rfl dX7_write_5 ?_
  refine J_callV (C := RX6) (T := TX6) (N := 8) cx (As := [.ref ht]) (rest := []) (mX6_compose l X hw hs hm2 gb af ak ar rc bc as_ f ch bl n am mf rs ff kk gr ga o pe pb bn ht at_ tf tch tbl tn w (by omega) (by omega) (by omega) (hf) (htf) (hm)) T219 T216 T217 T218 T3 ⟨rfl, hd_X6_compose⟩ rfl ⟨Nat.le_of_ble_eq_true rfl, Nat.le_of_ble_eq_true rfl⟩ (Nat.le_of_ble_eq_true rfl) ⟨Nat.le_of_ble_eq_true rfl, Nat.le_of_ble_eq_true rfl⟩ [1, 2, 3, 4, 5, 6, 7, 8, 9, 10, 11, 12, 13] [0] rfl rfl rfl rfl rfl (by decide) 1 rfl rfl dX7_write_8 rfl ?_
  intro v_8 u_8 hp_8
  obtain ⟨r'_8, rc'_8, rfl, rfl⟩ := hp_8
  refine J_sub (ws' := [(z, .inr (7, [.ref ht, .ref hw, .ref hrd, .ref gr, .ref gr2])), (hw, .inr (6, [.ref hs, .ref hm2, .ref gb, .ref af, .ref ak, .ref ar, .int (iI rc'_8), .int (iI (nblk tch tbl ((tn / tch * tch) / tch)))])), (hs, .inr (4, [.ref as_, .int (iI tch), .int (iI tbl), .int (iI (tn / tch * tch))])), (as_, .inl (X.2.1, 800, .inl (aI (cpyI tf f (tn / tch * tch))))), (hm2, .inr (3, [.ref am])), (am, .inl (X.2.1, 800, .inl (aI (ovr (bmean (cpyI tf f (tn / tch * tch)) tch tbl ((tn / tch * tch) / tch)) mf (nblk tch tbl ((tn / tch * tch) / tch)))))), (af, .inl (X.2.1, 800, .inl (aI (ovr (cF (cpyI tf f (tn / tch * tch)) tch tbl ((tn / tch * tch) / tch)) ff (nblk tch tbl ((tn / tch * tch) / tch)))))), (ak, .inl (X.2.1, 800, .inl (aI (ovr (cK (cpyI tf f (tn / tch * tch)) tch tbl ((tn / tch * tch) / tch)) kk (nblk tch tbl ((tn / tch * tch) / tch)))))), (ar, .inl (X.2.1, 64, .inl (aI r'_8))), (gb, .inr (1, [.ref gr, .int (iI (pk (pwrite (cpyI tf f (tn / tch * tch)) tch tbl ((tn / tch * tch) / tch) w).1 (8 * ((pwrite (cpyI tf f (tn / tch * tch)) tch tbl ((tn / tch * tch) / tch) w).2 / 8)) ((pwrite (cpyI tf f (tn / tch * tch)) tch tbl ((tn / tch * tch) / tch) w).2 % 8))), .int (iI ((pwrite (cpyI tf f (tn / tch * tch)) tch tbl ((tn / tch * tch) / tch) w).2 % 8))])), (gr, .inr (2, [.ref ga, .int (iI ((pwrite (cpyI tf f (tn / tch * tch)) tch tbl ((tn / tch * tch) / tch) w).2 / 8))])), (ga, .inl (X.2.2, 3000, .inl (aI (rowOf o (pwrite (cpyI tf f (tn / tch * tch)) tch tbl ((tn / tch * tch) / tch) w).1 (pwrite (cpyI tf f (tn / tch * tch)) tch tbl ((tn / tch * tch) / tch) w).2)))), (ht, .inr (4, [.ref at_, .int (iI tch), .int (iI tbl), .int (iI tn)])), (at_, .inl (X.2.1, 800, .inl (aI tf)))]) [0, 1, 2, 3, 4, 5, 6, 7, 8, 9, 10, 11, 12, 13] rfl rfl rfl ?_
  refine J_eq (pc' := 11) (st' := []) rfl rfl ?_
  refine J_aload_n cx dX7_write_11 rfl 0 rfl ?_
  refine J_get cx inC7 0 rfl rfl 3 (by decide) T180 rfl rfl dX7_write_12 ?_
  refine J_getN cx inC2 10 rfl rfl 1 (by decide) T80 rfl rfl dX7_write_15 ?_
  exact J_iret cx hr dX7_write_18 (⟨_, _, rfl, rfl⟩)
set_option maxHeartbeats 4000000 in
set_option maxRecDepth 100000 in
theorem mX7_block (l : Launch) (X : GX) (z : Nat) (ht : Nat) (hw : Nat) (hrd : Nat) (gr : Nat) (gr2 : Nat) (hs : Nat) (hm2 : Nat) (gb : Nat) (af : Nat) (ak : Nat) (ar : Nat) (rc : Int) (bc : Int) (as_ : Nat) (f : Int → Int) (ch : Int) (bl : Int) (n : Int) (am : Nat) (mf : Int → Int) (rs : Int → Int) (ff : Int → Int) (kk : Int → Int) (i : Int) (wh : Int) (hc : 1 ≤ ch ∧ ch ≤ 2) (hn : 0 ≤ n ∧ n ≤ 800) (hb : 1 ≤ bl ∧ bl ≤ 64) (hf : ∀ j, -32768 ≤ f j ∧ f j ≤ 32767) (hm : ∀ j, -32768 ≤ mf j ∧ mf j ≤ 32767) (hbc : 0 ≤ bc ∧ bc ≤ 800) (hblk : ∀ i, 0 ≤ i → i < bc → 0 ≤ i / ch * bl ∧ i / ch * bl < n / ch) (hcho : ∀ i, 0 ≤ i → i < bc → (ff i = 4) ∨ ((0 ≤ ff i ∧ ff i ≤ 3) ∧ (0 ≤ kk i ∧ kk i ≤ 15))) (hi0 : -2147483648 ≤ i ∧ i < 2147483648) (hwh : -2147483648 ≤ wh ∧ wh < 2147483648) : Ct l yX7_block cX7_block 3 (some .int) 6 137 0 0 X [.ref z, .int (iI i), .int (iI wh)] [(z, .inr (7, [.ref ht, .ref hw, .ref hrd, .ref gr, .ref gr2])), (hw, .inr (6, [.ref hs, .ref hm2, .ref gb, .ref af, .ref ak, .ref ar, .int (iI rc), .int (iI bc)])), (hs, .inr (4, [.ref as_, .int (iI ch), .int (iI bl), .int (iI n)])), (as_, .inl (X.2.1, 800, .inl (aI f))), (hm2, .inr (3, [.ref am])), (am, .inl (X.2.1, 800, .inl (aI mf))), (af, .inl (X.2.1, 800, .inl (aI ff))), (ak, .inl (X.2.1, 800, .inl (aI kk))), (ar, .inl (X.2.1, 64, .inl (aI rs)))] (fun v u => ∃ (r' : Int → Int) (rc' : Int), v = some (.int (iI (blkV f ch bl (n / ch) mf bc ff kk i wh))) ∧ u = [(z, .inr (7, [.ref ht, .ref hw, .ref hrd, .ref gr, .ref gr2])), (hw, .inr (6, [.ref hs, .ref hm2, .ref gb, .ref af, .ref ak, .ref ar, .int (iI rc'), .int (iI bc)])), (hs, .inr (4, [.ref as_, .int (iI ch), .int (iI bl), .int (iI n)])), (as_, .inl (X.2.1, 800, .inl (aI f))), (hm2, .inr (3, [.ref am])), (am, .inl (X.2.1, 800, .inl (aI mf))), (af, .inl (X.2.1, 800, .inl (aI ff))), (ak, .inl (X.2.1, 800, .inl (aI kk))), (ar, .inl (X.2.1, 64, .inl (aI r')))]) := by
  refine Ct_of (own := RX7) (lv := [(0, .ref z), (1, .int (iI i)), (2, .int (iI wh))]) (by decide +kernel) rfl (Nat.le_of_ble_eq_true rfl) rfl ?_
  intro p e s m args below meth c A cx hr hin
  refine J_iload_n cx dX7_block_0 rfl 1 rfl ?_
  refine J_if_lt (tgt := 15) cx dX7_block_1 (by decide) (by omega) (fun h_1 => ?_) (fun h_1 => ?_)
  · skip
    refine J_iconst cx dX7_block_15 ?_
    exact J_iret cx hr dX7_block_16 (by unfold blkV; rw [if_pos (by omega)]; exact ⟨_, _, rfl, rfl⟩)
  · skip
    refine J_iload_n cx dX7_block_4 rfl 1 rfl ?_
    refine J_aload_n cx dX7_block_5 rfl 0 rfl ?_
    refine J_get cx inC7 0 rfl rfl 1 (by decide) T178 rfl rfl dX7_block_6 ?_
    refine J_getN cx inC6 1 rfl rfl 7 (by decide) T110 rfl rfl dX7_block_9 ?_
    refine J_icmp_lt (tgt := 17) cx dX7_block_12 (by decide) (by omega) (by omega) (fun h_12 => ?_) (fun h_12 => ?_)
    · skip
      have hib := hblk i (by omega) (by omega)
      have hch1 := hcho i (by omega) (by omega)
      refine J_iload_n cx dX7_block_17 rfl 2 rfl ?_
      have hsw_18 : wh = 0 ∨ wh = 1 ∨ wh = 2 ∨ wh = 3 ∨ (wh < 0 ∨ 3 < wh) := by omega
      rcases hsw_18 with h_18 | h_18 | h_18 | h_18 | h_18
      · skip
        refine J_tin (k := 0) (tgt := 48) cx dX7_block_18 (by omega) h_18 rfl (by decide) (by decide) (by decide) ?_
        refine J_aload_n cx dX7_block_48 rfl 0 rfl ?_
        refine J_get cx inC7 0 rfl rfl 1 (by decide) T178 rfl rfl dX7_block_49 ?_
        refine J_getN cx inC6 1 rfl rfl 0 (by decide) T99 rfl rfl dX7_block_52 ?_
        refine J_iload_n cx dX7_block_55 rfl 1 rfl ?_
        refine J_callV (C := RX4) (T := TX4) (N := 4) cx (As := [.int (iI i)]) (rest := []) (mX4_channelOf l X hs as_ f ch bl n i (by omega) (by omega)) T289 T355 T287 T288 T2 ⟨rfl, hd_X4_channelOf⟩ rfl ⟨Nat.le_of_ble_eq_true rfl, Nat.le_of_ble_eq_true rfl⟩ (Nat.le_of_ble_eq_true rfl) ⟨Nat.le_of_ble_eq_true rfl, Nat.le_of_ble_eq_true rfl⟩ [2, 3] [0, 1, 4, 5, 6, 7, 8] rfl rfl rfl rfl rfl (by decide) 2 rfl rfl dX7_block_56 rfl (J_f (ws' := [(z, .inr (7, [.ref ht, .ref hw, .ref hrd, .ref gr, .ref gr2])), (hw, .inr (6, [.ref hs, .ref hm2, .ref gb, .ref af, .ref ak, .ref ar, .int (iI rc), .int (iI bc)])), (hs, .inr (4, [.ref as_, .int (iI ch), .int (iI bl), .int (iI n)])), (as_, .inl (X.2.1, 800, .inl (aI f))), (hm2, .inr (3, [.ref am])), (am, .inl (X.2.1, 800, .inl (aI mf))), (af, .inl (X.2.1, 800, .inl (aI ff))), (ak, .inl (X.2.1, 800, .inl (aI kk))), (ar, .inl (X.2.1, 64, .inl (aI rs)))]) (st' := [.int (iI (i % ch))]) [0, 1, 7, 8, 2, 3, 4, 5, 6] rfl rfl rfl rfl ?_)
        exact J_iret cx hr dX7_block_59 (by unfold blkV; rw [if_neg (by omega), if_pos h_18]; exact ⟨_, _, rfl, rfl⟩)
      · skip
        refine J_tin (k := 1) (tgt := 60) cx dX7_block_18 (by omega) h_18 rfl (by decide) (by decide) (by decide) ?_
        refine J_aload_n cx dX7_block_60 rfl 0 rfl ?_
        refine J_get cx inC7 0 rfl rfl 1 (by decide) T178 rfl rfl dX7_block_61 ?_
        refine J_getN cx inC6 1 rfl rfl 3 (by decide) T104 rfl rfl dX7_block_64 ?_
        refine J_iload_n cx dX7_block_67 rfl 1 rfl ?_
        refine J_iald cx 6 rfl (by omega) (by decide) dX7_block_68 ?_
        exact J_iret cx hr dX7_block_69 (by unfold blkV; rw [if_neg (by omega), if_neg (by omega), if_pos h_18]; exact ⟨_, _, rfl, rfl⟩)
      · skip
        refine J_tin (k := 2) (tgt := 70) cx dX7_block_18 (by omega) h_18 rfl (by decide) (by decide) (by decide) ?_
        refine J_aload_n cx dX7_block_70 rfl 0 rfl ?_
        refine J_get cx inC7 0 rfl rfl 1 (by decide) T178 rfl rfl dX7_block_71 ?_
        refine J_getN cx inC6 1 rfl rfl 4 (by decide) T106 rfl rfl dX7_block_74 ?_
        refine J_iload_n cx dX7_block_77 rfl 1 rfl ?_
        refine J_iald cx 7 rfl (by omega) (by decide) dX7_block_78 ?_
        exact J_iret cx hr dX7_block_79 (by unfold blkV; rw [if_neg (by omega), if_neg (by omega), if_neg (by omega), if_pos h_18]; exact ⟨_, _, rfl, rfl⟩)
      · skip
        refine J_tin (k := 3) (tgt := 80) cx dX7_block_18 (by omega) h_18 rfl (by decide) (by decide) (by decide) ?_
        refine J_aload_n cx dX7_block_80 rfl 0 rfl ?_
        refine J_get cx inC7 0 rfl rfl 1 (by decide) T178 rfl rfl dX7_block_81 ?_
        refine J_iload_n cx dX7_block_84 rfl 1 rfl ?_
        refine J_callV (C := RX6) (T := TX6) (N := 8) cx (As := [.int (iI i)]) (rest := []) (mX6_bitsTaken l X hw hs hm2 gb af ak ar rc bc as_ f ch bl n am mf rs ff kk i (by omega) (by omega) (by omega) (by omega) (by omega) (hf) (hm) (hch1)) T359 T356 T357 T358 T3 ⟨rfl, hd_X6_bitsTaken⟩ rfl ⟨Nat.le_of_ble_eq_true rfl, Nat.le_of_ble_eq_true rfl⟩ (Nat.le_of_ble_eq_true rfl) ⟨Nat.le_of_ble_eq_true rfl, Nat.le_of_ble_eq_true rfl⟩ [1, 2, 3, 4, 5, 6, 7, 8] [0] rfl rfl rfl rfl rfl (by decide) 1 rfl rfl dX7_block_85 rfl (J_f (ws' := [(z, .inr (7, [.ref ht, .ref hw, .ref hrd, .ref gr, .ref gr2])), (hw, .inr (6, [.ref hs, .ref hm2, .ref gb, .ref af, .ref ak, .ref ar, .int (iI (if ff i = 4 then rc else bsize ch bl (n / ch) i)), .int (iI bc)])), (hs, .inr (4, [.ref as_, .int (iI ch), .int (iI bl), .int (iI n)])), (as_, .inl (X.2.1, 800, .inl (aI f))), (hm2, .inr (3, [.ref am])), (am, .inl (X.2.1, 800, .inl (aI mf))), (af, .inl (X.2.1, 800, .inl (aI ff))), (ak, .inl (X.2.1, 800, .inl (aI kk))), (ar, .inl (X.2.1, 64, .inl (aI (if ff i = 4 then rs else rests rs f ch (ff i) (bfirst ch bl i) (mahead mf ch i) (bsize ch bl (n / ch) i)))))]) (st' := [.int (iI (if ff i = 4 then 4 else cost f ch bl (n / ch) (mahead mf ch i) i (ff i) (kk i)))]) [0, 1, 2, 3, 4, 5, 6, 7, 8] rfl rfl rfl rfl ?_)
        exact J_iret cx hr dX7_block_88 (by rw [blkV_3 (by omega) h_18]; exact ⟨_, _, rfl, rfl⟩)
      · skip
        refine J_tout (tgt := 89) cx dX7_block_18 (by omega) h_18 (by decide) ?_
        refine J_iconst cx dX7_block_89 ?_
        exact J_iret cx hr dX7_block_90 (by unfold blkV; rw [if_neg (by omega), if_neg (by omega), if_neg (by omega), if_neg (by omega), if_neg (by omega)]; exact ⟨_, _, rfl, rfl⟩)
    · skip
      refine J_iconst cx dX7_block_15 ?_
      exact J_iret cx hr dX7_block_16 (by unfold blkV; rw [if_pos (by omega)]; exact ⟨_, _, rfl, rfl⟩)
set_option maxHeartbeats 4000000 in
set_option maxRecDepth 100000 in
theorem mX7_cost (l : Launch) (X : GX) (z : Nat) (ht : Nat) (hw : Nat) (hrd : Nat) (gr : Nat) (gr2 : Nat) (hs : Nat) (hm2 : Nat) (gb : Nat) (af : Nat) (ak : Nat) (ar : Nat) (rc : Int) (bc : Int) (as_ : Nat) (f : Int → Int) (ch : Int) (bl : Int) (n : Int) (am : Nat) (mf : Int → Int) (rs : Int → Int) (ff : Int → Int) (kk : Int → Int) (i : Int) (fn : Int) (k : Int) (hc : 1 ≤ ch ∧ ch ≤ 2) (hn : 0 ≤ n ∧ n ≤ 800) (hb : 1 ≤ bl ∧ bl ≤ 64) (hf : ∀ j, -32768 ≤ f j ∧ f j ≤ 32767) (hm : ∀ j, -32768 ≤ mf j ∧ mf j ≤ 32767) (hbc : 0 ≤ bc ∧ bc ≤ 800) (hblk : ∀ i, 0 ≤ i → i < bc → 0 ≤ i / ch * bl ∧ i / ch * bl < n / ch) (hcho : ∀ i, 0 ≤ i → i < bc → (ff i = 4) ∨ ((0 ≤ ff i ∧ ff i ≤ 3) ∧ (0 ≤ kk i ∧ kk i ≤ 15))) (hi0 : -2147483648 ≤ i ∧ i < 2147483648) (hfn0 : -2147483648 ≤ fn ∧ fn < 2147483648) (hk0 : -2147483648 ≤ k ∧ k < 2147483648) : Ct l yX7_cost cX7_cost 5 (some .int) 5 116 0 0 X [.ref z, .int (iI i), .int (iI fn), .int (iI k)] [(z, .inr (7, [.ref ht, .ref hw, .ref hrd, .ref gr, .ref gr2])), (hw, .inr (6, [.ref hs, .ref hm2, .ref gb, .ref af, .ref ak, .ref ar, .int (iI rc), .int (iI bc)])), (hs, .inr (4, [.ref as_, .int (iI ch), .int (iI bl), .int (iI n)])), (as_, .inl (X.2.1, 800, .inl (aI f))), (hm2, .inr (3, [.ref am])), (am, .inl (X.2.1, 800, .inl (aI mf))), (af, .inl (X.2.1, 800, .inl (aI ff))), (ak, .inl (X.2.1, 800, .inl (aI kk))), (ar, .inl (X.2.1, 64, .inl (aI rs)))] (fun v u => ∃ (r' : Int → Int) (rc' : Int), v = some (.int (iI (cosV f ch bl (n / ch) mf bc i fn k))) ∧ u = [(z, .inr (7, [.ref ht, .ref hw, .ref hrd, .ref gr, .ref gr2])), (hw, .inr (6, [.ref hs, .ref hm2, .ref gb, .ref af, .ref ak, .ref ar, .int (iI rc'), .int (iI bc)])), (hs, .inr (4, [.ref as_, .int (iI ch), .int (iI bl), .int (iI n)])), (as_, .inl (X.2.1, 800, .inl (aI f))), (hm2, .inr (3, [.ref am])), (am, .inl (X.2.1, 800, .inl (aI mf))), (af, .inl (X.2.1, 800, .inl (aI ff))), (ak, .inl (X.2.1, 800, .inl (aI kk))), (ar, .inl (X.2.1, 64, .inl (aI r')))]) := by
  refine Ct_of (own := RX7) (lv := [(0, .ref z), (1, .int (iI i)), (2, .int (iI fn)), (3, .int (iI k))]) (by decide +kernel) rfl (Nat.le_of_ble_eq_true rfl) rfl ?_
  intro p e s m args below meth c A cx hr hin
  refine J_iload_n cx dX7_cost_0 rfl 1 rfl ?_
  refine J_if_lt (tgt := 19) cx dX7_cost_1 (by decide) (by omega) (fun h_1 => ?_) (fun h_1 => ?_)
  · skip
    refine J_iconst cx dX7_cost_19 ?_
    refine J_istore (lv' := [(4, .int (iI 0)), (0, .ref z), (1, .int (iI i)), (2, .int (iI fn)), (3, .int (iI k))]) cx dX7_cost_20 (by decide) rfl ?_
    refine J_iload cx dX7_cost_22 0 rfl ?_
    refine J_if_eq (tgt := 46) cx dX7_cost_24 (by decide) (by decide) (fun h_24 => ?_) (fun h_24 => ?_)
    rotate_left
    · exact absurd h_24 (by decide)
    refine J_iconst cx dX7_cost_46 ?_
    exact J_iret cx hr dX7_cost_47 (by unfold cosV; rw [if_pos (by omega)]; exact ⟨_, _, rfl, rfl⟩)
  · skip
    refine J_iload_n cx dX7_cost_4 rfl 1 rfl ?_
    refine J_aload_n cx dX7_cost_5 rfl 0 rfl ?_
    refine J_get cx inC7 0 rfl rfl 1 (by decide) T178 rfl rfl dX7_cost_6 ?_
    refine J_getN cx inC6 1 rfl rfl 7 (by decide) T110 rfl rfl dX7_cost_9 ?_
    refine J_icmp_ge (tgt := 19) cx dX7_cost_12 (by decide) (by omega) (by omega) (fun h_12 => ?_) (fun h_12 => ?_)
    · skip
      refine J_iconst cx dX7_cost_19 ?_
      refine J_istore (lv' := [(4, .int (iI 0)), (0, .ref z), (1, .int (iI i)), (2, .int (iI fn)), (3, .int (iI k))]) cx dX7_cost_20 (by decide) rfl ?_
      refine J_iload cx dX7_cost_22 0 rfl ?_
      refine J_if_eq (tgt := 46) cx dX7_cost_24 (by decide) (by decide) (fun h_24 => ?_) (fun h_24 => ?_)
      rotate_left
      · exact absurd h_24 (by decide)
      refine J_iconst cx dX7_cost_46 ?_
      exact J_iret cx hr dX7_cost_47 (by unfold cosV; rw [if_pos (by omega)]; exact ⟨_, _, rfl, rfl⟩)
    · skip
      refine J_iconst cx dX7_cost_15 ?_
      refine J_goto (tgt := 20) cx dX7_cost_16 (by decide) ?_
      refine J_istore (lv' := [(4, .int (iI 1)), (0, .ref z), (1, .int (iI i)), (2, .int (iI fn)), (3, .int (iI k))]) cx dX7_cost_20 (by decide) rfl ?_
      refine J_iload cx dX7_cost_22 0 rfl ?_
      refine J_if_eq (tgt := 46) cx dX7_cost_24 (by decide) (by decide) (fun h_24 => ?_) (fun h_24 => ?_)
      · exact absurd h_24 (by decide)
      refine J_iload_n cx dX7_cost_27 rfl 3 rfl ?_
      refine J_if_lt (tgt := 46) cx dX7_cost_28 (by decide) (by omega) (fun h_28 => ?_) (fun h_28 => ?_)
      · skip
        refine J_iconst cx dX7_cost_46 ?_
        exact J_iret cx hr dX7_cost_47 (by unfold cosV; rw [if_pos (by omega)]; exact ⟨_, _, rfl, rfl⟩)
      · skip
        refine J_iload_n cx dX7_cost_31 rfl 3 rfl ?_
        refine J_iconst cx dX7_cost_32 ?_
        refine J_icmp_ge (tgt := 46) cx dX7_cost_33 (by decide) (by omega) (by decide) (fun h_33 => ?_) (fun h_33 => ?_)
        · skip
          refine J_iconst cx dX7_cost_46 ?_
          exact J_iret cx hr dX7_cost_47 (by unfold cosV; rw [if_pos (by omega)]; exact ⟨_, _, rfl, rfl⟩)
        · skip
          refine J_iload_n cx dX7_cost_36 rfl 4 rfl ?_
          refine J_if_lt (tgt := 46) cx dX7_cost_37 (by decide) (by omega) (fun h_37 => ?_) (fun h_37 => ?_)
          · skip
            refine J_iconst cx dX7_cost_46 ?_
            exact J_iret cx hr dX7_cost_47 (by unfold cosV; rw [if_pos (by omega)]; exact ⟨_, _, rfl, rfl⟩)
          · skip
            refine J_iload_n cx dX7_cost_40 rfl 4 rfl ?_
            refine J_bipush cx dX7_cost_41 (by decide) ?_
            refine J_icmp_le (tgt := 48) cx dX7_cost_43 (by decide) (by omega) (by decide) (fun h_43 => ?_) (fun h_43 => ?_)
            · skip
              have hib := hblk i (by omega) (by omega)
              have hch1 := hcho i (by omega) (by omega)
              refine J_aload_n cx dX7_cost_48 rfl 1 rfl ?_
              refine J_get cx inC7 0 rfl rfl 1 (by decide) T178 rfl rfl dX7_cost_49 ?_
              refine J_iload_n cx dX7_cost_52 rfl 2 rfl ?_
              refine J_iload_n cx dX7_cost_53 rfl 3 rfl ?_
              refine J_iload_n cx dX7_cost_54 rfl 4 rfl ?_
              refine J_callV (C := RX6) (T := TX6) (N := 8) cx (As := [.int (iI i), .int (iI fn), .int (iI k)]) (rest := []) (mX6_bitsFor l X hw hs hm2 gb af ak ar rc bc as_ f ch bl n am mf rs i fn k (by omega) (by omega) (by omega) (by omega) (by omega) (hf) (hm) (by omega) (by omega)) T363 T368 T361 T362 T3 ⟨rfl, hd_X6_bitsFor⟩ rfl ⟨Nat.le_of_ble_eq_true rfl, Nat.le_of_ble_eq_true rfl⟩ (Nat.le_of_ble_eq_true rfl) ⟨Nat.le_of_ble_eq_true rfl, Nat.le_of_ble_eq_true rfl⟩ [1, 2, 3, 4, 5, 8] [0, 6, 7] rfl rfl rfl rfl rfl (by decide) 1 rfl rfl dX7_cost_55 rfl (J_f (ws' := [(z, .inr (7, [.ref ht, .ref hw, .ref hrd, .ref gr, .ref gr2])), (hw, .inr (6, [.ref hs, .ref hm2, .ref gb, .ref af, .ref ak, .ref ar, .int (iI (bsize ch bl (n / ch) i)), .int (iI bc)])), (hs, .inr (4, [.ref as_, .int (iI ch), .int (iI bl), .int (iI n)])), (as_, .inl (X.2.1, 800, .inl (aI f))), (hm2, .inr (3, [.ref am])), (am, .inl (X.2.1, 800, .inl (aI mf))), (af, .inl (X.2.1, 800, .inl (aI ff))), (ak, .inl (X.2.1, 800, .inl (aI kk))), (ar, .inl (X.2.1, 64, .inl (aI (rests rs f ch fn (bfirst ch bl i) (mahead mf ch i) (bsize ch bl (n / ch) i)))))]) (st' := [.int (iI (cost f ch bl (n / ch) (mahead mf ch i) i fn k))]) [0, 3, 4, 5, 6, 7, 1, 2, 8] rfl rfl rfl rfl ?_)
              exact J_iret cx hr dX7_cost_58 (by unfold cosV; rw [if_neg (by omega)]; exact ⟨_, _, rfl, rfl⟩)
            · skip
              refine J_iconst cx dX7_cost_46 ?_
              exact J_iret cx hr dX7_cost_47 (by unfold cosV; rw [if_pos (by omega)]; exact ⟨_, _, rfl, rfl⟩)
