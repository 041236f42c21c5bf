set_option maxHeartbeats 4000000 in
set_option maxRecDepth 100000 in
theorem mX5_parseBlock (l : Launch) (X : GX) (h : Nat) (hm2 : Nat) (gb : Nat) (s1 : Nat) (s2 : Nat) (gr : Nat) (ga : Nat) (r : Int → Int) (q : Int) (E : Int) (F : Int) (a2 : Nat) (f : Int → Int) (ch : Int) (bl : Int) (n : Int) (am : Nat) (mf : Int → Int) (i : Int) (hE : 0 ≤ E ∧ E ≤ 24000) (hrr : ∀ j, -128 ≤ r j ∧ r j < 128) (hc : 1 ≤ ch ∧ ch ≤ 2) (hn : 0 ≤ n ∧ n ≤ 800) (hb : 1 ≤ bl ∧ bl ≤ 64) (hi : 0 ≤ i ∧ i < 800) (hib : 0 ≤ i / ch * bl ∧ i / ch * bl < n / ch) (hf : ∀ j, -32768 ≤ f j ∧ f j ≤ 32767) (hm : ∀ j, -32768 ≤ mf j ∧ mf j ≤ 32767) (hq : 0 ≤ q ∧ q ≤ E) : Ct l yX5_parseBlock cX5_parseBlock 11 none 4 92 0 0 X [.ref h, .int (iI i)] [(h, .inr (5, [.ref hm2, .ref gb, .ref s1, .ref s2, .int (iI (-1))])), (gb, .inr (0, [.ref gr, .int (iI q), .int (iI E)])), (gr, .inr (2, [.ref ga, .int (iI F)])), (ga, .inl (X.2.2, 3000, .inl (aI r))), (s2, .inr (4, [.ref a2, .int (iI ch), .int (iI bl), .int (iI n)])), (a2, .inl (X.2.1, 800, .inl (aI f))), (hm2, .inr (3, [.ref am])), (am, .inl (X.2.1, 800, .inl (aI mf)))] (fun1 none [(h, .inr (5, [.ref hm2, .ref gb, .ref s1, .ref s2, .int (iI ((rblkR r E ch bl (n / ch) i (mahead mf ch i) f q).2.2))])), (gb, .inr (0, [.ref gr, .int (iI ((rblkR r E ch bl (n / ch) i (mahead mf ch i) f q).2.1)), .int (iI E)])), (gr, .inr (2, [.ref ga, .int (iI F)])), (ga, .inl (X.2.2, 3000, .inl (aI r))), (s2, .inr (4, [.ref a2, .int (iI ch), .int (iI bl), .int (iI n)])), (a2, .inl (X.2.1, 800, .inl (aI ((rblkR r E ch bl (n / ch) i (mahead mf ch i) f q).1)))), (hm2, .inr (3, [.ref am])), (am, .inl (X.2.1, 800, .inl (aI (if (rblkR r E ch bl (n / ch) i (mahead mf ch i) f q).2.2 = -1 then upI mf i (bmean (rblkR r E ch bl (n / ch) i (mahead mf ch i) f q).1 ch bl (n / ch) i) else mf))))]) := by
  refine Ct_of (own := RX5) (lv := [(0, .ref h), (1, .int (iI i))]) (by decide +kernel) rfl (Nat.le_of_ble_eq_true rfl) rfl ?_
  intro p e s m args below meth c A cx hr hin
  have hrb := rb_ok (r := r) hE hq
  obtain ⟨okb1, okb2, hrF, hrK⟩ := hrb
  have hbs := bsize_rng (i := i) (ch := ch) (bl := bl) (many := n / ch) hb hib.2
  have hd1 := half_rng hc hn
  have hmu0 := mahead_rng hm ch i
  have ok0 : okP E q (-1) := ⟨by omega, by omega, fun _ => hq.2⟩
  refine J_aload_n cx dX5_parseBlock_0 rfl 0 rfl ?_
  refine J_iconst cx dX5_parseBlock_1 ?_
  refine J_iconst cx dX5_parseBlock_2 ?_
  refine J_iconst cx dX5_parseBlock_3 ?_
  refine J_callV (C := RX5) (T := TX5) (N := 5) cx (As := [.int (iI 2), .int (iI 0), .int (iI 4)]) (rest := []) (mX5_nextWithin l X h hm2 gb s1 s2 (-1) gr ga r q E F 2 0 4 (by omega) (hrr) (by omega) (by omega) (ok0)) T422 T419 T421 S9 T7 ⟨rfl, hd_X5_nextWithin⟩ rfl ⟨Nat.le_of_ble_eq_true rfl, Nat.le_of_ble_eq_true rfl⟩ (Nat.le_of_ble_eq_true rfl) ⟨Nat.le_of_ble_eq_true rfl, Nat.le_of_ble_eq_true rfl⟩ [0, 1, 2, 3] [4, 5, 6, 7] rfl rfl rfl rfl rfl (by decide) 0 rfl rfl dX5_parseBlock_4 rfl (J_f (ws' := [(h, .inr (5, [.ref hm2, .ref gb, .ref s1, .ref s2, .int (iI (nwE r E q (-1) 2 0 4))])), (gb, .inr (0, [.ref gr, .int (iI (nwQ r E q (-1) 2)), .int (iI E)])), (gr, .inr (2, [.ref ga, .int (iI F)])), (ga, .inl (X.2.2, 3000, .inl (aI r))), (s2, .inr (4, [.ref a2, .int (iI ch), .int (iI bl), .int (iI n)])), (a2, .inl (X.2.1, 800, .inl (aI f))), (hm2, .inr (3, [.ref am])), (am, .inl (X.2.1, 800, .inl (aI mf)))]) (st' := [.int (iI (nwV r E q (-1) 2 0 4))]) [4, 5, 6, 7, 0, 1, 2, 3] rfl rfl rfl rfl ?_)
  refine J_ws (ws' := [(h, .inr (5, [.ref hm2, .ref gb, .ref s1, .ref s2, .int (iI (rbE1 r E q))])), (gb, .inr (0, [.ref gr, .int (iI (rbQ1 r E q)), .int (iI E)])), (gr, .inr (2, [.ref ga, .int (iI F)])), (ga, .inl (X.2.2, 3000, .inl (aI r))), (s2, .inr (4, [.ref a2, .int (iI ch), .int (iI bl), .int (iI n)])), (a2, .inl (X.2.1, 800, .inl (aI f))), (hm2, .inr (3, [.ref am])), (am, .inl (X.2.1, 800, .inl (aI mf)))]) rfl ?_
  refine J_top (b := rbF r E q) rfl ?_
  refine J_istore_n (lv' := [(2, .int (iI (rbF r E q))), (0, .ref h), (1, .int (iI i))]) cx dX5_parseBlock_7 rfl (by decide) rfl ?_
  refine J_join3 (fun (kv : Int) (q2 : Int) (e2 : Int) => [(h, .inr (5, [.ref hm2, .ref gb, .ref s1, .ref s2, .int (iI e2)])), (gb, .inr (0, [.ref gr, .int (iI q2), .int (iI E)])), (gr, .inr (2, [.ref ga, .int (iI F)])), (ga, .inl (X.2.2, 3000, .inl (aI r))), (s2, .inr (4, [.ref a2, .int (iI ch), .int (iI bl), .int (iI n)])), (a2, .inl (X.2.1, 800, .inl (aI f))), (hm2, .inr (3, [.ref am])), (am, .inl (X.2.1, 800, .inl (aI mf)))]) (fun (kv : Int) (q2 : Int) (e2 : Int) => [(2, .int (iI (rbF r E q))), (0, .ref h), (1, .int (iI i))]) (fun (kv : Int) (q2 : Int) (e2 : Int) => [.int (iI kv)]) (fun (kv : Int) (q2 : Int) (e2 : Int) => (kv = rbK r E q) ∧ (q2 = rbQ2 r E q) ∧ (e2 = rbE2 r E q)) (pcj := 25) ?_ ?_
  · intro kv q2 e2 hI
    obtain ⟨hkv, hq2, he2⟩ := hI
    try dsimp only at hkv hq2 he2
    have okb3 : okP E q2 e2 := by rw [hq2, he2]; exact okb2
    refine J_istore_n (lv' := [(3, .int (iI kv)), (2, .int (iI (rbF r E q))), (0, .ref h), (1, .int (iI i))]) cx dX5_parseBlock_25 rfl (by decide) rfl ?_
    refine J_aload_n cx dX5_parseBlock_26 rfl 2 rfl ?_
    refine J_get cx inC5 0 rfl rfl 0 (by decide) T159 rfl rfl dX5_parseBlock_27 ?_
    refine J_iload_n cx dX5_parseBlock_30 rfl 3 rfl ?_
    refine J_aload_n cx dX5_parseBlock_31 rfl 2 rfl ?_
    refine J_get cx inC5 0 rfl rfl 3 (by decide) T164 rfl rfl dX5_parseBlock_32 ?_
    refine J_getN cx inC4 4 rfl rfl 1 (by decide) T30 rfl rfl dX5_parseBlock_35 ?_
    refine J_callV (C := RX3) (T := TX3) (N := 1) cx (As := [.int (iI i), .int (iI ch)]) (rest := []) (mX3_ahead l X hm2 am mf i ch (by omega) (by omega) (hm)) T311 T437 T309 T310 T4 ⟨rfl, hd_X3_ahead⟩ rfl ⟨Nat.le_of_ble_eq_true rfl, Nat.le_of_ble_eq_true rfl⟩ (Nat.le_of_ble_eq_true rfl) ⟨Nat.le_of_ble_eq_true rfl, Nat.le_of_ble_eq_true rfl⟩ [6, 7] [0, 1, 2, 3, 4, 5] rfl rfl rfl rfl rfl (by decide) 6 rfl rfl dX5_parseBlock_38 rfl (J_f (ws' := [(h, .inr (5, [.ref hm2, .ref gb, .ref s1, .ref s2, .int (iI e2)])), (gb, .inr (0, [.ref gr, .int (iI q2), .int (iI E)])), (gr, .inr (2, [.ref ga, .int (iI F)])), (ga, .inl (X.2.2, 3000, .inl (aI r))), (s2, .inr (4, [.ref a2, .int (iI ch), .int (iI bl), .int (iI n)])), (a2, .inl (X.2.1, 800, .inl (aI f))), (hm2, .inr (3, [.ref am])), (am, .inl (X.2.1, 800, .inl (aI mf)))]) (st' := [.int (iI (mahead mf ch i))]) [0, 1, 2, 3, 4, 5, 6, 7] rfl rfl rfl rfl ?_)
    refine J_istore (lv' := [(4, .int (iI (mahead mf ch i))), (3, .int (iI kv)), (2, .int (iI (rbF r E q))), (0, .ref h), (1, .int (iI i))]) cx dX5_parseBlock_41 (by decide) rfl ?_
    refine J_aload_n cx dX5_parseBlock_43 rfl 3 rfl ?_
    refine J_get cx inC5 0 rfl rfl 3 (by decide) T164 rfl rfl dX5_parseBlock_44 ?_
    refine J_iload_n cx dX5_parseBlock_47 rfl 4 rfl ?_
    refine J_callV (C := RX4) (T := TX4) (N := 4) cx (As := [.int (iI i)]) (rest := []) (mX4_firstPlace l X s2 a2 f ch bl n i (by omega) (by omega)) T285 T438 T283 T284 T2 ⟨rfl, hd_X4_firstPlace⟩ rfl ⟨Nat.le_of_ble_eq_true rfl, Nat.le_of_ble_eq_true rfl⟩ (Nat.le_of_ble_eq_true rfl) ⟨Nat.le_of_ble_eq_true rfl, Nat.le_of_ble_eq_true rfl⟩ [4, 5] [0, 1, 2, 3, 6, 7] rfl rfl rfl rfl rfl (by decide) 4 rfl rfl dX5_parseBlock_48 rfl (J_f (ws' := [(h, .inr (5, [.ref hm2, .ref gb, .ref s1, .ref s2, .int (iI e2)])), (gb, .inr (0, [.ref gr, .int (iI q2), .int (iI E)])), (gr, .inr (2, [.ref ga, .int (iI F)])), (ga, .inl (X.2.2, 3000, .inl (aI r))), (s2, .inr (4, [.ref a2, .int (iI ch), .int (iI bl), .int (iI n)])), (a2, .inl (X.2.1, 800, .inl (aI f))), (hm2, .inr (3, [.ref am])), (am, .inl (X.2.1, 800, .inl (aI mf)))]) (st' := [.int (iI (bfirst ch bl i))]) [0, 1, 2, 3, 6, 7, 4, 5] rfl rfl rfl rfl ?_)
    refine J_istore (lv' := [(5, .int (iI (bfirst ch bl i))), (4, .int (iI (mahead mf ch i))), (3, .int (iI kv)), (2, .int (iI (rbF r E q))), (0, .ref h), (1, .int (iI i))]) cx dX5_parseBlock_51 (by decide) rfl ?_
    refine J_aload_n cx dX5_parseBlock_53 rfl 4 rfl ?_
    refine J_get cx inC5 0 rfl rfl 3 (by decide) T164 rfl rfl dX5_parseBlock_54 ?_
    refine J_iload_n cx dX5_parseBlock_57 rfl 5 rfl ?_
    refine J_callV (C := RX4) (T := TX4) (N := 4) cx (As := [.int (iI i)]) (rest := []) (mX4_blockSize l X s2 a2 f ch bl n i (by omega) (by omega) (by omega) (by omega) (by omega)) T276 T439 T274 T275 T2 ⟨rfl, hd_X4_blockSize⟩ rfl ⟨Nat.le_of_ble_eq_true rfl, Nat.le_of_ble_eq_true rfl⟩ (Nat.le_of_ble_eq_true rfl) ⟨Nat.le_of_ble_eq_true rfl, Nat.le_of_ble_eq_true rfl⟩ [4, 5] [0, 1, 2, 3, 6, 7] rfl rfl rfl rfl rfl (by decide) 4 rfl rfl dX5_parseBlock_58 rfl (J_f (ws' := [(h, .inr (5, [.ref hm2, .ref gb, .ref s1, .ref s2, .int (iI e2)])), (gb, .inr (0, [.ref gr, .int (iI q2), .int (iI E)])), (gr, .inr (2, [.ref ga, .int (iI F)])), (ga, .inl (X.2.2, 3000, .inl (aI r))), (s2, .inr (4, [.ref a2, .int (iI ch), .int (iI bl), .int (iI n)])), (a2, .inl (X.2.1, 800, .inl (aI f))), (hm2, .inr (3, [.ref am])), (am, .inl (X.2.1, 800, .inl (aI mf)))]) (st' := [.int (iI (bsize ch bl (n / ch) i))]) [0, 1, 2, 3, 6, 7, 4, 5] rfl rfl rfl rfl ?_)
    refine J_istore (lv' := [(6, .int (iI (bsize ch bl (n / ch) i))), (5, .int (iI (bfirst ch bl i))), (4, .int (iI (mahead mf ch i))), (3, .int (iI kv)), (2, .int (iI (rbF r E q))), (0, .ref h), (1, .int (iI i))]) cx dX5_parseBlock_61 (by decide) rfl ?_
    refine J_iconst cx dX5_parseBlock_63 ?_
    refine J_istore (lv' := [(7, .int (iI 0)), (6, .int (iI (bsize ch bl (n / ch) i))), (5, .int (iI (bfirst ch bl i))), (4, .int (iI (mahead mf ch i))), (3, .int (iI kv)), (2, .int (iI (rbF r E q))), (0, .ref h), (1, .int (iI i))]) cx dX5_parseBlock_64 (by decide) rfl ?_
    refine J_loop8 (fun (fn : Int) (k : Int) (mu : Int) (j : Int) (pl : Int) (g2 : Int → Int) (t : Int) (er2 : Int) => [(h, .inr (5, [.ref hm2, .ref gb, .ref s1, .ref s2, .int (iI er2)])), (gb, .inr (0, [.ref gr, .int (iI t), .int (iI E)])), (gr, .inr (2, [.ref ga, .int (iI F)])), (ga, .inl (X.2.2, 3000, .inl (aI r))), (s2, .inr (4, [.ref a2, .int (iI ch), .int (iI bl), .int (iI n)])), (a2, .inl (X.2.1, 800, .inl (aI g2))), (hm2, .inr (3, [.ref am])), (am, .inl (X.2.1, 800, .inl (aI mf)))]) (fun (fn : Int) (k : Int) (mu : Int) (j : Int) (pl : Int) (g2 : Int → Int) (t : Int) (er2 : Int) => [(7, .int (iI j)), (6, .int (iI (bsize ch bl (n / ch) i))), (5, .int (iI pl)), (4, .int (iI mu)), (3, .int (iI k)), (2, .int (iI fn)), (0, .ref h), (1, .int (iI i))]) (fun (fn : Int) (k : Int) (mu : Int) (j : Int) (pl : Int) (g2 : Int → Int) (t : Int) (er2 : Int) => (fn = rbF r E q ∧ k = rbK r E q ∧ mu = mahead mf ch i) ∧ (0 ≤ j ∧ j ≤ bsize ch bl (n / ch) i) ∧ (pl = bfirst ch bl i + j * ch) ∧ ((g2, t, er2) = rlpN r E ch fn k mu (bfirst ch bl i) (f, q2, e2) j.toNat)) (fun (fn : Int) (k : Int) (mu : Int) (j : Int) (pl : Int) (g2 : Int → Int) (t : Int) (er2 : Int) => (bsize ch bl (n / ch) i - j).toNat) (rbF r E q) kv (mahead mf ch i) 0 (bfirst ch bl i) f q2 e2 ⟨(⟨rfl, hkv, rfl⟩), (by omega), (by omega), (rfl)⟩ ?_
    intro fn k mu j pl g2 t er2 hI ih_66
    obtain ⟨hfk, hj, hpl, hx⟩ := hI
    try dsimp only at hfk hj hpl hx
    have hfr : 0 ≤ fn ∧ fn ≤ 4 := by rw [hfk.1]; exact hrF
    have hkr : 0 ≤ k ∧ k ≤ 15 := by rw [hfk.2.1]; exact hrK
    have hmr : -32768 ≤ mu ∧ mu ≤ 32767 := by rw [hfk.2.2]; exact hmu0
    have hoR : okR E (g2, t, er2) := by rw [hx]; exact rlp_ok hE hkr hmr ⟨hf, okb3⟩ j.toNat
    have hg2 : ∀ j, -32768 ≤ g2 j ∧ g2 j ≤ 32767 := hoR.1
    have okt := hoR.2
    have okt1 : 0 ≤ t ∧ t ≤ 24010 := okt.1
    have okt2 : -1 ≤ er2 ∧ er2 ≤ 24010 := okt.2.1
    have okt3 : er2 = -1 → t ≤ E := okt.2.2
    refine J_iload cx dX5_parseBlock_66 0 rfl ?_
    refine J_iload cx dX5_parseBlock_68 1 rfl ?_
    refine J_icmp_ge (tgt := 185) cx dX5_parseBlock_70 (by decide) (by omega) (by omega) (fun h_70 => ?_) (fun h_70 => ?_)
    · skip
      have hR : (g2, t, er2) = rblkR r E ch bl (n / ch) i (mahead mf ch i) f q := by (rw [hx, show rblkR r E ch bl (n / ch) i (mahead mf ch i) f q = rlpN r E ch fn k mu (bfirst ch bl i) (f, q2, e2) (bsize ch bl (n / ch) i).toNat from by rw [hfk.1, hfk.2.1, hfk.2.2, hq2, he2]; rfl]); (rw [show j = bsize ch bl (n / ch) i by omega])
      refine J_aload_n cx dX5_parseBlock_185 rfl 6 rfl ?_
      refine J_callV (C := RX5) (T := TX5) (N := 5) cx (As := []) (rest := []) (mX5_isRight l X h hm2 gb s1 s2 er2 (by omega)) T406 T403 T405 S7 T7 ⟨rfl, hd_X5_isRight⟩ rfl ⟨Nat.le_of_ble_eq_true rfl, Nat.le_of_ble_eq_true rfl⟩ (Nat.le_of_ble_eq_true rfl) ⟨Nat.le_of_ble_eq_true rfl, Nat.le_of_ble_eq_true rfl⟩ [0] [1, 2, 3, 4, 5, 6, 7] rfl rfl rfl rfl rfl (by decide) 0 rfl rfl dX5_parseBlock_186 rfl (J_f (ws' := [(h, .inr (5, [.ref hm2, .ref gb, .ref s1, .ref s2, .int (iI er2)])), (gb, .inr (0, [.ref gr, .int (iI t), .int (iI E)])), (gr, .inr (2, [.ref ga, .int (iI F)])), (ga, .inl (X.2.2, 3000, .inl (aI r))), (s2, .inr (4, [.ref a2, .int (iI ch), .int (iI bl), .int (iI n)])), (a2, .inl (X.2.1, 800, .inl (aI g2))), (hm2, .inr (3, [.ref am])), (am, .inl (X.2.1, 800, .inl (aI mf)))]) (st' := [.int (iI (if er2 = -1 then 1 else 0))]) [7, 0, 1, 2, 3, 4, 5, 6] rfl rfl rfl rfl ?_)
      refine J_if_eq (tgt := 204) cx dX5_parseBlock_189 (by decide) (by split <;> omega) (fun h_189 => ?_) (fun h_189 => ?_)
      · skip
        have her9 : ¬ er2 = -1 := by (intro h5; rw [if_pos h5] at h_189; omega)
        have hR2 : ¬ (rblkR r E ch bl (n / ch) i (mahead mf ch i) f q).2.2 = -1 := by rw [← hR]; exact her9
        refine J_ws (ws' := [(h, .inr (5, [.ref hm2, .ref gb, .ref s1, .ref s2, .int (iI ((rblkR r E ch bl (n / ch) i (mahead mf ch i) f q).2.2))])), (gb, .inr (0, [.ref gr, .int (iI ((rblkR r E ch bl (n / ch) i (mahead mf ch i) f q).2.1)), .int (iI E)])), (gr, .inr (2, [.ref ga, .int (iI F)])), (ga, .inl (X.2.2, 3000, .inl (aI r))), (s2, .inr (4, [.ref a2, .int (iI ch), .int (iI bl), .int (iI n)])), (a2, .inl (X.2.1, 800, .inl (aI ((rblkR r E ch bl (n / ch) i (mahead mf ch i) f q).1)))), (hm2, .inr (3, [.ref am])), (am, .inl (X.2.1, 800, .inl (aI (if (rblkR r E ch bl (n / ch) i (mahead mf ch i) f q).2.2 = -1 then upI mf i (bmean (rblkR r E ch bl (n / ch) i (mahead mf ch i) f q).1 ch bl (n / ch) i) else mf))))]) (by first | (rw [if_neg hR2, ← hR]; done) | (rw [if_pos hR2, ← hR]; done)) ?_
        exact J_vret cx hr dX5_parseBlock_204 ⟨rfl, rfl⟩
      · skip
        have her9 : er2 = -1 := by (split at h_189); (assumption); (omega)
        have hR2 : (rblkR r E ch bl (n / ch) i (mahead mf ch i) f q).2.2 = -1 := by rw [← hR]; exact her9
        refine J_aload_n cx dX5_parseBlock_192 rfl 6 rfl ?_
        refine J_get cx inC5 0 rfl rfl 0 (by decide) T159 rfl rfl dX5_parseBlock_193 ?_
        refine J_iload_n cx dX5_parseBlock_196 rfl 7 rfl ?_
        refine J_aload_n cx dX5_parseBlock_197 rfl 6 rfl ?_
        refine J_get cx inC5 0 rfl rfl 3 (by decide) T164 rfl rfl dX5_parseBlock_198 ?_
        refine J_callV (C := RX3) (T := TX3) (N := 1) cx (As := [.int (iI i), .ref s2]) (rest := []) (mX3_settle l X hm2 am mf s2 a2 g2 ch bl n i (by omega) (by omega) (by omega) (by omega) (by omega) (hg2)) T272 T450 T270 T271 T4 ⟨rfl, hd_X3_settle⟩ rfl ⟨Nat.le_of_ble_eq_true rfl, Nat.le_of_ble_eq_true rfl⟩ (Nat.le_of_ble_eq_true rfl) ⟨Nat.le_of_ble_eq_true rfl, Nat.le_of_ble_eq_true rfl⟩ [6, 7, 4, 5] [0, 1, 2, 3] rfl rfl rfl rfl rfl (by decide) 6 rfl rfl dX5_parseBlock_201 rfl (J_f (ws' := [(h, .inr (5, [.ref hm2, .ref gb, .ref s1, .ref s2, .int (iI er2)])), (gb, .inr (0, [.ref gr, .int (iI t), .int (iI E)])), (gr, .inr (2, [.ref ga, .int (iI F)])), (ga, .inl (X.2.2, 3000, .inl (aI r))), (s2, .inr (4, [.ref a2, .int (iI ch), .int (iI bl), .int (iI n)])), (a2, .inl (X.2.1, 800, .inl (aI g2))), (hm2, .inr (3, [.ref am])), (am, .inl (X.2.1, 800, .inl (aI (upI mf i (bmean g2 ch bl (n / ch) i)))))]) (st' := []) [0, 1, 2, 3, 6, 7, 4, 5] rfl rfl rfl rfl ?_)
        refine J_ws (ws' := [(h, .inr (5, [.ref hm2, .ref gb, .ref s1, .ref s2, .int (iI ((rblkR r E ch bl (n / ch) i (mahead mf ch i) f q).2.2))])), (gb, .inr (0, [.ref gr, .int (iI ((rblkR r E ch bl (n / ch) i (mahead mf ch i) f q).2.1)), .int (iI E)])), (gr, .inr (2, [.ref ga, .int (iI F)])), (ga, .inl (X.2.2, 3000, .inl (aI r))), (s2, .inr (4, [.ref a2, .int (iI ch), .int (iI bl), .int (iI n)])), (a2, .inl (X.2.1, 800, .inl (aI ((rblkR r E ch bl (n / ch) i (mahead mf ch i) f q).1)))), (hm2, .inr (3, [.ref am])), (am, .inl (X.2.1, 800, .inl (aI (if (rblkR r E ch bl (n / ch) i (mahead mf ch i) f q).2.2 = -1 then upI mf i (bmean (rblkR r E ch bl (n / ch) i (mahead mf ch i) f q).1 ch bl (n / ch) i) else mf))))]) (by first | (rw [if_neg hR2, ← hR]; done) | (rw [if_pos hR2, ← hR]; done)) ?_
        exact J_vret cx hr dX5_parseBlock_204 ⟨rfl, rfl⟩
    · skip
      refine J_aload_n cx dX5_parseBlock_73 rfl 6 rfl ?_
      refine J_callV (C := RX5) (T := TX5) (N := 5) cx (As := []) (rest := []) (mX5_isRight l X h hm2 gb s1 s2 er2 (by omega)) T406 T403 T405 S7 T7 ⟨rfl, hd_X5_isRight⟩ rfl ⟨Nat.le_of_ble_eq_true rfl, Nat.le_of_ble_eq_true rfl⟩ (Nat.le_of_ble_eq_true rfl) ⟨Nat.le_of_ble_eq_true rfl, Nat.le_of_ble_eq_true rfl⟩ [0] [1, 2, 3, 4, 5, 6, 7] rfl rfl rfl rfl rfl (by decide) 0 rfl rfl dX5_parseBlock_74 rfl (J_f (ws' := [(h, .inr (5, [.ref hm2, .ref gb, .ref s1, .ref s2, .int (iI er2)])), (gb, .inr (0, [.ref gr, .int (iI t), .int (iI E)])), (gr, .inr (2, [.ref ga, .int (iI F)])), (ga, .inl (X.2.2, 3000, .inl (aI r))), (s2, .inr (4, [.ref a2, .int (iI ch), .int (iI bl), .int (iI n)])), (a2, .inl (X.2.1, 800, .inl (aI g2))), (hm2, .inr (3, [.ref am])), (am, .inl (X.2.1, 800, .inl (aI mf)))]) (st' := [.int (iI (if er2 = -1 then 1 else 0))]) [7, 0, 1, 2, 3, 4, 5, 6] rfl rfl rfl rfl ?_)
      refine J_if_eq (tgt := 185) cx dX5_parseBlock_77 (by decide) (by split <;> omega) (fun h_77 => ?_) (fun h_77 => ?_)
      · skip
        have her2 : ¬ er2 = -1 := by (intro h5; rw [if_pos h5] at h_77; omega)
        have hR : (g2, t, er2) = rblkR r E ch bl (n / ch) i (mahead mf ch i) f q := by (rw [hx, show rblkR r E ch bl (n / ch) i (mahead mf ch i) f q = rlpN r E ch fn k mu (bfirst ch bl i) (f, q2, e2) (bsize ch bl (n / ch) i).toNat from by rw [hfk.1, hfk.2.1, hfk.2.2, hq2, he2]; rfl]); (rw [show (bsize ch bl (n / ch) i).toNat = j.toNat + ((bsize ch bl (n / ch) i).toNat - j.toNat) by omega]); (exact (rlp_stick j.toNat (by rw [← hx]; exact her2) _).symm)
        refine J_aload_n cx dX5_parseBlock_185 rfl 6 rfl ?_
        refine J_callV (C := RX5) (T := TX5) (N := 5) cx (As := []) (rest := []) (mX5_isRight l X h hm2 gb s1 s2 er2 (by omega)) T406 T403 T405 S7 T7 ⟨rfl, hd_X5_isRight⟩ rfl ⟨Nat.le_of_ble_eq_true rfl, Nat.le_of_ble_eq_true rfl⟩ (Nat.le_of_ble_eq_true rfl) ⟨Nat.le_of_ble_eq_true rfl, Nat.le_of_ble_eq_true rfl⟩ [0] [1, 2, 3, 4, 5, 6, 7] rfl rfl rfl rfl rfl (by decide) 0 rfl rfl dX5_parseBlock_186 rfl (J_f (ws' := [(h, .inr (5, [.ref hm2, .ref gb, .ref s1, .ref s2, .int (iI er2)])), (gb, .inr (0, [.ref gr, .int (iI t), .int (iI E)])), (gr, .inr (2, [.ref ga, .int (iI F)])), (ga, .inl (X.2.2, 3000, .inl (aI r))), (s2, .inr (4, [.ref a2, .int (iI ch), .int (iI bl), .int (iI n)])), (a2, .inl (X.2.1, 800, .inl (aI g2))), (hm2, .inr (3, [.ref am])), (am, .inl (X.2.1, 800, .inl (aI mf)))]) (st' := [.int (iI (if er2 = -1 then 1 else 0))]) [7, 0, 1, 2, 3, 4, 5, 6] rfl rfl rfl rfl ?_)
        refine J_if_eq (tgt := 204) cx dX5_parseBlock_189 (by decide) (by split <;> omega) (fun h_189 => ?_) (fun h_189 => ?_)
        · skip
          have her9 : ¬ er2 = -1 := by (intro h5; rw [if_pos h5] at h_189; omega)
          have hR2 : ¬ (rblkR r E ch bl (n / ch) i (mahead mf ch i) f q).2.2 = -1 := by rw [← hR]; exact her9
          refine J_ws (ws' := [(h, .inr (5, [.ref hm2, .ref gb, .ref s1, .ref s2, .int (iI ((rblkR r E ch bl (n / ch) i (mahead mf ch i) f q).2.2))])), (gb, .inr (0, [.ref gr, .int (iI ((rblkR r E ch bl (n / ch) i (mahead mf ch i) f q).2.1)), .int (iI E)])), (gr, .inr (2, [.ref ga, .int (iI F)])), (ga, .inl (X.2.2, 3000, .inl (aI r))), (s2, .inr (4, [.ref a2, .int (iI ch), .int (iI bl), .int (iI n)])), (a2, .inl (X.2.1, 800, .inl (aI ((rblkR r E ch bl (n / ch) i (mahead mf ch i) f q).1)))), (hm2, .inr (3, [.ref am])), (am, .inl (X.2.1, 800, .inl (aI (if (rblkR r E ch bl (n / ch) i (mahead mf ch i) f q).2.2 = -1 then upI mf i (bmean (rblkR r E ch bl (n / ch) i (mahead mf ch i) f q).1 ch bl (n / ch) i) else mf))))]) (by first | (rw [if_neg hR2, ← hR]; done) | (rw [if_pos hR2, ← hR]; done)) ?_
          exact J_vret cx hr dX5_parseBlock_204 ⟨rfl, rfl⟩
        · skip
          have her9 : er2 = -1 := by (split at h_189); (assumption); (omega)
          have hR2 : (rblkR r E ch bl (n / ch) i (mahead mf ch i) f q).2.2 = -1 := by rw [← hR]; exact her9
          refine J_aload_n cx dX5_parseBlock_192 rfl 6 rfl ?_
          refine J_get cx inC5 0 rfl rfl 0 (by decide) T159 rfl rfl dX5_parseBlock_193 ?_
          refine J_iload_n cx dX5_parseBlock_196 rfl 7 rfl ?_
          refine J_aload_n cx dX5_parseBlock_197 rfl 6 rfl ?_
          refine J_get cx inC5 0 rfl rfl 3 (by decide) T164 rfl rfl dX5_parseBlock_198 ?_
          refine J_callV (C := RX3) (T := TX3) (N := 1) cx (As := [.int (iI i), .ref s2]) (rest := []) (mX3_settle l X hm2 am mf s2 a2 g2 ch bl n i (by omega) (by omega) (by omega) (by omega) (by omega) (hg2)) T272 T450 T270 T271 T4 ⟨rfl, hd_X3_settle⟩ rfl ⟨Nat.le_of_ble_eq_true rfl, Nat.le_of_ble_eq_true rfl⟩ (Nat.le_of_ble_eq_true rfl) ⟨Nat.le_of_ble_eq_true rfl, Nat.le_of_ble_eq_true rfl⟩ [6, 7, 4, 5] [0, 1, 2, 3] rfl rfl rfl rfl rfl (by decide) 6 rfl rfl dX5_parseBlock_201 rfl (J_f (ws' := [(h, .inr (5, [.ref hm2, .ref gb, .ref s1, .ref s2, .int (iI er2)])), (gb, .inr (0, [.ref gr, .int (iI t), .int (iI E)])), (gr, .inr (2, [.ref ga, .int (iI F)])), (ga, .inl (X.2.2, 3000, .inl (aI r))), (s2, .inr (4, [.ref a2, .int (iI ch), .int (iI bl), .int (iI n)])), (a2, .inl (X.2.1, 800, .inl (aI g2))), (hm2, .inr (3, [.ref am])), (am, .inl (X.2.1, 800, .inl (aI (upI mf i (bmean g2 ch bl (n / ch) i)))))]) (st' := []) [0, 1, 2, 3, 6, 7, 4, 5] rfl rfl rfl rfl ?_)
          refine J_ws (ws' := [(h, .inr (5, [.ref hm2, .ref gb, .ref s1, .ref s2, .int (iI ((rblkR r E ch bl (n / ch) i (mahead mf ch i) f q).2.2))])), (gb, .inr (0, [.ref gr, .int (iI ((rblkR r E ch bl (n / ch) i (mahead mf ch i) f q).2.1)), .int (iI E)])), (gr, .inr (2, [.ref ga, .int (iI F)])), (ga, .inl (X.2.2, 3000, .inl (aI r))), (s2, .inr (4, [.ref a2, .int (iI ch), .int (iI bl), .int (iI n)])), (a2, .inl (X.2.1, 800, .inl (aI ((rblkR r E ch bl (n / ch) i (mahead mf ch i) f q).1)))), (hm2, .inr (3, [.ref am])), (am, .inl (X.2.1, 800, .inl (aI (if (rblkR r E ch bl (n / ch) i (mahead mf ch i) f q).2.2 = -1 then upI mf i (bmean (rblkR r E ch bl (n / ch) i (mahead mf ch i) f q).1 ch bl (n / ch) i) else mf))))]) (by first | (rw [if_neg hR2, ← hR]; done) | (rw [if_pos hR2, ← hR]; done)) ?_
          exact J_vret cx hr dX5_parseBlock_204 ⟨rfl, rfl⟩
      · skip
        have her2 : er2 = -1 := by (split at h_77); (assumption); (omega)
        subst her2
        have okt4 := okt3 rfl
        have h_in := blk_in (ch := ch) (bl := bl) (n := n) (i := i) (j := j) hc hn.1 hib.1 hi.1 (by omega) (by omega)
        rw [← hpl] at h_in
        have hnv := nnv_rng r hE ⟨okt1.1, okt4⟩ hkr
        have hnw : 0 ≤ nwV r E t (-1) k 0 2147483647 ∧ nwV r E t (-1) k 0 2147483647 ≤ 2147483647 := nwV_rng hE ⟨okt1, by omega, fun _ => okt4⟩ (by decide)
        have hun := unfI_rng (u := nwV r E t (-1) k 0 2147483647) (by omega)
        have htr := tah_rng hg2 hmr ch fn pl
        have oknw : okP E (nwQ r E t (-1) k) (nwE r E t (-1) k 0 2147483647) := nw_ok hE ⟨okt1, by omega, fun _ => okt4⟩ hkr
        refine J_aload_n cx dX5_parseBlock_80 rfl 6 rfl ?_
        refine J_get cx inC5 0 rfl rfl 1 (by decide) T160 rfl rfl dX5_parseBlock_81 ?_
        refine J_getN cx inC0 1 rfl rfl 1 (by decide) T147 rfl rfl dX5_parseBlock_84 ?_
        refine J_istore (lv' := [(8, .int (iI t)), (7, .int (iI j)), (6, .int (iI (bsize ch bl (n / ch) i))), (5, .int (iI pl)), (4, .int (iI mu)), (3, .int (iI k)), (2, .int (iI fn)), (0, .ref h), (1, .int (iI i))]) cx dX5_parseBlock_87 (by decide) rfl ?_
        refine J_iload_n cx dX5_parseBlock_89 rfl 6 rfl ?_
        refine J_iconst cx dX5_parseBlock_90 ?_
        refine J_icmp_ne (tgt := 98) cx dX5_parseBlock_91 (by decide) (by omega) (by decide) (fun h_91 => ?_) (fun h_91 => ?_)
        · skip
          refine J_aload_n cx dX5_parseBlock_98 rfl 7 rfl ?_
          refine J_iload_n cx dX5_parseBlock_99 rfl 5 rfl ?_
          refine J_iconst cx dX5_parseBlock_100 ?_
          refine J_ldc cx T440 dX5_parseBlock_101 ?_
          refine J_callV (C := RX5) (T := TX5) (N := 5) cx (As := [.int (iI k), .int (iI 0), .int (iI 2147483647)]) (rest := []) (mX5_nextWithin l X h hm2 gb s1 s2 (-1) gr ga r t E F k 0 2147483647 (by omega) (hrr) (by omega) (by omega) (⟨okt1, by omega, fun _ => okt4⟩)) T422 T419 T421 S9 T7 ⟨rfl, hd_X5_nextWithin⟩ rfl ⟨Nat.le_of_ble_eq_true rfl, Nat.le_of_ble_eq_true rfl⟩ (Nat.le_of_ble_eq_true rfl) ⟨Nat.le_of_ble_eq_true rfl, Nat.le_of_ble_eq_true rfl⟩ [0, 1, 2, 3] [4, 5, 6, 7] rfl rfl rfl rfl rfl (by decide) 0 rfl rfl dX5_parseBlock_103 rfl (J_f (ws' := [(h, .inr (5, [.ref hm2, .ref gb, .ref s1, .ref s2, .int (iI (nwE r E t (-1) k 0 2147483647))])), (gb, .inr (0, [.ref gr, .int (iI (nwQ r E t (-1) k)), .int (iI E)])), (gr, .inr (2, [.ref ga, .int (iI F)])), (ga, .inl (X.2.2, 3000, .inl (aI r))), (s2, .inr (4, [.ref a2, .int (iI ch), .int (iI bl), .int (iI n)])), (a2, .inl (X.2.1, 800, .inl (aI g2))), (hm2, .inr (3, [.ref am])), (am, .inl (X.2.1, 800, .inl (aI mf)))]) (st' := [.int (iI (nwV r E t (-1) k 0 2147483647))]) [4, 5, 6, 7, 0, 1, 2, 3] rfl rfl rfl rfl ?_)
          refine J_callSN cx (As := [.int (iI (nwV r E t (-1) k 0 2147483647))]) (rest := []) (mX7_unfold l X (nwV r E t (-1) k 0 2147483647) (by omega)) T443 T441 T442 T1 hd_X7_unfold rfl ⟨Nat.le_of_ble_eq_true rfl, Nat.le_of_ble_eq_true rfl⟩ (Nat.le_of_ble_eq_true rfl) ⟨Nat.le_of_ble_eq_true rfl, Nat.le_of_ble_eq_true rfl⟩ [] [0, 1, 2, 3, 4, 5, 6, 7] rfl rfl rfl rfl rfl (by decide) dX5_parseBlock_106 rfl (J_f (ws' := [(h, .inr (5, [.ref hm2, .ref gb, .ref s1, .ref s2, .int (iI (nwE r E t (-1) k 0 2147483647))])), (gb, .inr (0, [.ref gr, .int (iI (nwQ r E t (-1) k)), .int (iI E)])), (gr, .inr (2, [.ref ga, .int (iI F)])), (ga, .inl (X.2.2, 3000, .inl (aI r))), (s2, .inr (4, [.ref a2, .int (iI ch), .int (iI bl), .int (iI n)])), (a2, .inl (X.2.1, 800, .inl (aI g2))), (hm2, .inr (3, [.ref am])), (am, .inl (X.2.1, 800, .inl (aI mf)))]) (st' := [.int (iI (unfI (nwV r E t (-1) k 0 2147483647)))]) [0, 1, 2, 3, 4, 5, 6, 7] rfl rfl rfl rfl ?_)
          refine J_istore (lv' := [(9, .int (iI (unfI (nwV r E t (-1) k 0 2147483647)))), (8, .int (iI t)), (7, .int (iI j)), (6, .int (iI (bsize ch bl (n / ch) i))), (5, .int (iI pl)), (4, .int (iI mu)), (3, .int (iI k)), (2, .int (iI fn)), (0, .ref h), (1, .int (iI i))]) cx dX5_parseBlock_109 (by decide) rfl ?_
          refine J_aload_n cx dX5_parseBlock_111 rfl 8 rfl ?_
          refine J_get cx inC5 0 rfl rfl 3 (by decide) T164 rfl rfl dX5_parseBlock_112 ?_
          refine J_iload_n cx dX5_parseBlock_115 rfl 7 rfl ?_
          refine J_iload cx dX5_parseBlock_116 4 rfl ?_
          refine J_iload cx dX5_parseBlock_118 5 rfl ?_
          refine J_callV (C := RX4) (T := TX4) (N := 4) cx (As := [.int (iI fn), .int (iI pl), .int (iI mu)]) (rest := []) (mX4_toldAhead l X s2 a2 g2 ch bl n fn pl mu (by omega) (by omega) (by omega) (by omega)) T318 T444 T316 T317 T2 ⟨rfl, hd_X4_toldAhead⟩ rfl ⟨Nat.le_of_ble_eq_true rfl, Nat.le_of_ble_eq_true rfl⟩ (Nat.le_of_ble_eq_true rfl) ⟨Nat.le_of_ble_eq_true rfl, Nat.le_of_ble_eq_true rfl⟩ [4, 5] [0, 1, 2, 3, 6, 7] rfl rfl rfl rfl rfl (by decide) 4 rfl rfl dX5_parseBlock_120 rfl (J_f (ws' := [(h, .inr (5, [.ref hm2, .ref gb, .ref s1, .ref s2, .int (iI (nwE r E t (-1) k 0 2147483647))])), (gb, .inr (0, [.ref gr, .int (iI (nwQ r E t (-1) k)), .int (iI E)])), (gr, .inr (2, [.ref ga, .int (iI F)])), (ga, .inl (X.2.2, 3000, .inl (aI r))), (s2, .inr (4, [.ref a2, .int (iI ch), .int (iI bl), .int (iI n)])), (a2, .inl (X.2.1, 800, .inl (aI g2))), (hm2, .inr (3, [.ref am])), (am, .inl (X.2.1, 800, .inl (aI mf)))]) (st' := [.int (iI (tah g2 ch fn pl mu))]) [0, 1, 2, 3, 6, 7, 4, 5] rfl rfl rfl rfl ?_)
          refine J_iload cx dX5_parseBlock_123 0 rfl ?_
          refine J_iadd cx dX5_parseBlock_125 ?_
          refine J_istore (lv' := [(10, .int (iI ((tah g2 ch fn pl mu) + (unfI (nwV r E t (-1) k 0 2147483647))))), (9, .int (iI (unfI (nwV r E t (-1) k 0 2147483647)))), (8, .int (iI t)), (7, .int (iI j)), (6, .int (iI (bsize ch bl (n / ch) i))), (5, .int (iI pl)), (4, .int (iI mu)), (3, .int (iI k)), (2, .int (iI fn)), (0, .ref h), (1, .int (iI i))]) cx dX5_parseBlock_126 (by decide) rfl ?_
          refine J_aload_n cx dX5_parseBlock_128 rfl 9 rfl ?_
          refine J_callV (C := RX5) (T := TX5) (N := 5) cx (As := []) (rest := []) (mX5_isRight l X h hm2 gb s1 s2 (nwE r E t (-1) k 0 2147483647) (by first | exact oknw.2.1 | omega)) T406 T403 T405 S7 T7 ⟨rfl, hd_X5_isRight⟩ rfl ⟨Nat.le_of_ble_eq_true rfl, Nat.le_of_ble_eq_true rfl⟩ (Nat.le_of_ble_eq_true rfl) ⟨Nat.le_of_ble_eq_true rfl, Nat.le_of_ble_eq_true rfl⟩ [0] [1, 2, 3, 4, 5, 6, 7] rfl rfl rfl rfl rfl (by decide) 0 rfl rfl dX5_parseBlock_129 rfl (J_f (ws' := [(h, .inr (5, [.ref hm2, .ref gb, .ref s1, .ref s2, .int (iI (nwE r E t (-1) k 0 2147483647))])), (gb, .inr (0, [.ref gr, .int (iI (nwQ r E t (-1) k)), .int (iI E)])), (gr, .inr (2, [.ref ga, .int (iI F)])), (ga, .inl (X.2.2, 3000, .inl (aI r))), (s2, .inr (4, [.ref a2, .int (iI ch), .int (iI bl), .int (iI n)])), (a2, .inl (X.2.1, 800, .inl (aI g2))), (hm2, .inr (3, [.ref am])), (am, .inl (X.2.1, 800, .inl (aI mf)))]) (st' := [.int (iI (if (nwE r E t (-1) k 0 2147483647) = -1 then 1 else 0))]) [7, 0, 1, 2, 3, 4, 5, 6] rfl rfl rfl rfl ?_)
          refine J_if_eq (tgt := 149) cx dX5_parseBlock_132 (by decide) (by split <;> omega) (fun h_132 => ?_) (fun h_132 => ?_)
          · skip
            have hne : ¬ nwE r E t (-1) k 0 2147483647 = -1 := by (intro h5; rw [if_pos h5] at h_132; omega)
            have hov : nnv r E t k = -1 := by (by_cases h5 : nnv r E t k = -1); (exact h5); (exact absurd (show judgeE E t (nnv r E t k) 0 2147483647 = -1 from by unfold judgeE; rw [if_neg h5, if_neg (by omega)]) hne)
            have hEE : nwE r E t (-1) k 0 2147483647 = E := by (show judgeE E t (nnv r E t k) 0 2147483647 = E); (unfold judgeE; rw [if_pos hov])
            refine J_ws (ws' := [(h, .inr (5, [.ref hm2, .ref gb, .ref s1, .ref s2, .int (iI E)])), (gb, .inr (0, [.ref gr, .int (iI (nwQ r E t (-1) k)), .int (iI E)])), (gr, .inr (2, [.ref ga, .int (iI F)])), (ga, .inl (X.2.2, 3000, .inl (aI r))), (s2, .inr (4, [.ref a2, .int (iI ch), .int (iI bl), .int (iI n)])), (a2, .inl (X.2.1, 800, .inl (aI g2))), (hm2, .inr (3, [.ref am])), (am, .inl (X.2.1, 800, .inl (aI mf)))]) (by rw [show (nwE r E t (-1) k 0 2147483647 : Int) = E from hEE]) ?_
            refine J_aload_n cx dX5_parseBlock_149 rfl 9 rfl ?_
            refine J_callV (C := RX5) (T := TX5) (N := 5) cx (As := []) (rest := []) (mX5_isRight l X h hm2 gb s1 s2 E (by omega)) T406 T403 T405 S7 T7 ⟨rfl, hd_X5_isRight⟩ rfl ⟨Nat.le_of_ble_eq_true rfl, Nat.le_of_ble_eq_true rfl⟩ (Nat.le_of_ble_eq_true rfl) ⟨Nat.le_of_ble_eq_true rfl, Nat.le_of_ble_eq_true rfl⟩ [0] [1, 2, 3, 4, 5, 6, 7] rfl rfl rfl rfl rfl (by decide) 0 rfl rfl dX5_parseBlock_150 rfl (J_f (ws' := [(h, .inr (5, [.ref hm2, .ref gb, .ref s1, .ref s2, .int (iI E)])), (gb, .inr (0, [.ref gr, .int (iI (nwQ r E t (-1) k)), .int (iI E)])), (gr, .inr (2, [.ref ga, .int (iI F)])), (ga, .inl (X.2.2, 3000, .inl (aI r))), (s2, .inr (4, [.ref a2, .int (iI ch), .int (iI bl), .int (iI n)])), (a2, .inl (X.2.1, 800, .inl (aI g2))), (hm2, .inr (3, [.ref am])), (am, .inl (X.2.1, 800, .inl (aI mf)))]) (st' := [.int (iI (if E = -1 then 1 else 0))]) [7, 0, 1, 2, 3, 4, 5, 6] rfl rfl rfl rfl ?_)
            refine J_top (b := 0) (if_neg (by omega)) ?_
            refine J_if_eq (tgt := 167) cx dX5_parseBlock_153 (by decide) (by decide) (fun h_153 => ?_) (fun h_153 => ?_)
            rotate_left
            · exact absurd h_153 (by decide)
            refine J_iload cx dX5_parseBlock_167 5 rfl ?_
            refine J_aload_n cx dX5_parseBlock_169 rfl 9 rfl ?_
            refine J_get cx inC5 0 rfl rfl 3 (by decide) T164 rfl rfl dX5_parseBlock_170 ?_
            refine J_getN cx inC4 4 rfl rfl 1 (by decide) T30 rfl rfl dX5_parseBlock_173 ?_
            refine J_iadd cx dX5_parseBlock_176 ?_
            refine J_istore (lv' := [(5, .int (iI (pl + ch))), (10, .int (iI ((tah g2 ch fn pl mu) + (unfI (nwV r E t (-1) k 0 2147483647))))), (9, .int (iI (unfI (nwV r E t (-1) k 0 2147483647)))), (8, .int (iI t)), (7, .int (iI j)), (6, .int (iI (bsize ch bl (n / ch) i))), (4, .int (iI mu)), (3, .int (iI k)), (2, .int (iI fn)), (0, .ref h), (1, .int (iI i))]) cx dX5_parseBlock_177 (by decide) rfl ?_
            refine J_iinc (q := 4) (lv' := [(7, .int (iI (j + 1))), (5, .int (iI (pl + ch))), (10, .int (iI ((tah g2 ch fn pl mu) + (unfI (nwV r E t (-1) k 0 2147483647))))), (9, .int (iI (unfI (nwV r E t (-1) k 0 2147483647)))), (8, .int (iI t)), (6, .int (iI (bsize ch bl (n / ch) i))), (4, .int (iI mu)), (3, .int (iI k)), (2, .int (iI fn)), (0, .ref h), (1, .int (iI i))]) cx dX5_parseBlock_179 rfl (by decide) rfl ?_
            refine J_goto (tgt := 66) cx dX5_parseBlock_182 (by decide) ?_
            refine J_lv (lv' := [(7, .int (iI (j + 1))), (6, .int (iI (bsize ch bl (n / ch) i))), (5, .int (iI (pl + ch))), (4, .int (iI mu)), (3, .int (iI k)), (2, .int (iI fn)), (0, .ref h), (1, .int (iI i))]) [0, 5, 1, 6, 7, 8, 9, 10] rfl ?_
            exact ih_66 fn k mu (j + 1) (pl + ch) g2 (nwQ r E t (-1) k) E ⟨(hfk), (by omega), (by rw [hpl, Int.add_mul]; omega), (by rw [rlp_s hj.1, ← hx, ← hpl]; first | exact rstp_4.symm | exact (rstp_over h_91 hov).symm | (rw [hvv]; exact (rstp_good h_91 hov hsm).symm) | exact (rstp_bad h_91 hov hsm).symm)⟩ (by omega)
          · skip
            have he5 : nwE r E t (-1) k 0 2147483647 = -1 := by (split at h_132); (assumption); (omega)
            have hje : judgeE E t (nnv r E t k) 0 2147483647 = -1 := he5
            have hov : ¬ nnv r E t k = -1 := (judge_ok hE.1 okt1.1 hje).1
            have hvv : nwV r E t (-1) k 0 2147483647 = nnv r E t k := by unfold nwV; rw [if_pos rfl, if_pos hje]
            refine J_ws (ws' := [(h, .inr (5, [.ref hm2, .ref gb, .ref s1, .ref s2, .int (iI (-1))])), (gb, .inr (0, [.ref gr, .int (iI (nwQ r E t (-1) k)), .int (iI E)])), (gr, .inr (2, [.ref ga, .int (iI F)])), (ga, .inl (X.2.2, 3000, .inl (aI r))), (s2, .inr (4, [.ref a2, .int (iI ch), .int (iI bl), .int (iI n)])), (a2, .inl (X.2.1, 800, .inl (aI g2))), (hm2, .inr (3, [.ref am])), (am, .inl (X.2.1, 800, .inl (aI mf)))]) (by rw [show (nwE r E t (-1) k 0 2147483647 : Int) = -1 from he5]) ?_
            refine J_iload cx dX5_parseBlock_135 0 rfl ?_
            refine J_callSN cx (As := [.int (iI ((tah g2 ch fn pl mu) + (unfI (nwV r E t (-1) k 0 2147483647))))]) (rest := []) (mX7_isSample l X ((tah g2 ch fn pl mu) + (unfI (nwV r E t (-1) k 0 2147483647))) (by omega)) T207 T445 T206 T1 hd_X7_isSample rfl ⟨Nat.le_of_ble_eq_true rfl, Nat.le_of_ble_eq_true rfl⟩ (Nat.le_of_ble_eq_true rfl) ⟨Nat.le_of_ble_eq_true rfl, Nat.le_of_ble_eq_true rfl⟩ [] [0, 1, 2, 3, 4, 5, 6, 7] rfl rfl rfl rfl rfl (by decide) dX5_parseBlock_137 rfl (J_f (ws' := [(h, .inr (5, [.ref hm2, .ref gb, .ref s1, .ref s2, .int (iI (-1))])), (gb, .inr (0, [.ref gr, .int (iI (nwQ r E t (-1) k)), .int (iI E)])), (gr, .inr (2, [.ref ga, .int (iI F)])), (ga, .inl (X.2.2, 3000, .inl (aI r))), (s2, .inr (4, [.ref a2, .int (iI ch), .int (iI bl), .int (iI n)])), (a2, .inl (X.2.1, 800, .inl (aI g2))), (hm2, .inr (3, [.ref am])), (am, .inl (X.2.1, 800, .inl (aI mf)))]) (st' := [.int (iI (smpB ((tah g2 ch fn pl mu) + (unfI (nwV r E t (-1) k 0 2147483647)))))]) [0, 1, 2, 3, 4, 5, 6, 7] rfl rfl rfl rfl ?_)
            refine J_if_ne (tgt := 149) cx dX5_parseBlock_140 (by decide) (by unfold smpB; split <;> omega) (fun h_140 => ?_) (fun h_140 => ?_)
            · skip
              have hsm : smpB (tah g2 ch fn pl mu + unfI (nnv r E t k)) = 1 := by (rw [hvv] at h_140); (exact smpB_n0 h_140)
              have hsr := smpB_1 hsm
              refine J_aload_n cx dX5_parseBlock_149 rfl 9 rfl ?_
              refine J_callV (C := RX5) (T := TX5) (N := 5) cx (As := []) (rest := []) (mX5_isRight l X h hm2 gb s1 s2 (-1) (by omega)) T406 T403 T405 S7 T7 ⟨rfl, hd_X5_isRight⟩ rfl ⟨Nat.le_of_ble_eq_true rfl, Nat.le_of_ble_eq_true rfl⟩ (Nat.le_of_ble_eq_true rfl) ⟨Nat.le_of_ble_eq_true rfl, Nat.le_of_ble_eq_true rfl⟩ [0] [1, 2, 3, 4, 5, 6, 7] rfl rfl rfl rfl rfl (by decide) 0 rfl rfl dX5_parseBlock_150 rfl (J_f (ws' := [(h, .inr (5, [.ref hm2, .ref gb, .ref s1, .ref s2, .int (iI (-1))])), (gb, .inr (0, [.ref gr, .int (iI (nwQ r E t (-1) k)), .int (iI E)])), (gr, .inr (2, [.ref ga, .int (iI F)])), (ga, .inl (X.2.2, 3000, .inl (aI r))), (s2, .inr (4, [.ref a2, .int (iI ch), .int (iI bl), .int (iI n)])), (a2, .inl (X.2.1, 800, .inl (aI g2))), (hm2, .inr (3, [.ref am])), (am, .inl (X.2.1, 800, .inl (aI mf)))]) (st' := [.int (iI (if (-1) = -1 then 1 else 0))]) [7, 0, 1, 2, 3, 4, 5, 6] rfl rfl rfl rfl ?_)
              refine J_top (b := 1) (by decide) ?_
              refine J_if_eq (tgt := 167) cx dX5_parseBlock_153 (by decide) (by decide) (fun h_153 => ?_) (fun h_153 => ?_)
              · exact absurd h_153 (by decide)
              refine J_aload_n cx dX5_parseBlock_156 rfl 9 rfl ?_
              refine J_get cx inC5 0 rfl rfl 3 (by decide) T164 rfl rfl dX5_parseBlock_157 ?_
              refine J_iload cx dX5_parseBlock_160 5 rfl ?_
              refine J_iload cx dX5_parseBlock_162 0 rfl ?_
              refine J_callV (C := RX4) (T := TX4) (N := 4) cx (As := [.int (iI pl), .int (iI ((tah g2 ch fn pl mu) + (unfI (nwV r E t (-1) k 0 2147483647))))]) (rest := []) (mX4_setAt l X s2 a2 g2 ch bl n pl ((tah g2 ch fn pl mu) + (unfI (nwV r E t (-1) k 0 2147483647))) (by omega) (by omega)) T449 T446 T447 T448 T2 ⟨rfl, hd_X4_setAt⟩ rfl ⟨Nat.le_of_ble_eq_true rfl, Nat.le_of_ble_eq_true rfl⟩ (Nat.le_of_ble_eq_true rfl) ⟨Nat.le_of_ble_eq_true rfl, Nat.le_of_ble_eq_true rfl⟩ [4, 5] [0, 1, 2, 3, 6, 7] rfl rfl rfl rfl rfl (by decide) 4 rfl rfl dX5_parseBlock_164 rfl (J_f (ws' := [(h, .inr (5, [.ref hm2, .ref gb, .ref s1, .ref s2, .int (iI (-1))])), (gb, .inr (0, [.ref gr, .int (iI (nwQ r E t (-1) k)), .int (iI E)])), (gr, .inr (2, [.ref ga, .int (iI F)])), (ga, .inl (X.2.2, 3000, .inl (aI r))), (s2, .inr (4, [.ref a2, .int (iI ch), .int (iI bl), .int (iI n)])), (a2, .inl (X.2.1, 800, .inl (aI (upI g2 pl ((tah g2 ch fn pl mu) + (unfI (nwV r E t (-1) k 0 2147483647))))))), (hm2, .inr (3, [.ref am])), (am, .inl (X.2.1, 800, .inl (aI mf)))]) (st' := []) [0, 1, 2, 3, 6, 7, 4, 5] rfl rfl rfl rfl ?_)
              refine J_iload cx dX5_parseBlock_167 5 rfl ?_
              refine J_aload_n cx dX5_parseBlock_169 rfl 9 rfl ?_
              refine J_get cx inC5 0 rfl rfl 3 (by decide) T164 rfl rfl dX5_parseBlock_170 ?_
              refine J_getN cx inC4 4 rfl rfl 1 (by decide) T30 rfl rfl dX5_parseBlock_173 ?_
              refine J_iadd cx dX5_parseBlock_176 ?_
              refine J_istore (lv' := [(5, .int (iI (pl + ch))), (10, .int (iI ((tah g2 ch fn pl mu) + (unfI (nwV r E t (-1) k 0 2147483647))))), (9, .int (iI (unfI (nwV r E t (-1) k 0 2147483647)))), (8, .int (iI t)), (7, .int (iI j)), (6, .int (iI (bsize ch bl (n / ch) i))), (4, .int (iI mu)), (3, .int (iI k)), (2, .int (iI fn)), (0, .ref h), (1, .int (iI i))]) cx dX5_parseBlock_177 (by decide) rfl ?_
              refine J_iinc (q := 4) (lv' := [(7, .int (iI (j + 1))), (5, .int (iI (pl + ch))), (10, .int (iI ((tah g2 ch fn pl mu) + (unfI (nwV r E t (-1) k 0 2147483647))))), (9, .int (iI (unfI (nwV r E t (-1) k 0 2147483647)))), (8, .int (iI t)), (6, .int (iI (bsize ch bl (n / ch) i))), (4, .int (iI mu)), (3, .int (iI k)), (2, .int (iI fn)), (0, .ref h), (1, .int (iI i))]) cx dX5_parseBlock_179 rfl (by decide) rfl ?_
              refine J_goto (tgt := 66) cx dX5_parseBlock_182 (by decide) ?_
              refine J_lv (lv' := [(7, .int (iI (j + 1))), (6, .int (iI (bsize ch bl (n / ch) i))), (5, .int (iI (pl + ch))), (4, .int (iI mu)), (3, .int (iI k)), (2, .int (iI fn)), (0, .ref h), (1, .int (iI i))]) [0, 5, 1, 6, 7, 8, 9, 10] rfl ?_
              exact ih_66 fn k mu (j + 1) (pl + ch) (upI g2 pl ((tah g2 ch fn pl mu) + (unfI (nwV r E t (-1) k 0 2147483647)))) (nwQ r E t (-1) k) (-1) ⟨(hfk), (by omega), (by rw [hpl, Int.add_mul]; omega), (by rw [rlp_s hj.1, ← hx, ← hpl]; first | exact rstp_4.symm | exact (rstp_over h_91 hov).symm | (rw [hvv]; exact (rstp_good h_91 hov hsm).symm) | exact (rstp_bad h_91 hov hsm).symm)⟩ (by omega)
            · skip
              have hsm : ¬ smpB (tah g2 ch fn pl mu + unfI (nnv r E t k)) = 1 := by (rw [hvv] at h_140); (omega)
              refine J_aload_n cx dX5_parseBlock_143 rfl 9 rfl ?_
              refine J_iload cx dX5_parseBlock_144 2 rfl ?_
              refine J_put (ty := .int) (ws' := [(h, .inr (5, [.ref hm2, .ref gb, .ref s1, .ref s2, .int (iI t)])), (gb, .inr (0, [.ref gr, .int (iI (nwQ r E t (-1) k)), .int (iI E)])), (gr, .inr (2, [.ref ga, .int (iI F)])), (ga, .inl (X.2.2, 3000, .inl (aI r))), (s2, .inr (4, [.ref a2, .int (iI ch), .int (iI bl), .int (iI n)])), (a2, .inl (X.2.1, 800, .inl (aI g2))), (hm2, .inr (3, [.ref am])), (am, .inl (X.2.1, 800, .inl (aI mf)))]) cx inC5 tyX5_ok nmX5 0 rfl rfl 4 (by decide) T165 rfl rfl (by decide +kernel) (rfl) (rfl) (Nat.le_of_ble_eq_true rfl) rfl dX5_parseBlock_146 ?_
              refine J_aload_n cx dX5_parseBlock_149 rfl 9 rfl ?_
              refine J_callV (C := RX5) (T := TX5) (N := 5) cx (As := []) (rest := []) (mX5_isRight l X h hm2 gb s1 s2 t (by omega)) T406 T403 T405 S7 T7 ⟨rfl, hd_X5_isRight⟩ rfl ⟨Nat.le_of_ble_eq_true rfl, Nat.le_of_ble_eq_true rfl⟩ (Nat.le_of_ble_eq_true rfl) ⟨Nat.le_of_ble_eq_true rfl, Nat.le_of_ble_eq_true rfl⟩ [0] [1, 2, 3, 4, 5, 6, 7] rfl rfl rfl rfl rfl (by decide) 0 rfl rfl dX5_parseBlock_150 rfl (J_f (ws' := [(h, .inr (5, [.ref hm2, .ref gb, .ref s1, .ref s2, .int (iI t)])), (gb, .inr (0, [.ref gr, .int (iI (nwQ r E t (-1) k)), .int (iI E)])), (gr, .inr (2, [.ref ga, .int (iI F)])), (ga, .inl (X.2.2, 3000, .inl (aI r))), (s2, .inr (4, [.ref a2, .int (iI ch), .int (iI bl), .int (iI n)])), (a2, .inl (X.2.1, 800, .inl (aI g2))), (hm2, .inr (3, [.ref am])), (am, .inl (X.2.1, 800, .inl (aI mf)))]) (st' := [.int (iI (if t = -1 then 1 else 0))]) [7, 0, 1, 2, 3, 4, 5, 6] rfl rfl rfl rfl ?_)
              refine J_top (b := 0) (if_neg (by omega)) ?_
              refine J_if_eq (tgt := 167) cx dX5_parseBlock_153 (by decide) (by decide) (fun h_153 => ?_) (fun h_153 => ?_)
              rotate_left
              · exact absurd h_153 (by decide)
              refine J_iload cx dX5_parseBlock_167 5 rfl ?_
              refine J_aload_n cx dX5_parseBlock_169 rfl 9 rfl ?_
              refine J_get cx inC5 0 rfl rfl 3 (by decide) T164 rfl rfl dX5_parseBlock_170 ?_
              refine J_getN cx inC4 4 rfl rfl 1 (by decide) T30 rfl rfl dX5_parseBlock_173 ?_
              refine J_iadd cx dX5_parseBlock_176 ?_
              refine J_istore (lv' := [(5, .int (iI (pl + ch))), (10, .int (iI ((tah g2 ch fn pl mu) + (unfI (nwV r E t (-1) k 0 2147483647))))), (9, .int (iI (unfI (nwV r E t (-1) k 0 2147483647)))), (8, .int (iI t)), (7, .int (iI j)), (6, .int (iI (bsize ch bl (n / ch) i))), (4, .int (iI mu)), (3, .int (iI k)), (2, .int (iI fn)), (0, .ref h), (1, .int (iI i))]) cx dX5_parseBlock_177 (by decide) rfl ?_
              refine J_iinc (q := 4) (lv' := [(7, .int (iI (j + 1))), (5, .int (iI (pl + ch))), (10, .int (iI ((tah g2 ch fn pl mu) + (unfI (nwV r E t (-1) k 0 2147483647))))), (9, .int (iI (unfI (nwV r E t (-1) k 0 2147483647)))), (8, .int (iI t)), (6, .int (iI (bsize ch bl (n / ch) i))), (4, .int (iI mu)), (3, .int (iI k)), (2, .int (iI fn)), (0, .ref h), (1, .int (iI i))]) cx dX5_parseBlock_179 rfl (by decide) rfl ?_
              refine J_goto (tgt := 66) cx dX5_parseBlock_182 (by decide) ?_
              refine J_lv (lv' := [(7, .int (iI (j + 1))), (6, .int (iI (bsize ch bl (n / ch) i))), (5, .int (iI (pl + ch))), (4, .int (iI mu)), (3, .int (iI k)), (2, .int (iI fn)), (0, .ref h), (1, .int (iI i))]) [0, 5, 1, 6, 7, 8, 9, 10] rfl ?_
              exact ih_66 fn k mu (j + 1) (pl + ch) g2 (nwQ r E t (-1) k) t ⟨(hfk), (by omega), (by rw [hpl, Int.add_mul]; omega), (by rw [rlp_s hj.1, ← hx, ← hpl]; first | exact rstp_4.symm | exact (rstp_over h_91 hov).symm | (rw [hvv]; exact (rstp_good h_91 hov hsm).symm) | exact (rstp_bad h_91 hov hsm).symm)⟩ (by omega)
        · skip
          subst h_91
          refine J_iconst cx dX5_parseBlock_94 ?_
          refine J_goto (tgt := 109) cx dX5_parseBlock_95 (by decide) ?_
          refine J_istore (lv' := [(9, .int (iI 0)), (8, .int (iI t)), (7, .int (iI j)), (6, .int (iI (bsize ch bl (n / ch) i))), (5, .int (iI pl)), (4, .int (iI mu)), (3, .int (iI k)), (2, .int (iI 4)), (0, .ref h), (1, .int (iI i))]) cx dX5_parseBlock_109 (by decide) rfl ?_
          refine J_aload_n cx dX5_parseBlock_111 rfl 8 rfl ?_
          refine J_get cx inC5 0 rfl rfl 3 (by decide) T164 rfl rfl dX5_parseBlock_112 ?_
          refine J_iload_n cx dX5_parseBlock_115 rfl 7 rfl ?_
          refine J_iload cx dX5_parseBlock_116 4 rfl ?_
          refine J_iload cx dX5_parseBlock_118 5 rfl ?_
          refine J_callV (C := RX4) (T := TX4) (N := 4) cx (As := [.int (iI 4), .int (iI pl), .int (iI mu)]) (rest := []) (mX4_toldAhead l X s2 a2 g2 ch bl n 4 pl mu (by omega) (by omega) (by omega) (by omega)) T318 T444 T316 T317 T2 ⟨rfl, hd_X4_toldAhead⟩ rfl ⟨Nat.le_of_ble_eq_true rfl, Nat.le_of_ble_eq_true rfl⟩ (Nat.le_of_ble_eq_true rfl) ⟨Nat.le_of_ble_eq_true rfl, Nat.le_of_ble_eq_true rfl⟩ [4, 5] [0, 1, 2, 3, 6, 7] rfl rfl rfl rfl rfl (by decide) 4 rfl rfl dX5_parseBlock_120 rfl (J_f (ws' := [(h, .inr (5, [.ref hm2, .ref gb, .ref s1, .ref s2, .int (iI (-1))])), (gb, .inr (0, [.ref gr, .int (iI t), .int (iI E)])), (gr, .inr (2, [.ref ga, .int (iI F)])), (ga, .inl (X.2.2, 3000, .inl (aI r))), (s2, .inr (4, [.ref a2, .int (iI ch), .int (iI bl), .int (iI n)])), (a2, .inl (X.2.1, 800, .inl (aI g2))), (hm2, .inr (3, [.ref am])), (am, .inl (X.2.1, 800, .inl (aI mf)))]) (st' := [.int (iI (tah g2 ch 4 pl mu))]) [0, 1, 2, 3, 6, 7, 4, 5] rfl rfl rfl rfl ?_)
          refine J_iload cx dX5_parseBlock_123 0 rfl ?_
          refine J_iadd cx dX5_parseBlock_125 ?_
          refine J_top (b := mu) (by unfold tah; simp) ?_
          refine J_istore (lv' := [(10, .int (iI mu)), (9, .int (iI 0)), (8, .int (iI t)), (7, .int (iI j)), (6, .int (iI (bsize ch bl (n / ch) i))), (5, .int (iI pl)), (4, .int (iI mu)), (3, .int (iI k)), (2, .int (iI 4)), (0, .ref h), (1, .int (iI i))]) cx dX5_parseBlock_126 (by decide) rfl ?_
          refine J_aload_n cx dX5_parseBlock_128 rfl 9 rfl ?_
          refine J_callV (C := RX5) (T := TX5) (N := 5) cx (As := []) (rest := []) (mX5_isRight l X h hm2 gb s1 s2 (-1) (by first | exact oknw.2.1 | omega)) T406 T403 T405 S7 T7 ⟨rfl, hd_X5_isRight⟩ rfl ⟨Nat.le_of_ble_eq_true rfl, Nat.le_of_ble_eq_true rfl⟩ (Nat.le_of_ble_eq_true rfl) ⟨Nat.le_of_ble_eq_true rfl, Nat.le_of_ble_eq_true rfl⟩ [0] [1, 2, 3, 4, 5, 6, 7] rfl rfl rfl rfl rfl (by decide) 0 rfl rfl dX5_parseBlock_129 rfl (J_f (ws' := [(h, .inr (5, [.ref hm2, .ref gb, .ref s1, .ref s2, .int (iI (-1))])), (gb, .inr (0, [.ref gr, .int (iI t), .int (iI E)])), (gr, .inr (2, [.ref ga, .int (iI F)])), (ga, .inl (X.2.2, 3000, .inl (aI r))), (s2, .inr (4, [.ref a2, .int (iI ch), .int (iI bl), .int (iI n)])), (a2, .inl (X.2.1, 800, .inl (aI g2))), (hm2, .inr (3, [.ref am])), (am, .inl (X.2.1, 800, .inl (aI mf)))]) (st' := [.int (iI (if (-1) = -1 then 1 else 0))]) [7, 0, 1, 2, 3, 4, 5, 6] rfl rfl rfl rfl ?_)
          refine J_top (b := 1) (by decide) ?_
          refine J_if_eq (tgt := 149) cx dX5_parseBlock_132 (by decide) (by decide) (fun h_132 => ?_) (fun h_132 => ?_)
          · exact absurd h_132 (by decide)
          refine J_iload cx dX5_parseBlock_135 0 rfl ?_
          refine J_callSN cx (As := [.int (iI mu)]) (rest := []) (mX7_isSample l X mu (by omega)) T207 T445 T206 T1 hd_X7_isSample rfl ⟨Nat.le_of_ble_eq_true rfl, Nat.le_of_ble_eq_true rfl⟩ (Nat.le_of_ble_eq_true rfl) ⟨Nat.le_of_ble_eq_true rfl, Nat.le_of_ble_eq_true rfl⟩ [] [0, 1, 2, 3, 4, 5, 6, 7] rfl rfl rfl rfl rfl (by decide) dX5_parseBlock_137 rfl (J_f (ws' := [(h, .inr (5, [.ref hm2, .ref gb, .ref s1, .ref s2, .int (iI (-1))])), (gb, .inr (0, [.ref gr, .int (iI t), .int (iI E)])), (gr, .inr (2, [.ref ga, .int (iI F)])), (ga, .inl (X.2.2, 3000, .inl (aI r))), (s2, .inr (4, [.ref a2, .int (iI ch), .int (iI bl), .int (iI n)])), (a2, .inl (X.2.1, 800, .inl (aI g2))), (hm2, .inr (3, [.ref am])), (am, .inl (X.2.1, 800, .inl (aI mf)))]) (st' := [.int (iI (smpB mu))]) [0, 1, 2, 3, 4, 5, 6, 7] rfl rfl rfl rfl ?_)
          refine J_top (b := 1) (by unfold smpB; rw [if_pos (by omega)]) ?_
          refine J_if_ne (tgt := 149) cx dX5_parseBlock_140 (by decide) (by decide) (fun h_140 => ?_) (fun h_140 => ?_)
          rotate_left
          · exact absurd h_140 (by decide)
          refine J_aload_n cx dX5_parseBlock_149 rfl 9 rfl ?_
          refine J_callV (C := RX5) (T := TX5) (N := 5) cx (As := []) (rest := []) (mX5_isRight l X h hm2 gb s1 s2 (-1) (by omega)) T406 T403 T405 S7 T7 ⟨rfl, hd_X5_isRight⟩ rfl ⟨Nat.le_of_ble_eq_true rfl, Nat.le_of_ble_eq_true rfl⟩ (Nat.le_of_ble_eq_true rfl) ⟨Nat.le_of_ble_eq_true rfl, Nat.le_of_ble_eq_true rfl⟩ [0] [1, 2, 3, 4, 5, 6, 7] rfl rfl rfl rfl rfl (by decide) 0 rfl rfl dX5_parseBlock_150 rfl (J_f (ws' := [(h, .inr (5, [.ref hm2, .ref gb, .ref s1, .ref s2, .int (iI (-1))])), (gb, .inr (0, [.ref gr, .int (iI t), .int (iI E)])), (gr, .inr (2, [.ref ga, .int (iI F)])), (ga, .inl (X.2.2, 3000, .inl (aI r))), (s2, .inr (4, [.ref a2, .int (iI ch), .int (iI bl), .int (iI n)])), (a2, .inl (X.2.1, 800, .inl (aI g2))), (hm2, .inr (3, [.ref am])), (am, .inl (X.2.1, 800, .inl (aI mf)))]) (st' := [.int (iI (if (-1) = -1 then 1 else 0))]) [7, 0, 1, 2, 3, 4, 5, 6] rfl rfl rfl rfl ?_)
          refine J_top (b := 1) (by decide) ?_
          refine J_if_eq (tgt := 167) cx dX5_parseBlock_153 (by decide) (by decide) (fun h_153 => ?_) (fun h_153 => ?_)
          · exact absurd h_153 (by decide)
          refine J_aload_n cx dX5_parseBlock_156 rfl 9 rfl ?_
          refine J_get cx inC5 0 rfl rfl 3 (by decide) T164 rfl rfl dX5_parseBlock_157 ?_
          refine J_iload cx dX5_parseBlock_160 5 rfl ?_
          refine J_iload cx dX5_parseBlock_162 0 rfl ?_
          refine J_callV (C := RX4) (T := TX4) (N := 4) cx (As := [.int (iI pl), .int (iI mu)]) (rest := []) (mX4_setAt l X s2 a2 g2 ch bl n pl mu (by omega) (by omega)) T449 T446 T447 T448 T2 ⟨rfl, hd_X4_setAt⟩ rfl ⟨Nat.le_of_ble_eq_true rfl, Nat.le_of_ble_eq_true rfl⟩ (Nat.le_of_ble_eq_true rfl) ⟨Nat.le_of_ble_eq_true rfl, Nat.le_of_ble_eq_true rfl⟩ [4, 5] [0, 1, 2, 3, 6, 7] rfl rfl rfl rfl rfl (by decide) 4 rfl rfl dX5_parseBlock_164 rfl (J_f (ws' := [(h, .inr (5, [.ref hm2, .ref gb, .ref s1, .ref s2, .int (iI (-1))])), (gb, .inr (0, [.ref gr, .int (iI t), .int (iI E)])), (gr, .inr (2, [.ref ga, .int (iI F)])), (ga, .inl (X.2.2, 3000, .inl (aI r))), (s2, .inr (4, [.ref a2, .int (iI ch), .int (iI bl), .int (iI n)])), (a2, .inl (X.2.1, 800, .inl (aI (upI g2 pl mu)))), (hm2, .inr (3, [.ref am])), (am, .inl (X.2.1, 800, .inl (aI mf)))]) (st' := []) [0, 1, 2, 3, 6, 7, 4, 5] rfl rfl rfl rfl ?_)
          refine J_iload cx dX5_parseBlock_167 5 rfl ?_
          refine J_aload_n cx dX5_parseBlock_169 rfl 9 rfl ?_
          refine J_get cx inC5 0 rfl rfl 3 (by decide) T164 rfl rfl dX5_parseBlock_170 ?_
          refine J_getN cx inC4 4 rfl rfl 1 (by decide) T30 rfl rfl dX5_parseBlock_173 ?_
          refine J_iadd cx dX5_parseBlock_176 ?_
          refine J_istore (lv' := [(5, .int (iI (pl + ch))), (10, .int (iI mu)), (9, .int (iI 0)), (8, .int (iI t)), (7, .int (iI j)), (6, .int (iI (bsize ch bl (n / ch) i))), (4, .int (iI mu)), (3, .int (iI k)), (2, .int (iI 4)), (0, .ref h), (1, .int (iI i))]) cx dX5_parseBlock_177 (by decide) rfl ?_
          refine J_iinc (q := 4) (lv' := [(7, .int (iI (j + 1))), (5, .int (iI (pl + ch))), (10, .int (iI mu)), (9, .int (iI 0)), (8, .int (iI t)), (6, .int (iI (bsize ch bl (n / ch) i))), (4, .int (iI mu)), (3, .int (iI k)), (2, .int (iI 4)), (0, .ref h), (1, .int (iI i))]) cx dX5_parseBlock_179 rfl (by decide) rfl ?_
          refine J_goto (tgt := 66) cx dX5_parseBlock_182 (by decide) ?_
          refine J_lv (lv' := [(7, .int (iI (j + 1))), (6, .int (iI (bsize ch bl (n / ch) i))), (5, .int (iI (pl + ch))), (4, .int (iI mu)), (3, .int (iI k)), (2, .int (iI 4)), (0, .ref h), (1, .int (iI i))]) [0, 5, 1, 6, 7, 8, 9, 10] rfl ?_
          exact ih_66 4 k mu (j + 1) (pl + ch) (upI g2 pl mu) t (-1) ⟨(hfk), (by omega), (by rw [hpl, Int.add_mul]; omega), (by rw [rlp_s hj.1, ← hx, ← hpl]; first | exact rstp_4.symm | exact (rstp_over h_91 hov).symm | (rw [hvv]; exact (rstp_good h_91 hov hsm).symm) | exact (rstp_bad h_91 hov hsm).symm)⟩ (by omega)
  · intro jn_25
    refine J_iload_n cx dX5_parseBlock_8 rfl 0 rfl ?_
    refine J_iconst cx dX5_parseBlock_9 ?_
    refine J_icmp_ne (tgt := 17) cx dX5_parseBlock_10 (by decide) (by omega) (by decide) (fun h_10 => ?_) (fun h_10 => ?_)
    · skip
      refine J_aload_n cx dX5_parseBlock_17 rfl 1 rfl ?_
      refine J_iconst cx dX5_parseBlock_18 ?_
      refine J_iconst cx dX5_parseBlock_19 ?_
      refine J_bipush cx dX5_parseBlock_20 (by decide) ?_
      refine J_callV (C := RX5) (T := TX5) (N := 5) cx (As := [.int (iI 3), .int (iI 0), .int (iI 15)]) (rest := []) (mX5_nextWithin l X h hm2 gb s1 s2 (rbE1 r E q) gr ga r (rbQ1 r E q) E F 3 0 15 (by omega) (hrr) (by omega) (by omega) (okb1)) T422 T419 T421 S9 T7 ⟨rfl, hd_X5_nextWithin⟩ rfl ⟨Nat.le_of_ble_eq_true rfl, Nat.le_of_ble_eq_true rfl⟩ (Nat.le_of_ble_eq_true rfl) ⟨Nat.le_of_ble_eq_true rfl, Nat.le_of_ble_eq_true rfl⟩ [0, 1, 2, 3] [4, 5, 6, 7] rfl rfl rfl rfl rfl (by decide) 0 rfl rfl dX5_parseBlock_22 rfl (J_f (ws' := [(h, .inr (5, [.ref hm2, .ref gb, .ref s1, .ref s2, .int (iI (nwE r E (rbQ1 r E q) (rbE1 r E q) 3 0 15))])), (gb, .inr (0, [.ref gr, .int (iI (nwQ r E (rbQ1 r E q) (rbE1 r E q) 3)), .int (iI E)])), (gr, .inr (2, [.ref ga, .int (iI F)])), (ga, .inl (X.2.2, 3000, .inl (aI r))), (s2, .inr (4, [.ref a2, .int (iI ch), .int (iI bl), .int (iI n)])), (a2, .inl (X.2.1, 800, .inl (aI f))), (hm2, .inr (3, [.ref am])), (am, .inl (X.2.1, 800, .inl (aI mf)))]) (st' := [.int (iI (nwV r E (rbQ1 r E q) (rbE1 r E q) 3 0 15))]) [4, 5, 6, 7, 0, 1, 2, 3] rfl rfl rfl rfl ?_)
      exact jn_25 (nwV r E (rbQ1 r E q) (rbE1 r E q) 3 0 15) (nwQ r E (rbQ1 r E q) (rbE1 r E q) 3) (nwE r E (rbQ1 r E q) (rbE1 r E q) 3 0 15) ⟨(by unfold rbK; split <;> first | rfl | contradiction), (by unfold rbQ2; split <;> first | rfl | contradiction), (by unfold rbE2; split <;> first | rfl | contradiction)⟩
    · skip
      refine J_iconst cx dX5_parseBlock_13 ?_
      refine J_goto (tgt := 25) cx dX5_parseBlock_14 (by decide) ?_
      exact jn_25 0 (rbQ1 r E q) (rbE1 r E q) ⟨(by unfold rbK; split <;> first | rfl | contradiction), (by unfold rbQ2; split <;> first | rfl | contradiction), (by unfold rbE2; split <;> first | rfl | contradiction)⟩
