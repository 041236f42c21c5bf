/-! THE CLAIM OUT OF ONE WALK OF THE LAW'S BODY. Your part is whole_start (and what it stands on); all else here is the same for every law, but numbers. -/
def R_law : String := "BlockSoundLaw"
def lw_P (b : Addr) (xs : List Int32) (args : Array Value) (s : State) : Prop := args = #[.ref b] ∧ s.IntsAt b xs ∧ xs.length ≤ 2048 ∧ (Jvm.Cond.and given_1 narrow_1).before args s = true
def lw_Q (_ : Array Value) (s : State) (o : Outcome) (t : State) : Prop := o = .returned (some (.int 1)) ∧ Framed s o t [] 600000 7302250
def lw_Z (below : List Frame) (a : Array Value) (s : State) : State → Prop := fun t => ∃ o, t.status = .running ∧ Ended t below o ∧ lw_Q a s o t
/-- the law's own end, with 1 on the stack, nothing written that was there before, its room as the claim has it -/
theorem lw_ret {p : Program} {l : Launch} {e : Env} {s : State} {m : MethodId} {below : List Frame} {meth : Method} {c : Code} {b : Nat} (hx : p.tables.exec = Jvm.exec) (hb : c.code = code) (hr : meth.sig.returnType = ret) (hlocks : meth.locks = false) {pc : Nat} {H : Heap} {ls : Array Slot} (hdg : decode code pc = .ok (.ireturn, 1)) : W p l e room_1 s m #[Value.ref b] below meth c H [] 600000 7302250 (lw_Z below #[Value.ref b] s) (F0 m pc ls [.int 1]) := by
  intro T hT X
  obtain ⟨fs, hret, hrun, hended, hW, hframe⟩ := X.leave (v := some (.int 1)) (hlocks := hlocks) (fun h => by rw [hr] at h; cases h)
  have hmeth' : T.vm.method? m = some meth := X.method'
  refine ⟨T.setFrames fs, ?_, .returned (some (.int 1)), hrun, hended, rfl, ⟨_, rfl⟩, hW, hframe⟩
  jvm_step X.here [X.here.top, hx, hb, hdg, hmeth', hr, ret, narrow_b1]
  (try refine ⟨rfl, ?_⟩); (try refine ⟨rfl, ?_⟩)
  first | (intro acts; rw [hret _ acts rfl rfl rfl]) | rw [hret _ _ rfl rfl rfl]
  exact Steps.refl _
/-- what holds at the law's entry: the machine, the code, the tables' words (any of lw_tbl by 'hts w (by decide +kernel)'), the script of L ints xs at the cell b, what the Statement gives of the start (any of its parts by flat_of_before) -/
def lw_At (p : Program) (s : State) (m : MethodId) (meth : Method) (c : Code) (b L : Nat) (xs : Nat → Int32) : Prop :=
  p.tables.exec = Jvm.exec ∧ c.code = code ∧ meth.sig.returnType = ret ∧ c.maxLocals = 4 ∧ s.vm.findClass R_law = some m.cls ∧ (∀ w ∈ lw_tbl, w.before #[Value.ref b] s = true) ∧ va_X b L xs s s.heap ∧ b < s.heap.size ∧ meth.locks = false ∧ (Jvm.Cond.and given_1 narrow_1).before #[Value.ref b] s = true
theorem law_end (l : Launch) (X : GX) {p : Program} {e : Env} {s : State} {m : MethodId} {below : List Frame} {meth : Method} {c : Code} {A : Nat → Prop} {sb L : Nat} {sc : Int → Int} (cx : Cx p s m #[Value.ref sb] meth c X A 4 cL_law RL) (hX : va_X sb L (aI sc) s s.heap) (hbl : sb < s.heap.size) (hbA : ¬ A sb) (hL : L ≤ 2048) (hsc : ∀ j, -2147483648 ≤ sc j ∧ sc j < 2147483648) (hA : ∀ q, A q → s.heap.size ≤ q) (hret : meth.sig.returnType = ret) {ws : va_W} {lv : List (Nat × Value)} : J p l e room_1 s m #[Value.ref sb] below meth c X A 4 33 85941 (lw_Z below #[Value.ref sb] s) ws lv 378 [] := by
  refine J_iconst cx dL_law_378 ?_
  intro H locs ls hP hD hS hl
  refine W.widen (k := 600000) (n := 7302250) (Nat.le_of_ble_eq_true rfl) (Nat.le_of_ble_eq_true rfl) ?_
  refine va_forget (fun q hq => hA _ (hS.2.2 q hq)) ?_
  rw [show iI 1 = 1 from by decide]
  exact lw_ret cx.1 cx.2.1 hret cx.2.2.2.2.2.2.2 dL_law_379
set_option maxHeartbeats 4000000 in
set_option maxRecDepth 100000 in
theorem law_loop (l : Launch) (X : GX) {p : Program} {e : Env} {s : State} {m : MethodId} {below : List Frame} {meth : Method} {c : Code} {A : Nat → Prop} {sb L : Nat} {sc : Int → Int} (cx : Cx p s m #[Value.ref sb] meth c X A 4 cL_law RL) (hX : va_X sb L (aI sc) s s.heap) (hbl : sb < s.heap.size) (hbA : ¬ A sb) (hL : L ≤ 2048) (hsc : ∀ j, -2147483648 ≤ sc j ∧ sc j < 2147483648) (hA : ∀ q, A q → s.heap.size ≤ q) (hret : meth.sig.returnType = ret) : ∀ (k : Nat) (z ht at_ hw hs as_ hm2 am gb gr ga af ak ar hrd hm3 am3 gb2 gr2 ga2 s1 a1 s2 a2 mo ts aw ac al aco ars acm ame : Nat) (tch tbl tn rc bc ch bl n pe pb er q0 e0 F ch1 bl1 n1 ch2 bl2 n2 lc lw lm qm bgm ovm wgm : Int) (tf f mf o ff kk rs mf3 b f1 f2 cf rf g me : Int → Int) (x : BB) (i : Int), LI z ht at_ hw hs as_ hm2 am gb gr ga af ak ar hrd hm3 am3 gb2 gr2 ga2 s1 a1 s2 a2 mo ts aw ac al aco ars acm ame tch tbl tn rc bc ch bl n pe pb er q0 e0 F ch1 bl1 n1 ch2 bl2 n2 lc lw lm qm bgm ovm wgm tf f mf o ff kk rs mf3 b f1 f2 cf rf g me x → 0 ≤ i → i ≤ 4000 → ((L : Int) - i).toNat < k → J p l e room_1 s m #[Value.ref sb] below meth c X A 4 33 85941 (lw_Z below #[Value.ref sb] s) (LW X z ht at_ hw hs as_ hm2 am gb gr ga af ak ar hrd hm3 am3 gb2 gr2 ga2 s1 a1 s2 a2 mo ts aw ac al aco ars acm ame tch tbl tn rc bc ch bl n pe pb er q0 e0 F ch1 bl1 n1 ch2 bl2 n2 lc lw lm qm bgm ovm wgm tf f mf o ff kk rs mf3 b f1 f2 cf rf g me x) (LV sb i z mo) 18 [] := by
  intro k
  induction k with
  | zero => intro z ht at_ hw hs as_ hm2 am gb gr ga af ak ar hrd hm3 am3 gb2 gr2 ga2 s1 a1 s2 a2 mo ts aw ac al aco ars acm ame tch tbl tn rc bc ch bl n pe pb er q0 e0 F ch1 bl1 n1 ch2 bl2 n2 lc lw lm qm bgm ovm wgm tf f mf o ff kk rs mf3 b f1 f2 cf rf g me x i _ _ _ h; exact absurd h (Nat.not_lt_zero _)
  | succ k ih =>
    intro z ht at_ hw hs as_ hm2 am gb gr ga af ak ar hrd hm3 am3 gb2 gr2 ga2 s1 a1 s2 a2 mo ts aw ac al aco ars acm ame tch tbl tn rc bc ch bl n pe pb er q0 e0 F ch1 bl1 n1 ch2 bl2 n2 lc lw lm qm bgm ovm wgm tf f mf o ff kk rs mf3 b f1 f2 cf rf g me x i hI h0 h4k hk
    refine J_lv (lv' := [(3, .int (iI i)), (2, .ref mo), (1, .ref z), (0, .ref sb)]) [0, 1, 2, 3] rfl ?_
    refine J_iload_n cx dL_law_18 rfl 0 rfl ?_
    refine J_aload_n cx dL_law_19 rfl 3 rfl ?_
    refine J_slen cx hX hbl hbA dL_law_20 ?_
    refine J_iconst cx dL_law_21 ?_
    refine J_isub cx dL_law_22 ?_
    refine J_icmp_gt (tgt := 378) cx dL_law_23 (by decide) (by omega) (by omega) (fun h_23 => ?_) (fun h_23 => ?_)
    · exact law_end l X cx hX hbl hbA hL hsc hA hret
    · have hs0 := hsc i
      refine J_aload_n cx dL_law_26 rfl 3 rfl ?_
      refine J_iload_n cx dL_law_27 rfl 0 rfl ?_
      refine J_sld cx hX hbl hbA (by omega) (by omega) dL_law_28 ?_
      refine J_bipush cx dL_law_29 (by decide) ?_
      refine J_iand (r := sc i % 16) cx dL_law_31 (iI_and15 _) ?_
      have jn : ∀ (z ht at_ hw hs as_ hm2 am gb gr ga af ak ar hrd hm3 am3 gb2 gr2 ga2 s1 a1 s2 a2 mo ts aw ac al aco ars acm ame : Nat) (tch tbl tn rc bc ch bl n pe pb er q0 e0 F ch1 bl1 n1 ch2 bl2 n2 lc lw lm qm bgm ovm wgm : Int) (tf f mf o ff kk rs mf3 b f1 f2 cf rf g me : Int → Int) (x : BB), LI z ht at_ hw hs as_ hm2 am gb gr ga af ak ar hrd hm3 am3 gb2 gr2 ga2 s1 a1 s2 a2 mo ts aw ac al aco ars acm ame tch tbl tn rc bc ch bl n pe pb er q0 e0 F ch1 bl1 n1 ch2 bl2 n2 lc lw lm qm bgm ovm wgm tf f mf o ff kk rs mf3 b f1 f2 cf rf g me x → J p l e room_1 s m #[Value.ref sb] below meth c X A 4 33 85941 (lw_Z below #[Value.ref sb] s) (LW X z ht at_ hw hs as_ hm2 am gb gr ga af ak ar hrd hm3 am3 gb2 gr2 ga2 s1 a1 s2 a2 mo ts aw ac al aco ars acm ame tch tbl tn rc bc ch bl n pe pb er q0 e0 F ch1 bl1 n1 ch2 bl2 n2 lc lw lm qm bgm ovm wgm tf f mf o ff kk rs mf3 b f1 f2 cf rf g me x) (LV sb i z mo) 372 [] := by
        intro z ht at_ hw hs as_ hm2 am gb gr ga af ak ar hrd hm3 am3 gb2 gr2 ga2 s1 a1 s2 a2 mo ts aw ac al aco ars acm ame tch tbl tn rc bc ch bl n pe pb er q0 e0 F ch1 bl1 n1 ch2 bl2 n2 lc lw lm qm bgm ovm wgm tf f mf o ff kk rs mf3 b f1 f2 cf rf g me x hI
        refine J_lv (lv' := [(3, .int (iI i)), (2, .ref mo), (1, .ref z), (0, .ref sb)]) [0, 1, 2, 3] rfl ?_
        refine J_iinc (q := 0) (lv' := [(3, .int (iI (i + 4))), (2, .ref mo), (1, .ref z), (0, .ref sb)]) cx dL_law_372 rfl (by decide) rfl ?_
        refine J_goto (tgt := 18) cx dL_law_375 (by decide) ?_
        exact ih z ht at_ hw hs as_ hm2 am gb gr ga af ak ar hrd hm3 am3 gb2 gr2 ga2 s1 a1 s2 a2 mo ts aw ac al aco ars acm ame tch tbl tn rc bc ch bl n pe pb er q0 e0 F ch1 bl1 n1 ch2 bl2 n2 lc lw lm qm bgm ovm wgm tf f mf o ff kk rs mf3 b f1 f2 cf rf g me x (i + 4) hI (by omega) (by omega) (by omega)
      have hsw : sc i % 16 = 0 ∨ sc i % 16 = 1 ∨ sc i % 16 = 2 ∨ sc i % 16 = 3 ∨ sc i % 16 = 4 ∨ sc i % 16 = 5 ∨ sc i % 16 = 6 ∨ sc i % 16 = 7 ∨ sc i % 16 = 8 ∨ sc i % 16 = 9 ∨ sc i % 16 = 10 ∨ sc i % 16 = 11 ∨ (sc i % 16 < 0 ∨ 11 < sc i % 16) := by omega
      rcases hsw with h_32 | h_32 | h_32 | h_32 | h_32 | h_32 | h_32 | h_32 | h_32 | h_32 | h_32 | h_32 | h_32
      · refine J_tin (k := 0) (tgt := 96) cx dL_law_32 (by omega) h_32 rfl (by decide) (by decide) (by decide) ?_
        exact law_settings l X cx hX hbl hbA hL hsc z ht at_ hw hs as_ hm2 am gb gr ga af ak ar hrd hm3 am3 gb2 gr2 ga2 s1 a1 s2 a2 mo ts aw ac al aco ars acm ame tch tbl tn rc bc ch bl n pe pb er q0 e0 F ch1 bl1 n1 ch2 bl2 n2 lc lw lm qm bgm ovm wgm tf f mf o ff kk rs mf3 b f1 f2 cf rf g me x hI i ⟨h0, by omega⟩ jn
      · refine J_tin (k := 1) (tgt := 129) cx dL_law_32 (by omega) h_32 rfl (by decide) (by decide) (by decide) ?_
        exact law_sample l X cx hX hbl hbA hL hsc z ht at_ hw hs as_ hm2 am gb gr ga af ak ar hrd hm3 am3 gb2 gr2 ga2 s1 a1 s2 a2 mo ts aw ac al aco ars acm ame tch tbl tn rc bc ch bl n pe pb er q0 e0 F ch1 bl1 n1 ch2 bl2 n2 lc lw lm qm bgm ovm wgm tf f mf o ff kk rs mf3 b f1 f2 cf rf g me x hI i ⟨h0, by omega⟩ jn
      · refine J_tin (k := 2) (tgt := 152) cx dL_law_32 (by omega) h_32 rfl (by decide) (by decide) (by decide) ?_
        exact law_write l X cx hX hbl hbA hL hsc z ht at_ hw hs as_ hm2 am gb gr ga af ak ar hrd hm3 am3 gb2 gr2 ga2 s1 a1 s2 a2 mo ts aw ac al aco ars acm ame tch tbl tn rc bc ch bl n pe pb er q0 e0 F ch1 bl1 n1 ch2 bl2 n2 lc lw lm qm bgm ovm wgm tf f mf o ff kk rs mf3 b f1 f2 cf rf g me x hI i ⟨h0, by omega⟩ jn
      · refine J_tin (k := 3) (tgt := 165) cx dL_law_32 (by omega) h_32 rfl (by decide) (by decide) (by decide) ?_
        exact law_at l X cx hX hbl hbA hL hsc z ht at_ hw hs as_ hm2 am gb gr ga af ak ar hrd hm3 am3 gb2 gr2 ga2 s1 a1 s2 a2 mo ts aw ac al aco ars acm ame tch tbl tn rc bc ch bl n pe pb er q0 e0 F ch1 bl1 n1 ch2 bl2 n2 lc lw lm qm bgm ovm wgm tf f mf o ff kk rs mf3 b f1 f2 cf rf g me x hI i ⟨h0, by omega⟩ jn
      · refine J_tin (k := 4) (tgt := 188) cx dL_law_32 (by omega) h_32 rfl (by decide) (by decide) (by decide) ?_
        exact law_block l X cx hX hbl hbA hL hsc z ht at_ hw hs as_ hm2 am gb gr ga af ak ar hrd hm3 am3 gb2 gr2 ga2 s1 a1 s2 a2 mo ts aw ac al aco ars acm ame tch tbl tn rc bc ch bl n pe pb er q0 e0 F ch1 bl1 n1 ch2 bl2 n2 lc lw lm qm bgm ovm wgm tf f mf o ff kk rs mf3 b f1 f2 cf rf g me x hI i ⟨h0, by omega⟩ jn
      · refine J_tin (k := 5) (tgt := 221) cx dL_law_32 (by omega) h_32 rfl (by decide) (by decide) (by decide) ?_
        exact law_cost l X cx hX hbl hbA hL hsc z ht at_ hw hs as_ hm2 am gb gr ga af ak ar hrd hm3 am3 gb2 gr2 ga2 s1 a1 s2 a2 mo ts aw ac al aco ars acm ame tch tbl tn rc bc ch bl n pe pb er q0 e0 F ch1 bl1 n1 ch2 bl2 n2 lc lw lm qm bgm ovm wgm tf f mf o ff kk rs mf3 b f1 f2 cf rf g me x hI i ⟨h0, by omega⟩ jn
      · refine J_tin (k := 6) (tgt := 264) cx dL_law_32 (by omega) h_32 rfl (by decide) (by decide) (by decide) ?_
        exact law_feed l X cx hX hbl hbA hL hsc z ht at_ hw hs as_ hm2 am gb gr ga af ak ar hrd hm3 am3 gb2 gr2 ga2 s1 a1 s2 a2 mo ts aw ac al aco ars acm ame tch tbl tn rc bc ch bl n pe pb er q0 e0 F ch1 bl1 n1 ch2 bl2 n2 lc lw lm qm bgm ovm wgm tf f mf o ff kk rs mf3 b f1 f2 cf rf g me x hI i ⟨h0, by omega⟩ jn
      · refine J_tin (k := 7) (tgt := 287) cx dL_law_32 (by omega) h_32 rfl (by decide) (by decide) (by decide) ?_
        exact law_take l X cx hX hbl hbA hL hsc z ht at_ hw hs as_ hm2 am gb gr ga af ak ar hrd hm3 am3 gb2 gr2 ga2 s1 a1 s2 a2 mo ts aw ac al aco ars acm ame tch tbl tn rc bc ch bl n pe pb er q0 e0 F ch1 bl1 n1 ch2 bl2 n2 lc lw lm qm bgm ovm wgm tf f mf o ff kk rs mf3 b f1 f2 cf rf g me x hI i ⟨h0, by omega⟩ jn
      · refine J_tin (k := 8) (tgt := 300) cx dL_law_32 (by omega) h_32 rfl (by decide) (by decide) (by decide) ?_
        exact law_read l X cx hX hbl hbA hL hsc z ht at_ hw hs as_ hm2 am gb gr ga af ak ar hrd hm3 am3 gb2 gr2 ga2 s1 a1 s2 a2 mo ts aw ac al aco ars acm ame tch tbl tn rc bc ch bl n pe pb er q0 e0 F ch1 bl1 n1 ch2 bl2 n2 lc lw lm qm bgm ovm wgm tf f mf o ff kk rs mf3 b f1 f2 cf rf g me x hI i ⟨h0, by omega⟩ jn
      · refine J_tin (k := 9) (tgt := 313) cx dL_law_32 (by omega) h_32 rfl (by decide) (by decide) (by decide) ?_
        exact law_value l X cx hX hbl hbA hL hsc z ht at_ hw hs as_ hm2 am gb gr ga af ak ar hrd hm3 am3 gb2 gr2 ga2 s1 a1 s2 a2 mo ts aw ac al aco ars acm ame tch tbl tn rc bc ch bl n pe pb er q0 e0 F ch1 bl1 n1 ch2 bl2 n2 lc lw lm qm bgm ovm wgm tf f mf o ff kk rs mf3 b f1 f2 cf rf g me x hI i ⟨h0, by omega⟩ jn
      · refine J_tin (k := 10) (tgt := 336) cx dL_law_32 (by omega) h_32 rfl (by decide) (by decide) (by decide) ?_
        exact law_same l X cx hX hbl hbA hL hsc z ht at_ hw hs as_ hm2 am gb gr ga af ak ar hrd hm3 am3 gb2 gr2 ga2 s1 a1 s2 a2 mo ts aw ac al aco ars acm ame tch tbl tn rc bc ch bl n pe pb er q0 e0 F ch1 bl1 n1 ch2 bl2 n2 lc lw lm qm bgm ovm wgm tf f mf o ff kk rs mf3 b f1 f2 cf rf g me x hI i ⟨h0, by omega⟩ jn
      · refine J_tin (k := 11) (tgt := 349) cx dL_law_32 (by omega) h_32 rfl (by decide) (by decide) (by decide) ?_
        exact law_count l X cx hX hbl hbA hL hsc z ht at_ hw hs as_ hm2 am gb gr ga af ak ar hrd hm3 am3 gb2 gr2 ga2 s1 a1 s2 a2 mo ts aw ac al aco ars acm ame tch tbl tn rc bc ch bl n pe pb er q0 e0 F ch1 bl1 n1 ch2 bl2 n2 lc lw lm qm bgm ovm wgm tf f mf o ff kk rs mf3 b f1 f2 cf rf g me x hI i ⟨h0, by omega⟩ jn
      · refine J_tout (tgt := 372) cx dL_law_32 (by omega) h_32 (by decide) ?_
        exact jn z ht at_ hw hs as_ hm2 am gb gr ga af ak ar hrd hm3 am3 gb2 gr2 ga2 s1 a1 s2 a2 mo ts aw ac al aco ars acm ame tch tbl tn rc bc ch bl n pe pb er q0 e0 F ch1 bl1 n1 ch2 bl2 n2 lc lw lm qm bgm ovm wgm tf f mf o ff kk rs mf3 b f1 f2 cf rf g me x hI
