/-! A layer over the kit: contracts Ct and walks J, that speak of worlds, locals and numbers alone -/
abbrev GX : Type := va_G × ClassId × ClassId
def isNest : Cond → Bool
  | .fieldLinkNest .. => true
  | .methodLinkNest .. => true
  | _ => false
def GW : List Cond := lw_tbl.filter goodWord
def NL : List Cond := lw_tbl.filter isNest
theorem GW_of {w : Cond} (h : w ∈ lw_tbl) (g : goodWord w = true) : w ∈ GW := List.mem_filter.mpr ⟨h, g⟩
theorem NL_of {w : Cond} (h : w ∈ lw_tbl) (g : isNest w = true) : w ∈ NL := List.mem_filter.mpr ⟨h, g⟩
theorem GW_good : ∀ w ∈ GW, (w.onTables && w.keeps) = true ∨ ∃ ty, w = .arrayClass ty := fun _ h => good_of_word (List.mem_filter.mp h).2
abbrev tyX (X : GX) : List (ClassId × FieldType) := [(X.2.1, .int), (X.2.2, .byte)]
def KX (X : GX) (U : State) : Prop := va_K X.1 vwCl (tyX X) U ∧ ∀ w ∈ NL, va_Nw w U
theorem nest_tab {w : Cond} (h : isNest w = true) : w.onTables = true := by
  cases w <;> first | rfl | (simp [isNest] at h)
theorem KX.warm {X : GX} {s U : State} (hW : s.WarmedH U.vm) (h : KX X s) : KX X U := by
  refine ⟨va_K.moved hW.alike h.1, fun w hw => ?_⟩
  have hn : isNest w = true := (List.mem_filter.mp hw).2
  have h1 := h.2 w hw
  cases w <;> first | exact va_Nw.warmF hW h1 | exact va_Nw.warmM hW h1 | (simp [isNest] at hn)
theorem KX.same {X : GX} {s U : State} (hv : s.vm = U.vm) (h : KX X s) : KX X U :=
  ⟨va_K.moved (by rw [hv]; exact Vm.Alike.refl U.vm) h.1, fun w hw => va_Nw.same (nest_tab (List.mem_filter.mp hw).2) hv (h.2 w hw)⟩
def Pg (X : GX) (av : List Value) (ws : va_W) (sz : Nat) : Array Value → State → Prop := va_Pc av (fun U => U.heap.size = sz ∧ va_P X.1 vwCl ws U.heap ∧ KX X U ∧ va_D (fun _ => True) ws)
def Qg (X : GX) (post : Option Value → va_W → Prop) (A : Nat → Prop) : Array Value → State → Outcome → State → Prop := fun _ st oc t => (∃ (v : Option Value) (u : va_W), oc = .returned v ∧ post v u ∧ va_P X.1 vwCl u t.heap ∧ va_D A u) ∧ va_F A st t
def Ct (l : Launch) (y : MethodName) (b : ByteArray) (nL : Nat) (ret : Option FieldType) (fr lo mc ms : Nat) (X : GX) (av : List Value) (ws : va_W) (post : Option Value → va_W → Prop) : Prop :=
  ∀ sz : Nat, Met l y (.code y b nL ret :: GW) { frames := fr, cells := mc, slots := ms, locals := lo } (Pg X av ws sz) (Qg X post (va_A ws sz)) mc ms (va_A ws sz)
def fun1 (rv : Option Value) (ws' : va_W) : Option Value → va_W → Prop := fun v u => v = rv ∧ u = ws'
theorem Pg_blind (X : GX) (av : List Value) (ws : va_W) (sz : Nat) : FrameBlind (Pg X av ws sz) := by
  intro a U g mk h
  obtain ⟨h0, h1, h2, h3, h4⟩ := h
  exact ⟨h0, h1, h2, KX.same (s := U) (U := U.calling g mk a) rfl h3, h4⟩
def Cx (p : Program) (s : State) (m : MethodId) (args : Array Value) (meth : Method) (c : Code) (X : GX) (A : Nat → Prop) (nL : Nat) (cc : ByteArray) (own : String) : Prop :=
  p.tables.exec = Jvm.exec ∧ c.code = cc ∧ c.maxLocals = nL ∧ s.vm.findClass own = some m.cls ∧ (∀ w ∈ GW, w.before args s = true) ∧ KX X s ∧ (∀ q : Nat, s.heap.size ≤ q → A q) ∧ meth.locks = false
def J (p : Program) (l : Launch) (e : Env) (R : Room) (s : State) (m : MethodId) (args : Array Value) (below : List Frame) (meth : Method) (c : Code) (X : GX) (A : Nat → Prop) (nL cells slots : Nat) (Q : State → Prop) (ws : va_W) (lv : List (Nat × Value)) (pc : Nat) (st : List Value) : Prop :=
  ∀ (H : Heap) (locs : List Loc) (ls : Array Slot), va_P X.1 vwCl ws H → va_D A ws → va_S A s.heap H locs → lv_has ls nL lv → W p l e R s m args below meth c H locs cells slots Q (F0 m pc ls st)
/-- a contract out of a walk, for any method without a row among the natives -/
theorem Met_ofWF {l : Launch} {y : MethodName} {ws ws' : List Cond} {rm : Room} {Pc : Array Value → State → Prop} {Qc : Array Value → State → Outcome → State → Prop} {mc ms : Nat} {free : Addr → Prop} {cc : ByteArray} {maxL : Nat} {ret : Option FieldType}
    (hy : plainFor y = true) (hw : ws = Cond.code y cc maxL ret :: ws')
    (body : ∀ p e s m args below meth c s₁, BodyLoose p l y (headSpec ws rm) cc maxL ret e s m args below meth c s₁ → c.maxLocals = maxL → Pc args s →
      W p l e (headSpec ws rm).room s m args below meth c s.heap [] 0 0 (MQ below Qc args s mc ms free) (entryFrame m args maxL)) : Met l y ws rm Pc Qc mc ms free := by
  refine MetFree.of_bodySF (code := cc) (maxLocals := maxL) (ret := ret) hy ?_ ?_
  · intro args s m h hn
    obtain ⟨meth, c, h1, h2, h3, h4, h5, h6, -, -⟩ := Cond.code_spec hn (atoms_spec (ws := ws) h _ (by rw [hw]; exact List.mem_cons_self))
    exact ⟨meth, c, h1, h2, h3, h4, h5, h6⟩
  · intro p e s m args below meth c s₁ B hml hP _
    have hh0 : s₁.heap = s.heap := by rw [B.state]; rfl
    obtain ⟨t, a1, o, b1, b2, b3⟩ := body p e s m args below meth c s₁ B hml hP s₁ hh0 (Stand.of_body B)
    exact ⟨t, o, a1, b1, b2, ⟨b3.1, b3.2⟩⟩
/-- what a method's body must show -/
theorem Ct_of {l : Launch} {y : MethodName} {b : ByteArray} {nL : Nat} {ret : Option FieldType} {fr lo mc ms : Nat} {X : GX} {av : List Value} {ws : va_W} {post : Option Value → va_W → Prop} {lv : List (Nat × Value)} {own : String} (hy : plainFor y = true) (ho : y.cls = own) (hav : (lg_sl av).length ≤ nL) (hlv : lv_args 0 av = lv)
    (body : ∀ (p : Program) (e : Env) (s : State) (m : MethodId) (args : Array Value) (below : List Frame) (meth : Method) (c : Code) (A : Nat → Prop), Cx p s m args meth c X A nL b own → meth.sig.returnType = ret → meth.name = y.name →
      J p l e { frames := fr, cells := mc, slots := ms, locals := lo } s m args below meth c X A nL 0 0 (MQ below (Qg X post A) args s mc ms A) ws lv 0 []) : Ct l y b nL ret fr lo mc ms X av ws post := by
  intro sz
  refine Met_ofWF (cc := b) (maxL := nL) (ret := ret) hy rfl ?_
  intro p e s m args below meth c s₁ B hml hv
  obtain ⟨rfl, hsz, hP, hK, hD0⟩ := hv
  have hts := atoms_spec (ws := .code y b nL ret :: GW) B.pre
  have hown : s.vm.findClass own = some m.cls := by rw [← ho]; exact findClass_of_methodNamed B.named
  subst hsz
  have hD := hD0.self (sz := s.heap.size)
  generalize hAe : va_A ws s.heap.size = A at hD ⊢
  have hA : ∀ q : Nat, s.heap.size ≤ q → A q := fun q h => by rw [← hAe]; exact Or.inr h
  have hS : va_S A s.heap s.heap [] := va_S.rf
  have hl := lv_entry av (n := nL) hav
  rw [hlv] at hl
  rw [lg_entry_eq]
  exact body p e s m _ below meth c A ⟨B.exec, B.bytes, hml, hown, fun w hw => hts w (List.mem_cons_of_mem _ hw), hK, hA, B.notSynchronized⟩ B.returns (name_of_methodNamed B.named B.method).1 _ _ _ hP hD hS hl
section JL
variable {p : Program} {l : Launch} {e : Env} {R : Room} {s : State} {m : MethodId} {args : Array Value} {below : List Frame} {meth : Method} {c : Code} {X : GX} {A : Nat → Prop} {nL cells slots : Nat} {Q : State → Prop} {ws ws' : va_W} {lv lv' : List (Nat × Value)} {pc : Nat} {st : List Value} {cc : ByteArray} {own : String}
theorem J_eq {pc' : Nat} {st' : List Value} (h : pc = pc') (h2 : st = st') (k : J p l e R s m args below meth c X A nL cells slots Q ws lv pc' st') : J p l e R s m args below meth c X A nL cells slots Q ws lv pc st := by
  subst h; subst h2; exact k
theorem J_ws (h : ws = ws') (k : J p l e R s m args below meth c X A nL cells slots Q ws' lv pc st) : J p l e R s m args below meth c X A nL cells slots Q ws lv pc st := by
  subst h; exact k
theorem J_sub (is : List Nat) (hn : va_nd is = true) (hs : is.map (fun i => ws[i]?) = ws'.map some) (hs2 : is.filterMap (fun i => ws[i]?) = ws') (k : J p l e R s m args below meth c X A nL cells slots Q ws' lv pc st) : J p l e R s m args below meth c X A nL cells slots Q ws lv pc st :=
  fun H locs ls hP hD hS hl => k H locs ls (hP.sub is hs2) (hD.sub is hn hs) hS hl
theorem J_lv (is : List Nat) (h : lv_pick lv is = lv') (k : J p l e R s m args below meth c X A nL cells slots Q ws lv' pc st) : J p l e R s m args below meth c X A nL cells slots Q ws lv pc st :=
  fun H locs ls hP hD hS hl => k H locs ls hP hD hS (lv_sub hl is h)
theorem J_widen {k n : Nat} (h1 : cells ≤ k) (h2 : slots ≤ n) (kk : J p l e R s m args below meth c X A nL k n Q ws lv pc st) : J p l e R s m args below meth c X A nL cells slots Q ws lv pc st :=
  fun H locs ls hP hD hS hl => W.widen h1 h2 (kk H locs ls hP hD hS hl)
theorem J_iconst (cx : Cx p s m args meth c X A nL cc own) {n : Int} (hdg : decode cc pc = .ok (.iconst n, 1)) (k : J p l e R s m args below meth c X A nL cells slots Q ws lv (pc + 1) (.int (iI n) :: st)) : J p l e R s m args below meth c X A nL cells slots Q ws lv pc st :=
  fun H locs ls hP hD hS hl => lv_iconst cx.1 cx.2.1 hdg rfl (k H locs ls hP hD hS hl)
theorem J_bipush (cx : Cx p s m args meth c X A nL cc own) {n : Int} (hdg : decode cc pc = .ok (.bipush n, 2)) (hv : (Int8.ofInt n).toInt32 = iI n) (k : J p l e R s m args below meth c X A nL cells slots Q ws lv (pc + 2) (.int (iI n) :: st)) : J p l e R s m args below meth c X A nL cells slots Q ws lv pc st :=
  fun H locs ls hP hD hS hl => lv_bipush cx.1 cx.2.1 hdg hv (k H locs ls hP hD hS hl)
theorem J_sipush (cx : Cx p s m args meth c X A nL cc own) {n : Int} (hdg : decode cc pc = .ok (.sipush n, 3)) (hv : (Int16.ofInt n).toInt32 = iI n) (k : J p l e R s m args below meth c X A nL cells slots Q ws lv (pc + 3) (.int (iI n) :: st)) : J p l e R s m args below meth c X A nL cells slots Q ws lv pc st :=
  fun H locs ls hP hD hS hl => lv_sipush cx.1 cx.2.1 hdg hv (k H locs ls hP hD hS hl)
theorem J_ldc (cx : Cx p s m args meth c X A nL cc own) {n : Int} {index : Nat} (hc : Jvm.Cond.constant own index (iI n) ∈ GW) (hdg : decode cc pc = .ok (.ldc index, 2)) (k : J p l e R s m args below meth c X A nL cells slots Q ws lv (pc + 2) (.int (iI n) :: st)) : J p l e R s m args below meth c X A nL cells slots Q ws lv pc st :=
  fun H locs ls hP hD hS hl => lv_ldc cx.1 cx.2.1 cx.2.2.2.1 (cx.2.2.2.2.1 _ hc) hdg (k H locs ls hP hD hS hl)
theorem J_lconst (cx : Cx p s m args meth c X A nL cc own) {n : Fin 2} {z : Int} (hdg : decode cc pc = .ok (.lconst n, 1)) (hv : Int64.ofNat (n : Nat) = lI z) (k : J p l e R s m args below meth c X A nL cells slots Q ws lv (pc + 1) (.long (lI z) :: st)) : J p l e R s m args below meth c X A nL cells slots Q ws lv pc st :=
  fun H locs ls hP hD hS hl => lv_lconst cx.1 cx.2.1 hdg hv (k H locs ls hP hD hS hl)
theorem J_ldc2 (cx : Cx p s m args meth c X A nL cc own) {n : Int} {index : Nat} (hc : Jvm.Cond.constantLong own index (lI n) ∈ GW) (hdg : decode cc pc = .ok (.ldc2_w index, 3)) (k : J p l e R s m args below meth c X A nL cells slots Q ws lv (pc + 3) (.long (lI n) :: st)) : J p l e R s m args below meth c X A nL cells slots Q ws lv pc st :=
  fun H locs ls hP hD hS hl => lv_ldc2 cx.1 cx.2.1 cx.2.2.2.1 (cx.2.2.2.2.1 _ hc) hdg (k H locs ls hP hD hS hl)
theorem J_iload_n (cx : Cx p s m args meth c X A nL cc own) {kk : Fin 4} {i : Nat} {x : Int} (hdg : decode cc pc = .ok (.iload_n kk, 1)) (hi : (kk : Nat) = i) (q : Nat) (hq : lv[q]? = some (i, .int (iI x))) (k : J p l e R s m args below meth c X A nL cells slots Q ws lv (pc + 1) (.int (iI x) :: st)) : J p l e R s m args below meth c X A nL cells slots Q ws lv pc st :=
  fun H locs ls hP hD hS hl => lv_iload_n cx.1 cx.2.1 hdg hi (lv_at hl q hq) (k H locs ls hP hD hS hl)
theorem J_iload (cx : Cx p s m args meth c X A nL cc own) {i : Nat} {x : Int} (hdg : decode cc pc = .ok (.iload i, 2)) (q : Nat) (hq : lv[q]? = some (i, .int (iI x))) (k : J p l e R s m args below meth c X A nL cells slots Q ws lv (pc + 2) (.int (iI x) :: st)) : J p l e R s m args below meth c X A nL cells slots Q ws lv pc st :=
  fun H locs ls hP hD hS hl => lv_iload cx.1 cx.2.1 hdg (lv_at hl q hq) (k H locs ls hP hD hS hl)
theorem J_aload_n (cx : Cx p s m args meth c X A nL cc own) {kk : Fin 4} {i x : Nat} (hdg : decode cc pc = .ok (.aload_n kk, 1)) (hi : (kk : Nat) = i) (q : Nat) (hq : lv[q]? = some (i, .ref x)) (k : J p l e R s m args below meth c X A nL cells slots Q ws lv (pc + 1) (.ref x :: st)) : J p l e R s m args below meth c X A nL cells slots Q ws lv pc st :=
  fun H locs ls hP hD hS hl => lv_aload_n cx.1 cx.2.1 hdg hi (lv_at hl q hq) (k H locs ls hP hD hS hl)
theorem J_aload (cx : Cx p s m args meth c X A nL cc own) {i x : Nat} (hdg : decode cc pc = .ok (.aload i, 2)) (q : Nat) (hq : lv[q]? = some (i, .ref x)) (k : J p l e R s m args below meth c X A nL cells slots Q ws lv (pc + 2) (.ref x :: st)) : J p l e R s m args below meth c X A nL cells slots Q ws lv pc st :=
  fun H locs ls hP hD hS hl => lv_aload cx.1 cx.2.1 hdg (lv_at hl q hq) (k H locs ls hP hD hS hl)
theorem J_lload_n (cx : Cx p s m args meth c X A nL cc own) {kk : Fin 4} {i : Nat} {x : Int} (hdg : decode cc pc = .ok (.lload_n kk, 1)) (hi : (kk : Nat) = i) (q : Nat) (hq : lv[q]? = some (i, .long (lI x))) (k : J p l e R s m args below meth c X A nL cells slots Q ws lv (pc + 1) (.long (lI x) :: st)) : J p l e R s m args below meth c X A nL cells slots Q ws lv pc st :=
  fun H locs ls hP hD hS hl => lv_lload_n cx.1 cx.2.1 hdg hi (lv_at hl q hq) (k H locs ls hP hD hS hl)
theorem J_lload (cx : Cx p s m args meth c X A nL cc own) {i : Nat} {x : Int} (hdg : decode cc pc = .ok (.lload i, 2)) (q : Nat) (hq : lv[q]? = some (i, .long (lI x))) (k : J p l e R s m args below meth c X A nL cells slots Q ws lv (pc + 2) (.long (lI x) :: st)) : J p l e R s m args below meth c X A nL cells slots Q ws lv pc st :=
  fun H locs ls hP hD hS hl => lv_lload cx.1 cx.2.1 hdg (lv_at hl q hq) (k H locs ls hP hD hS hl)
theorem J_istore_n (cx : Cx p s m args meth c X A nL cc own) {kk : Fin 4} {i : Nat} {x : Int} (hdg : decode cc pc = .ok (.istore_n kk, 1)) (hi : (kk : Nat) = i) (hn : i < nL) (h : (i, Value.int (iI x)) :: lv.filter (fun q => !(q.1 == i) && !(q.1 + 1 == i && q.2.category == 2)) = lv') (k : J p l e R s m args below meth c X A nL cells slots Q ws lv' (pc + 1) st) : J p l e R s m args below meth c X A nL cells slots Q ws lv pc (.int (iI x) :: st) :=
  fun H locs ls hP hD hS hl => lv_istore_n cx.1 cx.2.1 hdg hi hl hn h (fun ls' hl' => k H locs ls' hP hD hS hl')
theorem J_istore (cx : Cx p s m args meth c X A nL cc own) {i : Nat} {x : Int} (hdg : decode cc pc = .ok (.istore i, 2)) (hn : i < nL) (h : (i, Value.int (iI x)) :: lv.filter (fun q => !(q.1 == i) && !(q.1 + 1 == i && q.2.category == 2)) = lv') (k : J p l e R s m args below meth c X A nL cells slots Q ws lv' (pc + 2) st) : J p l e R s m args below meth c X A nL cells slots Q ws lv pc (.int (iI x) :: st) :=
  fun H locs ls hP hD hS hl => lv_istore cx.1 cx.2.1 hdg hl hn h (fun ls' hl' => k H locs ls' hP hD hS hl')
theorem J_astore_n (cx : Cx p s m args meth c X A nL cc own) {kk : Fin 4} {i x : Nat} (hdg : decode cc pc = .ok (.astore_n kk, 1)) (hi : (kk : Nat) = i) (hn : i < nL) (h : (i, Value.ref x) :: lv.filter (fun q => !(q.1 == i) && !(q.1 + 1 == i && q.2.category == 2)) = lv') (k : J p l e R s m args below meth c X A nL cells slots Q ws lv' (pc + 1) st) : J p l e R s m args below meth c X A nL cells slots Q ws lv pc (.ref x :: st) :=
  fun H locs ls hP hD hS hl => lv_astore_n cx.1 cx.2.1 hdg hi hl hn h (fun ls' hl' => k H locs ls' hP hD hS hl')
theorem J_lstore_n (cx : Cx p s m args meth c X A nL cc own) {kk : Fin 4} {i : Nat} {x : Int} (hdg : decode cc pc = .ok (.lstore_n kk, 1)) (hi : (kk : Nat) = i) (hn : i + 1 < nL) (h : (i, Value.long (lI x)) :: lv.filter (fun q => !(q.1 == i) && (!(q.1 == i + 1) && !(q.1 + 1 == i && q.2.category == 2))) = lv') (k : J p l e R s m args below meth c X A nL cells slots Q ws lv' (pc + 1) st) : J p l e R s m args below meth c X A nL cells slots Q ws lv pc (.long (lI x) :: st) :=
  fun H locs ls hP hD hS hl => lv_lstore_n cx.1 cx.2.1 hdg hi hl hn h (fun ls' hl' => k H locs ls' hP hD hS hl')
theorem J_lstore (cx : Cx p s m args meth c X A nL cc own) {i : Nat} {x : Int} (hdg : decode cc pc = .ok (.lstore i, 2)) (hn : i + 1 < nL) (h : (i, Value.long (lI x)) :: lv.filter (fun q => !(q.1 == i) && (!(q.1 == i + 1) && !(q.1 + 1 == i && q.2.category == 2))) = lv') (k : J p l e R s m args below meth c X A nL cells slots Q ws lv' (pc + 2) st) : J p l e R s m args below meth c X A nL cells slots Q ws lv pc (.long (lI x) :: st) :=
  fun H locs ls hP hD hS hl => lv_lstore cx.1 cx.2.1 hdg hl hn h (fun ls' hl' => k H locs ls' hP hD hS hl')
theorem J_iinc (cx : Cx p s m args meth c X A nL cc own) {i q : Nat} {n x : Int} (hdg : decode cc pc = .ok (.iinc i n, 3)) (hq : lv[q]? = some (i, .int (iI x))) (hn : i < nL) (h : (i, Value.int (iI (x + n))) :: lv.filter (fun q => !(q.1 == i) && !(q.1 + 1 == i && q.2.category == 2)) = lv') (k : J p l e R s m args below meth c X A nL cells slots Q ws lv' (pc + 3) st) : J p l e R s m args below meth c X A nL cells slots Q ws lv pc st :=
  fun H locs ls hP hD hS hl => lv_iinc cx.1 cx.2.1 hdg hl hq (iI_add x n) hn h (fun ls' hl' => k H locs ls' hP hD hS hl')
theorem J_iadd (cx : Cx p s m args meth c X A nL cc own) {a b : Int} (hdg : decode cc pc = .ok (.iadd, 1)) (k : J p l e R s m args below meth c X A nL cells slots Q ws lv (pc + 1) (.int (iI (a + b)) :: st)) : J p l e R s m args below meth c X A nL cells slots Q ws lv pc (.int (iI b) :: .int (iI a) :: st) :=
  fun H locs ls hP hD hS hl => lv_iadd cx.1 cx.2.1 hdg (by rw [iI_add]; exact k H locs ls hP hD hS hl)
theorem J_isub (cx : Cx p s m args meth c X A nL cc own) {a b : Int} (hdg : decode cc pc = .ok (.isub, 1)) (k : J p l e R s m args below meth c X A nL cells slots Q ws lv (pc + 1) (.int (iI (a - b)) :: st)) : J p l e R s m args below meth c X A nL cells slots Q ws lv pc (.int (iI b) :: .int (iI a) :: st) :=
  fun H locs ls hP hD hS hl => lv_isub cx.1 cx.2.1 hdg (by rw [iI_sub]; exact k H locs ls hP hD hS hl)
theorem J_imul (cx : Cx p s m args meth c X A nL cc own) {a b : Int} (hdg : decode cc pc = .ok (.imul, 1)) (k : J p l e R s m args below meth c X A nL cells slots Q ws lv (pc + 1) (.int (iI (a * b)) :: st)) : J p l e R s m args below meth c X A nL cells slots Q ws lv pc (.int (iI b) :: .int (iI a) :: st) :=
  fun H locs ls hP hD hS hl => lv_imul cx.1 cx.2.1 hdg (by rw [iI_mul]; exact k H locs ls hP hD hS hl)
theorem J_ineg (cx : Cx p s m args meth c X A nL cc own) {a : Int} (hdg : decode cc pc = .ok (.ineg, 1)) (k : J p l e R s m args below meth c X A nL cells slots Q ws lv (pc + 1) (.int (iI (-a)) :: st)) : J p l e R s m args below meth c X A nL cells slots Q ws lv pc (.int (iI a) :: st) :=
  fun H locs ls hP hD hS hl => lv_ineg cx.1 cx.2.1 hdg (by first | (rw [iI_neg]; exact k H locs ls hP hD hS hl) | (rw [iI_0, iI_sub, Int.zero_sub]; exact k H locs ls hP hD hS hl))
theorem J_idiv (cx : Cx p s m args meth c X A nL cc own) {a b : Int} (hdg : decode cc pc = .ok (.idiv, 1)) (ha : 0 ≤ a ∧ a < 2147483648) (hb : 0 < b ∧ b < 2147483648) (k : J p l e R s m args below meth c X A nL cells slots Q ws lv (pc + 1) (.int (iI (a / b)) :: st)) : J p l e R s m args below meth c X A nL cells slots Q ws lv pc (.int (iI b) :: .int (iI a) :: st) :=
  fun H locs ls hP hD hS hl => lv_idiv cx.1 cx.2.1 hdg (iI_ne0 hb) (by rw [iI_div ha hb]; exact k H locs ls hP hD hS hl)
theorem J_irem (cx : Cx p s m args meth c X A nL cc own) {a b : Int} (hdg : decode cc pc = .ok (.irem, 1)) (ha : 0 ≤ a ∧ a < 2147483648) (hb : 0 < b ∧ b < 2147483648) (k : J p l e R s m args below meth c X A nL cells slots Q ws lv (pc + 1) (.int (iI (a % b)) :: st)) : J p l e R s m args below meth c X A nL cells slots Q ws lv pc (.int (iI b) :: .int (iI a) :: st) :=
  fun H locs ls hP hD hS hl => lv_irem cx.1 cx.2.1 hdg (iI_ne0 hb) (by rw [iI_rem ha hb]; exact k H locs ls hP hD hS hl)
theorem J_ishr (cx : Cx p s m args meth c X A nL cc own) {a b : Int} (hdg : decode cc pc = .ok (.ishr, 1)) (ha : -2147483648 ≤ a ∧ a < 2147483648) (hb : 0 ≤ b ∧ b < 32) (k : J p l e R s m args below meth c X A nL cells slots Q ws lv (pc + 1) (.int (iI (a / p2 b)) :: st)) : J p l e R s m args below meth c X A nL cells slots Q ws lv pc (.int (iI b) :: .int (iI a) :: st) :=
  fun H locs ls hP hD hS hl => lv_ishr cx.1 cx.2.1 hdg (by rw [iI_shr ha hb]; exact k H locs ls hP hD hS hl)
theorem J_ishl (cx : Cx p s m args meth c X A nL cc own) {a b : Int} (hdg : decode cc pc = .ok (.ishl, 1)) (ha : 0 ≤ a) (hb : 0 ≤ b ∧ b < 32) (h : a * p2 b < 4294967296) (k : J p l e R s m args below meth c X A nL cells slots Q ws lv (pc + 1) (.int (iI (a * p2 b)) :: st)) : J p l e R s m args below meth c X A nL cells slots Q ws lv pc (.int (iI b) :: .int (iI a) :: st) :=
  fun H locs ls hP hD hS hl => lv_ishl cx.1 cx.2.1 hdg (by rw [iI_shl ha hb h]; exact k H locs ls hP hD hS hl)
theorem J_iand (cx : Cx p s m args meth c X A nL cc own) {a b r : Int} (hdg : decode cc pc = .ok (.iand, 1)) (h : iI a &&& iI b = iI r) (k : J p l e R s m args below meth c X A nL cells slots Q ws lv (pc + 1) (.int (iI r) :: st)) : J p l e R s m args below meth c X A nL cells slots Q ws lv pc (.int (iI b) :: .int (iI a) :: st) :=
  fun H locs ls hP hD hS hl => lv_iand cx.1 cx.2.1 hdg (by rw [h]; exact k H locs ls hP hD hS hl)
theorem J_i2b (cx : Cx p s m args meth c X A nL cc own) {a : Int} (hdg : decode cc pc = .ok (.i2b, 1)) (k : J p l e R s m args below meth c X A nL cells slots Q ws lv (pc + 1) (.int (iI (w8 a)) :: st)) : J p l e R s m args below meth c X A nL cells slots Q ws lv pc (.int (iI a) :: st) :=
  fun H locs ls hP hD hS hl => lv_i2b cx.1 cx.2.1 hdg (iI_b8 a) (k H locs ls hP hD hS hl)
theorem J_i2l (cx : Cx p s m args meth c X A nL cc own) {a : Int} (hdg : decode cc pc = .ok (.i2l, 1)) (ha : -2147483648 ≤ a ∧ a < 2147483648) (k : J p l e R s m args below meth c X A nL cells slots Q ws lv (pc + 1) (.long (lI a) :: st)) : J p l e R s m args below meth c X A nL cells slots Q ws lv pc (.int (iI a) :: st) :=
  fun H locs ls hP hD hS hl => lv_i2l cx.1 cx.2.1 hdg (iI_l ha) (k H locs ls hP hD hS hl)
theorem J_l2i (cx : Cx p s m args meth c X A nL cc own) {a : Int} (hdg : decode cc pc = .ok (.l2i, 1)) (k : J p l e R s m args below meth c X A nL cells slots Q ws lv (pc + 1) (.int (iI a) :: st)) : J p l e R s m args below meth c X A nL cells slots Q ws lv pc (.long (lI a) :: st) :=
  fun H locs ls hP hD hS hl => lv_l2i cx.1 cx.2.1 hdg (lI_i a) (k H locs ls hP hD hS hl)
theorem J_ladd (cx : Cx p s m args meth c X A nL cc own) {a b : Int} (hdg : decode cc pc = .ok (.ladd, 1)) (k : J p l e R s m args below meth c X A nL cells slots Q ws lv (pc + 1) (.long (lI (a + b)) :: st)) : J p l e R s m args below meth c X A nL cells slots Q ws lv pc (.long (lI b) :: .long (lI a) :: st) :=
  fun H locs ls hP hD hS hl => lv_ladd cx.1 cx.2.1 hdg (by rw [lI_add]; exact k H locs ls hP hD hS hl)
theorem J_lsub (cx : Cx p s m args meth c X A nL cc own) {a b : Int} (hdg : decode cc pc = .ok (.lsub, 1)) (k : J p l e R s m args below meth c X A nL cells slots Q ws lv (pc + 1) (.long (lI (a - b)) :: st)) : J p l e R s m args below meth c X A nL cells slots Q ws lv pc (.long (lI b) :: .long (lI a) :: st) :=
  fun H locs ls hP hD hS hl => lv_lsub cx.1 cx.2.1 hdg (by rw [lI_sub]; exact k H locs ls hP hD hS hl)
theorem J_lmul (cx : Cx p s m args meth c X A nL cc own) {a b : Int} (hdg : decode cc pc = .ok (.lmul, 1)) (k : J p l e R s m args below meth c X A nL cells slots Q ws lv (pc + 1) (.long (lI (a * b)) :: st)) : J p l e R s m args below meth c X A nL cells slots Q ws lv pc (.long (lI b) :: .long (lI a) :: st) :=
  fun H locs ls hP hD hS hl => lv_lmul cx.1 cx.2.1 hdg (by rw [lI_mul]; exact k H locs ls hP hD hS hl)
theorem J_ldiv (cx : Cx p s m args meth c X A nL cc own) {a b : Int} (hdg : decode cc pc = .ok (.ldiv, 1)) (ha : -9223372036854775808 ≤ a ∧ a < 9223372036854775808) (hb : 0 < b ∧ b < 9223372036854775808) (k : J p l e R s m args below meth c X A nL cells slots Q ws lv (pc + 1) (.long (lI (Int.tdiv a b)) :: st)) : J p l e R s m args below meth c X A nL cells slots Q ws lv pc (.long (lI b) :: .long (lI a) :: st) :=
  fun H locs ls hP hD hS hl => lv_ldiv cx.1 cx.2.1 hdg (lI_ne0 hb) (by rw [lI_div ha hb]; exact k H locs ls hP hD hS hl)
theorem J_lcmp (cx : Cx p s m args meth c X A nL cc own) {a b : Int} (hdg : decode cc pc = .ok (.lcmp, 1)) (ha : -9223372036854775808 ≤ a ∧ a < 9223372036854775808) (hb : -9223372036854775808 ≤ b ∧ b < 9223372036854775808) (k : J p l e R s m args below meth c X A nL cells slots Q ws lv (pc + 1) (.int (iI (cmpI a b)) :: st)) : J p l e R s m args below meth c X A nL cells slots Q ws lv pc (.long (lI b) :: .long (lI a) :: st) :=
  fun H locs ls hP hD hS hl => W.lcmp cx.1 cx.2.1 hdg (by rw [lI_cmp ha hb]; exact k H locs ls hP hD hS hl)
theorem J_dup (cx : Cx p s m args meth c X A nL cc own) {v : Value} (hdg : decode cc pc = .ok (.dup, 1)) (hv : v.category = 1) (k : J p l e R s m args below meth c X A nL cells slots Q ws lv (pc + 1) (v :: v :: st)) : J p l e R s m args below meth c X A nL cells slots Q ws lv pc (v :: st) :=
  fun H locs ls hP hD hS hl => lv_dup cx.1 cx.2.1 hdg hv (k H locs ls hP hD hS hl)
theorem J_pop (cx : Cx p s m args meth c X A nL cc own) {v : Value} (hdg : decode cc pc = .ok (.pop, 1)) (hv : v.category = 1) (k : J p l e R s m args below meth c X A nL cells slots Q ws lv (pc + 1) st) : J p l e R s m args below meth c X A nL cells slots Q ws lv pc (v :: st) :=
  fun H locs ls hP hD hS hl => lv_pop cx.1 cx.2.1 hdg hv (k H locs ls hP hD hS hl)
theorem J_dup2 (cx : Cx p s m args meth c X A nL cc own) {v w : Value} (hdg : decode cc pc = .ok (.dup2, 1)) (hv : v.category = 1) (hw : w.category = 1) (k : J p l e R s m args below meth c X A nL cells slots Q ws lv (pc + 1) (v :: w :: v :: w :: st)) : J p l e R s m args below meth c X A nL cells slots Q ws lv pc (v :: w :: st) :=
  fun H locs ls hP hD hS hl => lv_dup2_11 cx.1 cx.2.1 hdg hv hw (k H locs ls hP hD hS hl)
theorem J_dup_x1 (cx : Cx p s m args meth c X A nL cc own) {v w : Value} (hdg : decode cc pc = .ok (.dup_x1, 1)) (hv : v.category = 1) (hw : w.category = 1) (k : J p l e R s m args below meth c X A nL cells slots Q ws lv (pc + 1) (v :: w :: v :: st)) : J p l e R s m args below meth c X A nL cells slots Q ws lv pc (v :: w :: st) :=
  fun H locs ls hP hD hS hl => lv_dup_x1 cx.1 cx.2.1 hdg hv hw (k H locs ls hP hD hS hl)
theorem J_goto (cx : Cx p s m args meth c X A nL cc own) {off : Int} {tgt : Nat} (hdg : decode cc pc = .ok (.goto off, 3)) (ht : (pc : Int) + off = (tgt : Int)) (k : J p l e R s m args below meth c X A nL cells slots Q ws lv tgt st) : J p l e R s m args below meth c X A nL cells slots Q ws lv pc st :=
  fun H locs ls hP hD hS hl => lv_goto cx.1 cx.2.1 hdg ht (k H locs ls hP hD hS hl)
theorem J_icmp_eq (cx : Cx p s m args meth c X A nL cc own) {a b : Int} {off : Int} {tgt : Nat} (hdg : decode cc pc = .ok (.if_icmp .eq off, 3)) (ht : (pc : Int) + off = (tgt : Int)) (ha : -2147483648 ≤ a ∧ a < 2147483648) (hb : -2147483648 ≤ b ∧ b < 2147483648) (kt : a = b → J p l e R s m args below meth c X A nL cells slots Q ws lv tgt st) (kf : ¬ a = b → J p l e R s m args below meth c X A nL cells slots Q ws lv (pc + 3) st) : J p l e R s m args below meth c X A nL cells slots Q ws lv pc (.int (iI b) :: .int (iI a) :: st) := by
  exact fun H locs ls hP hD hS hl => lv_icmp_eq cx.1 cx.2.1 hdg ht (fun h => kt ((iI_eq ha hb).mp h) H locs ls hP hD hS hl) (fun h => kf (fun h2 => h ((iI_eq ha hb).mpr h2)) H locs ls hP hD hS hl)
theorem J_if_eq (cx : Cx p s m args meth c X A nL cc own) {a : Int} {off : Int} {tgt : Nat} (hdg : decode cc pc = .ok (.ifCond .eq off, 3)) (ht : (pc : Int) + off = (tgt : Int)) (ha : -2147483648 ≤ a ∧ a < 2147483648) (kt : a = 0 → J p l e R s m args below meth c X A nL cells slots Q ws lv tgt st) (kf : ¬ a = 0 → J p l e R s m args below meth c X A nL cells slots Q ws lv (pc + 3) st) : J p l e R s m args below meth c X A nL cells slots Q ws lv pc (.int (iI a) :: st) := by
  have hb : -2147483648 ≤ (0:Int) ∧ (0:Int) < 2147483648 := by decide
  exact fun H locs ls hP hD hS hl => lv_if_eq cx.1 cx.2.1 hdg ht (fun h => kt (by rw [iI_0] at h; exact (iI_eq ha hb).mp h) H locs ls hP hD hS hl) (fun h => kf (fun h2 => h (by rw [iI_0]; exact (iI_eq ha hb).mpr h2)) H locs ls hP hD hS hl)
theorem J_icmp_ne (cx : Cx p s m args meth c X A nL cc own) {a b : Int} {off : Int} {tgt : Nat} (hdg : decode cc pc = .ok (.if_icmp .ne off, 3)) (ht : (pc : Int) + off = (tgt : Int)) (ha : -2147483648 ≤ a ∧ a < 2147483648) (hb : -2147483648 ≤ b ∧ b < 2147483648) (kt : ¬ a = b → J p l e R s m args below meth c X A nL cells slots Q ws lv tgt st) (kf : a = b → J p l e R s m args below meth c X A nL cells slots Q ws lv (pc + 3) st) : J p l e R s m args below meth c X A nL cells slots Q ws lv pc (.int (iI b) :: .int (iI a) :: st) := by
  exact fun H locs ls hP hD hS hl => lv_icmp_ne cx.1 cx.2.1 hdg ht (fun h => kt (fun h2 => h ((iI_eq ha hb).mpr h2)) H locs ls hP hD hS hl) (fun h => kf ((iI_eq ha hb).mp h) H locs ls hP hD hS hl)
theorem J_if_ne (cx : Cx p s m args meth c X A nL cc own) {a : Int} {off : Int} {tgt : Nat} (hdg : decode cc pc = .ok (.ifCond .ne off, 3)) (ht : (pc : Int) + off = (tgt : Int)) (ha : -2147483648 ≤ a ∧ a < 2147483648) (kt : ¬ a = 0 → J p l e R s m args below meth c X A nL cells slots Q ws lv tgt st) (kf : a = 0 → J p l e R s m args below meth c X A nL cells slots Q ws lv (pc + 3) st) : J p l e R s m args below meth c X A nL cells slots Q ws lv pc (.int (iI a) :: st) := by
  have hb : -2147483648 ≤ (0:Int) ∧ (0:Int) < 2147483648 := by decide
  exact fun H locs ls hP hD hS hl => lv_if_ne cx.1 cx.2.1 hdg ht (fun h => kt (fun h2 => h (by rw [iI_0]; exact (iI_eq ha hb).mpr h2)) H locs ls hP hD hS hl) (fun h => kf (by rw [iI_0] at h; exact (iI_eq ha hb).mp h) H locs ls hP hD hS hl)
theorem J_icmp_lt (cx : Cx p s m args meth c X A nL cc own) {a b : Int} {off : Int} {tgt : Nat} (hdg : decode cc pc = .ok (.if_icmp .lt off, 3)) (ht : (pc : Int) + off = (tgt : Int)) (ha : -2147483648 ≤ a ∧ a < 2147483648) (hb : -2147483648 ≤ b ∧ b < 2147483648) (kt : a < b → J p l e R s m args below meth c X A nL cells slots Q ws lv tgt st) (kf : ¬ a < b → J p l e R s m args below meth c X A nL cells slots Q ws lv (pc + 3) st) : J p l e R s m args below meth c X A nL cells slots Q ws lv pc (.int (iI b) :: .int (iI a) :: st) := by
  exact fun H locs ls hP hD hS hl => lv_icmp_lt cx.1 cx.2.1 hdg ht (fun h => kt ((iI_lt ha hb).mp h) H locs ls hP hD hS hl) (fun h => kf (fun h2 => h ((iI_lt ha hb).mpr h2)) H locs ls hP hD hS hl)
theorem J_if_lt (cx : Cx p s m args meth c X A nL cc own) {a : Int} {off : Int} {tgt : Nat} (hdg : decode cc pc = .ok (.ifCond .lt off, 3)) (ht : (pc : Int) + off = (tgt : Int)) (ha : -2147483648 ≤ a ∧ a < 2147483648) (kt : a < 0 → J p l e R s m args below meth c X A nL cells slots Q ws lv tgt st) (kf : ¬ a < 0 → J p l e R s m args below meth c X A nL cells slots Q ws lv (pc + 3) st) : J p l e R s m args below meth c X A nL cells slots Q ws lv pc (.int (iI a) :: st) := by
  have hb : -2147483648 ≤ (0:Int) ∧ (0:Int) < 2147483648 := by decide
  exact fun H locs ls hP hD hS hl => lv_if_lt cx.1 cx.2.1 hdg ht (fun h => kt (by rw [iI_0] at h; exact (iI_lt ha hb).mp h) H locs ls hP hD hS hl) (fun h => kf (fun h2 => h (by rw [iI_0]; exact (iI_lt ha hb).mpr h2)) H locs ls hP hD hS hl)
theorem J_icmp_ge (cx : Cx p s m args meth c X A nL cc own) {a b : Int} {off : Int} {tgt : Nat} (hdg : decode cc pc = .ok (.if_icmp .ge off, 3)) (ht : (pc : Int) + off = (tgt : Int)) (ha : -2147483648 ≤ a ∧ a < 2147483648) (hb : -2147483648 ≤ b ∧ b < 2147483648) (kt : b ≤ a → J p l e R s m args below meth c X A nL cells slots Q ws lv tgt st) (kf : ¬ b ≤ a → J p l e R s m args below meth c X A nL cells slots Q ws lv (pc + 3) st) : J p l e R s m args below meth c X A nL cells slots Q ws lv pc (.int (iI b) :: .int (iI a) :: st) := by
  exact fun H locs ls hP hD hS hl => lv_icmp_ge cx.1 cx.2.1 hdg ht (fun h => kt ((iI_le hb ha).mp h) H locs ls hP hD hS hl) (fun h => kf (fun h2 => h ((iI_le hb ha).mpr h2)) H locs ls hP hD hS hl)
theorem J_if_ge (cx : Cx p s m args meth c X A nL cc own) {a : Int} {off : Int} {tgt : Nat} (hdg : decode cc pc = .ok (.ifCond .ge off, 3)) (ht : (pc : Int) + off = (tgt : Int)) (ha : -2147483648 ≤ a ∧ a < 2147483648) (kt : 0 ≤ a → J p l e R s m args below meth c X A nL cells slots Q ws lv tgt st) (kf : ¬ 0 ≤ a → J p l e R s m args below meth c X A nL cells slots Q ws lv (pc + 3) st) : J p l e R s m args below meth c X A nL cells slots Q ws lv pc (.int (iI a) :: st) := by
  have hb : -2147483648 ≤ (0:Int) ∧ (0:Int) < 2147483648 := by decide
  exact fun H locs ls hP hD hS hl => lv_if_ge cx.1 cx.2.1 hdg ht (fun h => kt (by rw [iI_0] at h; exact (iI_le hb ha).mp h) H locs ls hP hD hS hl) (fun h => kf (fun h2 => h (by rw [iI_0]; exact (iI_le hb ha).mpr h2)) H locs ls hP hD hS hl)
theorem J_icmp_gt (cx : Cx p s m args meth c X A nL cc own) {a b : Int} {off : Int} {tgt : Nat} (hdg : decode cc pc = .ok (.if_icmp .gt off, 3)) (ht : (pc : Int) + off = (tgt : Int)) (ha : -2147483648 ≤ a ∧ a < 2147483648) (hb : -2147483648 ≤ b ∧ b < 2147483648) (kt : b < a → J p l e R s m args below meth c X A nL cells slots Q ws lv tgt st) (kf : ¬ b < a → J p l e R s m args below meth c X A nL cells slots Q ws lv (pc + 3) st) : J p l e R s m args below meth c X A nL cells slots Q ws lv pc (.int (iI b) :: .int (iI a) :: st) := by
  exact fun H locs ls hP hD hS hl => lv_icmp_gt cx.1 cx.2.1 hdg ht (fun h => kt ((iI_lt hb ha).mp h) H locs ls hP hD hS hl) (fun h => kf (fun h2 => h ((iI_lt hb ha).mpr h2)) H locs ls hP hD hS hl)
theorem J_if_gt (cx : Cx p s m args meth c X A nL cc own) {a : Int} {off : Int} {tgt : Nat} (hdg : decode cc pc = .ok (.ifCond .gt off, 3)) (ht : (pc : Int) + off = (tgt : Int)) (ha : -2147483648 ≤ a ∧ a < 2147483648) (kt : 0 < a → J p l e R s m args below meth c X A nL cells slots Q ws lv tgt st) (kf : ¬ 0 < a → J p l e R s m args below meth c X A nL cells slots Q ws lv (pc + 3) st) : J p l e R s m args below meth c X A nL cells slots Q ws lv pc (.int (iI a) :: st) := by
  have hb : -2147483648 ≤ (0:Int) ∧ (0:Int) < 2147483648 := by decide
  exact fun H locs ls hP hD hS hl => lv_if_gt cx.1 cx.2.1 hdg ht (fun h => kt (by rw [iI_0] at h; exact (iI_lt hb ha).mp h) H locs ls hP hD hS hl) (fun h => kf (fun h2 => h (by rw [iI_0]; exact (iI_lt hb ha).mpr h2)) H locs ls hP hD hS hl)
theorem J_icmp_le (cx : Cx p s m args meth c X A nL cc own) {a b : Int} {off : Int} {tgt : Nat} (hdg : decode cc pc = .ok (.if_icmp .le off, 3)) (ht : (pc : Int) + off = (tgt : Int)) (ha : -2147483648 ≤ a ∧ a < 2147483648) (hb : -2147483648 ≤ b ∧ b < 2147483648) (kt : a ≤ b → J p l e R s m args below meth c X A nL cells slots Q ws lv tgt st) (kf : ¬ a ≤ b → J p l e R s m args below meth c X A nL cells slots Q ws lv (pc + 3) st) : J p l e R s m args below meth c X A nL cells slots Q ws lv pc (.int (iI b) :: .int (iI a) :: st) := by
  exact fun H locs ls hP hD hS hl => lv_icmp_le cx.1 cx.2.1 hdg ht (fun h => kt ((iI_le ha hb).mp h) H locs ls hP hD hS hl) (fun h => kf (fun h2 => h ((iI_le ha hb).mpr h2)) H locs ls hP hD hS hl)
theorem J_if_le (cx : Cx p s m args meth c X A nL cc own) {a : Int} {off : Int} {tgt : Nat} (hdg : decode cc pc = .ok (.ifCond .le off, 3)) (ht : (pc : Int) + off = (tgt : Int)) (ha : -2147483648 ≤ a ∧ a < 2147483648) (kt : a ≤ 0 → J p l e R s m args below meth c X A nL cells slots Q ws lv tgt st) (kf : ¬ a ≤ 0 → J p l e R s m args below meth c X A nL cells slots Q ws lv (pc + 3) st) : J p l e R s m args below meth c X A nL cells slots Q ws lv pc (.int (iI a) :: st) := by
  have hb : -2147483648 ≤ (0:Int) ∧ (0:Int) < 2147483648 := by decide
  exact fun H locs ls hP hD hS hl => lv_if_le cx.1 cx.2.1 hdg ht (fun h => kt (by rw [iI_0] at h; exact (iI_le ha hb).mp h) H locs ls hP hD hS hl) (fun h => kf (fun h2 => h (by rw [iI_0]; exact (iI_le ha hb).mpr h2)) H locs ls hP hD hS hl)
theorem J_get (cx : Cx p s m args meth c X A nL cc own) {C ref : String} {T : u_T} {N ci index a : Nat} (hin : ∀ w ∈ u_ws C T N, w ∈ GW) (q0 : Nat) {fs : List Value} (he : ws[q0]? = some (a, .inr (ci, fs))) (hc : vwCl[ci]? = some (C, T, N)) (k : Nat) (hk : k < N) (hlink : Cond.fieldLink own index ref (T k).2.1 (T k).2.2.1 ∈ GW) (hsame : (T k).1 = ref) {v : Value} (hv : fs[k]? = some v) (hdg : decode cc pc = .ok (.getfield index, 3)) (kk : J p l e R s m args below meth c X A nL cells slots Q ws lv (pc + 3) (v :: st)) : J p l e R s m args below meth c X A nL cells slots Q ws lv pc (.ref a :: st) :=
  fun H locs ls hP hD hS hl => va_get (D := X.1) (cl := vwCl) (tys := tyX X) cx.1 cx.2.1 cx.2.2.2.2.1 hin cx.2.2.2.1 cx.2.2.2.2.2.1.1 hP q0 he hc k hk (cx.2.2.2.2.1 _ hlink) (fun _ h9 => by rw [← hsame]; exact h9) hv hdg (kk H locs ls hP hD hS hl)
theorem J_getN (cx : Cx p s m args meth c X A nL cc own) {C ref host : String} {T : u_T} {N ci index a : Nat} (hin : ∀ w ∈ u_ws C T N, w ∈ GW) (q0 : Nat) {fs : List Value} (he : ws[q0]? = some (a, .inr (ci, fs))) (hc : vwCl[ci]? = some (C, T, N)) (k : Nat) (hk : k < N) (hlink : Cond.fieldLinkNest own index ref (T k).2.1 (T k).2.2.1 host ∈ NL) (hsame : (T k).1 = ref) {v : Value} (hv : fs[k]? = some v) (hdg : decode cc pc = .ok (.getfield index, 3)) (kk : J p l e R s m args below meth c X A nL cells slots Q ws lv (pc + 3) (v :: st)) : J p l e R s m args below meth c X A nL cells slots Q ws lv pc (.ref a :: st) :=
  fun H locs ls hP hD hS hl => va_getN (D := X.1) (cl := vwCl) (tys := tyX X) cx.1 cx.2.1 cx.2.2.2.2.1 hin cx.2.2.2.1 cx.2.2.2.2.2.1.1 hP q0 he hc k hk (va_Nw.use rfl (cx.2.2.2.2.2.1.2 _ hlink)) (fun _ h9 => by rw [← hsame]; exact h9) hv hdg (kk H locs ls hP hD hS hl)
theorem J_put (cx : Cx p s m args meth c X A nL cc own) {C ref : String} {T : u_T} {N ci index a : Nat} (hin : ∀ w ∈ u_ws C T N, w ∈ GW) {ty0 : Nat → FieldType} (hty : ∀ k, k < N → parseFieldDescriptor (T k).2.2.1 = some (ty0 k)) (hnm : ∀ a, a < N → ∀ b, b < N → a ≠ b → (T a).2.1 ≠ (T b).2.1) (q0 : Nat) {fs : List Value} (he : ws[q0]? = some (a, .inr (ci, fs))) (hc : vwCl[ci]? = some (C, T, N)) (k : Nat) (hk : k < N) (hlink : Cond.fieldLink own index ref (T k).2.1 (T k).2.2.1 ∈ GW) (hsame : (T k).1 = ref) (hfin : (T k).2.2.2 = false) {ty : FieldType} {v : Value} (hd : parseFieldDescriptor (T k).2.2.1 = some ty) (hn : narrow ty v = v) (hfit : fits ty v = true) (hl : k < fs.length) (hw : ws.set q0 (a, .inr (ci, fs.set k v)) = ws')
    (hdg : decode cc pc = .ok (.putfield index, 3)) (kk : J p l e R s m args below meth c X A nL cells slots Q ws' lv (pc + 3) st) : J p l e R s m args below meth c X A nL cells slots Q ws lv pc (v :: .ref a :: st) := by
  subst hw
  exact fun H locs ls hP hD hS hl2 => va_put (D := X.1) (cl := vwCl) (tys := tyX X) cx.1 cx.2.1 cx.2.2.2.2.1 hin ty0 hty hnm cx.2.2.2.1 cx.2.2.2.2.2.1.1 hP hD hS q0 he hc k hk (cx.2.2.2.2.1 _ hlink) (fun _ h9 => by rw [← hsame]; exact h9) hfin hd hn hfit hl hdg (fun H1 locs1 hP1 hD1 hS1 => kk H1 locs1 ls hP1 hD1 hS1 hl2)
theorem J_putN (cx : Cx p s m args meth c X A nL cc own) {C ref host : String} {T : u_T} {N ci index a : Nat} (hin : ∀ w ∈ u_ws C T N, w ∈ GW) {ty0 : Nat → FieldType} (hty : ∀ k, k < N → parseFieldDescriptor (T k).2.2.1 = some (ty0 k)) (hnm : ∀ a, a < N → ∀ b, b < N → a ≠ b → (T a).2.1 ≠ (T b).2.1) (q0 : Nat) {fs : List Value} (he : ws[q0]? = some (a, .inr (ci, fs))) (hc : vwCl[ci]? = some (C, T, N)) (k : Nat) (hk : k < N) (hlink : Cond.fieldLinkNest own index ref (T k).2.1 (T k).2.2.1 host ∈ NL) (hsame : (T k).1 = ref) (hfin : (T k).2.2.2 = false) {ty : FieldType} {v : Value} (hd : parseFieldDescriptor (T k).2.2.1 = some ty) (hn : narrow ty v = v) (hfit : fits ty v = true) (hl : k < fs.length) (hw : ws.set q0 (a, .inr (ci, fs.set k v)) = ws')
    (hdg : decode cc pc = .ok (.putfield index, 3)) (kk : J p l e R s m args below meth c X A nL cells slots Q ws' lv (pc + 3) st) : J p l e R s m args below meth c X A nL cells slots Q ws lv pc (v :: .ref a :: st) := by
  subst hw
  exact fun H locs ls hP hD hS hl2 => va_putN (D := X.1) (cl := vwCl) (tys := tyX X) cx.1 cx.2.1 cx.2.2.2.2.1 hin ty0 hty hnm cx.2.2.2.1 cx.2.2.2.2.2.1.1 hP hD hS q0 he hc k hk (va_Nw.use rfl (cx.2.2.2.2.2.1.2 _ hlink)) (fun _ h9 => by rw [← hsame]; exact h9) hfin hd hn hfit hl hdg (fun H1 locs1 hP1 hD1 hS1 => kk H1 locs1 ls hP1 hD1 hS1 hl2)
theorem J_putF (cx : Cx p s m args meth c X A nL cc own) {C ref : String} {T : u_T} {N ci index a : Nat} (hin : ∀ w ∈ u_ws C T N, w ∈ GW) {ty0 : Nat → FieldType} (hty : ∀ k, k < N → parseFieldDescriptor (T k).2.2.1 = some (ty0 k)) (hnm : ∀ a, a < N → ∀ b, b < N → a ≠ b → (T a).2.1 ≠ (T b).2.1) (q0 : Nat) {fs : List Value} (he : ws[q0]? = some (a, .inr (ci, fs))) (hc : vwCl[ci]? = some (C, T, N)) (k : Nat) (hk : k < N) (hlink : Cond.fieldLink own index ref (T k).2.1 (T k).2.2.1 ∈ GW) (hsame : (T k).1 = ref) (hfin : (T k).2.2.2 = true) (hin2 : meth.name = "<init>") (hdecl : (T k).1 = own) {ty : FieldType} {v : Value} (hd : parseFieldDescriptor (T k).2.2.1 = some ty) (hn : narrow ty v = v) (hfit : fits ty v = true) (hl : k < fs.length) (hw : ws.set q0 (a, .inr (ci, fs.set k v)) = ws')
    (hdg : decode cc pc = .ok (.putfield index, 3)) (kk : J p l e R s m args below meth c X A nL cells slots Q ws' lv (pc + 3) st) : J p l e R s m args below meth c X A nL cells slots Q ws lv pc (v :: .ref a :: st) := by
  subst hw
  exact fun H locs ls hP hD hS hl2 => va_putF (D := X.1) (cl := vwCl) (tys := tyX X) cx.1 cx.2.1 cx.2.2.2.2.1 hin ty0 hty hnm cx.2.2.2.1 cx.2.2.2.2.2.1.1 hP hD hS q0 he hc k hk (cx.2.2.2.2.1 _ hlink) (fun _ h9 => by rw [← hsame]; exact h9) hfin hin2 hdecl hd hn hfit hl hdg (fun H1 locs1 hP1 hD1 hS1 => kk H1 locs1 ls hP1 hD1 hS1 hl2)
theorem J_iald (cx : Cx p s m args meth c X A nL cc own) (q0 : Nat) {n a : Nat} {f : Int → Int} (ha : ws[q0]? = some (a, .inl (X.2.1, n, .inl (aI f)))) {i : Int} (hi : 0 ≤ i ∧ i < (n : Int)) (hn : (n : Int) < 2147483648) (hdg : decode cc pc = .ok (.iaload, 1)) (kk : J p l e R s m args below meth c X A nL cells slots Q ws lv (pc + 1) (.int (iI (f i)) :: st)) : J p l e R s m args below meth c X A nL cells slots Q ws lv pc (.int (iI i) :: .ref a :: st) :=
  fun H locs ls hP hD hS hl => va_iald (D := X.1) (cl := vwCl) (tys := tyX X) cx.1 cx.2.1 cx.2.2.2.2.2.1.1 hP q0 0 ha rfl (iI_in hi hn) hdg (by rw [aI_rd (by omega)]; exact kk H locs ls hP hD hS hl)
theorem J_bald (cx : Cx p s m args meth c X A nL cc own) (q0 : Nat) {n a : Nat} {f : Int → Int} (ha : ws[q0]? = some (a, .inl (X.2.2, n, .inl (aI f)))) {i : Int} (hi : 0 ≤ i ∧ i < (n : Int)) (hn : (n : Int) < 2147483648) (hdg : decode cc pc = .ok (.baload, 1)) (kk : J p l e R s m args below meth c X A nL cells slots Q ws lv (pc + 1) (.int (iI (f i)) :: st)) : J p l e R s m args below meth c X A nL cells slots Q ws lv pc (.int (iI i) :: .ref a :: st) :=
  fun H locs ls hP hD hS hl => va_bald (D := X.1) (cl := vwCl) (tys := tyX X) cx.1 cx.2.1 cx.2.2.2.2.2.1.1 hP q0 1 ha rfl (iI_in hi hn) hdg (by rw [aI_rd (by omega)]; exact kk H locs ls hP hD hS hl)
theorem J_iast (cx : Cx p s m args meth c X A nL cc own) (q0 : Nat) {n a : Nat} {f : Int → Int} (ha : ws[q0]? = some (a, .inl (X.2.1, n, .inl (aI f)))) {i x : Int} (hi : 0 ≤ i ∧ i < (n : Int)) (hn : (n : Int) < 2147483648) (hw : ws.set q0 (a, .inl (X.2.1, n, .inl (aI (upI f i x)))) = ws') (hdg : decode cc pc = .ok (.iastore, 1)) (kk : J p l e R s m args below meth c X A nL cells slots Q ws' lv (pc + 1) st) : J p l e R s m args below meth c X A nL cells slots Q ws lv pc (.int (iI x) :: .int (iI i) :: .ref a :: st) := by
  subst hw
  exact fun H locs ls hP hD hS hl => va_iast (D := X.1) (cl := vwCl) (tys := tyX X) cx.1 cx.2.1 cx.2.2.2.2.2.1.1 hP hD hS q0 0 ha rfl (iI_in hi hn) hdg (fun H1 locs1 hP1 hD1 hS1 => by rw [aI_up (by omega)] at hP1 hD1; exact kk H1 locs1 ls hP1 hD1 hS1 hl)
theorem J_bast (cx : Cx p s m args meth c X A nL cc own) (q0 : Nat) {n a : Nat} {f : Int → Int} (ha : ws[q0]? = some (a, .inl (X.2.2, n, .inl (aI f)))) {i x : Int} (hi : 0 ≤ i ∧ i < (n : Int)) (hn : (n : Int) < 2147483648) (hw : ws.set q0 (a, .inl (X.2.2, n, .inl (aI (upI f i (w8 x))))) = ws') (hdg : decode cc pc = .ok (.bastore, 1)) (kk : J p l e R s m args below meth c X A nL cells slots Q ws' lv (pc + 1) st) : J p l e R s m args below meth c X A nL cells slots Q ws lv pc (.int (iI x) :: .int (iI i) :: .ref a :: st) := by
  subst hw
  exact fun H locs ls hP hD hS hl => va_bast (D := X.1) (cl := vwCl) (tys := tyX X) cx.1 cx.2.1 cx.2.2.2.2.2.1.1 hP hD hS q0 1 ha rfl (iI_in hi hn) hdg (fun H1 locs1 hP1 hD1 hS1 => by rw [iI_nar8, aI_up (by omega)] at hP1 hD1; exact kk H1 locs1 ls hP1 hD1 hS1 hl)
/-! ends -/
theorem J_iret (cx : Cx p s m args meth c X A nL cc own) {post : Option Value → va_W → Prop} {v : Int} (hr : meth.sig.returnType = some .int) (hdg : decode cc pc = .ok (.ireturn, 1)) (hp : post (some (.int (iI v))) ws) : J p l e R s m args below meth c X A nL cells slots (MQ below (Qg X post A) args s cells slots A) ws lv pc [.int (iI v)] :=
  fun H locs ls hP hD hS hl => W.iret cx.1 cx.2.1 hr (fun t ht _ => ⟨⟨_, ws, rfl, hp, by rw [ht]; exact hP, hD⟩, hS.F ht⟩) hS.2.2 hdg cx.2.2.2.2.2.2.2
theorem J_zret (cx : Cx p s m args meth c X A nL cc own) {post : Option Value → va_W → Prop} {v : Int} (hr : meth.sig.returnType = some .boolean) (hv : v = 0 ∨ v = 1) (hdg : decode cc pc = .ok (.ireturn, 1)) (hp : post (some (.int (iI v))) ws) : J p l e R s m args below meth c X A nL cells slots (MQ below (Qg X post A) args s cells slots A) ws lv pc [.int (iI v)] :=
  fun H locs ls hP hD hS hl => W.zret cx.1 cx.2.1 hr (by rcases hv with rfl | rfl <;> decide) (fun t ht _ => ⟨⟨_, ws, rfl, hp, by rw [ht]; exact hP, hD⟩, hS.F ht⟩) hS.2.2 hdg cx.2.2.2.2.2.2.2
theorem J_lret (cx : Cx p s m args meth c X A nL cc own) {post : Option Value → va_W → Prop} {v : Int} (hr : meth.sig.returnType = some .long) (hdg : decode cc pc = .ok (.lreturn, 1)) (hp : post (some (.long (lI v))) ws) : J p l e R s m args below meth c X A nL cells slots (MQ below (Qg X post A) args s cells slots A) ws lv pc [.long (lI v)] :=
  fun H locs ls hP hD hS hl => W.lret cx.1 cx.2.1 hr (fun t ht _ => ⟨⟨_, ws, rfl, hp, by rw [ht]; exact hP, hD⟩, hS.F ht⟩) hS.2.2 hdg cx.2.2.2.2.2.2.2
theorem J_vret (cx : Cx p s m args meth c X A nL cc own) {post : Option Value → va_W → Prop} (hr : meth.sig.returnType = none) (hdg : decode cc pc = .ok (.return_, 1)) (hp : post none ws) : J p l e R s m args below meth c X A nL cells slots (MQ below (Qg X post A) args s cells slots A) ws lv pc [] :=
  fun H locs ls hP hD hS hl => W.vret cx.1 cx.2.1 hr (fun t ht _ => ⟨⟨_, ws, rfl, hp, by rw [ht]; exact hP, hD⟩, hS.F ht⟩) hS.2.2 hdg cx.2.2.2.2.2.2.2
/-! calls -/
theorem J_back {mc ms : Nat} {post : Option Value → va_W → Prop} {st0 rest : List Value} {a : Array Value} {wc wr : va_W} (hA : ∀ q : Nat, s.heap.size ≤ q → A q) (isC isR : List Nat) (hC : isC.map (fun i => ws[i]?) = wc.map some) (hR : isR.map (fun i => ws[i]?) = wr.map some) (hn : va_nd isR = true) (hdis : ∀ i ∈ isR, i ∉ isC) {H : Heap} {locs : List Loc} {ls : Array Slot} (hP : va_P X.1 vwCl ws H) (hD : va_D A ws) (hS : va_S A s.heap H locs) (hl : lv_has ls nL lv)
    (hr : va_Run p l e R s m args below meth c H locs cells slots mc ms (F0 m pc ls st0) rest (Qg X post (va_A wc H.size) a) (va_A wc H.size))
    (k : ∀ (v : Option Value) (u : va_W), post v u → J p l e R s m args below meth c X A nL (cells + mc) (slots + ms) Q (wr ++ u) lv (pc + 3) (v.toList ++ rest)) : W p l e R s m args below meth c H locs cells slots Q (F0 m pc ls st0) := by
  have hF := va_free (wc := wc) hD hS hA isC hC
  intro T hT X'
  obtain ⟨v, st₀, t, T', L, h0, X1, hL, e1, e2, ⟨⟨v', u, hv, hp, hb, hd⟩, hz, hk⟩, stp⟩ := hr T hT X'
  cases hv
  rw [h0] at hz hk
  rw [← e1] at hb hz
  have hk1 : ∀ q : Nat, q < H.size → ¬ va_A wc H.size q → T'.heap[q]? = H[q]? := fun q h1 h2 => by rw [e1]; exact hk q h1 h2
  obtain ⟨hP1, hD1⟩ := va_join (wr := wr) (w1 := u) hP hD isC isR hC hR hn hdis hk1 hF hb hd
  have hS1 : va_S A s.heap T'.heap (locs ++ L) := ⟨Nat.le_trans hS.1 hz, fun q h1 h2 => by rw [hk1 q (Nat.lt_of_lt_of_le h1 hS.1) (fun z => h2 (hF q z))]; exact hS.2.1 q h1 h2, fun q hq => by
    rcases List.mem_append.mp hq with h | h
    · exact hS.2.2 q h
    · exact hF _ (hL q h)⟩
  obtain ⟨t2, a1, b1⟩ := k v u hp T'.heap (locs ++ L) ls hP1 hD1 hS1 hl T' rfl X1
  exact ⟨t2, stp t2 a1, b1⟩
theorem GW_GW {y : MethodName} {b : ByteArray} {n : Nat} {ret : Option FieldType} (h : Cond.code y b n ret ∈ GW) : GoodIn GW (.code y b n ret :: GW) := by
  intro w hw
  rcases List.mem_cons.mp hw with rfl | hw
  · exact ⟨h, GW_good _ h⟩
  · exact ⟨hw, GW_good _ hw⟩
theorem Pg_in {Xs : GX} {av : List Value} {wc : va_W} {H : Heap} {U : State} (isC : List Nat) (hC : isC.map (fun i => ws[i]?) = wc.map some) (hC2 : isC.filterMap (fun i => ws[i]?) = wc) (hnd : va_nd isC = true) (hK : KX Xs s) (hP : va_P Xs.1 vwCl ws H) (hD : va_D A ws) (hU : U.heap = H) (hW : s.WarmedH U.vm) : Pg Xs av wc H.size av.toArray U :=
  ⟨rfl, by rw [hU], by rw [hU]; exact hP.sub isC hC2, KX.warm hW hK, (hD.sub isC hnd hC).weaken (fun _ _ _ _ => trivial)⟩
section calls
variable {y : MethodName} {b : ByteArray} {nC fr lo mc ms index n : Nat} {ret : Option FieldType} {post : Option Value → va_W → Prop} {wc : va_W} {As rest : List Value} {a : Nat}
theorem J_callV (cx : Cx p s m args meth c X A nL cc own) {C : String} {T : u_T} {N ci : Nat} {fs : List Value} (hM : Ct l y b nC ret fr lo mc ms X (.ref a :: As) wc post) (hcode : Cond.code y b nC ret ∈ GW) (hlink : Cond.methodLink own index y ∈ GW) (hinst : Cond.instanceMethod y ∈ GW) (hsel : Cond.selects C y y ∈ GW) (hini : Cond.initialized C ∈ GW) (hd : y.cls = C ∧ y.cls ≠ "java/lang/invoke/MethodHandle" ∧ y.cls ≠ "java/lang/invoke/VarHandle" ∧ (parseMethodDescriptor y.desc).map (fun d => d.parameters.length) = some n) (hn : As.length = n) (hroom : fr + 1 ≤ R.frames ∧ 8 + (nC + 11) + lo ≤ R.locals) (hrest : (rest.map fun v => v.category).sum ≤ 8) (hcs : cells + mc ≤ R.cells ∧ slots + ms ≤ R.slots)
    (isC isR : List Nat) (hC : isC.map (fun i => ws[i]?) = wc.map some) (hC2 : isC.filterMap (fun i => ws[i]?) = wc) (hndC : va_nd isC = true) (hR : isR.map (fun i => ws[i]?) = (isR.filterMap (fun i => ws[i]?)).map some) (hndR : va_nd isR = true) (hdis : ∀ i ∈ isR, i ∉ isC) (q0 : Nat) (he : ws[q0]? = some (a, .inr (ci, fs))) (hc : vwCl[ci]? = some (C, T, N)) (hdg : decode cc pc = .ok (.invokevirtual index, 3)) (hst : st = As.reverse ++ .ref a :: rest)
    (k : ∀ (v : Option Value) (u : va_W), post v u → J p l e R s m args below meth c X A nL (cells + mc) (slots + ms) Q (isR.filterMap (fun i => ws[i]?) ++ u) lv (pc + 3) (v.toList ++ rest)) : J p l e R s m args below meth c X A nL cells slots Q ws lv pc st := by
  subst hst
  intro H locs ls hP hD hS hl
  have hts := cx.2.2.2.2.1
  have cw : CallW R s args own C index y b nC ret (.code y b nC ret :: GW) { frames := fr, cells := mc, slots := ms, locals := lo } mc ms n := by
    obtain ⟨hC1, hd1⟩ := hd
    subst hC1
    exact ⟨callB_of n hts (GW_GW hcode) rfl rfl rfl (hts _ hini) (hts _ hlink) hd1 hroom, hts _ hinst, hts _ hsel⟩
  exact J_back cx.2.2.2.2.2.2.1 isC isR hC hR hndR hdis hP hD hS hl (va_runV ⟨cx.1, cx.2.1, cx.2.2.1, cx.2.2.2.1, hts⟩ (hM H.size) cw ⟨Pg_blind _ _ _ _, va_recv cx.2.2.2.2.2.1.1 hP hc he, fun U hU hW => Pg_in isC hC hC2 hndC cx.2.2.2.2.2.1 hP hD hU hW⟩ rfl hn hl.1 rfl (lv_room hrest) hdg hcs) k
theorem J_callVN (cx : Cx p s m args meth c X A nL cc own) {C host : String} {T : u_T} {N ci : Nat} {fs : List Value} (hM : Ct l y b nC ret fr lo mc ms X (.ref a :: As) wc post) (hcode : Cond.code y b nC ret ∈ GW) (hlink : Cond.methodLinkNest own index y host ∈ NL) (hinst : Cond.instanceMethod y ∈ GW) (hsel : Cond.selects C y y ∈ GW) (hini : Cond.initialized y.cls ∈ GW) (hd : y.cls ≠ "java/lang/invoke/MethodHandle" ∧ y.cls ≠ "java/lang/invoke/VarHandle" ∧ (parseMethodDescriptor y.desc).map (fun d => d.parameters.length) = some n) (hn : As.length = n) (hroom : fr + 1 ≤ R.frames ∧ 8 + (nC + 11) + lo ≤ R.locals) (hrest : (rest.map fun v => v.category).sum ≤ 8) (hcs : cells + mc ≤ R.cells ∧ slots + ms ≤ R.slots)
    (isC isR : List Nat) (hC : isC.map (fun i => ws[i]?) = wc.map some) (hC2 : isC.filterMap (fun i => ws[i]?) = wc) (hndC : va_nd isC = true) (hR : isR.map (fun i => ws[i]?) = (isR.filterMap (fun i => ws[i]?)).map some) (hndR : va_nd isR = true) (hdis : ∀ i ∈ isR, i ∉ isC) (q0 : Nat) (he : ws[q0]? = some (a, .inr (ci, fs))) (hc : vwCl[ci]? = some (C, T, N)) (hdg : decode cc pc = .ok (.invokevirtual index, 3)) (hst : st = As.reverse ++ .ref a :: rest)
    (k : ∀ (v : Option Value) (u : va_W), post v u → J p l e R s m args below meth c X A nL (cells + mc) (slots + ms) Q (isR.filterMap (fun i => ws[i]?) ++ u) lv (pc + 3) (v.toList ++ rest)) : J p l e R s m args below meth c X A nL cells slots Q ws lv pc st := by
  subst hst
  intro H locs ls hP hD hS hl
  have hts := cx.2.2.2.2.1
  exact J_back cx.2.2.2.2.2.2.1 isC isR hC hR hndR hdis hP hD hS hl (va_runVN (C := C) ⟨cx.1, cx.2.1, cx.2.2.1, cx.2.2.2.1, hts⟩ (hM H.size) ⟨va_cnB n hts (GW_GW hcode) rfl rfl rfl (cx.2.2.2.2.2.1.2 _ hlink) (hts _ hini) hd hroom, hts _ hinst, hts _ hsel⟩ ⟨Pg_blind _ _ _ _, va_recv cx.2.2.2.2.2.1.1 hP hc he, fun U hU hW => Pg_in isC hC hC2 hndC cx.2.2.2.2.2.1 hP hD hU hW⟩ rfl hn hl.1 rfl (lv_room hrest) hdg hcs) k
theorem J_callS (cx : Cx p s m args meth c X A nL cc own) (hM : Ct l y b nC ret fr lo mc ms X As wc post) (hcode : Cond.code y b nC ret ∈ GW) (hlink : Cond.methodLink own index y ∈ GW) (hstat : Cond.static y ∈ GW) (hini : Cond.initialized y.cls ∈ GW) (hd : y.cls ≠ "java/lang/invoke/MethodHandle" ∧ y.cls ≠ "java/lang/invoke/VarHandle" ∧ (parseMethodDescriptor y.desc).map (fun d => d.parameters.length) = some n) (hn : As.length = n) (hroom : fr + 1 ≤ R.frames ∧ 8 + (nC + 11) + lo ≤ R.locals) (hrest : (rest.map fun v => v.category).sum ≤ 8) (hcs : cells + mc ≤ R.cells ∧ slots + ms ≤ R.slots)
    (isC isR : List Nat) (hC : isC.map (fun i => ws[i]?) = wc.map some) (hC2 : isC.filterMap (fun i => ws[i]?) = wc) (hndC : va_nd isC = true) (hR : isR.map (fun i => ws[i]?) = (isR.filterMap (fun i => ws[i]?)).map some) (hndR : va_nd isR = true) (hdis : ∀ i ∈ isR, i ∉ isC) (hdg : decode cc pc = .ok (.invokestatic index, 3)) (hst : st = As.reverse ++ rest)
    (k : ∀ (v : Option Value) (u : va_W), post v u → J p l e R s m args below meth c X A nL (cells + mc) (slots + ms) Q (isR.filterMap (fun i => ws[i]?) ++ u) lv (pc + 3) (v.toList ++ rest)) : J p l e R s m args below meth c X A nL cells slots Q ws lv pc st := by
  subst hst
  intro H locs ls hP hD hS hl
  have hts := cx.2.2.2.2.1
  exact J_back cx.2.2.2.2.2.2.1 isC isR hC hR hndR hdis hP hD hS hl (va_runS ⟨cx.1, cx.2.1, cx.2.2.1, cx.2.2.2.1, hts⟩ (hM H.size) ⟨callB_of n hts (GW_GW hcode) rfl rfl rfl (hts _ hini) (hts _ hlink) hd hroom, hts _ hstat⟩ ⟨Pg_blind _ _ _ _, fun U hU hW => Pg_in isC hC hC2 hndC cx.2.2.2.2.2.1 hP hD hU hW⟩ rfl hn hl.1 rfl (lv_room hrest) hdg hcs) k
theorem J_callSN (cx : Cx p s m args meth c X A nL cc own) {host : String} (hM : Ct l y b nC ret fr lo mc ms X As wc post) (hcode : Cond.code y b nC ret ∈ GW) (hlink : Cond.methodLinkNest own index y host ∈ NL) (hstat : Cond.static y ∈ GW) (hini : Cond.initialized y.cls ∈ GW) (hd : y.cls ≠ "java/lang/invoke/MethodHandle" ∧ y.cls ≠ "java/lang/invoke/VarHandle" ∧ (parseMethodDescriptor y.desc).map (fun d => d.parameters.length) = some n) (hn : As.length = n) (hroom : fr + 1 ≤ R.frames ∧ 8 + (nC + 11) + lo ≤ R.locals) (hrest : (rest.map fun v => v.category).sum ≤ 8) (hcs : cells + mc ≤ R.cells ∧ slots + ms ≤ R.slots)
    (isC isR : List Nat) (hC : isC.map (fun i => ws[i]?) = wc.map some) (hC2 : isC.filterMap (fun i => ws[i]?) = wc) (hndC : va_nd isC = true) (hR : isR.map (fun i => ws[i]?) = (isR.filterMap (fun i => ws[i]?)).map some) (hndR : va_nd isR = true) (hdis : ∀ i ∈ isR, i ∉ isC) (hdg : decode cc pc = .ok (.invokestatic index, 3)) (hst : st = As.reverse ++ rest)
    (k : ∀ (v : Option Value) (u : va_W), post v u → J p l e R s m args below meth c X A nL (cells + mc) (slots + ms) Q (isR.filterMap (fun i => ws[i]?) ++ u) lv (pc + 3) (v.toList ++ rest)) : J p l e R s m args below meth c X A nL cells slots Q ws lv pc st := by
  subst hst
  intro H locs ls hP hD hS hl
  have hts := cx.2.2.2.2.1
  exact J_back cx.2.2.2.2.2.2.1 isC isR hC hR hndR hdis hP hD hS hl (va_runSN ⟨cx.1, cx.2.1, cx.2.2.1, cx.2.2.2.1, hts⟩ (hM H.size) ⟨va_cnB n hts (GW_GW hcode) rfl rfl rfl (cx.2.2.2.2.2.1.2 _ hlink) (hts _ hini) hd hroom, hts _ hstat, trivial⟩ ⟨Pg_blind _ _ _ _, fun U hU hW => Pg_in isC hC hC2 hndC cx.2.2.2.2.2.1 hP hD hU hW⟩ rfl hn hl.1 rfl (lv_room hrest) hdg hcs) k
theorem J_callI (cx : Cx p s m args meth c X A nL cc own) (hM : Ct l y b nC none fr lo mc ms X (.ref a :: As) wc post) (hcode : Cond.code y b nC none ∈ GW) (hlink : Cond.methodLink own index y ∈ GW) (hinst : Cond.instanceMethod y ∈ GW) (hy1 : y.name = "<init>") (hini : Cond.initialized y.cls ∈ GW) (hd : y.cls ≠ "java/lang/invoke/MethodHandle" ∧ y.cls ≠ "java/lang/invoke/VarHandle" ∧ (parseMethodDescriptor y.desc).map (fun d => d.parameters.length) = some n) (hn : As.length = n) (hroom : fr + 1 ≤ R.frames ∧ 8 + (nC + 11) + lo ≤ R.locals) (hrest : (rest.map fun v => v.category).sum ≤ 8) (hcs : cells + mc ≤ R.cells ∧ slots + ms ≤ R.slots)
    (isC isR : List Nat) (hC : isC.map (fun i => ws[i]?) = wc.map some) (hC2 : isC.filterMap (fun i => ws[i]?) = wc) (hndC : va_nd isC = true) (hR : isR.map (fun i => ws[i]?) = (isR.filterMap (fun i => ws[i]?)).map some) (hndR : va_nd isR = true) (hdis : ∀ i ∈ isR, i ∉ isC) (hdg : decode cc pc = .ok (.invokespecial index, 3)) (hst : st = As.reverse ++ .ref a :: rest)
    (k : ∀ (v : Option Value) (u : va_W), post v u → J p l e R s m args below meth c X A nL (cells + mc) (slots + ms) Q (isR.filterMap (fun i => ws[i]?) ++ u) lv (pc + 3) (v.toList ++ rest)) : J p l e R s m args below meth c X A nL cells slots Q ws lv pc st := by
  subst hst
  intro H locs ls hP hD hS hl
  have hts := cx.2.2.2.2.1
  exact J_back cx.2.2.2.2.2.2.1 isC isR hC hR hndR hdis hP hD hS hl (va_runI ⟨cx.1, cx.2.1, cx.2.2.1, cx.2.2.2.1, hts⟩ (hM H.size) ⟨callB_of n hts (GW_GW hcode) rfl rfl rfl (hts _ hini) (hts _ hlink) hd hroom, hy1, hts _ hinst⟩ ⟨Pg_blind _ _ _ _, fun U hU hW => Pg_in isC hC hC2 hndC cx.2.2.2.2.2.1 hP hD hU hW⟩ rfl hn hl.1 rfl (lv_room hrest) hdg hcs) k
theorem J_callIN (cx : Cx p s m args meth c X A nL cc own) {host : String} (hM : Ct l y b nC none fr lo mc ms X (.ref a :: As) wc post) (hcode : Cond.code y b nC none ∈ GW) (hlink : Cond.methodLinkNest own index y host ∈ NL) (hinst : Cond.instanceMethod y ∈ GW) (hy1 : y.name = "<init>") (hini : Cond.initialized y.cls ∈ GW) (hd : y.cls ≠ "java/lang/invoke/MethodHandle" ∧ y.cls ≠ "java/lang/invoke/VarHandle" ∧ (parseMethodDescriptor y.desc).map (fun d => d.parameters.length) = some n) (hn : As.length = n) (hroom : fr + 1 ≤ R.frames ∧ 8 + (nC + 11) + lo ≤ R.locals) (hrest : (rest.map fun v => v.category).sum ≤ 8) (hcs : cells + mc ≤ R.cells ∧ slots + ms ≤ R.slots)
    (isC isR : List Nat) (hC : isC.map (fun i => ws[i]?) = wc.map some) (hC2 : isC.filterMap (fun i => ws[i]?) = wc) (hndC : va_nd isC = true) (hR : isR.map (fun i => ws[i]?) = (isR.filterMap (fun i => ws[i]?)).map some) (hndR : va_nd isR = true) (hdis : ∀ i ∈ isR, i ∉ isC) (hdg : decode cc pc = .ok (.invokespecial index, 3)) (hst : st = As.reverse ++ .ref a :: rest)
    (k : ∀ (v : Option Value) (u : va_W), post v u → J p l e R s m args below meth c X A nL (cells + mc) (slots + ms) Q (isR.filterMap (fun i => ws[i]?) ++ u) lv (pc + 3) (v.toList ++ rest)) : J p l e R s m args below meth c X A nL cells slots Q ws lv pc st := by
  subst hst
  intro H locs ls hP hD hS hl
  have hts := cx.2.2.2.2.1
  exact J_back cx.2.2.2.2.2.2.1 isC isR hC hR hndR hdis hP hD hS hl (va_runIN ⟨cx.1, cx.2.1, cx.2.2.1, cx.2.2.2.1, hts⟩ (hM H.size) ⟨va_cnB n hts (GW_GW hcode) rfl rfl rfl (cx.2.2.2.2.2.1.2 _ hlink) (hts _ hini) hd hroom, hy1, hts _ hinst⟩ ⟨Pg_blind _ _ _ _, fun U hU hW => Pg_in isC hC hC2 hndC cx.2.2.2.2.2.1 hP hD hU hW⟩ rfl hn hl.1 rfl (lv_room hrest) hdg hcs) k
end calls
end JL
