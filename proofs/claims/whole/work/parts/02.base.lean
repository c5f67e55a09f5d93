/-! own rows: bundles of what holds at a place of a walk, and one row a step over them -/
abbrev wU (y : MethodName) (b : ByteArray) (n : Nat) (r : Option FieldType) : List Cond := Cond.code y b n r :: lw_g
abbrev cls6 : List vw_C := [(RX0, TX0, 7), (RX1, TX1, 3), (RX2, TX2, 2), (RX3, TX3, 5), (RX4, TX4, 8), (RX5, TX5, 20)]
theorem gU {y : MethodName} {b : ByteArray} {n : Nat} {r : Option FieldType} (h : Cond.code y b n r ∈ lw_g) : GoodIn lw_g (wU y b n r) := by
  intro w hw
  have hm : w ∈ lw_g := by
    rcases List.mem_cons.mp hw with e | e
    · rw [e]; exact h
    · exact e
  exact ⟨hm, good_of_word (List.mem_filter.mp hm).2⟩
abbrev XP : Type := (Nat → Prop) → State → Heap → Prop
def XT (X : XP) : Prop := ∀ (A A' : Nat → Prop) (s U : State) (H : Heap) (locs : List Loc), X A s s.heap → va_S A s.heap H locs → (∀ q, A' q → A q) → s.WarmedH U.vm → X A' U H
def X0 : XP := fun _ _ _ => True
theorem X0_ok : XT X0 := fun _ _ _ _ _ _ _ _ _ _ => trivial
def CX (X : XP) (p : Program) (s : State) (m : MethodId) (args : Array Value) (meth : Method) (c : Code) (cc : ByteArray) (nL : Nat) (rt : Option FieldType) (own : String) (A : Nat → Prop) : Prop :=
  p.tables.exec = Jvm.exec ∧ c.code = cc ∧ meth.sig.returnType = rt ∧ c.maxLocals = nL ∧ s.vm.findClass own = some m.cls ∧ (∀ w ∈ lw_g, w.before args s = true) ∧ meth.locks = false ∧ (∀ q : Nat, s.heap.size ≤ q → A q) ∧ XT X
def GX (X : XP) (D : va_G) (tys : List (ClassId × FieldType)) (A : Nat → Prop) (s : State) (w : va_W) (H : Heap) (locs : List Loc) : Prop :=
  va_K D cls6 tys s ∧ va_P D cls6 w H ∧ va_D A w ∧ va_S A s.heap H locs ∧ X A s s.heap
def PreW (X : XP) (D : va_G) (tys : List (ClassId × FieldType)) (w : va_W) (sz : Nat) (U : State) : Prop :=
  U.heap.size = sz ∧ va_P D cls6 w U.heap ∧ va_K D cls6 tys U ∧ va_D (fun _ => True) w ∧ X (va_A w sz) U U.heap
def PostW (D : va_G) (tys : List (ClassId × FieldType)) (w : va_W) (A : Nat → Prop) (_ : Unit) (t : State) : Prop :=
  va_P D cls6 w t.heap ∧ va_K D cls6 tys t ∧ va_D A w
abbrev QcI (D : va_G) (tys : List (ClassId × FieldType)) (w : va_W) (A : Nat → Prop) (r : Int32) : Array Value → State → Outcome → State → Prop := va_Qi (fun r' (_ : Unit) => r' = r) (PostW D tys w A) A
abbrev QcL (D : va_G) (tys : List (ClassId × FieldType)) (w : va_W) (A : Nat → Prop) (r : Int64) : Array Value → State → Outcome → State → Prop := va_Ql (fun r' (_ : Unit) => r' = r) (PostW D tys w A) A
abbrev QcV (D : va_G) (tys : List (ClassId × FieldType)) (w : va_W) (A : Nat → Prop) : Array Value → State → Outcome → State → Prop := va_Qv (fun (_ : Unit) => True) (PostW D tys w A) A
theorem PreW.blind {X : XP} (hX : XT X) {D : va_G} {tys : List (ClassId × FieldType)} {w : va_W} {sz : Nat} {av : List Value} : FrameBlind (va_Pc av (PreW X D tys w sz)) := by
  intro a U g mk h
  obtain ⟨h0, h1, h2, h3, h4, h5⟩ := h
  exact ⟨h0, h1, h2, va_K.moved (u := U) (U := U.calling g mk a) (Vm.Alike.refl U.vm) h3, h4, hX _ _ U (U.calling g mk a) U.heap [] h5 va_S.rf (fun _ h => h) (State.WarmedH.refl U)⟩
/-- the start of a method's walk -/
theorem startW {X : XP} (hX : XT X) {l : Launch} {y : MethodName} {rm : Room} {D : va_G} {tys : List (ClassId × FieldType)} {w : va_W} {sz : Nat} {av : List Value} {own : String} {Qc : Array Value → State → Outcome → State → Prop} {cc : ByteArray} {maxL : Nat} {ret : Option FieldType}
    (hy : plainName y.cls = true) (hcls : y.cls = own) (hn : (lg_sl av).length ≤ maxL)
    (body : ∀ (p : Program) (e : Env) (s : State) (m : MethodId) (args : Array Value) (below : List Frame) (meth : Method) (c : Code) (ls : Array Slot), CX X p s m args meth c cc maxL ret own (va_A w sz) → GX X D tys (va_A w sz) s w s.heap [] → lv_has ls maxL (lv_args 0 av) →
      W p l e rm s m args below meth c s.heap [] 0 0 (MQ below Qc args s 0 0 (va_A w sz)) (F0 m 0 ls [])) : Met l y (wU y cc maxL ret) rm (va_Pc av (PreW X D tys w sz)) Qc 0 0 (va_A w sz) := by
  refine Met.ofW (cc := cc) (maxL := maxL) (ret := ret) hy rfl ?_
  intro p e s m args below meth c s₁ B hml hv
  obtain ⟨rfl, rfl, hP, hK, hD0, hXs⟩ := hv
  have hts := atoms_spec (ws := wU y cc maxL ret) B.pre
  have hown : s.vm.findClass own = some m.cls := by rw [← hcls]; exact findClass_of_methodNamed B.named
  rw [lg_entry_eq]
  exact body p e s m _ below meth c _ ⟨B.exec, B.bytes, B.returns, hml, hown, fun w h => hts w (List.mem_cons_of_mem _ h), B.notSynchronized, fun q h => Or.inr h, hX⟩ ⟨hK, hP, hD0.self, va_S.rf, hXs⟩ (lv_entry av hn)
section STEPS
variable {X : XP} {p : Program} {l : Launch} {e : Env} {R : Room} {s : State} {m : MethodId} {args : Array Value} {below : List Frame} {meth : Method} {c : Code} {H : Heap} {locs : List Loc} {Q : State → Prop} {cc : ByteArray} {nL : Nat} {rt : Option FieldType} {own : String} {A : Nat → Prop}
variable {D : va_G} {tys : List (ClassId × FieldType)} {w w' w1 : va_W} {pc : Nat} {ls : Array Slot} {rest st : List Value}
/-- the last world of a walk -/
theorem ret_i {r : Int32} (C0 : CX X p s m args meth c cc nL (some .int) own A) (G : GX X D tys A s w H locs) (hd : decode cc pc = .ok (.ireturn, 1)) : W p l e R s m args below meth c H locs 0 0 (MQ below (QcI D tys w A r) args s 0 0 A) (F0 m pc ls [.int r]) :=
  W.iret C0.1 C0.2.1 C0.2.2.1 (fun t ht hW => ⟨⟨r, (), rfl, rfl, by rw [ht]; exact G.2.1, va_K.moved hW.alike G.1, G.2.2.1⟩, G.2.2.2.1.F ht⟩) G.2.2.2.1.2.2 hd C0.2.2.2.2.2.2.1
theorem ret_z {r : Int32} (C0 : CX X p s m args meth c cc nL (some .boolean) own A) (G : GX X D tys A s w H locs) (hn : narrow .boolean (.int r) = .int r) (hd : decode cc pc = .ok (.ireturn, 1)) : W p l e R s m args below meth c H locs 0 0 (MQ below (QcI D tys w A r) args s 0 0 A) (F0 m pc ls [.int r]) :=
  W.zret C0.1 C0.2.1 C0.2.2.1 hn (fun t ht hW => ⟨⟨r, (), rfl, rfl, by rw [ht]; exact G.2.1, va_K.moved hW.alike G.1, G.2.2.1⟩, G.2.2.2.1.F ht⟩) G.2.2.2.1.2.2 hd C0.2.2.2.2.2.2.1
theorem ret_l {r : Int64} (C0 : CX X p s m args meth c cc nL (some .long) own A) (G : GX X D tys A s w H locs) (hd : decode cc pc = .ok (.lreturn, 1)) : W p l e R s m args below meth c H locs 0 0 (MQ below (QcL D tys w A r) args s 0 0 A) (F0 m pc ls [.long r]) :=
  W.lret C0.1 C0.2.1 C0.2.2.1 (fun t ht hW => ⟨⟨r, (), rfl, rfl, by rw [ht]; exact G.2.1, va_K.moved hW.alike G.1, G.2.2.1⟩, G.2.2.2.1.F ht⟩) G.2.2.2.1.2.2 hd C0.2.2.2.2.2.2.1
theorem ret_v (C0 : CX X p s m args meth c cc nL none own A) (G : GX X D tys A s w H locs) (hd : decode cc pc = .ok (.return_, 1)) : W p l e R s m args below meth c H locs 0 0 (MQ below (QcV D tys w A) args s 0 0 A) (F0 m pc ls []) :=
  W.vret C0.1 C0.2.1 C0.2.2.1 (fun t ht hW => ⟨⟨(), rfl, trivial, by rw [ht]; exact G.2.1, va_K.moved hW.alike G.1, G.2.2.1⟩, G.2.2.2.1.F ht⟩) G.2.2.2.1.2.2 hd C0.2.2.2.2.2.2.1
/-- a call of a method whose world is the caller's whole world -/
theorem pre_of (C0 : CX X p s m args meth c cc nL rt own A) (G : GX X D tys A s w H locs) {U : State} (hU : U.heap = H) (hW : s.WarmedH U.vm) {av : List Value} : va_Pc av (PreW X D tys w H.size) av.toArray U := by
  have hF : ∀ q, va_A w H.size q → A q := by
    rintro q (⟨k, e, h⟩ | h)
    · exact G.2.2.1.2 k _ h
    · exact C0.2.2.2.2.2.2.2.1 q (Nat.le_trans G.2.2.2.1.1 h)
  refine ⟨rfl, by rw [hU], by rw [hU]; exact G.2.1, va_K.moved hW.alike G.1, G.2.2.1.weaken (fun _ _ _ _ => trivial), ?_⟩
  rw [hU]
  exact C0.2.2.2.2.2.2.2.2 A _ s U H locs G.2.2.2.2 G.2.2.2.1 hF hW
theorem free_of (C0 : CX X p s m args meth c cc nL rt own A) (G : GX X D tys A s w H locs) : ∀ q, va_A w H.size q → A q := by
  rintro q (⟨k, e, h⟩ | h)
  · exact G.2.2.1.2 k _ h
  · exact C0.2.2.2.2.2.2.2.1 q (Nat.le_trans G.2.2.2.1.1 h)
theorem after_of (C0 : CX X p s m args meth c cc nL rt own A) (G : GX X D tys A s w H locs) {t : State} {H1 : Heap} {locs1 : List Loc} (ht : t.heap = H1) (hvm : s.vm.Alike t.vm) (hB : PostW D tys w1 (va_A w H.size) () t) (hS : va_S A s.heap H1 locs1) : GX X D tys A s w1 H1 locs1 := by
  obtain ⟨h1, h2, h3⟩ := hB
  rw [ht] at h1
  exact ⟨va_K.moved hvm.symm h2, h1, h3.weaken (fun _ _ _ h => free_of C0 G _ h), hS, G.2.2.2.2⟩
variable {y : MethodName} {bytes : ByteArray} {maxL n index q0 ci N : Nat} {ret : Option FieldType} {rm : Room} {As : List Value} {b : Nat} {fs : List Value} {C : String} {T : u_T}
abbrev okName (y : MethodName) (n : Nat) : Prop := y.cls ≠ "java/lang/invoke/MethodHandle" ∧ y.cls ≠ "java/lang/invoke/VarHandle" ∧ (parseMethodDescriptor y.desc).map (fun d => d.parameters.length) = some n
theorem runV_of {Qc : Array Value → State → Outcome → State → Prop} {free : Addr → Prop} (C0 : CX X p s m args meth c cc nL rt own A) (G : GX X D tys A s w H locs)
    (hM : Met l y (wU y bytes maxL ret) rm (va_Pc (.ref b :: As) (PreW X D tys w H.size)) Qc 0 0 free)
    (hcode : Cond.code y bytes maxL ret ∈ lw_g) (hini : Cond.initialized y.cls ∈ lw_g) (hlink : Cond.methodLink own index y ∈ lw_g) (hinst : Cond.instanceMethod y ∈ lw_g) (hsel : Cond.selects C y y ∈ lw_g) (hd : okName y n) (hrm : rm.cells = 0 ∧ rm.slots = 0) (hR : rm.frames + 1 ≤ R.frames ∧ 8 + (maxL + 11) + rm.locals ≤ R.locals)
    (hq : w[q0]? = some (b, .inr (ci, fs))) (hc : cls6[ci]? = some (C, T, N)) (hn : As.length = n) (hsz : ls.size = nL) (hst : st = As.reverse ++ .ref b :: rest) (hroom : (rest.map fun v => v.category).sum ≤ 8) (hdg : decode cc pc = .ok (.invokevirtual index, 3)) :
    va_Run p l e R s m args below meth c H locs 0 0 0 0 (F0 m pc ls st) rest (Qc (Value.ref b :: As).toArray) free := by
  obtain ⟨hx, hb, hr, hml, hown, hts, hlk, hA, hX⟩ := id C0
  refine va_runV (As := As) (rest := rest) (C := C) (n := n) (bytes := bytes) (maxL := maxL) (ret := ret) ⟨hx, hb, hml, hown, hts⟩ hM ⟨callB_of n hts (gU hcode) rfl hrm.1 hrm.2 (hts _ hini) (hts _ hlink) hd hR, hts _ hinst, hts _ hsel⟩ ⟨PreW.blind hX, va_recv G.1 G.2.1 (ci := ci) (q0 := q0) hc hq, fun U hU hW => pre_of C0 G hU hW⟩ rfl hn hsz hst (lv_room (rest := st) (pc := pc) (ls := ls) hroom) hdg ⟨Nat.zero_le _, Nat.zero_le _⟩
theorem runS_of {Qc : Array Value → State → Outcome → State → Prop} {free : Addr → Prop} (C0 : CX X p s m args meth c cc nL rt own A) (G : GX X D tys A s w H locs)
    (hM : Met l y (wU y bytes maxL ret) rm (va_Pc As (PreW X D tys w H.size)) Qc 0 0 free)
    (hcode : Cond.code y bytes maxL ret ∈ lw_g) (hini : Cond.initialized y.cls ∈ lw_g) (hlink : Cond.methodLink own index y ∈ lw_g) (hstat : Cond.static y ∈ lw_g) (hd : okName y n) (hrm : rm.cells = 0 ∧ rm.slots = 0) (hR : rm.frames + 1 ≤ R.frames ∧ 8 + (maxL + 11) + rm.locals ≤ R.locals)
    (hn : As.length = n) (hsz : ls.size = nL) (hst : st = As.reverse ++ rest) (hroom : (rest.map fun v => v.category).sum ≤ 8) (hdg : decode cc pc = .ok (.invokestatic index, 3)) :
    va_Run p l e R s m args below meth c H locs 0 0 0 0 (F0 m pc ls st) rest (Qc As.toArray) free := by
  obtain ⟨hx, hb, hr, hml, hown, hts, hlk, hA, hX⟩ := id C0
  refine va_runS (As := As) (rest := rest) (n := n) (bytes := bytes) (maxL := maxL) (ret := ret) ⟨hx, hb, hml, hown, hts⟩ hM ⟨callB_of n hts (gU hcode) rfl hrm.1 hrm.2 (hts _ hini) (hts _ hlink) hd hR, hts _ hstat⟩ ⟨PreW.blind hX, fun U hU hW => pre_of C0 G hU hW⟩ rfl hn hsz hst (lv_room (rest := st) (pc := pc) (ls := ls) hroom) hdg ⟨Nat.zero_le _, Nat.zero_le _⟩
theorem go_i {av : Array Value} {r : Int32} (C0 : CX X p s m args meth c cc nL rt own A) (G : GX X D tys A s w H locs) (hr : va_Run p l e R s m args below meth c H locs 0 0 0 0 (F0 m pc ls st) rest (QcI D tys w1 (va_A w H.size) r av) (va_A w H.size))
    (kk : ∀ (H : Heap) (locs : List Loc), GX X D tys A s w1 H locs → W p l e R s m args below meth c H locs 0 0 Q (F0 m (pc + 3) ls (.int r :: rest))) : W p l e R s m args below meth c H locs 0 0 Q (F0 m pc ls st) := by
  refine va_calli hr G.2.2.2.1 (fun q _ h => free_of C0 G q h) (free_of C0 G) (fun r' u t H1 locs1 ht hvm hw hB _ _ hS => ?_)
  rw [show r' = r from hw]
  exact kk H1 locs1 (after_of C0 G ht hvm hB hS)
theorem go_l {av : Array Value} {r : Int64} (C0 : CX X p s m args meth c cc nL rt own A) (G : GX X D tys A s w H locs) (hr : va_Run p l e R s m args below meth c H locs 0 0 0 0 (F0 m pc ls st) rest (QcL D tys w1 (va_A w H.size) r av) (va_A w H.size))
    (kk : ∀ (H : Heap) (locs : List Loc), GX X D tys A s w1 H locs → W p l e R s m args below meth c H locs 0 0 Q (F0 m (pc + 3) ls (.long r :: rest))) : W p l e R s m args below meth c H locs 0 0 Q (F0 m pc ls st) := by
  refine va_calll hr G.2.2.2.1 (fun q _ h => free_of C0 G q h) (free_of C0 G) (fun r' u t H1 locs1 ht hvm hw hB _ _ hS => ?_)
  rw [show r' = r from hw]
  exact kk H1 locs1 (after_of C0 G ht hvm hB hS)
theorem go_v {av : Array Value} (C0 : CX X p s m args meth c cc nL rt own A) (G : GX X D tys A s w H locs) (hr : va_Run p l e R s m args below meth c H locs 0 0 0 0 (F0 m pc ls st) rest (QcV D tys w1 (va_A w H.size) av) (va_A w H.size))
    (kk : ∀ (H : Heap) (locs : List Loc), GX X D tys A s w1 H locs → W p l e R s m args below meth c H locs 0 0 Q (F0 m (pc + 3) ls rest)) : W p l e R s m args below meth c H locs 0 0 Q (F0 m pc ls st) := by
  refine va_callv hr G.2.2.2.1 (fun q _ h => free_of C0 G q h) (free_of C0 G) (fun u t H1 locs1 ht hvm hw hB _ _ hS => ?_)
  exact kk H1 locs1 (after_of C0 G ht hvm hB hS)
end STEPS
