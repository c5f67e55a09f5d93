/-! rows for the constructors: over counters that grow -/
def XC (ta adK adV : Nat → Nat) : XP := fun A U H => XS ta adK adV A U H ∧ va_AO RX1 U ∧ va_AOA .int U
theorem XC_ok {ta adK adV : Nat → Nat} : XT (XC ta adK adV) := by
  intro A A' s U H locs h hS hA hW
  exact ⟨XS_ok A A' s U H locs h.1 hS hA hW, va_AO.moved hW.alike h.2.1, aoa_moved hW.alike h.2.2⟩
theorem ty_uni {D : va_G} {cl : List vw_C} {tys : List (ClassId × FieldType)} {U : State} {i j : Nat} {a b : ClassId} {t : FieldType} (hK : va_K D cl tys U) (hi : tys[i]? = some (a, t)) (hj : tys[j]? = some (b, t)) : a = b := by
  have h1 := (hK.2 i _ hi).2
  have h2 := (hK.2 j _ hj).2
  cases t with
  | object C =>
    obtain ⟨_, _, _, _, _, e1⟩ := h1
    obtain ⟨_, _, _, _, _, e2⟩ := h2
    exact Option.some.inj (e1.symm.trans e2)
  | _ => exact Option.some.inj (Eq.trans (Eq.symm h1) h2)
theorem set_last {α : Type} : ∀ (w : List α) (x y : α), (w ++ [x]).set w.length y = w ++ [y]
  | [], _, _ => rfl
  | a :: w, x, y => by
    show a :: ((w ++ [x]).set w.length y) = a :: (w ++ [y])
    rw [set_last w x y]
theorem get_last {α : Type} (w : List α) (x : α) : (w ++ [x])[w.length]? = some x := by simp
/-- the content of an array of references may be named by any row that agrees with it where it has places -/
theorem va_P.renq {D : va_G} {H : Heap} {w : va_W} {q0 a : Nat} {cA : ClassId} {n : Nat} {f g : Nat → Option Nat} (hP : va_P D cls6 (w.set q0 (a, .inl (cA, n, .inr (.inr (.inr (.inr f)))))) H) (h : ∀ j, j < n → f j = g j) : va_P D cls6 (w.set q0 (a, .inl (cA, n, .inr (.inr (.inr (.inr g)))))) H := by
  intro k q hq
  rw [List.getElem?_set] at hq
  by_cases e : q0 = k
  · rw [if_pos e] at hq
    by_cases hl : q0 < w.length
    · rw [if_pos hl] at hq
      have := hP k (a, .inl (cA, n, .inr (.inr (.inr (.inr f))))) (by rw [List.getElem?_set, if_pos e, if_pos hl])
      cases hq
      show H[a]? = some (arrV cA n (fun j => va_rf (g j)))
      rw [show H[a]? = some (arrV cA n (fun j => va_rf (f j))) from this, arrV_congr (fun j hj => by rw [h j hj])]
    · rw [if_neg hl] at hq; cases hq
  · rw [if_neg e] at hq
    exact hP k q (by rw [List.getElem?_set, if_neg e]; exact hq)
section CR
variable {X : XP} {p : Program} {l : Launch} {e : Env} {R : Room} {s : State} {m : MethodId} {args : Array Value} {below : List Frame} {meth : Method} {c : Code} {H : Heap} {locs : List Loc} {Q : State → Prop} {cc : ByteArray} {nL : Nat} {rt : Option FieldType} {own : String} {A : Nat → Prop}
variable {D : va_G} {tys : List (ClassId × FieldType)} {w w' w1 wc wr : va_W} {pc index ci N a kc ks : Nat} {ls : Array Slot} {rest st : List Value} {C : String} {T : u_T} {fs : List Value} {v : Value}
theorem GX.renm {q0 : Nat} {cA : ClassId} {n : Nat} {f g : Nat → Int32} (G : GX X D tys A s (w.set q0 (a, .inl (cA, n, .inl f))) H locs) (h : ∀ j, j < n → f j = g j) : GX X D tys A s (w.set q0 (a, .inl (cA, n, .inl g))) H locs :=
  ⟨G.1, G.2.1.renm h, G.2.2.1.renm, G.2.2.2⟩
theorem GX.renq {q0 : Nat} {cA : ClassId} {n : Nat} {f g : Nat → Option Nat} (G : GX X D tys A s (w.set q0 (a, .inl (cA, n, .inr (.inr (.inr (.inr f)))))) H locs) (h : ∀ j, j < n → f j = g j) : GX X D tys A s (w.set q0 (a, .inl (cA, n, .inr (.inr (.inr (.inr g)))))) H locs :=
  ⟨G.1, G.2.1.renq h, G.2.2.1.renm, G.2.2.2⟩
theorem GX.ord {perm : List Nat} (G : GX X D tys A s w H locs) (ho : Ord w' w perm) : GX X D tys A s w' H locs :=
  ⟨G.1, G.2.1.sub perm (fm_of ho.1), G.2.2.1.sub perm ho.2 ho.1, G.2.2.2⟩
theorem t_new (C0 : CX X p s m args meth c cc nL rt own A) (G : GX X D tys A s w H locs) (hin : ∀ x ∈ u_ws C T N, x ∈ lw_g) (ty : Nat → FieldType) (hty : ∀ k, k < N → parseFieldDescriptor (T k).2.2.1 = some (ty k)) (hcl : Cond.classLink own index C ∈ lw_g) (hinst : Cond.instantiable C N ∈ lw_g) (hini : Cond.initialized C ∈ lw_g) (hc : cls6[ci]? = some (C, T, N)) (hfs : ∀ j, j < N → defaultValue (ty j) = vp_V fs j) (hcells : kc + 1 ≤ R.cells) (hslots : ks + N ≤ R.slots) (hdg : decode cc pc = .ok (.new index, 3))
    (kk : ∀ (q : Nat) (H1 : Heap), GX X D tys A s (w ++ [(q, .inr (ci, fs))]) H1 locs → W p l e R s m args below meth c H1 locs (kc + 1) (ks + N) Q (F0 m (pc + 3) ls (.ref q :: rest))) : W p l e R s m args below meth c H locs kc ks Q (F0 m pc ls rest) :=
  va_new C0.1 C0.2.1 C0.2.2.2.2.2.1 hin ty hty C0.2.2.2.2.1 (C0.2.2.2.2.2.1 _ hcl) (C0.2.2.2.2.2.1 _ hinst) (C0.2.2.2.2.2.1 _ hini) G.1 G.2.1 G.2.2.1 G.2.2.2.1 C0.2.2.2.2.2.2.2.1 hc hfs hcells hslots hdg (fun q H1 h1 h2 h3 => kk q H1 ⟨G.1, h1, h2, h3, G.2.2.2.2⟩)
theorem t_newa {atype : ArrayType} {ty : FieldType} {cA0 : ClassId} {N' t0 : Nat} {n : Int32} (C0 : CX X p s m args meth c cc nL rt own A) (G : GX X D tys A s w H locs) (hw : Cond.arrayClass (newarray.typeOf atype) ∈ lw_g) (hty : newarray.typeOf atype = ty) (ht : tys[t0]? = some (cA0, ty)) (ha : ∀ cA : ClassId, vp_cell cA (N', .inl (fun _ => 0)) = arrV cA N' (fun _ => defaultValue ty)) (hn : ¬ n < 0) (hN : n.toNatClampNeg = N') (hbytes : N' * componentBytes ty ≤ 536870912) (hcells : kc + 1 ≤ R.cells) (hslots : ks + N' ≤ R.slots) (hdg : decode cc pc = .ok (.newarray atype, 2))
    (kk : ∀ (q : Nat) (H1 : Heap), GX X D tys A s (w ++ [(q, .inl (cA0, N', .inl (fun _ => 0)))]) H1 locs → W p l e R s m args below meth c H1 locs (kc + 1) (ks + N') Q (F0 m (pc + 2) ls (.ref q :: rest))) : W p l e R s m args below meth c H locs kc ks Q (F0 m pc ls (.int n :: rest)) := by
  refine va_newa C0.1 C0.2.1 (C0.2.2.2.2.2.1 _ hw) hty G.1 G.2.1 G.2.2.1 G.2.2.2.1 C0.2.2.2.2.2.2.2.1 ha hn hN hbytes hcells hslots hdg (fun q cA H1 hK h1 h2 h3 => ?_)
  have hl : t0 < tys.length := (List.getElem?_eq_some_iff.mp ht).1
  have e := ty_uni hK (i := tys.length) (j := t0) (get_last tys (cA, ty)) ((List.getElem?_append_left hl).trans ht)
  subst e
  exact kk q H1 ⟨G.1, h1, h2, h3, G.2.2.2.2⟩
theorem t_newq {cA0 : ClassId} {N' t0 : Nat} {n : Int32} (C0 : CX X p s m args meth c cc nL rt own A) (G : GX X D tys A s w H locs) (hcl : Cond.classLink own index C ∈ lw_g) (hov : va_AO C s) (ht : tys[t0]? = some (cA0, .object C)) (hn : ¬ n < 0) (hN : n.toNatClampNeg = N') (hbytes : N' * 4 ≤ 536870912) (hcells : kc + 1 ≤ R.cells) (hslots : ks + N' ≤ R.slots) (hdg : decode cc pc = .ok (.anewarray index, 3))
    (kk : ∀ (q : Nat) (H1 : Heap), GX X D tys A s (w ++ [(q, .inl (cA0, N', .inr (.inr (.inr (.inr (fun _ => none))))))]) H1 locs → W p l e R s m args below meth c H1 locs (kc + 1) (ks + N') Q (F0 m (pc + 3) ls (.ref q :: rest))) : W p l e R s m args below meth c H locs kc ks Q (F0 m pc ls (.int n :: rest)) := by
  refine va_newq C0.1 C0.2.1 C0.2.2.2.2.1 (C0.2.2.2.2.2.1 _ hcl) hov G.1 G.2.1 G.2.2.1 G.2.2.2.1 C0.2.2.2.2.2.2.2.1 hn hN hbytes hcells hslots hdg (fun q cA H1 hK h1 h2 h3 => ?_)
  have hl : t0 < tys.length := (List.getElem?_eq_some_iff.mp ht).1
  have e := ty_uni hK (i := tys.length) (j := t0) (get_last tys (cA, .object C)) ((List.getElem?_append_left hl).trans ht)
  subst e
  exact kk q H1 ⟨G.1, h1, h2, h3, G.2.2.2.2⟩
theorem t_mna {cI cG : ClassId} {N' K' t0 t1 : Nat} {n k : Int32} (C0 : CX X p s m args meth c cc nL rt own A) (G : GX X D tys A s w H locs) (hcl : Cond.classLink own index ("[" ++ (FieldType.array .int).toString) ∈ lw_g) (hov : va_AOA .int s) (hac : Cond.arrayClass .int ∈ lw_g) (ht : tys[t0]? = some (cI, .int)) (htg : tys[t1]? = some (cG, .array .int)) (hn : ¬ n < 0) (hk : ¬ k < 0) (hN : n.toNatClampNeg = N') (hM : k.toNatClampNeg = K') (hb1 : N' * 4 ≤ 536870912) (hb2 : K' * componentBytes .int ≤ 536870912) (hb3 : K' ≤ 536870912) (hcells : kc + (1 + N') ≤ R.cells) (hslots : ks + (N' + N' * K') ≤ R.slots) (hdg : decode cc pc = .ok (.multianewarray index 2, 4))
    (kk : ∀ (q : Nat) (r : Nat → Nat) (H1 : Heap), GX X D tys A s ((w ++ [(q, .inl (cG, N', .inr (.inr (.inr (.inr (fun i => if i < N' then some (r i) else none))))))]) ++ ((List.range N').map r).map (fun a => (a, .inl (cI, K', .inl (fun _ => 0))))) H1 locs → W p l e R s m args below meth c H1 locs (kc + 1 + N') (ks + N' + N' * K') Q (F0 m (pc + 4) ls (.ref q :: rest))) : W p l e R s m args below meth c H locs kc ks Q (F0 m pc ls (.int k :: .int n :: rest)) := by
  have e0 : w ++ va_pl [] (fun _ => (.inr (0, []) : va_E)) = w := List.append_nil w
  refine va_mna (X := w) (L := []) (f := fun _ => .inr (0, [])) (ty := .int) (cy := cI) (z := (K', .inl (fun _ => 0))) C0.1 C0.2.1 C0.2.2.2.2.1 (C0.2.2.2.2.2.1 _ hcl) hov (C0.2.2.2.2.2.1 _ hac) (G.1.2 t0 _ ht).2 G.1 (by rw [e0]; exact G.2.1) (by rw [e0]; exact G.2.2.1) G.2.2.2.1 C0.2.2.2.2.2.2.2.1 hn hk hN hM hb1 hb2 hb3 rfl rfl hcells hslots (fun c => ?_) hdg (fun q r cA H1 _ _ hK h1 h2 h3 => ?_)
  · show ({ cls := c, slots := Array.replicate K' (.int 0), vm := .none } : Cell) = arrV c K' (fun _ => .int 0)
    rw [arrV_new]
  · have hl : t1 < tys.length := (List.getElem?_eq_some_iff.mp htg).1
    have e := ty_uni hK (i := tys.length) (j := t1) (get_last tys (cA, .array .int)) ((List.getElem?_append_left hl).trans htg)
    subst e
    have ev : va_pl ([] ++ (List.range N').map r) (vr_up (fun _ => (.inr (0, []) : va_E)) ((List.range N').map r) (.inl (cI, K', .inl (fun _ => 0)))) = ((List.range N').map r).map (fun a => (a, .inl (cI, K', .inl (fun _ => 0)))) := (vr_rows (L := []) (f := fun _ => (.inr (0, []) : va_E)) (fun _ _ h => absurd h List.not_mem_nil)).symm
    rw [ev] at h1 h2
    exact kk q r H1 ⟨G.1, h1, h2, h3, G.2.2.2.2⟩
theorem t_putF {ty : FieldType} (C0 : CX X p s m args meth c cc nL rt own A) (G : GX X D tys A s w H locs) (hmn : meth.name = "<init>") (hin : ∀ x ∈ u_ws C T N, x ∈ lw_g) (ty0 : Nat → FieldType) (hty : ∀ k, k < N → parseFieldDescriptor (T k).2.2.1 = some (ty0 k)) (hnm : ∀ a, a < N → ∀ b, b < N → a ≠ b → (T a).2.1 ≠ (T b).2.1) (q0 k : Nat) (he : w[q0]? = some (a, .inr (ci, fs))) (hc : cls6[ci]? = some (C, T, N)) (hk : k < N) (hl : Cond.fieldLink own index (T k).1 (T k).2.1 (T k).2.2.1 ∈ lw_g) (hfin : (T k).2.2.2 = true) (hdecl : (T k).1 = own) (hd : parseFieldDescriptor (T k).2.2.1 = some ty) (hn : narrow ty v = v) (hfit : fits ty v = true) (hlen : k < fs.length) (hw : w.set q0 (a, .inr (ci, fs.set k v)) = w') (hdg : decode cc pc = .ok (.putfield index, 3))
    (kk : ∀ (H : Heap) (locs : List Loc), GX X D tys A s w' H locs → W p l e R s m args below meth c H locs kc ks Q (F0 m (pc + 3) ls rest)) : W p l e R s m args below meth c H locs kc ks Q (F0 m pc ls (v :: .ref a :: rest)) := by
  subst hw
  exact va_putF C0.1 C0.2.1 C0.2.2.2.2.2.1 hin ty0 hty hnm C0.2.2.2.2.1 G.1 G.2.1 G.2.2.1 G.2.2.2.1 q0 he hc k hk (C0.2.2.2.2.2.1 _ hl) (fun _ h => h) hfin hmn hdecl hd hn hfit hlen hdg (fun H1 locs1 h1 h2 h3 => kk H1 locs1 ⟨G.1, h1, h2, h3, G.2.2.2.2⟩)
theorem t_put {ty : FieldType} (C0 : CX X p s m args meth c cc nL rt own A) (G : GX X D tys A s w H locs) (hin : ∀ x ∈ u_ws C T N, x ∈ lw_g) (ty0 : Nat → FieldType) (hty : ∀ k, k < N → parseFieldDescriptor (T k).2.2.1 = some (ty0 k)) (hnm : ∀ a, a < N → ∀ b, b < N → a ≠ b → (T a).2.1 ≠ (T b).2.1) (q0 k : Nat) (he : w[q0]? = some (a, .inr (ci, fs))) (hc : cls6[ci]? = some (C, T, N)) (hk : k < N) (hl : Cond.fieldLink own index (T k).1 (T k).2.1 (T k).2.2.1 ∈ lw_g) (hfin : (T k).2.2.2 = false) (hd : parseFieldDescriptor (T k).2.2.1 = some ty) (hn : narrow ty v = v) (hfit : fits ty v = true) (hlen : k < fs.length) (hw : w.set q0 (a, .inr (ci, fs.set k v)) = w') (hdg : decode cc pc = .ok (.putfield index, 3))
    (kk : ∀ (H : Heap) (locs : List Loc), GX X D tys A s w' H locs → W p l e R s m args below meth c H locs kc ks Q (F0 m (pc + 3) ls rest)) : W p l e R s m args below meth c H locs kc ks Q (F0 m pc ls (v :: .ref a :: rest)) := by
  subst hw
  exact va_put C0.1 C0.2.1 C0.2.2.2.2.2.1 hin ty0 hty hnm C0.2.2.2.2.1 G.1 G.2.1 G.2.2.1 G.2.2.2.1 q0 he hc k hk (C0.2.2.2.2.2.1 _ hl) (fun _ h => h) hfin hd hn hfit hlen hdg (fun H1 locs1 h1 h2 h3 => kk H1 locs1 ⟨G.1, h1, h2, h3, G.2.2.2.2⟩)
theorem t_get (C0 : CX X p s m args meth c cc nL rt own A) (G : GX X D tys A s w H locs) (hin : ∀ x ∈ u_ws C T N, x ∈ lw_g) (q0 k : Nat) (he : w[q0]? = some (a, .inr (ci, fs))) (hc : cls6[ci]? = some (C, T, N)) (hk : k < N) (hl : Cond.fieldLink own index (T k).1 (T k).2.1 (T k).2.2.1 ∈ lw_g) (hv : fs[k]? = some v) (hdg : decode cc pc = .ok (.getfield index, 3))
    (kk : W p l e R s m args below meth c H locs kc ks Q (F0 m (pc + 3) ls (v :: rest))) : W p l e R s m args below meth c H locs kc ks Q (F0 m pc ls (.ref a :: rest)) :=
  va_get C0.1 C0.2.1 C0.2.2.2.2.2.1 hin C0.2.2.2.2.1 G.1 G.2.1 q0 he hc k hk (C0.2.2.2.2.2.1 _ hl) (fun _ h => h) hv hdg kk
theorem t_iast {cA : ClassId} {n k : Nat} {f : Nat → Int32} {i x : Int32} (C0 : CX X p s m args meth c cc nL rt own A) (G : GX X D tys A s w H locs) (q0 t0 : Nat) (ha : w[q0]? = some (a, .inl (cA, n, .inl f))) (ht : tys[t0]? = some (cA, .int)) (hin : vp_in i n) (hk : i.toNatClampNeg = k) (hw : w.set q0 (a, .inl (cA, n, .inl (upd f k x))) = w') (hdg : decode cc pc = .ok (.iastore, 1))
    (kk : ∀ (H : Heap) (locs : List Loc), GX X D tys A s w' H locs → W p l e R s m args below meth c H locs kc ks Q (F0 m (pc + 1) ls rest)) : W p l e R s m args below meth c H locs kc ks Q (F0 m pc ls (.int x :: .int i :: .ref a :: rest)) := by
  subst hk
  subst hw
  exact va_iast C0.1 C0.2.1 G.1 G.2.1 G.2.2.1 G.2.2.2.1 q0 t0 ha ht hin hdg (fun H1 locs1 h1 h2 h3 => kk H1 locs1 ⟨G.1, h1, h2, h3, G.2.2.2.2⟩)
theorem t_obj (C0 : CX X p s m args meth c cc nL rt own A) (hsz : ls.size = nL) (hl : Cond.methodLink own index objectInit ∈ lw_g) (hR : 1 ≤ R.frames ∧ (rest.map fun v => v.category).sum + 12 ≤ R.locals) (hdg : decode cc pc = .ok (.invokespecial index, 3))
    (kk : W p l e R s m args below meth c H locs kc ks Q (F0 m (pc + 3) ls rest)) : W p l e R s m args below meth c H locs kc ks Q (F0 m pc ls (.ref a :: rest)) := by
  refine W.objInit C0.1 C0.2.1 C0.2.2.2.2.1 (C0.2.2.2.2.2.1 _ hl) (C0.2.2.2.2.2.1 _ q68) (show (Cond.code objectInit ⟨#[0xb1]⟩ 1 none).before args s = true from C0.2.2.2.2.2.1 _ q69) rfl (by rw [C0.2.2.2.1]; exact hsz) rfl hdg hR.1 (by show 2 * 0 + _ + 12 ≤ _; omega) ?_
  exact W.eq rfl kk
/-- the last cell of the world is an array of chars: one place is written -/
theorem t_ch {cA : ClassId} {n k : Nat} {f : Nat → Int32} {i x : Int32} (C0 : CX X p s m args meth c cc nL rt own A) (G : GX X D tys A s (w ++ [(a, .inl (cA, n, .inl f))]) H locs) (t0 : Nat) (ht : tys[t0]? = some (cA, .char)) (hin : vp_in i n) (hk : i.toNatClampNeg = k) (hdg : decode cc pc = .ok (.castore, 1))
    (kk : ∀ (H : Heap) (locs : List Loc), GX X D tys A s (w ++ [(a, .inl (cA, n, .inl (upd f k (vp_nar .char x))))]) H locs → W p l e R s m args below meth c H locs kc ks Q (F0 m (pc + 1) ls rest)) : W p l e R s m args below meth c H locs kc ks Q (F0 m pc ls (.int x :: .int i :: .ref a :: rest)) := by
  subst hk
  refine va_cast C0.1 C0.2.1 G.1 G.2.1 G.2.2.1 G.2.2.2.1 w.length t0 (get_last w _) ht hin hdg (fun H1 locs1 h1 h2 h3 => ?_)
  rw [set_last] at h1 h2
  exact kk H1 locs1 ⟨G.1, h1, h2, h3, G.2.2.2.2⟩
theorem t_chc {cA : ClassId} {n k : Nat} {f : Nat → Int32} {i x : Int32} {ii xx : Int} (C0 : CX X p s m args meth c cc nL rt own A) (G : GX X D tys A s (w ++ [(a, .inl (cA, n, .inl f))]) H locs) (t0 : Nat) (ht : tys[t0]? = some (cA, .char)) (hin : vp_in i n) (hk : i.toNatClampNeg = k) (h1 : decode cc pc = .ok (.dup, 1)) (h2 : decode cc (pc + 1) = .ok (.iconst ii, 1)) (h3 : decode cc (pc + 2) = .ok (.bipush xx, 2)) (h4 : decode cc (pc + 4) = .ok (.castore, 1)) (hi : Int32.ofInt ii = i) (hx : (Int8.ofInt xx).toInt32 = x)
    (kk : ∀ (H : Heap) (locs : List Loc), GX X D tys A s (w ++ [(a, .inl (cA, n, .inl (upd f k (vp_nar .char x))))]) H locs → W p l e R s m args below meth c H locs kc ks Q (F0 m (pc + 5) ls (.ref a :: rest))) : W p l e R s m args below meth c H locs kc ks Q (F0 m pc ls (.ref a :: rest)) := by
  refine lv_dup C0.1 C0.2.1 h1 rfl ?_
  refine lv_iconst (v := i) C0.1 C0.2.1 h2 hi ?_
  refine lv_bipush (v := x) C0.1 C0.2.1 h3 hx ?_
  exact t_ch C0 G t0 ht hin hk h4 kk
theorem t_chb {cA : ClassId} {n k : Nat} {f : Nat → Int32} {i x : Int32} {ii xx : Int} (C0 : CX X p s m args meth c cc nL rt own A) (G : GX X D tys A s (w ++ [(a, .inl (cA, n, .inl f))]) H locs) (t0 : Nat) (ht : tys[t0]? = some (cA, .char)) (hin : vp_in i n) (hk : i.toNatClampNeg = k) (h1 : decode cc pc = .ok (.dup, 1)) (h2 : decode cc (pc + 1) = .ok (.bipush ii, 2)) (h3 : decode cc (pc + 3) = .ok (.bipush xx, 2)) (h4 : decode cc (pc + 5) = .ok (.castore, 1)) (hi : (Int8.ofInt ii).toInt32 = i) (hx : (Int8.ofInt xx).toInt32 = x)
    (kk : ∀ (H : Heap) (locs : List Loc), GX X D tys A s (w ++ [(a, .inl (cA, n, .inl (upd f k (vp_nar .char x))))]) H locs → W p l e R s m args below meth c H locs kc ks Q (F0 m (pc + 6) ls (.ref a :: rest))) : W p l e R s m args below meth c H locs kc ks Q (F0 m pc ls (.ref a :: rest)) := by
  refine lv_dup C0.1 C0.2.1 h1 rfl ?_
  refine lv_bipush (v := i) C0.1 C0.2.1 h2 hi ?_
  refine lv_bipush (v := x) C0.1 C0.2.1 h3 hx ?_
  exact t_ch C0 G t0 ht hin hk h4 kk
/-- what a constructor's contract says at its end: some addresses, a world over them -/
abbrev QcC (D : va_G) (tys : List (ClassId × FieldType)) (f : (Nat → Nat) → va_W) (A : Nat → Prop) : Array Value → State → Outcome → State → Prop := va_Qv (fun (_ : Nat → Nat) => True) (fun u t => PostW D tys (f u) A () t) A
theorem startI {mc ms sz : Nat} {y : MethodName} {rm : Room} {av : List Value} {Qc : Array Value → State → Outcome → State → Prop} {maxL : Nat} (hX : XT X)
    (hy : plainName y.cls = true) (hcls : y.cls = own) (hn : (lg_sl av).length ≤ maxL) (hnm : y.name = "<init>")
    (body : ∀ (p : Program) (e : Env) (s : State) (m : MethodId) (args : Array Value) (below : List Frame) (meth : Method) (c : Code) (ls : Array Slot), CX X p s m args meth c cc maxL none own (va_A w sz) → meth.name = "<init>" → GX X D tys (va_A w sz) s w s.heap [] → lv_has ls maxL (lv_args 0 av) →
      W p l e rm s m args below meth c s.heap [] 0 0 (MQ below Qc args s mc ms (va_A w sz)) (F0 m 0 ls [])) : Met l y (wU y cc maxL none) rm (va_Pc av (PreW X D tys w sz)) Qc mc ms (va_A w sz) := by
  refine Met.ofW (cc := cc) (maxL := maxL) (ret := none) hy rfl ?_
  intro p e s m args below meth c s₁ B hml hv
  obtain ⟨rfl, rfl, hP, hK, hD0, hXs⟩ := hv
  have hts := atoms_spec (ws := wU y cc maxL none) B.pre
  have hown : s.vm.findClass own = some m.cls := by rw [← hcls]; exact findClass_of_methodNamed B.named
  have hin : meth.name = "<init>" := ((name_of_methodNamed B.named B.method).1).trans hnm
  rw [lg_entry_eq]
  exact body p e s m _ below meth c _ ⟨B.exec, B.bytes, B.returns, hml, hown, fun w h => hts w (List.mem_cons_of_mem _ h), B.notSynchronized, fun q h => Or.inr h, hX⟩ hin ⟨hK, hP, hD0.self, va_S.rf, hXs⟩ (lv_entry av hn)
theorem ret_c {f : (Nat → Nat) → va_W} (u : Nat → Nat) (C0 : CX X p s m args meth c cc nL none own A) (G : GX X D tys A s (f u) H locs) (hd : decode cc pc = .ok (.return_, 1)) : W p l e R s m args below meth c H locs kc ks (MQ below (QcC D tys f A) args s kc ks A) (F0 m pc ls []) :=
  W.vret C0.1 C0.2.1 C0.2.2.1 (fun t ht hW => ⟨⟨u, rfl, trivial, by rw [ht]; exact G.2.1, va_K.moved hW.alike G.1, G.2.2.1⟩, G.2.2.2.1.F ht⟩) G.2.2.2.1.2.2 hd C0.2.2.2.2.2.2.1
variable {y : MethodName} {bytes : ByteArray} {maxL n q0 mc ms : Nat} {ret : Option FieldType} {rm : Room} {As : List Value} {b : Nat} {isC isR perm : List Nat}
theorem runI_sub {Qc : Array Value → State → Outcome → State → Prop} {free : Addr → Prop} (C0 : CX X p s m args meth c cc nL rt own A) (G : GX X D tys A s w H locs) (hs : Sub w wc wr isC isR)
    (hM : Met l y (wU y bytes maxL none) rm (va_Pc (.ref b :: As) (PreW X D tys wc H.size)) Qc mc ms free)
    (hcode : Cond.code y bytes maxL none ∈ lw_g) (hini : Cond.initialized y.cls ∈ lw_g) (hlink : Cond.methodLink own index y ∈ lw_g) (hinst : Cond.instanceMethod y ∈ lw_g) (hnm : y.name = "<init>") (hd : okName y n) (hrm : rm.cells = mc ∧ rm.slots = ms) (hR : rm.frames + 1 ≤ R.frames ∧ 8 + (maxL + 11) + rm.locals ≤ R.locals)
    (hn : As.length = n) (hsz : ls.size = nL) (hst : st = As.reverse ++ .ref b :: rest) (hroom : (rest.map fun v => v.category).sum ≤ 8) (hdg : decode cc pc = .ok (.invokespecial index, 3)) (hf : kc + mc ≤ R.cells ∧ ks + ms ≤ R.slots) :
    va_Run p l e R s m args below meth c H locs kc ks mc ms (F0 m pc ls st) rest (Qc (Value.ref b :: As).toArray) free := by
  obtain ⟨hx, hb, hr, hml, hown, hts, hlk, hA, hX⟩ := id C0
  exact va_runI (As := As) (rest := rest) (n := n) (bytes := bytes) (maxL := maxL) ⟨hx, hb, hml, hown, hts⟩ hM ⟨callB_of n hts (gU hcode) rfl hrm.1 hrm.2 (hts _ hini) (hts _ hlink) hd hR, hnm, hts _ hinst⟩ ⟨PreW.blind hX, fun U hU hW => sub_pre C0 G hs hU hW⟩ rfl hn hsz hst (lv_room (rest := st) (pc := pc) (ls := ls) hroom) hdg hf
theorem runIN_sub {Qc : Array Value → State → Outcome → State → Prop} {free : Addr → Prop} (C0 : CX X p s m args meth c cc nL rt own A) (G : GX X D tys A s w H locs) (hs : Sub w wc wr isC isR)
    (hM : Met l y (wU y bytes maxL none) rm (va_Pc (.ref b :: As) (PreW X D tys wc H.size)) Qc mc ms free)
    (hcode : Cond.code y bytes maxL none ∈ lw_g) (hini : Cond.initialized y.cls ∈ lw_g) (hlink : va_Nw (.methodLinkNest own index y "SandLedger") s) (hinst : Cond.instanceMethod y ∈ lw_g) (hnm : y.name = "<init>") (hd : okName y n) (hrm : rm.cells = mc ∧ rm.slots = ms) (hR : rm.frames + 1 ≤ R.frames ∧ 8 + (maxL + 11) + rm.locals ≤ R.locals)
    (hn : As.length = n) (hsz : ls.size = nL) (hst : st = As.reverse ++ .ref b :: rest) (hroom : (rest.map fun v => v.category).sum ≤ 8) (hdg : decode cc pc = .ok (.invokespecial index, 3)) (hf : kc + mc ≤ R.cells ∧ ks + ms ≤ R.slots) :
    va_Run p l e R s m args below meth c H locs kc ks mc ms (F0 m pc ls st) rest (Qc (Value.ref b :: As).toArray) free := by
  obtain ⟨hx, hb, hr, hml, hown, hts, hlk, hA, hX⟩ := id C0
  exact va_runIN (As := As) (rest := rest) (n := n) (bytes := bytes) (maxL := maxL) (host := "SandLedger") ⟨hx, hb, hml, hown, hts⟩ hM ⟨va_cnB n hts (gU hcode) rfl hrm.1 hrm.2 hlink (hts _ hini) hd hR, hnm, hts _ hinst⟩ ⟨PreW.blind hX, fun U hU hW => sub_pre C0 G hs hU hW⟩ rfl hn hsz hst (lv_room (rest := st) (pc := pc) (ls := ls) hroom) hdg hf
theorem go_c {f : (Nat → Nat) → va_W} {av : Array Value} (C0 : CX X p s m args meth c cc nL rt own A) (G : GX X D tys A s w H locs) (hs : Sub w wc wr isC isR) (hr : va_Run p l e R s m args below meth c H locs kc ks mc ms (F0 m pc ls st) rest (QcC D tys f (va_A wc H.size) av) (va_A wc H.size))
    (kk : ∀ (u : Nat → Nat) (H : Heap) (locs : List Loc), GX X D tys A s (wr ++ f u) H locs → W p l e R s m args below meth c H locs (kc + mc) (ks + ms) Q (F0 m (pc + 3) ls rest)) : W p l e R s m args below meth c H locs kc ks Q (F0 m pc ls st) := by
  refine va_callv hr G.2.2.2.1 (fun q _ h => sub_free C0 G hs q h) (sub_free C0 G hs) (fun u t H1 locs1 ht hvm hw hB _ hk hS => ?_)
  obtain ⟨h1, h2, h3⟩ := hB
  rw [ht] at h1
  obtain ⟨gP, gD⟩ := va_join (wr := wr) (w1 := f u) G.2.1 G.2.2.1 isC isR hs.1 hs.2.1 hs.2.2.1 hs.2.2.2.2 hk (sub_free C0 G hs) h1 h3
  exact kk u H1 locs1 ⟨G.1, gP, gD, hS, G.2.2.2.2⟩
end CR
section CR2
variable {X : XP} {p : Program} {l : Launch} {e : Env} {R : Room} {s : State} {m : MethodId} {args : Array Value} {below : List Frame} {meth : Method} {c : Code} {H : Heap} {locs : List Loc} {Q : State → Prop} {cc : ByteArray} {nL : Nat} {rt : Option FieldType} {own : String} {A : Nat → Prop}
variable {D : va_G} {tys : List (ClassId × FieldType)} {w : va_W} {pc index N kc ks : Nat} {ls : Array Slot} {rest : List Value}
theorem s_getsN2 {nm : String} {t : Nat} {f : Nat → Int32} (C0 : CX X p s m args meth c cc nL rt own A) (G : GX X D tys A s w H locs) (hZ : SZ nm t N f A s s.heap) (hl : va_Nw (.fieldLinkNest own index RX4 nm "[I" "SandLedger") s) (hdg : decode cc pc = .ok (.getstatic index, 3))
    (kk : W p l e R s m args below meth c H locs kc ks Q (F0 m (pc + 3) ls (.ref t :: rest))) : W p l e R s m args below meth c H locs kc ks Q (F0 m pc ls rest) :=
  va_getsN C0.1 C0.2.1 hZ.1 G.2.2.2.1 C0.2.2.2.2.1 (va_Nw.use rfl hl) (fun _ h => h) hdg kk
theorem s_ti2 {nm : String} {t k : Nat} {f : Nat → Int32} {i : Int32} (C0 : CX X p s m args meth c cc nL rt own A) (G : GX X D tys A s w H locs) (hZ : SZ nm t N f A s s.heap) (hin : vp_in i N) (hk : i.toNatClampNeg = k) (hdg : decode cc pc = .ok (.iaload, 1))
    (kk : W p l e R s m args below meth c H locs kc ks Q (F0 m (pc + 1) ls (.int (f k) :: rest))) : W p l e R s m args below meth c H locs kc ks Q (F0 m pc ls (.int i :: .ref t :: rest)) := by
  subst hk
  exact va_ti C0.1 C0.2.1 hZ.2 G.2.2.2.1 hin rfl hdg kk
end CR2
