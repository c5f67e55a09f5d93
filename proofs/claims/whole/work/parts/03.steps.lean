def ob1 {α ρ : Type} (x : Option (α)) (k : α → Option ρ) : Option ρ := match x with
  | none => none
  | some a0 => k a0
theorem ob1_s {α ρ : Type} {x : Option (α)} {k : α → Option ρ} {y : ρ} (h : ob1 x k = some y) : ∃ a0, x = some a0 ∧ k a0 = some y := by
  cases x with
  | none => cases h
  | some a => exact ⟨a, rfl, h⟩
theorem ob1_m {α ρ : Type} {k : α → Option ρ} {a0 : α} : ob1 (some a0) k = k a0 := rfl
def ob2 {α β ρ : Type} (x : Option (α × β)) (k : α → β → Option ρ) : Option ρ := match x with
  | none => none
  | some (a0, a1) => k a0 a1
theorem ob2_s {α β ρ : Type} {x : Option (α × β)} {k : α → β → Option ρ} {y : ρ} (h : ob2 x k = some y) : ∃ a0 a1, x = some (a0, a1) ∧ k a0 a1 = some y := by
  cases x with
  | none => cases h
  | some a => exact ⟨a.1, a.2, rfl, h⟩
theorem ob2_m {α β ρ : Type} {k : α → β → Option ρ} {a0 : α} {a1 : β} : ob2 (some (a0, a1)) k = k a0 a1 := rfl
def ob3 {α β γ ρ : Type} (x : Option (α × β × γ)) (k : α → β → γ → Option ρ) : Option ρ := match x with
  | none => none
  | some (a0, a1, a2) => k a0 a1 a2
theorem ob3_s {α β γ ρ : Type} {x : Option (α × β × γ)} {k : α → β → γ → Option ρ} {y : ρ} (h : ob3 x k = some y) : ∃ a0 a1 a2, x = some (a0, a1, a2) ∧ k a0 a1 a2 = some y := by
  cases x with
  | none => cases h
  | some a => exact ⟨a.1, a.2.1, a.2.2, rfl, h⟩
theorem ob3_m {α β γ ρ : Type} {k : α → β → γ → Option ρ} {a0 : α} {a1 : β} {a2 : γ} : ob3 (some (a0, a1, a2)) k = k a0 a1 a2 := rfl
def ob4 {α β γ δ ρ : Type} (x : Option (α × β × γ × δ)) (k : α → β → γ → δ → Option ρ) : Option ρ := match x with
  | none => none
  | some (a0, a1, a2, a3) => k a0 a1 a2 a3
theorem ob4_s {α β γ δ ρ : Type} {x : Option (α × β × γ × δ)} {k : α → β → γ → δ → Option ρ} {y : ρ} (h : ob4 x k = some y) : ∃ a0 a1 a2 a3, x = some (a0, a1, a2, a3) ∧ k a0 a1 a2 a3 = some y := by
  cases x with
  | none => cases h
  | some a => exact ⟨a.1, a.2.1, a.2.2.1, a.2.2.2, rfl, h⟩
theorem ob4_m {α β γ δ ρ : Type} {k : α → β → γ → δ → Option ρ} {a0 : α} {a1 : β} {a2 : γ} {a3 : δ} : ob4 (some (a0, a1, a2, a3)) k = k a0 a1 a2 a3 := rfl
def ob5 {α β γ δ ε ρ : Type} (x : Option (α × β × γ × δ × ε)) (k : α → β → γ → δ → ε → Option ρ) : Option ρ := match x with
  | none => none
  | some (a0, a1, a2, a3, a4) => k a0 a1 a2 a3 a4
theorem ob5_s {α β γ δ ε ρ : Type} {x : Option (α × β × γ × δ × ε)} {k : α → β → γ → δ → ε → Option ρ} {y : ρ} (h : ob5 x k = some y) : ∃ a0 a1 a2 a3 a4, x = some (a0, a1, a2, a3, a4) ∧ k a0 a1 a2 a3 a4 = some y := by
  cases x with
  | none => cases h
  | some a => exact ⟨a.1, a.2.1, a.2.2.1, a.2.2.2.1, a.2.2.2.2, rfl, h⟩
theorem ob5_m {α β γ δ ε ρ : Type} {k : α → β → γ → δ → ε → Option ρ} {a0 : α} {a1 : β} {a2 : γ} {a3 : δ} {a4 : ε} : ob5 (some (a0, a1, a2, a3, a4)) k = k a0 a1 a2 a3 a4 := rfl
def ob6 {α β γ δ ε ζ ρ : Type} (x : Option (α × β × γ × δ × ε × ζ)) (k : α → β → γ → δ → ε → ζ → Option ρ) : Option ρ := match x with
  | none => none
  | some (a0, a1, a2, a3, a4, a5) => k a0 a1 a2 a3 a4 a5
theorem ob6_s {α β γ δ ε ζ ρ : Type} {x : Option (α × β × γ × δ × ε × ζ)} {k : α → β → γ → δ → ε → ζ → Option ρ} {y : ρ} (h : ob6 x k = some y) : ∃ a0 a1 a2 a3 a4 a5, x = some (a0, a1, a2, a3, a4, a5) ∧ k a0 a1 a2 a3 a4 a5 = some y := by
  cases x with
  | none => cases h
  | some a => exact ⟨a.1, a.2.1, a.2.2.1, a.2.2.2.1, a.2.2.2.2.1, a.2.2.2.2.2, rfl, h⟩
theorem ob6_m {α β γ δ ε ζ ρ : Type} {k : α → β → γ → δ → ε → ζ → Option ρ} {a0 : α} {a1 : β} {a2 : γ} {a3 : δ} {a4 : ε} {a5 : ζ} : ob6 (some (a0, a1, a2, a3, a4, a5)) k = k a0 a1 a2 a3 a4 a5 := rfl
def inb (i : Int32) (n : Nat) : Bool := decide (¬ (i < 0 ∨ n ≤ i.toNatClampNeg))
def nz (i : Int32) : Bool := decide (¬ i = 0)
def nzl (i : Int64) : Bool := decide (¬ i = 0)
def b01 (i : Int32) : Bool := decide (i = 0 ∨ i = 1)
def gd {α : Type} (b : Bool) (x : Option α) : Option α := if b = true then x else none
theorem gd_s {α : Type} {b : Bool} {x : Option α} {y : α} (h : gd b x = some y) : b = true ∧ x = some y := by
  cases b with
  | false => cases h
  | true => exact ⟨rfl, h⟩
theorem vin {i : Int32} {n : Nat} (h : inb i n = true) : vp_in i n := (of_decide_eq_true h : ¬ (i < 0 ∨ n ≤ i.toNatClampNeg))
theorem nz_ne {i : Int32} (h : nz i = true) : ¬ i = 0 := of_decide_eq_true h
theorem nzl_ne {i : Int64} (h : nzl i = true) : ¬ i = 0 := of_decide_eq_true h
theorem b01_n {i : Int32} (h : b01 i = true) : narrow .boolean (.int i) = .int i := by
  rcases (of_decide_eq_true h : i = 0 ∨ i = 1) with e | e <;> rw [e] <;> rfl
theorem itp {α : Type} {c : Prop} {d : Decidable c} {a b y : α} (h : c) (hf : (@ite α c d a b) = y) : a = y := (if_pos h).symm.trans hf
theorem itn {α : Type} {c : Prop} {d : Decidable c} {a b y : α} (h : ¬ c) (hf : (@ite α c d a b) = y) : b = y := (if_neg h).symm.trans hf
def upd2 (f : Nat → Nat → Int32) (t i : Nat) (x : Int32) : Nat → Nat → Int32 := fun j => if j = t then upd (f t) i x else f j
theorem i_X0 : ∀ w ∈ u_ws RX0 TX0 7, w ∈ lw_g := by decide +kernel
theorem i_X1 : ∀ w ∈ u_ws RX1 TX1 3, w ∈ lw_g := by decide +kernel
theorem i_X2 : ∀ w ∈ u_ws RX2 TX2 2, w ∈ lw_g := by decide +kernel
theorem i_X3 : ∀ w ∈ u_ws RX3 TX3 5, w ∈ lw_g := by decide +kernel
theorem i_X4 : ∀ w ∈ u_ws RX4 TX4 8, w ∈ lw_g := by decide +kernel
theorem i_X5 : ∀ w ∈ u_ws RX5 TX5 20, w ∈ lw_g := by decide +kernel
section ST2
variable {X : XP} {p : Program} {l : Launch} {e : Env} {R : Room} {s : State} {m : MethodId} {args : Array Value} {below : List Frame} {meth : Method} {c : Code} {H : Heap} {locs : List Loc} {Q : State → Prop} {cc : ByteArray} {nL : Nat} {rt : Option FieldType} {own : String} {A : Nat → Prop}
variable {D : va_G} {tys : List (ClassId × FieldType)} {w w' : va_W} {pc index ci N a : Nat} {ls : Array Slot} {rest : List Value} {C : String} {T : u_T} {fs : List Value} {v : Value}
theorem s_get (C0 : CX X p s m args meth c cc nL rt own A) (G : GX X D tys A s w H locs) (hin : ∀ x ∈ u_ws C T N, x ∈ lw_g) (q0 k : Nat) (he : w[q0]? = some (a, .inr (ci, fs))) (hc : cls6[ci]? = some (C, T, N)) (hk : k < N) (hl : Cond.fieldLink own index (T k).1 (T k).2.1 (T k).2.2.1 ∈ lw_g) (hv : fs[k]? = some v) (hdg : decode cc pc = .ok (.getfield index, 3))
    (kk : W p l e R s m args below meth c H locs 0 0 Q (F0 m (pc + 3) ls (v :: rest))) : W p l e R s m args below meth c H locs 0 0 Q (F0 m pc ls (.ref a :: rest)) :=
  va_get C0.1 C0.2.1 C0.2.2.2.2.2.1 hin C0.2.2.2.2.1 G.1 G.2.1 q0 he hc k hk (C0.2.2.2.2.2.1 _ hl) (fun _ h => h) hv hdg kk
theorem s_put (C0 : CX X p s m args meth c cc nL rt own A) (G : GX X D tys A s w H locs) (hin : ∀ x ∈ u_ws C T N, x ∈ lw_g) (ty0 : Nat → FieldType) (hty : ∀ k, k < N → parseFieldDescriptor (T k).2.2.1 = some (ty0 k)) (hnm : ∀ a, a < N → ∀ b, b < N → a ≠ b → (T a).2.1 ≠ (T b).2.1) (q0 k : Nat) (he : w[q0]? = some (a, .inr (ci, fs))) (hc : cls6[ci]? = some (C, T, N)) (hk : k < N) (hl : Cond.fieldLink own index (T k).1 (T k).2.1 (T k).2.2.1 ∈ lw_g) (hfin : (T k).2.2.2 = false) {ty : FieldType} (hd : parseFieldDescriptor (T k).2.2.1 = some ty) (hn : narrow ty v = v) (hfit : fits ty v = true) (hlen : k < fs.length) (hset : w.set q0 (a, .inr (ci, fs.set k v)) = w') (hdg : decode cc pc = .ok (.putfield index, 3))
    (kk : ∀ (H : Heap) (locs : List Loc), GX X D tys A s w' H locs → W p l e R s m args below meth c H locs 0 0 Q (F0 m (pc + 3) ls rest)) : W p l e R s m args below meth c H locs 0 0 Q (F0 m pc ls (v :: .ref a :: rest)) := by
  refine va_put C0.1 C0.2.1 C0.2.2.2.2.2.1 hin ty0 hty hnm C0.2.2.2.2.1 G.1 G.2.1 G.2.2.1 G.2.2.2.1 q0 he hc k hk (C0.2.2.2.2.2.1 _ hl) (fun _ h => h) hfin hd hn hfit hlen hdg (fun H1 locs1 h1 h2 h3 => ?_)
  rw [hset] at h1 h2
  exact kk H1 locs1 ⟨G.1, h1, h2, h3, G.2.2.2.2⟩
variable {cA : ClassId} {n k : Nat} {f : Nat → Int32} {i x : Int32}
theorem s_iald (C0 : CX X p s m args meth c cc nL rt own A) (G : GX X D tys A s w H locs) (q0 t0 : Nat) (ha : w[q0]? = some (a, .inl (cA, n, .inl f))) (ht : tys[t0]? = some (cA, .int)) (hin : vp_in i n) (hk : i.toNatClampNeg = k) (hdg : decode cc pc = .ok (.iaload, 1))
    (kk : W p l e R s m args below meth c H locs 0 0 Q (F0 m (pc + 1) ls (.int (f k) :: rest))) : W p l e R s m args below meth c H locs 0 0 Q (F0 m pc ls (.int i :: .ref a :: rest)) := by
  subst hk
  exact va_iald C0.1 C0.2.1 G.1 G.2.1 q0 t0 ha ht hin hdg kk
theorem s_bald (C0 : CX X p s m args meth c cc nL rt own A) (G : GX X D tys A s w H locs) (q0 t0 : Nat) (ha : w[q0]? = some (a, .inl (cA, n, .inl f))) (ht : tys[t0]? = some (cA, .byte)) (hin : vp_in i n) (hk : i.toNatClampNeg = k) (hdg : decode cc pc = .ok (.baload, 1))
    (kk : W p l e R s m args below meth c H locs 0 0 Q (F0 m (pc + 1) ls (.int (f k) :: rest))) : W p l e R s m args below meth c H locs 0 0 Q (F0 m pc ls (.int i :: .ref a :: rest)) := by
  subst hk
  exact va_bald C0.1 C0.2.1 G.1 G.2.1 q0 t0 ha ht hin hdg kk
theorem s_cald (C0 : CX X p s m args meth c cc nL rt own A) (G : GX X D tys A s w H locs) (q0 t0 : Nat) (ha : w[q0]? = some (a, .inl (cA, n, .inl f))) (ht : tys[t0]? = some (cA, .char)) (hin : vp_in i n) (hk : i.toNatClampNeg = k) (hdg : decode cc pc = .ok (.caload, 1))
    (kk : W p l e R s m args below meth c H locs 0 0 Q (F0 m (pc + 1) ls (.int (f k) :: rest))) : W p l e R s m args below meth c H locs 0 0 Q (F0 m pc ls (.int i :: .ref a :: rest)) := by
  subst hk
  exact va_cald C0.1 C0.2.1 G.1 G.2.1 q0 t0 ha ht hin hdg kk
theorem s_iast (C0 : CX X p s m args meth c cc nL rt own A) (G : GX X D tys A s w H locs) (q0 t0 : Nat) (ha : w[q0]? = some (a, .inl (cA, n, .inl f))) (ht : tys[t0]? = some (cA, .int)) (hin : vp_in i n) (hk : i.toNatClampNeg = k) (hset : w.set q0 (a, .inl (cA, n, .inl (upd f k x))) = w') (hdg : decode cc pc = .ok (.iastore, 1))
    (kk : ∀ (H : Heap) (locs : List Loc), GX X D tys A s w' H locs → W p l e R s m args below meth c H locs 0 0 Q (F0 m (pc + 1) ls rest)) : W p l e R s m args below meth c H locs 0 0 Q (F0 m pc ls (.int x :: .int i :: .ref a :: rest)) := by
  subst hk
  refine va_iast C0.1 C0.2.1 G.1 G.2.1 G.2.2.1 G.2.2.2.1 q0 t0 ha ht hin hdg (fun H1 locs1 h1 h2 h3 => ?_)
  rw [hset] at h1 h2
  exact kk H1 locs1 ⟨G.1, h1, h2, h3, G.2.2.2.2⟩
theorem s_bast (C0 : CX X p s m args meth c cc nL rt own A) (G : GX X D tys A s w H locs) (q0 t0 : Nat) (ha : w[q0]? = some (a, .inl (cA, n, .inl f))) (ht : tys[t0]? = some (cA, .byte)) (hin : vp_in i n) (hk : i.toNatClampNeg = k) (hset : w.set q0 (a, .inl (cA, n, .inl (upd f k (vp_nar .byte x)))) = w') (hdg : decode cc pc = .ok (.bastore, 1))
    (kk : ∀ (H : Heap) (locs : List Loc), GX X D tys A s w' H locs → W p l e R s m args below meth c H locs 0 0 Q (F0 m (pc + 1) ls rest)) : W p l e R s m args below meth c H locs 0 0 Q (F0 m pc ls (.int x :: .int i :: .ref a :: rest)) := by
  subst hk
  refine va_bast C0.1 C0.2.1 G.1 G.2.1 G.2.2.1 G.2.2.2.1 q0 t0 ha ht hin hdg (fun H1 locs1 h1 h2 h3 => ?_)
  rw [hset] at h1 h2
  exact kk H1 locs1 ⟨G.1, h1, h2, h3, G.2.2.2.2⟩
theorem s_alen {va : vp_A} {ty : FieldType} (C0 : CX X p s m args meth c cc nL rt own A) (G : GX X D tys A s w H locs) (q0 t0 : Nat) (ha : w[q0]? = some (a, .inl (cA, va))) (ht : tys[t0]? = some (cA, ty)) (hv : Int32.ofNat va.1 = x) (hdg : decode cc pc = .ok (.arraylength, 1))
    (kk : W p l e R s m args below meth c H locs 0 0 Q (F0 m (pc + 1) ls (.int x :: rest))) : W p l e R s m args below meth c H locs 0 0 Q (F0 m pc ls (.ref a :: rest)) :=
  va_alen C0.1 C0.2.1 G.1 G.2.1 q0 t0 ha ht hv hdg kk
end ST2
/-- the reference's world: its object and its arrays; constants are the words' letters -/
def kLet : Nat → Int32 := fun k => Int32.ofNat (([118, 105, 115, 105, 116, 111, 114, 32, 32, 99, 104, 105, 108, 100, 32, 32, 32, 32, 108, 111, 118, 101, 114, 32, 32, 32, 32, 98, 111, 121, 32, 32, 32, 32, 32, 32, 100, 105, 103, 103, 101, 114, 32, 32, 32, 116, 114, 97, 118, 101, 108, 108, 101, 114, 98, 114, 105, 100, 101, 32, 32, 32, 32] : List Nat).getD k 0)
def kMor : Nat → Int32 := fun k => Int32.ofNat (([102, 114, 111, 109, 32, 32, 32, 32, 32, 119, 105, 100, 101, 32, 32, 32, 32, 32, 104, 105, 103, 104, 32, 32, 32, 32, 32, 101, 97, 99, 104, 32, 32, 32, 32, 32] : List Nat).getD k 0)
def kOth : Nat → Int32 := fun k => Int32.ofNat (([115, 97, 110, 100, 32, 32, 32, 32, 32, 115, 116, 111, 114, 101, 32, 32, 32, 32, 119, 105, 110, 100, 32, 32, 32, 32, 32, 119, 101, 116, 32, 32, 32, 32, 32, 32] : List Nat).getD k 0)
def wM (cI cC : ClassId) (ad : Nat → Nat) (xs xkept xaside : Nat → Int32) (xisK : Int32) (xfound : Nat → Int32) (xgone : Int32) (xover xtape : Nat → Int32) (xtaped xtok xbeg xend : Int32) (xval : Int64) (xwid xsiz xcel xcar : Nat → Int32) : va_W :=
  [(ad 0, .inr (5, [.ref (ad 1), .ref (ad 2), .ref (ad 3), .int xisK, .ref (ad 4), .int xgone, .ref (ad 5), .ref (ad 6), .int xtaped, .int xtok, .int xbeg, .int xend, .long xval, .ref (ad 7), .ref (ad 8), .ref (ad 9), .ref (ad 10), .ref (ad 11), .ref (ad 12), .ref (ad 13)])),
   (ad 1, .inl (cI, 88, .inl xs)), (ad 2, .inl (cI, 88, .inl xkept)), (ad 3, .inl (cI, 88, .inl xaside)), (ad 4, .inl (cI, 7, .inl xfound)), (ad 5, .inl (cI, 16, .inl xover)), (ad 6, .inl (cI, 120, .inl xtape)), (ad 7, .inl (cC, 63, .inl kLet)), (ad 8, .inl (cC, 36, .inl kMor)), (ad 9, .inl (cC, 36, .inl kOth)), (ad 10, .inl (cI, 4, .inl xwid)), (ad 11, .inl (cI, 4, .inl xsiz)), (ad 12, .inl (cI, 160, .inl xcel)), (ad 13, .inl (cI, 40, .inl xcar))]
abbrev tyM (cI cC : ClassId) : List (ClassId × FieldType) := [(cI, .int), (cC, .char)]
