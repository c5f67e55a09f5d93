/-! rows for the class: its static arrays, words of its nest, Math, arraycopy, worlds within worlds -/
def kSF : Nat → Int32 := fun k => ([100, 1, 2] : List Int32).getD k 0
def kSM : Nat → Int32 := fun k => ([9999, 5, 9] : List Int32).getD k 0
def kKA : Nat → Int32 := fun k => ([-1, 0, 0, 1, 3, 0, 2] : List Int32).getD k 0
def kTF : Nat → Int32 := fun k => ([0, 0, 3, 8, 2, 0, 0] : List Int32).getD k 0
def kTL : Nat → Int32 := fun k => ([0, 0, 1, 0, 1, 0, 0] : List Int32).getD k 0
def kTM : Nat → Int32 := fun k => ([6, 15, 8, 20, 9, 9999, 9999] : List Int32).getD k 0
/-- a static array of the class: where it lies, what it holds -/
def SZ (nm : String) (t N : Nat) (f : Nat → Int32) (A : Nat → Prop) (U : State) (H : Heap) : Prop := va_Z RX4 nm "[I" (.ref t) A U H ∧ va_T .int t N (fun j => .int (f j)) A U H
theorem SZ.go {nm : String} {t N : Nat} {f : Nat → Int32} {A A' : Nat → Prop} {s U : State} {H : Heap} {locs : List Loc} (h : SZ nm t N f A s s.heap) (hS : va_S A s.heap H locs) (hA : ∀ q, A' q → A q) (hW : s.WarmedH U.vm) : SZ nm t N f A' U H :=
  ⟨((h.1.kept hS.2.1).narrow hA).moved hW.alike, ((h.2.kept hS.2.1).narrow hA).moved hW.alike⟩

def XN (U : State) : Prop := va_Nw (.fieldLinkNest RX0 30 "SandLedger" "SETTING_FIRST" "[I" "SandLedger") U ∧ va_Nw (.fieldLinkNest RX0 49 "SandLedger" "TRAIT_FIRST" "[I" "SandLedger") U ∧ va_Nw (.fieldLinkNest RX0 90 "SandLedger" "SETTING_MOST" "[I" "SandLedger") U ∧ va_Nw (.fieldLinkNest RX0 84 "SandLedger" "TRAIT_MOST" "[I" "SandLedger") U ∧ va_Nw (.fieldLinkNest RX3 81 "SandLedger" "TRAIT_FIRST" "[I" "SandLedger") U ∧ va_Nw (.fieldLinkNest RX3 101 "SandLedger" "TRAIT_LEAST" "[I" "SandLedger") U ∧ va_Nw (.fieldLinkNest RX3 104 "SandLedger" "TRAIT_MOST" "[I" "SandLedger") U ∧ va_Nw (.fieldLinkNest RX3 121 "SandLedger" "SETTING_MOST" "[I" "SandLedger") U ∧ va_Nw (.methodLinkNest RX4 24 yX3_init "SandLedger") U ∧ va_Nw (.methodLinkNest RX3 11 yX2_init "SandLedger") U ∧ va_Nw (.methodLinkNest RX4 44 yX1_init "SandLedger") U ∧ va_Nw (.methodLinkNest RX0 109 yX4_within "SandLedger") U ∧ va_Nw (.methodLinkNest RX3 127 yX4_within "SandLedger") U
theorem XN.go {s U : State} (h : XN s) (hW : s.WarmedH U.vm) : XN U := by
  obtain ⟨h0, h1, h2, h3, h4, h5, h6, h7, h8, h9, h10, h11, h12⟩ := h
  exact ⟨va_Nw.warmF hW h0, va_Nw.warmF hW h1, va_Nw.warmF hW h2, va_Nw.warmF hW h3, va_Nw.warmF hW h4, va_Nw.warmF hW h5, va_Nw.warmF hW h6, va_Nw.warmF hW h7, va_Nw.warmM hW h8, va_Nw.warmM hW h9, va_Nw.warmM hW h10, va_Nw.warmM hW h11, va_Nw.warmM hW h12⟩
theorem xn_78 {U : State} (h : XN U) : va_Nw (.fieldLinkNest RX0 30 "SandLedger" "SETTING_FIRST" "[I" "SandLedger") U := h.1
theorem xn_252 {U : State} (h : XN U) : va_Nw (.fieldLinkNest RX0 49 "SandLedger" "TRAIT_FIRST" "[I" "SandLedger") U := h.2.1
theorem xn_307 {U : State} (h : XN U) : va_Nw (.fieldLinkNest RX0 90 "SandLedger" "SETTING_MOST" "[I" "SandLedger") U := h.2.2.1
theorem xn_313 {U : State} (h : XN U) : va_Nw (.fieldLinkNest RX0 84 "SandLedger" "TRAIT_MOST" "[I" "SandLedger") U := h.2.2.2.1
theorem xn_602 {U : State} (h : XN U) : va_Nw (.fieldLinkNest RX3 81 "SandLedger" "TRAIT_FIRST" "[I" "SandLedger") U := h.2.2.2.2.1
theorem xn_609 {U : State} (h : XN U) : va_Nw (.fieldLinkNest RX3 101 "SandLedger" "TRAIT_LEAST" "[I" "SandLedger") U := h.2.2.2.2.2.1
theorem xn_610 {U : State} (h : XN U) : va_Nw (.fieldLinkNest RX3 104 "SandLedger" "TRAIT_MOST" "[I" "SandLedger") U := h.2.2.2.2.2.2.1
theorem xn_629 {U : State} (h : XN U) : va_Nw (.fieldLinkNest RX3 121 "SandLedger" "SETTING_MOST" "[I" "SandLedger") U := h.2.2.2.2.2.2.2.1
theorem xn_115 {U : State} (h : XN U) : va_Nw (.methodLinkNest RX4 24 yX3_init "SandLedger") U := h.2.2.2.2.2.2.2.2.1
theorem xn_121 {U : State} (h : XN U) : va_Nw (.methodLinkNest RX3 11 yX2_init "SandLedger") U := h.2.2.2.2.2.2.2.2.2.1
theorem xn_156 {U : State} (h : XN U) : va_Nw (.methodLinkNest RX4 44 yX1_init "SandLedger") U := h.2.2.2.2.2.2.2.2.2.2.1
theorem xn_232 {U : State} (h : XN U) : va_Nw (.methodLinkNest RX0 109 yX4_within "SandLedger") U := h.2.2.2.2.2.2.2.2.2.2.2.1
theorem xn_615 {U : State} (h : XN U) : va_Nw (.methodLinkNest RX3 127 yX4_within "SandLedger") U := h.2.2.2.2.2.2.2.2.2.2.2.2
def lenS : List Nat := [5, 5, 3, 6, 9, 5, 7, 4, 4, 4, 4, 4, 5, 4, 3]
def bytS : List (List Int32) := [[99, 104, 105, 108, 100], [108, 111, 118, 101, 114], [98, 111, 121], [100, 105, 103, 103, 101, 114], [116, 114, 97, 118, 101, 108, 108, 101, 114], [98, 114, 105, 100, 101], [118, 105, 115, 105, 116, 111, 114], [102, 114, 111, 109], [119, 105, 100, 101], [104, 105, 103, 104], [101, 97, 99, 104], [115, 97, 110, 100], [115, 116, 111, 114, 101], [119, 105, 110, 100], [119, 101, 116]]
def XR (adK : Nat → Nat) (U : State) : Prop := vk_R RX3 61 "child" (adK 0) U ∧ vk_R RX3 63 "lover" (adK 1) U ∧ vk_R RX3 65 "boy" (adK 2) U ∧ vk_R RX3 67 "digger" (adK 3) U ∧ vk_R RX3 69 "traveller" (adK 4) U ∧ vk_R RX3 71 "bride" (adK 5) U ∧ vk_R RX3 73 "visitor" (adK 6) U ∧ vk_R RX3 89 "from" (adK 7) U ∧ vk_R RX3 95 "wide" (adK 8) U ∧ vk_R RX3 97 "high" (adK 9) U ∧ vk_R RX3 99 "each" (adK 10) U ∧ vk_R RX3 47 "sand" (adK 11) U ∧ vk_R RX3 52 "store" (adK 12) U ∧ vk_R RX3 57 "wind" (adK 13) U ∧ vk_R RX3 59 "wet" (adK 14) U
theorem XR.go {adK : Nat → Nat} {s U : State} (h : XR adK s) (hW : s.WarmedH U.vm) : XR adK U := by
  obtain ⟨h0, h1, h2, h3, h4, h5, h6, h7, h8, h9, h10, h11, h12, h13, h14⟩ := h
  exact ⟨vk_R.warm hW h0, vk_R.warm hW h1, vk_R.warm hW h2, vk_R.warm hW h3, vk_R.warm hW h4, vk_R.warm hW h5, vk_R.warm hW h6, vk_R.warm hW h7, vk_R.warm hW h8, vk_R.warm hW h9, vk_R.warm hW h10, vk_R.warm hW h11, vk_R.warm hW h12, vk_R.warm hW h13, vk_R.warm hW h14⟩
theorem xr_0 {adK : Nat → Nat} {U : State} (h : XR adK U) : vk_R RX3 61 "child" (adK 0) U := h.1
theorem xr_1 {adK : Nat → Nat} {U : State} (h : XR adK U) : vk_R RX3 63 "lover" (adK 1) U := h.2.1
theorem xr_2 {adK : Nat → Nat} {U : State} (h : XR adK U) : vk_R RX3 65 "boy" (adK 2) U := h.2.2.1
theorem xr_3 {adK : Nat → Nat} {U : State} (h : XR adK U) : vk_R RX3 67 "digger" (adK 3) U := h.2.2.2.1
theorem xr_4 {adK : Nat → Nat} {U : State} (h : XR adK U) : vk_R RX3 69 "traveller" (adK 4) U := h.2.2.2.2.1
theorem xr_5 {adK : Nat → Nat} {U : State} (h : XR adK U) : vk_R RX3 71 "bride" (adK 5) U := h.2.2.2.2.2.1
theorem xr_6 {adK : Nat → Nat} {U : State} (h : XR adK U) : vk_R RX3 73 "visitor" (adK 6) U := h.2.2.2.2.2.2.1
theorem xr_7 {adK : Nat → Nat} {U : State} (h : XR adK U) : vk_R RX3 89 "from" (adK 7) U := h.2.2.2.2.2.2.2.1
theorem xr_8 {adK : Nat → Nat} {U : State} (h : XR adK U) : vk_R RX3 95 "wide" (adK 8) U := h.2.2.2.2.2.2.2.2.1
theorem xr_9 {adK : Nat → Nat} {U : State} (h : XR adK U) : vk_R RX3 97 "high" (adK 9) U := h.2.2.2.2.2.2.2.2.2.1
theorem xr_10 {adK : Nat → Nat} {U : State} (h : XR adK U) : vk_R RX3 99 "each" (adK 10) U := h.2.2.2.2.2.2.2.2.2.2.1
theorem xr_11 {adK : Nat → Nat} {U : State} (h : XR adK U) : vk_R RX3 47 "sand" (adK 11) U := h.2.2.2.2.2.2.2.2.2.2.2.1
theorem xr_12 {adK : Nat → Nat} {U : State} (h : XR adK U) : vk_R RX3 52 "store" (adK 12) U := h.2.2.2.2.2.2.2.2.2.2.2.2.1
theorem xr_13 {adK : Nat → Nat} {U : State} (h : XR adK U) : vk_R RX3 57 "wind" (adK 13) U := h.2.2.2.2.2.2.2.2.2.2.2.2.2.1
theorem xr_14 {adK : Nat → Nat} {U : State} (h : XR adK U) : vk_R RX3 59 "wet" (adK 14) U := h.2.2.2.2.2.2.2.2.2.2.2.2.2.2
def XA (ta : Nat → Nat) (A : Nat → Prop) (U : State) (H : Heap) : Prop := SZ "SETTING_FIRST" (ta 0) 3 kSF A U H ∧ SZ "SETTING_MOST" (ta 1) 3 kSM A U H ∧ SZ "KIND_ABOVE" (ta 2) 7 kKA A U H ∧ SZ "TRAIT_FIRST" (ta 3) 7 kTF A U H ∧ SZ "TRAIT_LEAST" (ta 4) 7 kTL A U H ∧ SZ "TRAIT_MOST" (ta 5) 7 kTM A U H
def XJ (adK adV : Nat → Nat) (A : Nat → Prop) (U : State) (H : Heap) : Prop := va_Z "java/lang/String" "COMPACT_STRINGS" "Z" (.int 1) A U H ∧ va_Zq "jdk/internal/util/Preconditions" "SIOOBE_FORMATTER" "Ljava/util/function/BiFunction;" A U H ∧ vk_S 15 lenS bytS adK adV A U H
def XS (ta adK adV : Nat → Nat) : XP := fun A U H => XA ta A U H ∧ XN U ∧ XR adK U ∧ XJ adK adV A U H
theorem XS_ok {ta adK adV : Nat → Nat} : XT (XS ta adK adV) := by
  intro A A' s U H locs h hS hA hW
  obtain ⟨⟨a0, a1, a2, a3, a4, a5⟩, hn, hr, j0, j1, j2⟩ := h
  exact ⟨⟨a0.go hS hA hW, a1.go hS hA hW, a2.go hS hA hW, a3.go hS hA hW, a4.go hS hA hW, a5.go hS hA hW⟩, hn.go hW, hr.go hW, ((j0.kept hS.2.1).narrow hA).moved hW.alike, ((j1.kept hS.2.1).narrow hA).moved hW.alike, ((j2.kept hS.2.1).narrow hA).moved hW.alike⟩
theorem xa_0 {ta adK adV : Nat → Nat} {A : Nat → Prop} {U : State} {H : Heap} (h : XS ta adK adV A U H) : SZ "SETTING_FIRST" (ta 0) 3 kSF A U H := h.1.1
theorem xa_1 {ta adK adV : Nat → Nat} {A : Nat → Prop} {U : State} {H : Heap} (h : XS ta adK adV A U H) : SZ "SETTING_MOST" (ta 1) 3 kSM A U H := h.1.2.1
theorem xa_2 {ta adK adV : Nat → Nat} {A : Nat → Prop} {U : State} {H : Heap} (h : XS ta adK adV A U H) : SZ "KIND_ABOVE" (ta 2) 7 kKA A U H := h.1.2.2.1
theorem xa_3 {ta adK adV : Nat → Nat} {A : Nat → Prop} {U : State} {H : Heap} (h : XS ta adK adV A U H) : SZ "TRAIT_FIRST" (ta 3) 7 kTF A U H := h.1.2.2.2.1
theorem xa_4 {ta adK adV : Nat → Nat} {A : Nat → Prop} {U : State} {H : Heap} (h : XS ta adK adV A U H) : SZ "TRAIT_LEAST" (ta 4) 7 kTL A U H := h.1.2.2.2.2.1
theorem xa_5 {ta adK adV : Nat → Nat} {A : Nat → Prop} {U : State} {H : Heap} (h : XS ta adK adV A U H) : SZ "TRAIT_MOST" (ta 5) 7 kTM A U H := h.1.2.2.2.2.2
def jmin (x y : Int32) : Int32 := if y < x then y else x
def jmax (x y : Int32) : Int32 := if x < y then y else x
theorem inb_lt {i : Int32} {n : Nat} (h : inb i n = true) : i.toNatClampNeg < n := Nat.not_le.mp fun q => vin h (Or.inr q)
section ST3
variable {X : XP} {p : Program} {l : Launch} {e : Env} {R : Room} {s : State} {m : MethodId} {args : Array Value} {below : List Frame} {meth : Method} {c : Code} {H : Heap} {locs : List Loc} {Q : State → Prop} {cc : ByteArray} {nL : Nat} {rt : Option FieldType} {own : String} {A : Nat → Prop}
variable {D : va_G} {tys : List (ClassId × FieldType)} {w w' w1 wc wr : va_W} {pc index ci N a : Nat} {ls : Array Slot} {rest st : List Value} {C : String} {T : u_T} {fs : List Value} {v : Value}
theorem s_gets {nm : String} {t : Nat} {f : Nat → Int32} (C0 : CX X p s m args meth c cc nL rt own A) (G : GX X D tys A s w H locs) (hZ : SZ nm t N f A s s.heap) (hl : Cond.fieldLink own index RX4 nm "[I" ∈ lw_g) (hdg : decode cc pc = .ok (.getstatic index, 3))
    (kk : W p l e R s m args below meth c H locs 0 0 Q (F0 m (pc + 3) ls (.ref t :: rest))) : W p l e R s m args below meth c H locs 0 0 Q (F0 m pc ls rest) :=
  va_gets C0.1 C0.2.1 hZ.1 G.2.2.2.1 C0.2.2.2.2.1 (C0.2.2.2.2.2.1 _ hl) (fun _ h => h) hdg kk
theorem s_getsN {nm : String} {t : Nat} {f : Nat → Int32} (C0 : CX X p s m args meth c cc nL rt own A) (G : GX X D tys A s w H locs) (hZ : SZ nm t N f A s s.heap) (hl : va_Nw (.fieldLinkNest own index RX4 nm "[I" "SandLedger") s) (hdg : decode cc pc = .ok (.getstatic index, 3))
    (kk : W p l e R s m args below meth c H locs 0 0 Q (F0 m (pc + 3) ls (.ref t :: rest))) : W p l e R s m args below meth c H locs 0 0 Q (F0 m pc ls rest) :=
  va_getsN C0.1 C0.2.1 hZ.1 G.2.2.2.1 C0.2.2.2.2.1 (va_Nw.use rfl hl) (fun _ h => h) hdg kk
theorem s_ti {nm : String} {t k : Nat} {f : Nat → Int32} {i : Int32} (C0 : CX X p s m args meth c cc nL rt own A) (G : GX X D tys A s w H locs) (hZ : SZ nm t N f A s s.heap) (hin : vp_in i N) (hk : i.toNatClampNeg = k) (hdg : decode cc pc = .ok (.iaload, 1))
    (kk : W p l e R s m args below meth c H locs 0 0 Q (F0 m (pc + 1) ls (.int (f k) :: rest))) : W p l e R s m args below meth c H locs 0 0 Q (F0 m pc ls (.int i :: .ref t :: rest)) := by
  subst hk
  exact va_ti C0.1 C0.2.1 hZ.2 G.2.2.2.1 hin rfl hdg kk
theorem s_min {x y : Int32} (C0 : CX X p s m args meth c cc nL rt own A) (hsz : ls.size = nL) (hl : Cond.methodLink own index yJ9_min_7cf53 ∈ lw_g) (hR : 1 ≤ R.frames ∧ (rest.map fun v => v.category).sum + 13 ≤ R.locals) (hdg : decode cc pc = .ok (.invokestatic index, 3))
    (kk : W p l e R s m args below meth c H locs 0 0 Q (F0 m (pc + 3) ls (.int (jmin x y) :: rest))) : W p l e R s m args below meth c H locs 0 0 Q (F0 m pc ls (.int y :: .int x :: rest)) :=
  va_mmin C0.1 C0.2.1 (C0.2.2.2.1.trans hsz.symm) C0.2.2.2.2.1 (C0.2.2.2.2.2.1 _ hl) (C0.2.2.2.2.2.1 _ q230) (C0.2.2.2.2.2.1 _ q55) (C0.2.2.2.2.2.1 _ q231) hR.1 hR.2 (Nat.zero_le _) (Nat.zero_le _) hdg kk
theorem s_max {x y : Int32} (C0 : CX X p s m args meth c cc nL rt own A) (hsz : ls.size = nL) (hl : Cond.methodLink own index yJ9_max_7cf53 ∈ lw_g) (hR : 1 ≤ R.frames ∧ (rest.map fun v => v.category).sum + 13 ≤ R.locals) (hdg : decode cc pc = .ok (.invokestatic index, 3))
    (kk : W p l e R s m args below meth c H locs 0 0 Q (F0 m (pc + 3) ls (.int (jmax x y) :: rest))) : W p l e R s m args below meth c H locs 0 0 Q (F0 m pc ls (.int y :: .int x :: rest)) :=
  va_mmax C0.1 C0.2.1 (C0.2.2.2.1.trans hsz.symm) C0.2.2.2.2.1 (C0.2.2.2.2.2.1 _ hl) (C0.2.2.2.2.2.1 _ q223) (C0.2.2.2.2.2.1 _ q55) (C0.2.2.2.2.2.1 _ q224) hR.1 hR.2 (Nat.zero_le _) (Nat.zero_le _) hdg kk
theorem s_aldg {cA : ClassId} {n k b : Nat} {fo : Nat → Option Nat} {i : Int32} (C0 : CX X p s m args meth c cc nL rt own A) (G : GX X D tys A s w H locs) (q0 t0 : Nat) (ha : w[q0]? = some (a, .inl (cA, n, .inr (.inr (.inr (.inr fo)))))) (ht : tys[t0]? = some (cA, .array .int)) (hin : vp_in i n) (hk : i.toNatClampNeg = k) (hv : fo k = some b) (hdg : decode cc pc = .ok (.aaload, 1))
    (kk : W p l e R s m args below meth c H locs 0 0 Q (F0 m (pc + 1) ls (.ref b :: rest))) : W p l e R s m args below meth c H locs 0 0 Q (F0 m pc ls (.int i :: .ref a :: rest)) := by
  subst hk
  have hlt : i.toNatClampNeg < n := Nat.not_le.mp fun q => hin (Or.inr q)
  refine W.aald (v := va_rf (fo i.toNatClampNeg)) (ty := .array .int) C0.1 C0.2.1 (G.2.1 q0 _ ha) ((G.1.2 t0 _ ht).1 n (fun j => va_rf (fo j))) rfl (fun q => by cases q) (by show ¬ (i < 0 ∨ (arrV _ _ _).slots.size ≤ _); rw [arrV_size]; exact hin) (by show (arrV _ _ _).slots[_]? = _; rw [arrV_read _ _ hlt]) rfl rfl hdg ?_
  rw [hv]
  exact kk
theorem s_aldo {cA : ClassId} {E : String} {n k b : Nat} {fo : Nat → Option Nat} {i : Int32} (C0 : CX X p s m args meth c cc nL rt own A) (G : GX X D tys A s w H locs) (q0 t0 : Nat) (ha : w[q0]? = some (a, .inl (cA, n, .inr (.inr (.inr (.inr fo)))))) (ht : tys[t0]? = some (cA, .object E)) (hin : vp_in i n) (hk : i.toNatClampNeg = k) (hv : fo k = some b) (hdg : decode cc pc = .ok (.aaload, 1))
    (kk : W p l e R s m args below meth c H locs 0 0 Q (F0 m (pc + 1) ls (.ref b :: rest))) : W p l e R s m args below meth c H locs 0 0 Q (F0 m pc ls (.int i :: .ref a :: rest)) := by
  subst hk
  refine va_aldq C0.1 C0.2.1 G.1 G.2.1 q0 t0 ha ht hin hdg ?_
  rw [hv]
  exact kk
/-- the content of an array may be named by any row that agrees with it where it has places -/
theorem arrV_congr {cA : ClassId} {n : Nat} {f g : Nat → Value} (h : ∀ j, j < n → f j = g j) : arrV cA n f = arrV cA n g := by
  unfold arrV
  congr 1
  apply Array.ext
  · simp
  · intro i h1 h2
    simp only [Array.getElem_ofFn]
    exact h i (by simpa using h1)
theorem va_P.renm {q0 : Nat} {a : Nat} {cA : ClassId} {n : Nat} {f g : Nat → Int32} (hP : va_P D cls6 (w.set q0 (a, .inl (cA, n, .inl f))) H) (h : ∀ j, j < n → f j = g j) : va_P D cls6 (w.set q0 (a, .inl (cA, n, .inl g))) H := by
  intro k q hq
  rw [List.getElem?_set] at hq
  by_cases e : q0 = k
  · rw [if_pos e] at hq
    by_cases hl : q0 < w.length
    · rw [if_pos hl] at hq
      have := hP k (a, .inl (cA, n, .inl f)) (by rw [List.getElem?_set, if_pos e, if_pos hl])
      cases hq
      show H[a]? = some (arrV cA n (fun j => .int (g j)))
      rw [show H[a]? = some (arrV cA n (fun j => .int (f j))) from this, arrV_congr (fun j hj => by rw [h j hj])]
    · rw [if_neg hl] at hq; cases hq
  · rw [if_neg e] at hq
    exact hP k q (by rw [List.getElem?_set, if_neg e]; exact hq)
theorem va_D.renm {q0 : Nat} {a : Nat} {x y : va_E} (hD : va_D A (w.set q0 (a, x))) : va_D A (w.set q0 (a, y)) := by
  have key : ∀ (k : Nat) (q : Nat × va_E), (w.set q0 (a, y))[k]? = some q → ∃ q' : Nat × va_E, (w.set q0 (a, x))[k]? = some q' ∧ q'.1 = q.1 := by
    intro k q hq
    rw [List.getElem?_set] at hq ⊢
    by_cases e : q0 = k
    · rw [if_pos e] at hq ⊢
      by_cases hl : q0 < w.length
      · rw [if_pos hl] at hq ⊢
        cases hq
        exact ⟨_, rfl, rfl⟩
      · rw [if_neg hl] at hq; cases hq
    · rw [if_neg e] at hq ⊢
      exact ⟨q, hq, rfl⟩
  refine ⟨fun i j u v hu hv huv => ?_, fun k q hq => ?_⟩
  · obtain ⟨u', h1, e1⟩ := key i u hu
    obtain ⟨v', h2, e2⟩ := key j v hv
    exact hD.1 i j u' v' h1 h2 (by rw [e1, e2]; exact huv)
  · obtain ⟨q', h1, e1⟩ := key k q hq
    rw [← e1]
    exact hD.2 k q' h1
/-- a whole or a part of an array is copied into another -/
theorem s_cpy {a0 : Nat} {c0 c1 : ClassId} {n0 n1 ks kd kn : Nat} {f g f' : Nat → Int32} {sp dp n : Int32} (C0 : CX X p s m args meth c cc nL rt own A) (G : GX X D tys A s w H locs) (hsz : ls.size = nL) (hl : Cond.methodLink own index arraycopyName ∈ lw_g) (q0 q1 t0 : Nat) (ha0 : w[q0]? = some (a0, .inl (c0, n0, .inl f))) (ha1 : w[q1]? = some (a, .inl (c1, n1, .inl g))) (ht0 : tys[t0]? = some (c0, .int)) (ht1 : tys[t0]? = some (c1, .int))
    (h1 : ¬ sp < 0) (h2 : ¬ dp < 0) (h3 : ¬ n < 0) (es : sp.toNatClampNeg = ks) (ed : dp.toNatClampNeg = kd) (en : n.toNatClampNeg = kn) (h4 : ks + kn ≤ n0) (h5 : kd + kn ≤ n1) (hf' : ∀ j, j < n1 → va_cpy f g ks kd kn j = f' j) (hset : w.set q1 (a, .inl (c1, n1, .inl f')) = w') (hR : 1 ≤ R.frames ∧ (rest.map fun v => v.category).sum + (nativeFrameWords "java/lang/System" "arraycopy" 5 + 11) ≤ R.locals) (hdg : decode cc pc = .ok (.invokestatic index, 3))
    (kk : ∀ (H : Heap) (locs : List Loc), GX X D tys A s w' H locs → W p l e R s m args below meth c H locs 0 0 Q (F0 m (pc + 3) ls rest)) : W p l e R s m args below meth c H locs 0 0 Q (F0 m pc ls (.int n :: .int dp :: .ref a :: .int sp :: .ref a0 :: rest)) := by
  subst es; subst ed; subst en
  refine va_copyi C0.1 C0.2.1 (C0.2.2.2.1.trans hsz.symm) C0.2.2.2.2.1 (C0.2.2.2.2.2.1 _ hl) (C0.2.2.2.2.2.1 _ q379) (C0.2.2.2.2.2.1 _ q378) (C0.2.2.2.2.2.1 _ q56) G.1 G.2.1 G.2.2.1 G.2.2.2.1 q0 q1 t0 t0 ha0 ha1 ht0 ht1 rfl h1 h2 h3 h4 h5 (fun _ _ => rfl) hR.1 hR.2 hdg (fun H1 locs1 g1 g2 g3 => ?_)
  have g1' := va_P.renm g1 hf'
  have g2' := va_D.renm (y := .inl (c1, n1, .inl f')) g2
  rw [hset] at g1' g2'
  exact kk H1 locs1 ⟨G.1, g1', g2', g3, G.2.2.2.2⟩
/-! a world within a world -/
def Sub (w wc wr : va_W) (isC isR : List Nat) : Prop := isC.map (fun i => w[i]?) = wc.map some ∧ isR.map (fun i => w[i]?) = wr.map some ∧ va_nd isR = true ∧ va_nd isC = true ∧ ∀ i ∈ isR, i ∉ isC
def Ord (w v : va_W) (perm : List Nat) : Prop := perm.map (fun i => v[i]?) = w.map some ∧ va_nd perm = true
theorem fm_of {w v : va_W} : ∀ {is : List Nat}, is.map (fun i => w[i]?) = v.map some → is.filterMap (fun i => w[i]?) = v := by
  intro is h
  have e : is.filterMap (fun i => w[i]?) = (is.map (fun i => w[i]?)).filterMap id := by simp [List.filterMap_map]
  rw [e, h]
  simp [List.filterMap_map]
variable {isC isR perm : List Nat}
theorem sub_free (C0 : CX X p s m args meth c cc nL rt own A) (G : GX X D tys A s w H locs) (hs : Sub w wc wr isC isR) : ∀ q, va_A wc H.size q → A q := va_free G.2.2.1 G.2.2.2.1 C0.2.2.2.2.2.2.2.1 isC hs.1
theorem sub_pre (C0 : CX X p s m args meth c cc nL rt own A) (G : GX X D tys A s w H locs) (hs : Sub w wc wr isC isR) {U : State} (hU : U.heap = H) (hW : s.WarmedH U.vm) {av : List Value} : va_Pc av (PreW X D tys wc H.size) av.toArray U := by
  refine ⟨rfl, by rw [hU], by rw [hU]; exact G.2.1.sub isC (fm_of hs.1), va_K.moved hW.alike G.1, (G.2.2.1.sub isC hs.2.2.2.1 hs.1).weaken (fun _ _ _ _ => trivial), ?_⟩
  rw [hU]
  exact C0.2.2.2.2.2.2.2.2 A _ s U H locs G.2.2.2.2 G.2.2.2.1 (sub_free C0 G hs) hW
theorem sub_after (C0 : CX X p s m args meth c cc nL rt own A) (G : GX X D tys A s w H locs) (hs : Sub w wc wr isC isR) (ho : Ord w' (wr ++ w1) perm) {t : State} {H1 : Heap} {locs1 : List Loc} (ht : t.heap = H1) (hvm : s.vm.Alike t.vm) (hB : PostW D tys w1 (va_A wc H.size) () t) (hk1 : ∀ q : Nat, q < H.size → ¬ va_A wc H.size q → H1[q]? = H[q]?) (hS : va_S A s.heap H1 locs1) : GX X D tys A s w' H1 locs1 := by
  obtain ⟨h1, h2, h3⟩ := hB
  rw [ht] at h1
  obtain ⟨gP, gD⟩ := va_join (wr := wr) (w1 := w1) G.2.1 G.2.2.1 isC isR hs.1 hs.2.1 hs.2.2.1 hs.2.2.2.2 hk1 (sub_free C0 G hs) h1 h3
  exact ⟨G.1, gP.sub perm (fm_of ho.1), gD.sub perm ho.2 ho.1, hS, G.2.2.2.2⟩
variable {y : MethodName} {bytes : ByteArray} {maxL n q0 : Nat} {ret : Option FieldType} {rm : Room} {As : List Value} {b : Nat}
theorem runV_sub {Qc : Array Value → State → Outcome → State → Prop} {free : Addr → Prop} (C0 : CX X p s m args meth c cc nL rt own A) (G : GX X D tys A s w H locs) (hs : Sub w wc wr isC isR)
    (hM : Met l y (wU y bytes maxL ret) rm (va_Pc (.ref b :: As) (PreW X D tys wc H.size)) Qc 0 0 free)
    (hcode : Cond.code y bytes maxL ret ∈ lw_g) (hini : Cond.initialized y.cls ∈ lw_g) (hlink : Cond.methodLink own index y ∈ lw_g) (hinst : Cond.instanceMethod y ∈ lw_g) (hsel : Cond.selects C y y ∈ lw_g) (hd : okName y n) (hrm : rm.cells = 0 ∧ rm.slots = 0) (hR : rm.frames + 1 ≤ R.frames ∧ 8 + (maxL + 11) + rm.locals ≤ R.locals)
    (hq : w[q0]? = some (b, .inr (ci, fs))) (hc : cls6[ci]? = some (C, T, N)) (hn : As.length = n) (hsz : ls.size = nL) (hst : st = As.reverse ++ .ref b :: rest) (hroom : (rest.map fun v => v.category).sum ≤ 8) (hdg : decode cc pc = .ok (.invokevirtual index, 3)) :
    va_Run p l e R s m args below meth c H locs 0 0 0 0 (F0 m pc ls st) rest (Qc (Value.ref b :: As).toArray) free := by
  obtain ⟨hx, hb, hr, hml, hown, hts, hlk, hA, hX⟩ := id C0
  refine va_runV (As := As) (rest := rest) (C := C) (n := n) (bytes := bytes) (maxL := maxL) (ret := ret) ⟨hx, hb, hml, hown, hts⟩ hM ⟨callB_of n hts (gU hcode) rfl hrm.1 hrm.2 (hts _ hini) (hts _ hlink) hd hR, hts _ hinst, hts _ hsel⟩ ⟨PreW.blind hX, va_recv G.1 G.2.1 (ci := ci) (q0 := q0) hc hq, fun U hU hW => sub_pre C0 G hs hU hW⟩ rfl hn hsz hst (lv_room (rest := st) (pc := pc) (ls := ls) hroom) hdg ⟨Nat.zero_le _, Nat.zero_le _⟩
theorem runSN_of {Qc : Array Value → State → Outcome → State → Prop} {free : Addr → Prop} (C0 : CX X p s m args meth c cc nL rt own A) (G : GX X D tys A s w H locs)
    (hM : Met l y (wU y bytes maxL ret) rm (va_Pc As (PreW X D tys w H.size)) Qc 0 0 free)
    (hcode : Cond.code y bytes maxL ret ∈ lw_g) (hini : Cond.initialized y.cls ∈ lw_g) (hlink : va_Nw (.methodLinkNest own index y "SandLedger") s) (hstat : Cond.static y ∈ lw_g) (hd : okName y n) (hrm : rm.cells = 0 ∧ rm.slots = 0) (hR : rm.frames + 1 ≤ R.frames ∧ 8 + (maxL + 11) + rm.locals ≤ R.locals)
    (hn : As.length = n) (hsz : ls.size = nL) (hst : st = As.reverse ++ rest) (hroom : (rest.map fun v => v.category).sum ≤ 8) (hdg : decode cc pc = .ok (.invokestatic index, 3)) :
    va_Run p l e R s m args below meth c H locs 0 0 0 0 (F0 m pc ls st) rest (Qc As.toArray) free := by
  obtain ⟨hx, hb, hr, hml, hown, hts, hlk, hA, hX⟩ := id C0
  refine va_runSN (As := As) (rest := rest) (n := n) (bytes := bytes) (maxL := maxL) (ret := ret) (host := "SandLedger") ⟨hx, hb, hml, hown, hts⟩ hM ⟨va_cnB n hts (gU hcode) rfl hrm.1 hrm.2 hlink (hts _ hini) hd hR, hts _ hstat, trivial⟩ ⟨PreW.blind hX, fun U hU hW => pre_of C0 G hU hW⟩ rfl hn hsz hst (lv_room (rest := st) (pc := pc) (ls := ls) hroom) hdg ⟨Nat.zero_le _, Nat.zero_le _⟩
theorem go_i_sub {av : Array Value} {r : Int32} (C0 : CX X p s m args meth c cc nL rt own A) (G : GX X D tys A s w H locs) (hs : Sub w wc wr isC isR) (ho : Ord w' (wr ++ w1) perm) (hr : va_Run p l e R s m args below meth c H locs 0 0 0 0 (F0 m pc ls st) rest (QcI D tys w1 (va_A wc H.size) r av) (va_A wc H.size))
    (kk : ∀ (H : Heap) (locs : List Loc), GX X D tys A s w' H locs → W p l e R s m args below meth c H locs 0 0 Q (F0 m (pc + 3) ls (.int r :: rest))) : W p l e R s m args below meth c H locs 0 0 Q (F0 m pc ls st) := by
  refine va_calli hr G.2.2.2.1 (fun q _ h => sub_free C0 G hs q h) (sub_free C0 G hs) (fun r' u t H1 locs1 ht hvm hw hB _ hk hS => ?_)
  rw [show r' = r from hw]
  exact kk H1 locs1 (sub_after C0 G hs ho ht hvm hB hk hS)
theorem go_v_sub {av : Array Value} (C0 : CX X p s m args meth c cc nL rt own A) (G : GX X D tys A s w H locs) (hs : Sub w wc wr isC isR) (ho : Ord w' (wr ++ w1) perm) (hr : va_Run p l e R s m args below meth c H locs 0 0 0 0 (F0 m pc ls st) rest (QcV D tys w1 (va_A wc H.size) av) (va_A wc H.size))
    (kk : ∀ (H : Heap) (locs : List Loc), GX X D tys A s w' H locs → W p l e R s m args below meth c H locs 0 0 Q (F0 m (pc + 3) ls rest)) : W p l e R s m args below meth c H locs 0 0 Q (F0 m pc ls st) := by
  refine va_callv hr G.2.2.2.1 (fun q _ h => sub_free C0 G hs q h) (sub_free C0 G hs) (fun u t H1 locs1 ht hvm hw hB _ hk hS => ?_)
  exact kk H1 locs1 (sub_after C0 G hs ho ht hvm hB hk hS)
end ST3
/-- a pit's world -/
def wP (cI cG : ClassId) (ad : Nat → Nat) (hp st : Nat → Int32) (tr : Nat → Nat → Int32) (sp : Nat → Int32) (vis day z : Int32) : va_W :=
  [(ad 0, .inr (0, [.ref (ad 1), .ref (ad 2), .ref (ad 3), .ref (ad 11), .int vis, .int day, .int z])), (ad 1, .inl (cI, 16, .inl hp)), (ad 2, .inl (cI, 3, .inl st)), (ad 3, .inl (cG, 7, .inr (.inr (.inr (.inr (fun i => some (ad (4 + i)))))))),
   (ad 4, .inl (cI, 8, .inl (tr 0))), (ad 5, .inl (cI, 8, .inl (tr 1))), (ad 6, .inl (cI, 8, .inl (tr 2))), (ad 7, .inl (cI, 8, .inl (tr 3))), (ad 8, .inl (cI, 8, .inl (tr 4))), (ad 9, .inl (cI, 8, .inl (tr 5))), (ad 10, .inl (cI, 8, .inl (tr 6))), (ad 11, .inl (cI, 10, .inl sp))]
abbrev tyC (cI cB cG cS : ClassId) : List (ClassId × FieldType) := [(cI, .int), (cB, .byte), (cG, .array .int), (cS, .object RX1)]
theorem wP_row {cI cG : ClassId} {ad : Nat → Nat} {hp st : Nat → Int32} {tr : Nat → Nat → Int32} {sp : Nat → Int32} {vis day z : Int32} {t : Nat} (h : t < 7) : (wP cI cG ad hp st tr sp vis day z)[4 + t]? = some (ad (4 + t), .inl (cI, 8, .inl (tr t))) := by
  match t, h with
  | 0, _ => rfl
  | 1, _ => rfl
  | 2, _ => rfl
  | 3, _ => rfl
  | 4, _ => rfl
  | 5, _ => rfl
  | 6, _ => rfl
theorem wP_set {cI cG : ClassId} {ad : Nat → Nat} {hp st : Nat → Int32} {tr : Nat → Nat → Int32} {sp : Nat → Int32} {vis day z : Int32} {t k : Nat} {x : Int32} (h : t < 7) : (wP cI cG ad hp st tr sp vis day z).set (4 + t) (ad (4 + t), .inl (cI, 8, .inl (upd (tr t) k x))) = wP cI cG ad hp st (upd2 tr t k x) sp vis day z := by
  match t, h with
  | 0, _ => rfl
  | 1, _ => rfl
  | 2, _ => rfl
  | 3, _ => rfl
  | 4, _ => rfl
  | 5, _ => rfl
  | 6, _ => rfl

