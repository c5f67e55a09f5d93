/-! plain facts about the pure readings -/
theorem li (n : Nat) : (OfNat.ofNat n : Int32) = nI n := rfl
theorem ob1_so {α ρ : Type} {a : α} {k : α → Option ρ} : ob1 (some a) k = k a := rfl
theorem gd_t {α : Type} {x : Option α} : gd true x = x := rfl
theorem inb_n {n N : Nat} (h : n < 2 ^ 31) : inb (nI n) N = decide (n < N) := by
  unfold inb
  rw [nI_clamp h]
  have := nI_pos h
  simp [this]
theorem inb_y {n N : Nat} (hN : N < 2 ^ 31) (h : n < N) : inb (nI n) N = true := by
  rw [inb_n (by omega)]; simp [h]
theorem b01_0 : b01 0 = true := rfl
theorem b01_1 : b01 1 = true := rfl
theorem less_min (a b : Int32) : f5_less a b = jmin a b := by
  unfold f5_less jmin
  by_cases h : b < a
  · rw [if_pos h, if_pos (Int32.le_of_lt h)]
  · rw [if_neg h]
    by_cases h2 : b ≤ a
    · rw [if_pos h2]; exact Int32.le_antisymm h2 (Int32.not_lt.mp h)
    · rw [if_neg h2]
theorem in5 (v a b : Int32) : f5_in1 v a b = if a ≤ v ∧ v ≤ b then 1 else 0 := by
  unfold f5_in1
  by_cases h1 : v < a
  · rw [if_pos h1, if_neg (fun h => absurd h.1 (Int32.not_le.mpr h1))]
  · rw [if_neg h1]
    by_cases h2 : b < v
    · rw [if_pos h2, if_neg (fun h => absurd h.2 (Int32.not_le.mpr h2))]
    · rw [if_neg h2, if_pos ⟨Int32.not_lt.mp h1, Int32.not_lt.mp h2⟩]
theorem in4 (v a b : Int32) : f4_within v a b = if a ≤ v ∧ v ≤ b then 1 else 0 := by
  unfold f4_within
  by_cases h1 : v < a
  · rw [if_pos h1, if_neg (fun h => absurd h.1 (Int32.not_le.mpr h1))]
  · rw [if_neg h1]
    by_cases h2 : b < v
    · rw [if_pos h2, if_neg (fun h => absurd h.2 (Int32.not_le.mpr h2))]
    · rw [if_neg h2, if_pos ⟨Int32.not_lt.mp h1, Int32.not_lt.mp h2⟩]
theorem in54 (v a b : Int32) : f5_in1 v a b = f4_within v a b := by rw [in5, in4]
theorem g5 (xs : Nat → Int32) {v t : Nat} (hv : v < 8) (ht : t < 7) : f5_get xs (nI v) (nI t) = some (xs (22 + 7 * v + t)) := by
  unfold f5_get
  rw [li 22, li 7, pk_mul, nI_add, nI_add, inb_y (by decide) (by omega), nI_clamp (by omega)]
  rfl
theorem p5 (xs : Nat → Int32) {v t : Nat} (x : Int32) (hv : v < 8) (ht : t < 7) : f5_puts xs (nI v) (nI t) x = some (upd xs (22 + 7 * v + t) x) := by
  unfold f5_puts
  rw [li 22, li 7, pk_mul, nI_add, nI_add, inb_y (by decide) (by omega), nI_clamp (by omega)]
  rfl
/-- a number between two bounds -/
def Bt (x : Int32) (a b : Int) : Prop := a ≤ x.toInt ∧ x.toInt ≤ b
theorem Bt.nat {x : Int32} {b : Nat} (h : Bt x 0 b) : ∃ n : Nat, x = nI n ∧ n ≤ b := by
  refine ⟨x.toInt.toNat, ?_, by have := h.2; have := h.1; omega⟩
  have h1 := h.1
  have h2 : x.toInt < 2147483648 := Int32.toInt_lt x
  rw [← Int32.toInt_inj, nI_toInt (by omega)]
  omega
theorem Bt.of {n : Nat} {a b : Int} (h : n < 2 ^ 31) (h1 : a ≤ n) (h2 : (n : Int) ≤ b) : Bt (nI n) a b := by
  unfold Bt
  rw [nI_toInt h]
  exact ⟨h1, h2⟩
/-- the reference's row holds the pit -/
def Row (xs hp st : Nat → Int32) (tr : Nat → Nat → Int32) (sp : Nat → Int32) (vis day z : Int32) : Prop :=
  (∀ c, c < 16 → xs (6 + c) = hp c) ∧ (∀ i, i < 3 → xs (3 + i) = st i) ∧ (∀ t v, t < 7 → v < 8 → xs (22 + 7 * v + t) = tr t v) ∧ (∀ k, k < 10 → xs (78 + k) = sp k) ∧ xs 1 = vis ∧ xs 0 = day ∧ xs 2 = z
/-- a visitor's traits are as the document has them -/
def OkV (tr : Nat → Nat → Int32) (v : Nat) : Prop := Bt (tr 0 v) 0 6 ∧ Bt (tr 1 v) 0 15 ∧ Bt (tr 2 v) 1 8 ∧ Bt (tr 3 v) 0 20 ∧ Bt (tr 4 v) 1 9 ∧ Bt (tr 5 v) 0 9999 ∧ Bt (tr 6 v) 0 9999
def OkP (hp st : Nat → Int32) (tr : Nat → Nat → Int32) (n : Nat) (day : Int32) : Prop :=
  (∀ c, c < 16 → Bt (hp c) 0 30) ∧ Bt (st 0) 0 9999 ∧ Bt (st 1) 0 5 ∧ Bt (st 2) 0 9 ∧ n ≤ 8 ∧ Bt day 0 99999 ∧ ∀ v, v < n → OkV tr v
theorem upd_s {f : Nat → Int32} {k : Nat} {x : Int32} : upd f k x k = x := pk_us
theorem upd_n {f : Nat → Int32} {k j : Nat} {x : Int32} (h : j ≠ k) : upd f k x j = f j := pk_un h
theorem Row.hp {xs hp st : Nat → Int32} {tr : Nat → Nat → Int32} {sp : Nat → Int32} {vis day z : Int32} (h : Row xs hp st tr sp vis day z) {c : Nat} (hc : c < 16) (x : Int32) : Row (upd xs (6 + c) x) (upd hp c x) st tr sp vis day z := by
  obtain ⟨h1, h2, h3, h4, h5, h6, h7⟩ := h
  refine ⟨fun j hj => ?_, fun i hi => ?_, fun t v ht hv => ?_, fun k hk => ?_, ?_, ?_, ?_⟩
  · by_cases e : j = c
    · subst e; rw [upd_s, upd_s]
    · rw [upd_n (by omega), upd_n e, h1 j hj]
  · rw [upd_n (by omega), h2 i hi]
  · rw [upd_n (by omega), h3 t v ht hv]
  · rw [upd_n (by omega), h4 k hk]
  · rw [upd_n (by omega), h5]
  · rw [upd_n (by omega), h6]
  · rw [upd_n (by omega), h7]
theorem Row.st {xs hp st : Nat → Int32} {tr : Nat → Nat → Int32} {sp : Nat → Int32} {vis day z : Int32} (h : Row xs hp st tr sp vis day z) {c : Nat} (hc : c < 3) (x : Int32) : Row (upd xs (3 + c) x) hp (upd st c x) tr sp vis day z := by
  obtain ⟨h1, h2, h3, h4, h5, h6, h7⟩ := h
  refine ⟨fun j hj => ?_, fun i hi => ?_, fun t v ht hv => ?_, fun k hk => ?_, ?_, ?_, ?_⟩
  · rw [upd_n (by omega), h1 j hj]
  · by_cases e : i = c
    · subst e; rw [upd_s, upd_s]
    · rw [upd_n (by omega), upd_n e, h2 i hi]
  · rw [upd_n (by omega), h3 t v ht hv]
  · rw [upd_n (by omega), h4 k hk]
  · rw [upd_n (by omega), h5]
  · rw [upd_n (by omega), h6]
  · rw [upd_n (by omega), h7]
theorem upd2_s {f : Nat → Nat → Int32} {t i : Nat} {x : Int32} : upd2 f t i x t i = x := by unfold upd2; rw [if_pos rfl, upd_s]
theorem upd2_n {f : Nat → Nat → Int32} {t i t' i' : Nat} {x : Int32} (h : ¬ (t' = t ∧ i' = i)) : upd2 f t i x t' i' = f t' i' := by
  unfold upd2
  by_cases e : t' = t
  · rw [if_pos e, upd_n (fun q => h ⟨e, q⟩), e]
  · rw [if_neg e]
theorem Row.tr {xs hp st : Nat → Int32} {tr : Nat → Nat → Int32} {sp : Nat → Int32} {vis day z : Int32} (h : Row xs hp st tr sp vis day z) {t v : Nat} (ht : t < 7) (hv : v < 8) (x : Int32) : Row (upd xs (22 + 7 * v + t) x) hp st (upd2 tr t v x) sp vis day z := by
  obtain ⟨h1, h2, h3, h4, h5, h6, h7⟩ := h
  refine ⟨fun j hj => ?_, fun i hi => ?_, fun t' v' ht' hv' => ?_, fun k hk => ?_, ?_, ?_, ?_⟩
  · rw [upd_n (by omega), h1 j hj]
  · rw [upd_n (by omega), h2 i hi]
  · by_cases e : t' = t ∧ v' = v
    · obtain ⟨rfl, rfl⟩ := e; rw [upd_s, upd2_s]
    · rw [upd_n (by omega), upd2_n e, h3 t' v' ht' hv']
  · rw [upd_n (by omega), h4 k hk]
  · rw [upd_n (by omega), h5]
  · rw [upd_n (by omega), h6]
  · rw [upd_n (by omega), h7]
theorem Row.day {xs hp st : Nat → Int32} {tr : Nat → Nat → Int32} {sp : Nat → Int32} {vis day z : Int32} (h : Row xs hp st tr sp vis day z) (x : Int32) : Row (upd xs 0 x) hp st tr sp vis x z := by
  obtain ⟨h1, h2, h3, h4, h5, h6, h7⟩ := h
  refine ⟨fun j hj => ?_, fun i hi => ?_, fun t v ht hv => ?_, fun k hk => ?_, ?_, upd_s, ?_⟩
  · rw [upd_n (by omega), h1 j hj]
  · rw [upd_n (by omega), h2 i hi]
  · rw [upd_n (by omega), h3 t v ht hv]
  · rw [upd_n (by omega), h4 k hk]
  · rw [upd_n (by omega), h5]
  · rw [upd_n (by omega), h7]
theorem Row.z {xs hp st : Nat → Int32} {tr : Nat → Nat → Int32} {sp : Nat → Int32} {vis day z : Int32} (h : Row xs hp st tr sp vis day z) (x : Int32) : Row (upd xs 2 x) hp st tr sp vis day x := by
  obtain ⟨h1, h2, h3, h4, h5, h6, h7⟩ := h
  refine ⟨fun j hj => ?_, fun i hi => ?_, fun t v ht hv => ?_, fun k hk => ?_, ?_, ?_, upd_s⟩
  · rw [upd_n (by omega), h1 j hj]
  · rw [upd_n (by omega), h2 i hi]
  · rw [upd_n (by omega), h3 t v ht hv]
  · rw [upd_n (by omega), h4 k hk]
  · rw [upd_n (by omega), h5]
  · rw [upd_n (by omega), h6]
theorem Row.vis {xs hp st : Nat → Int32} {tr : Nat → Nat → Int32} {sp : Nat → Int32} {vis day z : Int32} (h : Row xs hp st tr sp vis day z) (x : Int32) : Row (upd xs 1 x) hp st tr sp x day z := by
  obtain ⟨h1, h2, h3, h4, h5, h6, h7⟩ := h
  refine ⟨fun j hj => ?_, fun i hi => ?_, fun t v ht hv => ?_, fun k hk => ?_, upd_s, ?_, ?_⟩
  · rw [upd_n (by omega), h1 j hj]
  · rw [upd_n (by omega), h2 i hi]
  · rw [upd_n (by omega), h3 t v ht hv]
  · rw [upd_n (by omega), h4 k hk]
  · rw [upd_n (by omega), h6]
  · rw [upd_n (by omega), h7]
theorem Row.sp {xs hp st : Nat → Int32} {tr : Nat → Nat → Int32} {sp : Nat → Int32} {vis day z : Int32} (h : Row xs hp st tr sp vis day z) {c : Nat} (hc : c < 10) (x : Int32) : Row (upd xs (78 + c) x) hp st tr (upd sp c x) vis day z := by
  obtain ⟨h1, h2, h3, h4, h5, h6, h7⟩ := h
  refine ⟨fun j hj => ?_, fun i hi => ?_, fun t v ht hv => ?_, fun k hk => ?_, ?_, ?_, ?_⟩
  · rw [upd_n (by omega), h1 j hj]
  · rw [upd_n (by omega), h2 i hi]
  · rw [upd_n (by omega), h3 t v ht hv]
  · by_cases e : k = c
    · subst e; rw [upd_s, upd_s]
    · rw [upd_n (by omega), upd_n e, h4 k hk]
  · rw [upd_n (by omega), h5]
  · rw [upd_n (by omega), h6]
  · rw [upd_n (by omega), h7]
