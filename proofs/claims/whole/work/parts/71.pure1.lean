/-! the span, the raise, the moves -/
def loN (k f w : Nat) : Nat := if k = 2 ∨ k = 6 then f + 1 - w else f
def hiN (k f w : Nat) : Nat := if k = 2 ∨ k = 5 then f else if k = 6 then min 15 (f + 1) else min 15 (f + w - 1)
def zer : Nat → Int32 := fun _ => 0
def zer2 : Nat → Nat → Int32 := fun _ _ => 0
def spN (lo hi : Nat) : Nat := 2 ^ (hi + 1) - 2 ^ lo
theorem l5_span_irr (xs : Nat → Int32) : ∀ (n : Nat) (a b c d e : Int32), l5_spanOf_37 n xs a b c d e = l5_spanOf_37 n zer a b c d e := by
  intro n
  induction n with
  | zero => intro a b c d e; rfl
  | succ n ih =>
    intro a b c d e
    simp only [l5_spanOf_37, j5_spanOf_55, j5_spanOf_66, j5_spanOf_86, ih]
theorem l0_span_irr (tr : Nat → Nat → Int32) : ∀ (n : Nat) (a b c : Int32), l0_spanOf_15 n tr a b c = l0_spanOf_15 n zer2 a b c := by
  intro n
  induction n with
  | zero => intro a b c; rfl
  | succ n ih =>
    intro a b c
    simp only [l0_spanOf_15, ih]
set_option maxRecDepth 100000 in
theorem span_fin : ∀ k, k < 7 → ∀ f, f < 16 → ∀ w, w < 9 → 1 ≤ w → (if nI k = 5 then l5_spanOf_37 1000 zer (nI k) (nI f) 1 0 0 else l5_spanOf_37 1000 zer (nI k) (nI f) (nI w) 0 0) = some (nI (spN (loN k f w) (hiN k f w))) := by decide +kernel
set_option maxRecDepth 100000 in
theorem span_fin0 : ∀ lo, lo < 16 → ∀ hi, hi < 16 → lo ≤ hi → l0_spanOf_15 1000 zer2 0 (nI hi) (nI lo) = some (nI (spN lo hi)) := by decide +kernel
set_option maxRecDepth 100000 in
theorem bit_fin : ∀ lo, lo < 16 → ∀ hi, hi < 16 → lo ≤ hi → ∀ c, c < 16 → (((nI (spN lo hi) >>> (nI c &&& 31)) &&& 1 = 1) ↔ (lo ≤ c ∧ c ≤ hi)) := by decide +kernel
theorem bounds_fin : ∀ k, k < 7 → ∀ f, f < 16 → ∀ w, w < 9 → 1 ≤ w → loN k f w ≤ hiN k f w ∧ hiN k f w < 16 := by decide +kernel
def lcI (k f w : Int32) : Int32 := if k = 2 then jmax 0 ((f - w) + 1) else if k = 6 then jmax 0 ((f - w) + 1) else f
def gcI (k f w : Int32) : Int32 := if k = 2 then f else if k = 5 then f else if k = 6 then jmin 15 (f + 1) else jmin 15 ((f + w) - 1)
theorem lc_fin : ∀ k, k < 7 → ∀ f, f < 16 → ∀ w, w < 9 → 1 ≤ w → lcI (nI k) (nI f) (nI w) = nI (loN k f w) := by decide +kernel
theorem gc_fin : ∀ k, k < 7 → ∀ f, f < 16 → ∀ w, w < 9 → 1 ≤ w → gcI (nI k) (nI f) (nI w) = nI (hiN k f w) := by decide +kernel
/-- a visitor's traits as plain numbers -/
theorem OkV.nums {tr : Nat → Nat → Int32} {v : Nat} (h : OkV tr v) : ∃ k f w : Nat, tr 0 v = nI k ∧ tr 1 v = nI f ∧ tr 2 v = nI w ∧ k < 7 ∧ f < 16 ∧ w < 9 ∧ 1 ≤ w := by
  obtain ⟨h0, h1, h2, -⟩ := h
  obtain ⟨k, ek, hk⟩ := Bt.nat (b := 6) h0
  obtain ⟨f, ef, hf⟩ := Bt.nat (b := 15) h1
  obtain ⟨w, ew, hw⟩ := Bt.nat (b := 8) (x := tr 2 v) ⟨by have := h2.1; omega, h2.2⟩
  refine ⟨k, f, w, ek, ef, ew, by omega, by omega, by omega, ?_⟩
  have := h2.1
  rw [ew, nI_toInt (by omega)] at this
  omega
theorem lc0 {tr : Nat → Nat → Int32} {v : Nat} (hv : v < 8) : f0_leastCell tr (nI v) = some (lcI (tr 0 v) (tr 1 v) (tr 2 v)) := by
  simp only [f0_leastCell, j0_leastCell_44, inb_y (show 8 < 2 ^ 31 by decide) hv, gd_t, nI_clamp (show v < 2 ^ 31 by omega), lcI]
  split
  · rfl
  · split <;> rfl
theorem gc0 {tr : Nat → Nat → Int32} {v : Nat} (hv : v < 8) : f0_greatestCell tr (nI v) = some (gcI (tr 0 v) (tr 1 v) (tr 2 v)) := by
  simp only [f0_greatestCell, j0_greatestCell_63, inb_y (show 8 < 2 ^ 31 by decide) hv, gd_t, nI_clamp (show v < 2 ^ 31 by omega), gcI]
  split
  · rfl
  · split
    · rfl
    · split <;> rfl
/-- where a visitor's span lies -/
def Span (tr : Nat → Nat → Int32) (v lo hi : Nat) : Prop := lo ≤ hi ∧ hi < 16 ∧ f0_leastCell tr (nI v) = some (nI lo) ∧ f0_greatestCell tr (nI v) = some (nI hi)
theorem Span.ex {tr : Nat → Nat → Int32} {v : Nat} (hv : v < 8) (h : OkV tr v) : ∃ lo hi, Span tr v lo hi := by
  obtain ⟨k, f, w, ek, ef, ew, hk, hf, hw, hw1⟩ := h.nums
  obtain ⟨b1, b2⟩ := bounds_fin k hk f hf w hw hw1
  exact ⟨loN k f w, hiN k f w, b1, b2, by rw [lc0 hv, ek, ef, ew, lc_fin k hk f hf w hw hw1], by rw [gc0 hv, ek, ef, ew, gc_fin k hk f hf w hw hw1]⟩
theorem span0 {tr : Nat → Nat → Int32} {v lo hi : Nat} (h : Span tr v lo hi) : f0_spanOf tr (nI v) = some (nI (spN lo hi)) := by
  obtain ⟨h1, h2, h3, h4⟩ := h
  unfold f0_spanOf
  rw [h3, h4]
  show l0_spanOf_15 1000 tr 0 (nI hi) (nI lo) = _
  rw [l0_span_irr, span_fin0 lo (by omega) hi h2 h1]
theorem span5 {xs hp st : Nat → Int32} {tr : Nat → Nat → Int32} {sp : Nat → Int32} {vis day z : Int32} {v lo hi : Nat} (hr : Row xs hp st tr sp vis day z) (hv : v < 8) (ho : OkV tr v) (h : Span tr v lo hi) : f5_spanOf xs (nI v) = some (nI (spN lo hi)) := by
  obtain ⟨k, f, w, ek, ef, ew, hk, hf, hw, hw1⟩ := ho.nums
  obtain ⟨h1, h2, h3, h4⟩ := h
  rw [lc0 hv, ek, ef, ew, lc_fin k hk f hf w hw hw1] at h3
  rw [gc0 hv, ek, ef, ew, gc_fin k hk f hf w hw hw1] at h4
  have e1 : loN k f w = lo := (nI_eq (by have := bounds_fin k hk f hf w hw hw1; omega) (by omega)).mp (Option.some.inj h3)
  have e2 : hiN k f w = hi := (nI_eq (by have := bounds_fin k hk f hf w hw hw1; omega) (by omega)).mp (Option.some.inj h4)
  have e0 := span_fin k hk f hf w hw hw1
  rw [e1, e2] at e0
  rw [← e0]
  unfold f5_spanOf
  rw [li 0, li 1, li 2, g5 xs hv (by decide), g5 xs hv (by decide), g5 xs hv (by decide), hr.2.2.1 0 v (by decide) hv, hr.2.2.1 1 v (by decide) hv, hr.2.2.1 2 v (by decide) hv, ek, ef, ew]
  simp only [ob1_so, j5_spanOf_29, l5_span_irr xs]
  rfl
theorem rais5 {xs hp st : Nat → Int32} {tr : Nat → Nat → Int32} {sp : Nat → Int32} {vis day z : Int32} {v : Nat} (hr : Row xs hp st tr sp vis day z) (hv : v < 8) : f5_raisesOf xs (nI v) = f0_raisesOf st tr (nI v) := by
  unfold f5_raisesOf f0_raisesOf
  rw [li 3, li 0, li 5, g5 xs hv (by decide), g5 xs hv (by decide), g5 xs hv (by decide), hr.2.2.1 0 v (by decide) hv, hr.2.2.1 3 v (by decide) hv, hr.2.2.1 5 v (by decide) hv, show xs 5 = st 2 from hr.2.1 2 (by decide)]
  simp only [ob1_so, gd_t, inb_y (show 8 < 2 ^ 31 by decide) hv, nI_clamp (show v < 2 ^ 31 by omega), less_min]
theorem mov5 {xs hp st : Nat → Int32} {tr : Nat → Nat → Int32} {sp : Nat → Int32} {vis day z : Int32} {v : Nat} (hr : Row xs hp st tr sp vis day z) (hv : v < 8) : f5_movesOf xs (nI v) = f0_movesOf st tr (nI v) := by
  unfold f5_movesOf f0_movesOf
  rw [li 0, g5 xs hv (by decide), hr.2.2.1 0 v (by decide) hv, show xs 4 = st 1 from hr.2.1 1 (by decide)]
  simp only [ob1_so, gd_t, inb_y (show 8 < 2 ^ 31 by decide) hv, nI_clamp (show v < 2 ^ 31 by omega)]
/-- what a visitor raises: a number up to 30, 0 for a digger -/
theorem rais_ok {st : Nat → Int32} {tr : Nat → Nat → Int32} {v : Nat} (hv : v < 8) (h : OkV tr v) (hw : Bt (st 2) 0 9) : ∃ r : Nat, f0_raisesOf st tr (nI v) = some (nI r) ∧ r ≤ 30 ∧ (tr 0 v = 4 → r = 0) := by
  obtain ⟨h0, -, -, h3, -, h5, -⟩ := h
  obtain ⟨k, ek, hk⟩ := Bt.nat (b := 6) h0
  obtain ⟨g, eg, hg⟩ := Bt.nat (b := 20) h3
  obtain ⟨a, ea, ha⟩ := Bt.nat (b := 9999) h5
  obtain ⟨w, ew, hw⟩ := Bt.nat (b := 9) hw
  unfold f0_raisesOf
  simp only [ob1_so, gd_t, inb_y (show 8 < 2 ^ 31 by decide) hv, nI_clamp (show v < 2 ^ 31 by omega), ek, eg, ea, ew, li]
  rw [pk_div (by omega) (by decide) (by decide), pk_div (by omega) (by decide) (by decide), pk_div (by omega) (by decide) (by decide), nI_add, nI_add, nI_add]
  simp only [nI_eq (show k < 2 ^ 31 by omega) (show 1 < 2 ^ 31 by decide), nI_eq (show k < 2 ^ 31 by omega) (show 2 < 2 ^ 31 by decide), nI_eq (show k < 2 ^ 31 by omega) (show 3 < 2 ^ 31 by decide), nI_eq (show k < 2 ^ 31 by omega) (show 4 < 2 ^ 31 by decide), nI_eq (show k < 2 ^ 31 by omega) (show 6 < 2 ^ 31 by decide)]
  by_cases e1 : k = 1
  · rw [if_pos e1]; exact ⟨_, rfl, by omega, by omega⟩
  rw [if_neg e1]
  by_cases e2 : k = 2
  · rw [if_pos e2]; exact ⟨_, rfl, by omega, by omega⟩
  rw [if_neg e2]
  by_cases e3 : k = 3
  · rw [if_pos e3]
    unfold jmin
    by_cases e : nI (g + w / 3 + a / 10) < nI 30
    · rw [if_pos e]; exact ⟨_, rfl, by have := (nI_ltI (by omega) (by decide)).mp e; omega, by omega⟩
    · rw [if_neg e]; exact ⟨30, rfl, by omega, by omega⟩
  rw [if_neg e3]
  by_cases e4 : k = 4
  · rw [if_pos e4]; exact ⟨0, rfl, by omega, fun _ => rfl⟩
  rw [if_neg e4]
  by_cases e6 : k = 6
  · rw [if_pos e6]; exact ⟨_, rfl, by omega, by omega⟩
  rw [if_neg e6]
  exact ⟨_, rfl, by omega, fun h => absurd h e4⟩
theorem mov_ok {st : Nat → Int32} {tr : Nat → Nat → Int32} {v : Nat} (hv : v < 8) (hw : Bt (st 1) 0 5) : ∃ r : Nat, f0_movesOf st tr (nI v) = some (nI r) ∧ r ≤ 40 := by
  obtain ⟨w, ew, hw⟩ := Bt.nat (b := 5) hw
  unfold f0_movesOf
  simp only [gd_t, inb_y (show 8 < 2 ^ 31 by decide) hv, nI_clamp (show v < 2 ^ 31 by omega), ew, li]
  rw [pk_sub (show w ≤ 12 by omega)]
  (repeat' split) <;> exact ⟨_, rfl, by omega⟩
