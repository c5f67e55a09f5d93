/-! the calls, first group: both sides answer the same and hold the same -/
theorem ne10 : ¬ ((1 : Int32) = 0) := by decide
theorem i0 {α : Type} {a b : α} {d : Decidable ((0 : Int32) = 0)} : @ite α ((0 : Int32) = 0) d a b = a := if_pos rfl
theorem i1 {α : Type} {a b : α} {d : Decidable ((1 : Int32) = 0)} : @ite α ((1 : Int32) = 0) d a b = b := if_neg ne10
theorem PitOK.visN {xs hp st : Nat → Int32} {tr : Nat → Nat → Int32} {sp : Nat → Int32} {vis day z : Int32} (h : PitOK xs hp st tr sp vis day z) : ∃ N : Nat, vis = nI N ∧ xs 1 = nI N ∧ N ≤ 8 ∧ Row xs hp st tr sp (nI N) day z ∧ OkP hp st tr N day ∧ SpOk sp N := by
  obtain ⟨N, h1, h2, h3, h4⟩ := h
  exact ⟨N, h1, h2.2.2.2.2.1, h3.2.2.2.2.1, h2, h3, h4⟩
theorem op_sand {xs hp st xf fd : Nat → Int32} {tr : Nat → Nat → Int32} {sp : Nat → Int32} {vis day z : Int32} (hP : PitOK xs hp st tr sp vis day z) (hF : RelF fd xf) (v1 v2 : Int32) : ∃ r hp' fd' xs' xf', f4_sand hp fd v1 v2 = some (r, hp', fd') ∧ f5_sand xs xf v1 v2 = some (r, xs', xf') ∧ PitOK xs' hp' st tr sp vis day z ∧ RelF fd' xf' := by
  obtain ⟨r, fd', xf', n1, n2, n3⟩ := no_ok hF (k := 0) (by decide)
  have bad : ∃ r hp' fd' xs' xf', j4_sand_20 hp fd = some (r, hp', fd') ∧ j5_sand_17 xs xf = some (r, xs', xf') ∧ PitOK xs' hp' st tr sp vis day z ∧ RelF fd' xf' := by
    refine ⟨r, hp, fd', xs, xf', ?_, ?_, hP, n3⟩
    · unfold j4_sand_20; rw [li 0, n1]; rfl
    · unfold j5_sand_17; rw [li 0, n2]; rfl
  unfold f4_sand f5_sand
  rw [cellW, in54]
  rcases inC v1 (a := 0) (b := 15) (by decide) (by decide) with h | ⟨c, rfl, -, hc, h⟩
  · simp only [show f4_within v1 0 15 = 0 from h, i0, reduceIte]; exact bad
  simp only [show f4_within (nI c) 0 15 = 1 from h, i1, reduceIte]
  rcases inC v2 (a := 0) (b := 30) (by decide) (by decide) with h | ⟨x, rfl, -, hx, h⟩
  · simp only [show f4_within v2 0 30 = 0 from h, i0, reduceIte]; exact bad
  simp only [show f4_within (nI x) 0 30 = 1 from h, i1, reduceIte]
  rw [li 6, nI_add, inb_y (show 16 < 2 ^ 31 by decide) (show c < 16 by omega), gd_t, gd_t, inb_y (show 88 < 2 ^ 31 by decide) (show 6 + c < 88 by omega), gd_t, gd_t, nI_clamp (by omega), nI_clamp (by omega)]
  obtain ⟨N, e1, h2, h3, h4⟩ := hP
  refine ⟨hp c, upd hp c (nI x), fd, _, xf, rfl, by rw [h2.1 c (by omega)], ⟨N, e1, h2.hp (by omega) _, ⟨fun j hj => ?_, h3.2⟩, h4⟩, hF⟩
  by_cases e : j = c
  · subst e; rw [upd_s]; exact Bt.of (by omega) (by omega) (by omega)
  · rw [upd_n e]; exact h3.1 j hj
theorem op_cell {xs hp st xf fd : Nat → Int32} {tr : Nat → Nat → Int32} {sp : Nat → Int32} {vis day z : Int32} (hP : PitOK xs hp st tr sp vis day z) (hF : RelF fd xf) (v1 v2 : Int32) : ∃ r fd' xf', f4_cell hp tr vis fd v1 v2 = some (r, fd') ∧ f5_cell xs xf v1 v2 = some (r, xf') ∧ RelF fd' xf' := by
  obtain ⟨r, fd', xf', n1, n2, n3⟩ := no_ok hF (k := 0) (by decide)
  have bad : ∃ r fd' xf', j4_cell_19 hp tr vis fd = some (r, fd') ∧ j5_cell_16 xs xf = some (r, xf') ∧ RelF fd' xf' := by
    refine ⟨r, fd', xf', ?_, ?_, n3⟩
    · unfold j4_cell_19; rw [li 0, n1]; rfl
    · unfold j5_cell_16; rw [li 0, n2]; rfl
  obtain ⟨N, rfl, h2, h3, h4⟩ := hP
  have hN := h3.2.2.2.2.1
  unfold f4_cell f5_cell
  rw [cellW, in54]
  rcases inC v1 (a := 0) (b := 15) (by decide) (by decide) with h | ⟨c, rfl, -, hc, h⟩
  · simp only [show f4_within v1 0 15 = 0 from h, i0, reduceIte]; exact bad
  simp only [show f4_within (nI c) 0 15 = 1 from h, i1, reduceIte]
  rcases inC v2 (a := 0) (b := 1) (by decide) (by decide) with h | ⟨x, rfl, -, hx, h⟩
  · simp only [show f4_within v2 0 1 = 0 from h, i0, reduceIte]; exact bad
  simp only [show f4_within (nI x) 0 1 = 1 from h, i1, reduceIte]
  by_cases e : x = 0
  · subst e
    rw [if_pos (show nI 0 = 0 from rfl), inb_y (show 16 < 2 ^ 31 by decide) (show c < 16 by omega), gd_t, nI_clamp (by omega)]
    exact ⟨hp c, fd, xf, rfl, at_loop0 (by omega) h2 h3 N 1000 0 0 (by omega) (by omega), hF⟩
  · have e1 : ¬ nI x = 0 := nI_ne0 (by omega) (by omega)
    rw [if_neg e1]
    obtain ⟨r, q1, q2⟩ := at_loop (xf := xf) (w2 := nI x) (show c < 16 by omega) e1 h2 h3 N 1000 0 0 (by omega) (by omega)
    exact ⟨r, fd, xf, by rw [show f0_visitorsAt tr (nI N) (nI c) = some r from q1]; rfl, q2, hF⟩
theorem op_set {xs hp st xf fd : Nat → Int32} {tr : Nat → Nat → Int32} {sp : Nat → Int32} {vis day z : Int32} (hP : PitOK xs hp st tr sp vis day z) (hF : RelF fd xf) (v1 v2 : Int32) : ∃ r st' fd' xs' xf', f4_set st fd v1 v2 = some (r, st', fd') ∧ f5_set xs xf v1 v2 = some (r, xs', xf') ∧ PitOK xs' hp st' tr sp vis day z ∧ RelF fd' xf' := by
  obtain ⟨r, fd', xf', n1, n2, n3⟩ := no_ok hF (k := 0) (by decide)
  have bad : ∃ r st' fd' xs' xf', j4_set_22 st fd = some (r, st', fd') ∧ j5_set_38 xs xf = some (r, xs', xf') ∧ PitOK xs' hp st' tr sp vis day z ∧ RelF fd' xf' := by
    refine ⟨r, st, fd', xs, xf', ?_, ?_, hP, n3⟩
    · unfold j4_set_22; rw [li 0, n1]; rfl
    · unfold j5_set_38; rw [li 0, n2]; rfl
  have good : ∀ (i b : Nat), i < 3 → b < 10000 → (∀ x : Nat, x ≤ b → OkP hp (upd st i (nI x)) tr 0 day ∨ True) → (kSM i = nI b) → (∀ (N x : Nat), x ≤ b → OkP hp st tr N day → OkP hp (upd st i (nI x)) tr N day) → ∃ r st' fd' xs' xf', (gd (inb (nI i) 3) (if (f4_within v2 (0 : Int32) (kSM (nI i).toNatClampNeg)) = (0 : Int32) then j4_set_22 st fd else gd (inb (nI i) 3) (gd (inb (nI i) 3) (some ((st (nI i).toNatClampNeg), (upd st (nI i).toNatClampNeg v2), fd))))) = some (r, st', fd') ∧ j5_set_32 xs xf (nI i) v2 v2 0 (nI b) = some (r, xs', xf') ∧ PitOK xs' hp st' tr sp vis day z ∧ RelF fd' xf' := by
    intro i b hi hb _ hk hkeep
    unfold j5_set_32
    rw [in54, inb_y (show 3 < 2 ^ 31 by decide) hi, gd_t, nI_clamp (by omega), hk]
    rcases inC v2 (a := 0) (b := b) (by decide) (by omega) with h | ⟨x, rfl, -, hx, h⟩
    · simp only [show f4_within v2 0 (nI b) = 0 from h, i0, reduceIte]; exact bad
    · simp only [show f4_within (nI x) 0 (nI b) = 1 from h, i1, reduceIte]
      rw [gd_t, gd_t, li 3, nI_add, inb_y (show 88 < 2 ^ 31 by decide) (show 3 + i < 88 by omega), gd_t, gd_t, nI_clamp (by omega)]
      obtain ⟨N, e1, h2, h3, h4⟩ := hP
      exact ⟨st i, upd st i (nI x), fd, _, xf, rfl, by rw [h2.2.1 i hi], ⟨N, e1, h2.st hi _, hkeep N x hx h3, h4⟩, hF⟩
  unfold f4_set f5_set
  rw [in54]
  rcases inC v1 (a := 0) (b := 2) (by decide) (by decide) with h | ⟨c, rfl, -, hc, h⟩
  · simp only [show f4_within v1 0 2 = 0 from h, i0, reduceIte]; exact bad
  simp only [show f4_within (nI c) 0 2 = 1 from h, i1, reduceIte]
  rcases (show c = 0 ∨ c = 1 ∨ c = 2 by omega) with rfl | rfl | rfl
  · rw [if_pos (show nI 0 = 0 from rfl)]
    exact good 0 9999 (by decide) (by decide) (fun _ _ => Or.inr trivial) rfl (fun N x hx h => ⟨h.1, by rw [upd_s]; exact Bt.of (by omega) (by omega) (by omega), by rw [upd_n (by decide)]; exact h.2.2.1, by rw [upd_n (by decide)]; exact h.2.2.2.1, h.2.2.2.2⟩)
  · rw [if_neg (show ¬ nI 1 = 0 by decide), if_pos (show nI 1 = 1 from rfl)]
    exact good 1 5 (by decide) (by decide) (fun _ _ => Or.inr trivial) rfl (fun N x hx h => ⟨h.1, by rw [upd_n (by decide)]; exact h.2.1, by rw [upd_s]; exact Bt.of (by omega) (by omega) (by omega), by rw [upd_n (by decide)]; exact h.2.2.2.1, h.2.2.2.2⟩)
  · rw [if_neg (show ¬ nI 2 = 0 by decide), if_neg (show ¬ nI 2 = 1 by decide)]
    exact good 2 9 (by decide) (by decide) (fun _ _ => Or.inr trivial) rfl (fun N x hx h => ⟨h.1, by rw [upd_n (by decide)]; exact h.2.1, by rw [upd_n (by decide)]; exact h.2.2.1, by rw [upd_s]; exact Bt.of (by omega) (by omega) (by omega), h.2.2.2.2⟩)
theorem op_of {xs hp st xf fd : Nat → Int32} {tr : Nat → Nat → Int32} {sp : Nat → Int32} {vis day z : Int32} (hP : PitOK xs hp st tr sp vis day z) (hF : RelF fd xf) (v1 v2 : Int32) : ∃ r fd' xf', f4_of hp st tr vis fd v1 v2 = some (r, fd') ∧ f5_of xs xf v1 v2 = some (r, xf') ∧ RelF fd' xf' := by
  obtain ⟨r, fd', xf', n1, n2, n3⟩ := no_ok hF (k := 0) (by decide)
  have bad : ∃ r fd' xf', j4_of_18 hp st tr vis fd = some (r, fd') ∧ j5_of_18 xs xf = some (r, xf') ∧ RelF fd' xf' := by
    refine ⟨r, fd', xf', ?_, ?_, n3⟩
    · unfold j4_of_18; rw [li 0, n1]; rfl
    · unfold j5_of_18; rw [li 0, n2]; rfl
  obtain ⟨N, rfl, h2, h3, h4⟩ := hP
  have hN := h3.2.2.2.2.1
  unfold f4_of f5_of
  rcases visC h2.2.2.2.2.1 hN v1 with ⟨q1, q2⟩ | ⟨v, rfl, hv, q1, q2⟩
  · simp only [q1, q2, i0, reduceIte]; exact bad
  simp only [q1, q2, i1, reduceIte, in54]
  rcases inC v2 (a := 0) (b := 10) (by decide) (by decide) with h | ⟨x, rfl, -, hx, h⟩
  · simp only [show f4_within v2 0 10 = 0 from h, i0, reduceIte]; exact bad
  simp only [show f4_within (nI x) 0 10 = 1 from h, i1, reduceIte]
  have ho := h3.2.2.2.2.2.2 v hv
  have e7 : ∀ k : Nat, k < 2 ^ 31 → (nI x = nI k ↔ x = k) := fun k hk => nI_eq (by omega) hk
  simp only [li 7, li 8, li 9, li 10, e7 7 (by decide), e7 8 (by decide), e7 9 (by decide), e7 10 (by decide)]
  by_cases x7 : x = 7
  · obtain ⟨lo, hi, hs⟩ := Span.ex (show v < 8 by omega) ho
    simp only [if_pos x7]
    rw [span0 hs, span5 h2 (show v < 8 by omega) ho hs]
    exact ⟨_, fd, xf, rfl, rfl, hF⟩
  simp only [if_neg x7]
  by_cases x8 : x = 8
  · obtain ⟨r, er, -⟩ := rais_ok (show v < 8 by omega) ho h3.2.2.2.1
    simp only [if_pos x8]
    rw [rais5 h2 (show v < 8 by omega), er]
    exact ⟨_, fd, xf, rfl, rfl, hF⟩
  simp only [if_neg x8]
  by_cases x9 : x = 9
  · obtain ⟨r, er, -⟩ := mov_ok (tr := tr) (show v < 8 by omega) h3.2.2.1
    simp only [if_pos x9]
    rw [mov5 h2 (show v < 8 by omega), er]
    exact ⟨_, fd, xf, rfl, rfl, hF⟩
  simp only [if_neg x9]
  by_cases x10 : x = 10
  · obtain ⟨b, s0, s5⟩ := stands_ok h2 (show v < 8 by omega) ho h3.2.2.2.1
    simp only [if_pos x10]
    rw [s0, s5]
    cases b with
    | false => exact ⟨0, fd, xf, rfl, rfl, hF⟩
    | true => exact ⟨1, fd, xf, rfl, rfl, hF⟩
  simp only [if_neg x10]
  rw [inb_y (show 7 < 2 ^ 31 by decide) (show x < 7 by omega), gd_t, inb_y (show 8 < 2 ^ 31 by decide) (show v < 8 by omega), gd_t, nI_clamp (by omega), nI_clamp (by omega), g5 xs (show v < 8 by omega) (show x < 7 by omega), h2.2.2.1 x v (by omega) (by omega)]
  exact ⟨_, fd, xf, rfl, rfl, hF⟩
