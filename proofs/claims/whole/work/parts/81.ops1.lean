/-! the calls: visitor, change, come, go, now, seed -/
theorem admit_loop {kind from_ : Int32} {N : Nat} (hN : N < 8) : ∀ (m n t : Nat) (tr : Nat → Nat → Int32), t + m = 7 → m < n → ∃ tr', l0_admit_11 n tr (nI N) kind from_ (nI t) = some (nI N, upd2 (upd2 tr' 0 N kind) 1 N from_, nI (N + 1)) ∧ (∀ j v, v ≠ N → tr' j v = tr j v) ∧ (∀ j, j < 7 → t ≤ j → tr' j N = kTF j) ∧ (∀ j, j < t → tr' j N = tr j N) := by
  intro m
  induction m with
  | zero =>
    intro n t tr ht hn
    obtain ⟨n, rfl⟩ : ∃ q, n = q + 1 := ⟨n - 1, by omega⟩
    refine ⟨tr, ?_, fun _ _ _ => rfl, fun j h1 h2 => by omega, fun _ _ => rfl⟩
    rw [l0_admit_11, li 7, if_pos (nI_le (by omega) (by omega)), inb_y (show 8 < 2 ^ 31 by decide) hN, gd_t, gd_t, nI_clamp (by omega), nI_1, nsub1 (by omega), Nat.add_sub_cancel]
  | succ m ih =>
    intro n t tr ht hn
    obtain ⟨n, rfl⟩ : ∃ q, n = q + 1 := ⟨n - 1, by omega⟩
    obtain ⟨tr', a1, a2, a3, a4⟩ := ih n (t + 1) (upd2 tr t N (kTF t)) (by omega) (by omega)
    refine ⟨tr', ?_, fun j v hv => ?_, fun j h1 h2 => ?_, fun j hj => ?_⟩
    · rw [l0_admit_11, li 7, if_neg (fun q => by have := (nI_leI (by omega) (by omega)).mp q; omega), inb_y (show 7 < 2 ^ 31 by decide) (show t < 7 by omega), gd_t, gd_t, inb_y (show 8 < 2 ^ 31 by decide) hN, gd_t, nI_clamp (by omega), nI_clamp (by omega), nI_1]
      exact a1
    · rw [a2 j v hv, upd2_n (by omega)]
    · by_cases e : j = t
      · subst e; rw [a4 j (by omega), upd2_s]
      · exact a3 j h1 (by omega)
    · rw [a4 j (by omega), upd2_n (by omega)]
/-- a new visitor on the class's side -/
theorem admit_ok {tr : Nat → Nat → Int32} {N : Nat} (hN : N < 8) (kind from_ : Int32) : ∃ tr', f0_admit tr (nI N) kind from_ = some (nI N, tr', nI (N + 1)) ∧ (∀ j v, v ≠ N → tr' j v = tr j v) ∧ tr' 0 N = kind ∧ tr' 1 N = from_ ∧ tr' 2 N = 3 ∧ tr' 3 N = 8 ∧ tr' 4 N = 2 ∧ tr' 5 N = 0 ∧ tr' 6 N = 0 := by
  obtain ⟨tr', a1, a2, a3, -⟩ := admit_loop (kind := kind) (from_ := from_) hN 7 1000 0 tr (by omega) (by omega)
  refine ⟨upd2 (upd2 tr' 0 N kind) 1 N from_, ?_, fun j v hv => ?_, ?_, upd2_s, ?_, ?_, ?_, ?_, ?_⟩
  · unfold f0_admit f0_isFull
    rw [li 8, if_pos (show nI N < nI 8 from nI_lt hN (by decide)), if_pos rfl]
    exact a1
  · rw [upd2_n (by omega), upd2_n (by omega), a2 j v hv]
  · rw [upd2_n (by omega), upd2_s]
  · rw [upd2_n (by omega), upd2_n (by omega), a3 2 (by decide) (by decide)]; rfl
  · rw [upd2_n (by omega), upd2_n (by omega), a3 3 (by decide) (by decide)]; rfl
  · rw [upd2_n (by omega), upd2_n (by omega), a3 4 (by decide) (by decide)]; rfl
  · rw [upd2_n (by omega), upd2_n (by omega), a3 5 (by decide) (by decide)]; rfl
  · rw [upd2_n (by omega), upd2_n (by omega), a3 6 (by decide) (by decide)]; rfl
/-- a new visitor on the reference's side -/
theorem adds_ok {xs : Nat → Int32} {N : Nat} (h1 : xs 1 = nI N) (hN : N < 8) (kind : Int32) : ∃ xs', f5_adds xs kind = some xs' ∧ xs' 1 = nI (N + 1) ∧ (∀ k, k ≠ 1 → (k < 22 + 7 * N ∨ 29 + 7 * N ≤ k) → xs' k = xs k) ∧ xs' (22 + 7 * N) = kind ∧ xs' (22 + 7 * N + 1) = 0 ∧ xs' (22 + 7 * N + 2) = 3 ∧ xs' (22 + 7 * N + 3) = 8 ∧ xs' (22 + 7 * N + 4) = 2 ∧ xs' (22 + 7 * N + 5) = 0 ∧ xs' (22 + 7 * N + 6) = 0 := by
  unfold f5_adds
  have e0 := p5 xs kind hN (show 0 < 7 by decide)
  have e1 := p5 (upd xs (22 + 7 * N + 0) kind) 0 hN (show 1 < 7 by decide)
  have e2 := p5 (upd (upd xs (22 + 7 * N + 0) kind) (22 + 7 * N + 1) 0) 3 hN (show 2 < 7 by decide)
  have e3 := p5 (upd (upd (upd xs (22 + 7 * N + 0) kind) (22 + 7 * N + 1) 0) (22 + 7 * N + 2) 3) 8 hN (show 3 < 7 by decide)
  have e4 := p5 (upd (upd (upd (upd xs (22 + 7 * N + 0) kind) (22 + 7 * N + 1) 0) (22 + 7 * N + 2) 3) (22 + 7 * N + 3) 8) 2 hN (show 4 < 7 by decide)
  have e5 := p5 (upd (upd (upd (upd (upd xs (22 + 7 * N + 0) kind) (22 + 7 * N + 1) 0) (22 + 7 * N + 2) 3) (22 + 7 * N + 3) 8) (22 + 7 * N + 4) 2) 0 hN (show 5 < 7 by decide)
  have e6 := p5 (upd (upd (upd (upd (upd (upd xs (22 + 7 * N + 0) kind) (22 + 7 * N + 1) 0) (22 + 7 * N + 2) 3) (22 + 7 * N + 3) 8) (22 + 7 * N + 4) 2) (22 + 7 * N + 5) 0) 0 hN (show 6 < 7 by decide)
  rw [h1, show (0 : Int32) = nI 0 from rfl, e0]
  simp only [ob1_so]
  rw [show f5_puts (upd xs (22 + 7 * N + 0) kind) (nI N) 1 (nI 0) = _ from e1]
  simp only [ob1_so]
  rw [show f5_puts _ (nI N) 2 3 = _ from e2]
  simp only [ob1_so]
  rw [show f5_puts _ (nI N) 3 8 = _ from e3]
  simp only [ob1_so]
  rw [show f5_puts _ (nI N) 4 2 = _ from e4]
  simp only [ob1_so]
  rw [show f5_puts _ (nI N) 5 (nI 0) = _ from e5]
  simp only [ob1_so]
  rw [show f5_puts _ (nI N) 6 (nI 0) = _ from e6]
  simp only [ob1_so]
  refine ⟨_, rfl, ?_, fun k hk1 hk => ?_, ?_, ?_, ?_, ?_, ?_, ?_, ?_⟩
  · rw [upd_s, upd_n (by omega), upd_n (by omega), upd_n (by omega), upd_n (by omega), upd_n (by omega), upd_n (by omega), upd_n (by omega), h1, nI_1]
  · rw [upd_n (by omega), upd_n (by omega), upd_n (by omega), upd_n (by omega), upd_n (by omega), upd_n (by omega), upd_n (by omega), upd_n (by omega)]
  · rw [upd_n (by omega), upd_n (by omega), upd_n (by omega), upd_n (by omega), upd_n (by omega), upd_n (by omega), upd_n (by omega), Nat.add_zero, upd_s]
  · rw [upd_n (by omega), upd_n (by omega), upd_n (by omega), upd_n (by omega), upd_n (by omega), upd_n (by omega), upd_s]; rfl
  · rw [upd_n (by omega), upd_n (by omega), upd_n (by omega), upd_n (by omega), upd_n (by omega), upd_s]
  · rw [upd_n (by omega), upd_n (by omega), upd_n (by omega), upd_n (by omega), upd_s]
  · rw [upd_n (by omega), upd_n (by omega), upd_n (by omega), upd_s]
  · rw [upd_n (by omega), upd_n (by omega), upd_s]; rfl
  · rw [upd_n (by omega), upd_s]; rfl
/-- the two new visitors are one -/
theorem new_row {xs xs' hp st : Nat → Int32} {tr tr' : Nat → Nat → Int32} {sp : Nat → Int32} {day z : Int32} {N : Nat} {kind from_ : Int32} (hr : Row xs hp st tr sp (nI N) day z) (hN : N < 8) (x1 : xs' 1 = nI (N + 1)) (xo : ∀ k, k ≠ 1 → (k < 22 + 7 * N ∨ 29 + 7 * N ≤ k) → xs' k = xs k) (to : ∀ j v, v ≠ N → tr' j v = tr j v) (hn : ∀ t, t < 7 → xs' (22 + 7 * N + t) = tr' t N) : Row xs' hp st tr' sp (nI (N + 1)) day z := by
  obtain ⟨a1, a2, a3, a4, a5, a6, a7⟩ := hr
  refine ⟨fun c hc => by rw [xo _ (by omega) (by omega)]; exact a1 c hc, fun i hi => by rw [xo _ (by omega) (by omega)]; exact a2 i hi, fun t v ht hv => ?_, fun k hk => by rw [xo _ (by omega) (by omega)]; exact a4 k hk, x1, by rw [xo _ (by omega) (by omega)]; exact a6, by rw [xo _ (by omega) (by omega)]; exact a7⟩
  by_cases e : v = N
  · subst e; exact hn t ht
  · rw [xo _ (by omega) (by omega), to t v e]; exact a3 t v ht hv
theorem new_ok {hp st : Nat → Int32} {tr tr' : Nat → Nat → Int32} {day : Int32} {N : Nat} (hok : OkP hp st tr N day) (hN : N < 8) (to : ∀ j v, v ≠ N → tr' j v = tr j v) (hv : OkV tr' N) : OkP hp st tr' (N + 1) day := by
  obtain ⟨b1, b2, b3, b4, b5, b6, b7⟩ := hok
  refine ⟨b1, b2, b3, b4, by omega, b6, fun v hv2 => ?_⟩
  by_cases e : v = N
  · subst e; exact hv
  · have := b7 v (by omega)
    unfold OkV at this ⊢
    rw [to 0 v e, to 1 v e, to 2 v e, to 3 v e, to 4 v e, to 5 v e, to 6 v e]
    exact this
theorem SpOk.mono {sp : Nat → Int32} {N M : Nat} (h : SpOk sp N) (hm : N ≤ M) : SpOk sp M := fun k hk => (h k hk).imp id (fun ⟨v, hv, e⟩ => ⟨v, by omega, e⟩)
theorem op_visitor {xs hp st xf fd : Nat → Int32} {tr : Nat → Nat → Int32} {sp : Nat → Int32} {vis day z : Int32} (hP : PitOK xs hp st tr sp vis day z) (hF : RelF fd xf) (v1 v2 : Int32) : ∃ r tr' vis' fd' xs' xf', f4_visitor tr vis fd v1 v2 = some (r, tr', vis', fd') ∧ f5_visitor xs xf v1 v2 = some (r, xs', xf') ∧ PitOK xs' hp st tr' sp vis' day z ∧ RelF fd' xf' := by
  obtain ⟨r, fd', xf', n1, n2, n3⟩ := no_ok hF (k := 0) (by decide)
  have bad : ∃ r tr' vis' fd' xs' xf', j4_visitor_20 tr vis fd = some (r, tr', vis', fd') ∧ j5_visitor_17 xs xf = some (r, xs', xf') ∧ PitOK xs' hp st tr' sp vis' day z ∧ RelF fd' xf' := by
    refine ⟨r, tr, vis, fd', xs, xf', ?_, ?_, hP, n3⟩
    · unfold j4_visitor_20; rw [li 0, n1]; rfl
    · unfold j5_visitor_17; rw [li 0, n2]; rfl
  unfold f4_visitor f5_visitor
  rw [cellW, in54]
  rcases inC v1 (a := 0) (b := 6) (by decide) (by decide) with h | ⟨k, rfl, -, hk, h⟩
  · simp only [show f4_within v1 0 6 = 0 from h, i0, reduceIte]; exact bad
  simp only [show f4_within (nI k) 0 6 = 1 from h, i1, reduceIte]
  rcases inC v2 (a := 0) (b := 15) (by decide) (by decide) with h | ⟨x, rfl, -, hx, h⟩
  · simp only [show f4_within v2 0 15 = 0 from h, i0, reduceIte]; exact bad
  simp only [show f4_within (nI x) 0 15 = 1 from h, i1, reduceIte]
  obtain ⟨N, rfl, h2, h3, h4⟩ := hP
  have hN := h3.2.2.2.2.1
  unfold f0_isFull
  rw [h2.2.2.2.2.1, li 8]
  by_cases hf : N = 8
  · subst hf
    obtain ⟨r, fd', xf', n1, n2, n3⟩ := no_ok hF (k := 1) (by decide)
    rw [if_neg (show ¬ nI 8 < nI 8 by decide), if_neg (show ¬ ((1 : Int32) = 0) by decide), if_pos rfl, li 1, n1, n2]
    exact ⟨r, tr, nI 8, fd', xs, xf', rfl, rfl, ⟨8, rfl, h2, h3, h4⟩, n3⟩
  · have hN8 : N < 8 := by omega
    obtain ⟨tr', a1, a2, b0, b1, b2, b3, b4, b5, b6⟩ := admit_ok (tr := tr) hN8 (nI k) (nI x)
    obtain ⟨xs1, c1, c2, c3, d0, d1, d2, d3, d4, d5, d6⟩ := adds_ok h2.2.2.2.2.1 hN8 (nI k)
    have e1 := p5 xs1 (nI x) hN8 (show 1 < 7 by decide)
    rw [if_pos (show nI N < nI 8 from nI_lt hN8 (by decide)), if_pos rfl, a1, if_neg (show ¬ nI N = nI 8 from fun q => hf ((nI_eq (by omega) (by decide)).mp q)), c1]
    simp only [ob1_so, ob3_so]
    rw [c2, nsub1 (by omega), Nat.add_sub_cancel, show f5_puts xs1 (nI N) 1 (nI x) = _ from e1]
    simp only [ob1_so]
    rw [upd_n (by omega), c2, nsub1 (by omega), Nat.add_sub_cancel]
    refine ⟨nI N, tr', nI (N + 1), fd, _, xf, rfl, rfl, ⟨N + 1, rfl, new_row (kind := nI k) (from_ := nI x) h2 hN8 (by rw [upd_n (by omega), c2]) (fun q hq hq2 => by rw [upd_n (by omega), c3 q hq hq2]) a2 (fun t ht => ?_), new_ok h3 hN8 a2 ?_, h4.mono (by omega)⟩, hF⟩
    · rcases (show t = 0 ∨ t = 1 ∨ t = 2 ∨ t = 3 ∨ t = 4 ∨ t = 5 ∨ t = 6 by omega) with rfl | rfl | rfl | rfl | rfl | rfl | rfl
      · rw [upd_n (by omega), Nat.add_zero, d0, b0]
      · rw [upd_s, b1]
      · rw [upd_n (by omega), d2, b2]
      · rw [upd_n (by omega), d3, b3]
      · rw [upd_n (by omega), d4, b4]
      · rw [upd_n (by omega), d5, b5]
      · rw [upd_n (by omega), d6, b6]
    · refine ⟨by rw [b0]; exact Bt.of (by omega) (by omega) (by omega), by rw [b1]; exact Bt.of (by omega) (by omega) (by omega), by rw [b2]; exact ⟨by decide, by decide⟩, by rw [b3]; exact ⟨by decide, by decide⟩, by rw [b4]; exact ⟨by decide, by decide⟩, by rw [b5]; exact ⟨by decide, by decide⟩, by rw [b6]; exact ⟨by decide, by decide⟩⟩
