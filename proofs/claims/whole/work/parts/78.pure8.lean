/-! what the calls share: findings, bounds, loops that only read, a pit laid aside -/
def RelF (fd xf : Nat → Int32) : Prop := ∀ k, k < 7 → fd k = xf k
theorem no_ok {fd xf : Nat → Int32} (h : RelF fd xf) {k : Nat} (hk : k < 7) : ∃ r fd' xf', f4_found fd (nI k) = some (r, fd') ∧ f5_no xf (nI k) = some (r, xf') ∧ RelF fd' xf' := by
  refine ⟨(-1000001 : Int32) - nI k, upd fd k (fd k + 1), upd xf k (xf k + 1), ?_, ?_, ?_⟩
  · unfold f4_found
    rw [inb_y (show 7 < 2 ^ 31 by decide) hk, gd_t, gd_t, nI_clamp (by omega)]
  · unfold f5_no
    rw [inb_y (show 7 < 2 ^ 31 by decide) hk, gd_t, gd_t, nI_clamp (by omega)]
  · intro j hj
    by_cases e : j = k
    · subst e; rw [upd_s, upd_s, h j hj]
    · rw [upd_n e, upd_n e, h j hj]
theorem inC (v : Int32) {a b : Nat} (ha : a < 2 ^ 31) (hb : b < 2 ^ 31) : f4_within v (nI a) (nI b) = 0 ∨ ∃ n : Nat, v = nI n ∧ a ≤ n ∧ n ≤ b ∧ f4_within v (nI a) (nI b) = 1 := by
  rw [in4]
  by_cases h : nI a ≤ v ∧ v ≤ nI b
  · rw [if_pos h]
    by_cases hab : a ≤ b
    · have h0 : ¬ v < 0 := fun q => by
        have h1 : (0 : Int32) ≤ nI a := nI_pos' (by omega)
        exact Int32.lt_irrefl (Int32.lt_of_lt_of_le q (Int32.le_trans h1 h.1))
      obtain ⟨j, hj, rfl⟩ := nI_of h0
      exact Or.inr ⟨j, rfl, (nI_leI (by omega) hj).mp h.1, (nI_leI hj hb).mp h.2, rfl⟩
    · exact absurd (Int32.le_trans h.1 h.2) (nI_ge (by omega) ha)
  · rw [if_neg h]; exact Or.inl rfl
theorem cellW (v : Int32) : f5_isCell v = f4_within v 0 15 := by unfold f5_isCell; rw [in54]
def SpOk (sp : Nat → Int32) (N : Nat) : Prop := ∀ k, k < 10 → sp k = -1 ∨ ∃ v, v < N ∧ sp k = nI v
/-- the reference's row and a pit of the class hold the same, and it is as the document has it -/
def PitOK (xs hp st : Nat → Int32) (tr : Nat → Nat → Int32) (sp : Nat → Int32) (vis day z : Int32) : Prop := ∃ N : Nat, vis = nI N ∧ Row xs hp st tr sp (nI N) day z ∧ OkP hp st tr N day ∧ SpOk sp N
theorem visC {xs : Nat → Int32} {N : Nat} (h1 : xs 1 = nI N) (hN : N ≤ 8) (v : Int32) : (f4_isVisitor (nI N) v = 0 ∧ f5_isVisitor xs v = 0) ∨ ∃ n, v = nI n ∧ n < N ∧ f4_isVisitor (nI N) v = 1 ∧ f5_isVisitor xs v = 1 := by
  unfold f4_isVisitor f5_isVisitor
  rw [h1, in54]
  by_cases h0 : N = 0
  · subst h0
    have : f4_within v 0 (nI 0 - 1) = 0 := by
      rw [in4, if_neg]
      intro h
      exact absurd (Int32.le_trans h.1 h.2) (by decide)
    exact Or.inl ⟨this, this⟩
  · rw [nsub1 (by omega)]
    rcases inC v (a := 0) (b := N - 1) (by decide) (by omega) with h | ⟨n, e, -, h2, h3⟩
    · exact Or.inl ⟨h, h⟩
    · exact Or.inr ⟨n, e, by omega, h3, h3⟩
theorem Row.cong {xs xs' hp st : Nat → Int32} {tr : Nat → Nat → Int32} {sp : Nat → Int32} {vis day z : Int32} (h : Row xs hp st tr sp vis day z) (e : ∀ k, k < 88 → xs' k = xs k) : Row xs' hp st tr sp vis day z := by
  obtain ⟨a1, a2, a3, a4, a5, a6, a7⟩ := h
  exact ⟨fun c hc => by rw [e _ (by omega)]; exact a1 c hc, fun i hi => by rw [e _ (by omega)]; exact a2 i hi, fun t v ht hv => by rw [e _ (by omega)]; exact a3 t v ht hv, fun k hk => by rw [e _ (by omega)]; exact a4 k hk, by rw [e _ (by omega)]; exact a5, by rw [e _ (by omega)]; exact a6, by rw [e _ (by omega)]; exact a7⟩
theorem PitOK.cong {xs xs' hp st : Nat → Int32} {tr : Nat → Nat → Int32} {sp : Nat → Int32} {vis day z : Int32} (h : PitOK xs hp st tr sp vis day z) (e : ∀ k, k < 88 → xs' k = xs k) : PitOK xs' hp st tr sp vis day z := by
  obtain ⟨N, h1, h2, h3, h4⟩ := h
  exact ⟨N, h1, h2.cong e, h3, h4⟩
theorem OkV.cong {tr tr' : Nat → Nat → Int32} {v : Nat} (h : OkV tr v) (e : ∀ t, t < 7 → tr' t = tr t) : OkV tr' v := by
  unfold OkV
  rw [e 0 (by decide), e 1 (by decide), e 2 (by decide), e 3 (by decide), e 4 (by decide), e 5 (by decide), e 6 (by decide)]
  exact h
theorem PitOK.trc {xs hp st : Nat → Int32} {tr tr' : Nat → Nat → Int32} {sp : Nat → Int32} {vis day z : Int32} (h : PitOK xs hp st tr sp vis day z) (e : ∀ t, t < 7 → tr' t = tr t) : PitOK xs hp st tr' sp vis day z := by
  obtain ⟨N, h1, h2, h3, h4⟩ := h
  exact ⟨N, h1, ⟨h2.1, h2.2.1, fun t v ht hv => by rw [e t ht]; exact h2.2.2.1 t v ht hv, h2.2.2.2⟩, ⟨h3.1, h3.2.1, h3.2.2.1, h3.2.2.2.1, h3.2.2.2.2.1, h3.2.2.2.2.2.1, fun v hv => (h3.2.2.2.2.2.2 v hv).cong e⟩, h4⟩
/-- a pit becomes another one -/
theorem become_loop {hp1 st1 sp1 hp2 st2 sp2 : Nat → Int32} {tr2 : Nat → Nat → Int32} {vis1 day1 z1 vis2 day2 z2 : Int32} : ∀ (m n t : Nat) (tr1 : Nat → Nat → Int32), t + m = 7 → m < n → (∀ j, j < t → tr1 j = tr2 j) → ∃ tr', l0_become_31 n hp1 st1 tr1 sp1 vis1 day1 z1 hp2 st2 tr2 sp2 vis2 day2 z2 (nI t) = some (hp1, st1, tr', sp2, vis2, day2, z2) ∧ ∀ j, j < 7 → tr' j = tr2 j := by
  intro m
  induction m with
  | zero =>
    intro n t tr1 ht hn h
    obtain ⟨n, rfl⟩ : ∃ q, n = q + 1 := ⟨n - 1, by omega⟩
    refine ⟨tr1, ?_, fun j hj => h j (by omega)⟩
    rw [l0_become_31, li 7, if_pos (nI_le (by omega) (by omega))]
  | succ m ih =>
    intro n t tr1 ht hn h
    obtain ⟨n, rfl⟩ : ∃ q, n = q + 1 := ⟨n - 1, by omega⟩
    rw [l0_become_31, li 7, if_neg (fun q => by have := (nI_leI (by omega) (by omega)).mp q; omega), inb_y (show 7 < 2 ^ 31 by decide) (show t < 7 by omega), gd_t, gd_t, nI_clamp (by omega), nI_1]
    refine ih n (t + 1) _ (by omega) (by omega) (fun j hj => ?_)
    unfold updR
    by_cases e : j = t
    · rw [if_pos e, e]
    · rw [if_neg e]; exact h j (by omega)
theorem become_ok (hp1 st1 : Nat → Int32) (tr1 : Nat → Nat → Int32) (sp1 : Nat → Int32) (vis1 day1 z1 : Int32) (hp2 st2 : Nat → Int32) (tr2 : Nat → Nat → Int32) (sp2 : Nat → Int32) (vis2 day2 z2 : Int32) : ∃ tr', f0_become hp1 st1 tr1 sp1 vis1 day1 z1 hp2 st2 tr2 sp2 vis2 day2 z2 = some (hp2, st2, tr', sp2, vis2, day2, z2) ∧ ∀ j, j < 7 → tr' j = tr2 j :=
  become_loop 7 1000 0 tr1 (by omega) (by omega) (fun j hj => by omega)
theorem aside_loop {xs : Nat → Int32} : ∀ (m n t : Nat) (a : Nat → Int32), t + m = 88 → m < n → (∀ j, j < t → a j = xs j) → ∃ a', l5_setsAside_2 n xs a (nI t) = some a' ∧ ∀ j, j < 88 → a' j = xs j := by
  intro m
  induction m with
  | zero =>
    intro n t a ht hn h
    obtain ⟨n, rfl⟩ : ∃ q, n = q + 1 := ⟨n - 1, by omega⟩
    refine ⟨a, ?_, fun j hj => h j (by omega)⟩
    rw [l5_setsAside_2, li 88, if_pos (nI_le (by omega) (by omega))]
  | succ m ih =>
    intro n t a ht hn h
    obtain ⟨n, rfl⟩ : ∃ q, n = q + 1 := ⟨n - 1, by omega⟩
    rw [l5_setsAside_2, li 88, if_neg (fun q => by have := (nI_leI (by omega) (by omega)).mp q; omega), inb_y (show 88 < 2 ^ 31 by decide) (show t < 88 by omega), gd_t, gd_t, nI_clamp (by omega), nI_1]
    refine ih n (t + 1) _ (by omega) (by omega) (fun j hj => ?_)
    by_cases e : j = t
    · subst e; rw [upd_s]
    · rw [upd_n e]; exact h j (by omega)
theorem aside_ok (xs a : Nat → Int32) : ∃ a', f5_setsAside xs a = some a' ∧ ∀ j, j < 88 → a' j = xs j := aside_loop 88 1000 0 a (by omega) (by omega) (fun j hj => by omega)
theorem back_loop {a : Nat → Int32} : ∀ (m n t : Nat) (xs : Nat → Int32), t + m = 88 → m < n → (∀ j, j < t → xs j = a j) → ∃ xs', l5_laysBack_2 n xs a (nI t) = some xs' ∧ ∀ j, j < 88 → xs' j = a j := by
  intro m
  induction m with
  | zero =>
    intro n t xs ht hn h
    obtain ⟨n, rfl⟩ : ∃ q, n = q + 1 := ⟨n - 1, by omega⟩
    refine ⟨xs, ?_, fun j hj => h j (by omega)⟩
    rw [l5_laysBack_2, li 88, if_pos (nI_le (by omega) (by omega))]
  | succ m ih =>
    intro n t xs ht hn h
    obtain ⟨n, rfl⟩ : ∃ q, n = q + 1 := ⟨n - 1, by omega⟩
    rw [l5_laysBack_2, li 88, if_neg (fun q => by have := (nI_leI (by omega) (by omega)).mp q; omega), inb_y (show 88 < 2 ^ 31 by decide) (show t < 88 by omega), gd_t, gd_t, nI_clamp (by omega), nI_1]
    refine ih n (t + 1) _ (by omega) (by omega) (fun j hj => ?_)
    by_cases e : j = t
    · subst e; rw [upd_s]
    · rw [upd_n e]; exact h j (by omega)
theorem back_ok (xs a : Nat → Int32) : ∃ xs', f5_laysBack xs a = some xs' ∧ ∀ j, j < 88 → xs' j = a j := back_loop 88 1000 0 xs (by omega) (by omega) (fun j hj => by omega)
/-- loops that only read -/
theorem sands_loop {xs hp : Nat → Int32} (hx : ∀ c, c < 16 → xs (6 + c) = hp c) : ∀ (m n c : Nat) (a : Int32), c + m = 16 → m < n → ∃ r, l0_sandInAll_4 n hp a (nI c) = some r ∧ l5_sands_4 n xs a (nI c) = some r := by
  intro m
  induction m with
  | zero =>
    intro n c a hc hn
    obtain ⟨n, rfl⟩ : ∃ q, n = q + 1 := ⟨n - 1, by omega⟩
    exact ⟨a, by rw [l0_sandInAll_4, li 16, if_pos (nI_le (by omega) (by omega))], by rw [l5_sands_4, li 16, if_pos (nI_le (by omega) (by omega))]⟩
  | succ m ih =>
    intro n c a hc hn
    obtain ⟨n, rfl⟩ : ∃ q, n = q + 1 := ⟨n - 1, by omega⟩
    have h16 : ¬ (nI 16 ≤ nI c) := fun q => by have := (nI_leI (by omega) (by omega)).mp q; omega
    rw [l0_sandInAll_4, l5_sands_4, li 16, if_neg h16, if_neg h16, li 6, nI_add, inb_y (show 16 < 2 ^ 31 by decide) (show c < 16 by omega), gd_t, inb_y (show 88 < 2 ^ 31 by decide) (show 6 + c < 88 by omega), gd_t, nI_clamp (by omega), nI_clamp (by omega), hx c (by omega), nI_1]
    exact ih n (c + 1) _ (by omega) (by omega)
theorem highest_loop {xs hp : Nat → Int32} (hx : ∀ c, c < 16 → xs (6 + c) = hp c) : ∀ (m n c b : Nat), c + m = 16 → m < n → b < 16 → ∃ r, l0_highestCell_4 n hp (nI b) (nI c) = some r ∧ l5_highest_4 n xs (nI b) (nI c) = some r := by
  intro m
  induction m with
  | zero =>
    intro n c b hc hn hb
    obtain ⟨n, rfl⟩ : ∃ q, n = q + 1 := ⟨n - 1, by omega⟩
    exact ⟨nI b, by rw [l0_highestCell_4, li 16, if_pos (nI_le (by omega) (by omega))], by rw [l5_highest_4, li 16, if_pos (nI_le (by omega) (by omega))]⟩
  | succ m ih =>
    intro n c b hc hn hb
    obtain ⟨n, rfl⟩ : ∃ q, n = q + 1 := ⟨n - 1, by omega⟩
    have h16 : ¬ (nI 16 ≤ nI c) := fun q => by have := (nI_leI (by omega) (by omega)).mp q; omega
    rw [l0_highestCell_4, l5_highest_4, li 16, if_neg h16, if_neg h16, li 6, nI_add, nI_add, inb_y (show 16 < 2 ^ 31 by decide) (show c < 16 by omega), gd_t, inb_y (show 16 < 2 ^ 31 by decide) hb, gd_t, inb_y (show 88 < 2 ^ 31 by decide) (show 6 + c < 88 by omega), gd_t, inb_y (show 88 < 2 ^ 31 by decide) (show 6 + b < 88 by omega), gd_t, nI_clamp (by omega), nI_clamp (by omega), nI_clamp (by omega), nI_clamp (by omega), hx c (by omega), hx b hb]
    unfold j0_highestCell_27 j5_highest_36
    rw [nI_1]
    by_cases q : hp c ≤ hp b
    · simp only [if_pos q]; exact ih n (c + 1) b (by omega) (by omega) hb
    · simp only [if_neg q]; exact ih n (c + 1) c (by omega) (by omega) (by omega)
theorem builds_loop {xs hp st : Nat → Int32} {tr : Nat → Nat → Int32} {sp : Nat → Int32} {day z : Int32} {N : Nat} (hr : Row xs hp st tr sp (nI N) day z) (hN : N ≤ 8) : ∀ (m n v : Nat) (a : Int32), v + m = N → m < n → ∃ r, l0_builtInAll_4 n tr (nI N) a (nI v) = some r ∧ l5_builds_4 n xs a (nI v) = some r := by
  intro m
  induction m with
  | zero =>
    intro n v a hv hn
    obtain ⟨n, rfl⟩ : ∃ q, n = q + 1 := ⟨n - 1, by omega⟩
    exact ⟨a, by rw [l0_builtInAll_4, if_pos (nI_le (by omega) (by omega))], by rw [l5_builds_4, hr.2.2.2.2.1, if_pos (nI_le (by omega) (by omega))]⟩
  | succ m ih =>
    intro n v a hv hn
    obtain ⟨n, rfl⟩ : ∃ q, n = q + 1 := ⟨n - 1, by omega⟩
    have hle : ¬ (nI N ≤ nI v) := fun q => by have := (nI_leI (by omega) (by omega)).mp q; omega
    rw [l0_builtInAll_4, l5_builds_4, hr.2.2.2.2.1, if_neg hle, if_neg hle, inb_y (show 8 < 2 ^ 31 by decide) (show v < 8 by omega), gd_t, nI_clamp (by omega), li 6, g5 xs (show v < 8 by omega) (by decide), hr.2.2.1 6 v (by decide) (by omega), nI_1]
    simp only [ob1_so]
    exact ih n (v + 1) _ (by omega) (by omega)
theorem or_zero (x : Int32) : x ||| 0 = x := Int32.or_zero
theorem stand_loop {xs hp st : Nat → Int32} {tr : Nat → Nat → Int32} {sp : Nat → Int32} {day z : Int32} {N : Nat} (hr : Row xs hp st tr sp (nI N) day z) (hok : OkP hp st tr N day) : ∀ (m n v : Nat) (a : Int32), v + m = N → m < n → ∃ r, l0_standing_4 n hp st tr (nI N) a (nI v) = some r ∧ l5_setOf_4 n xs 1 a (nI v) = some r := by
  have hN := hok.2.2.2.2.1
  intro m
  induction m with
  | zero =>
    intro n v a hv hn
    obtain ⟨n, rfl⟩ : ∃ q, n = q + 1 := ⟨n - 1, by omega⟩
    exact ⟨a, by rw [l0_standing_4, if_pos (nI_le (by omega) (by omega))], by rw [l5_setOf_4, hr.2.2.2.2.1, if_pos (nI_le (by omega) (by omega))]⟩
  | succ m ih =>
    intro n v a hv hn
    obtain ⟨n, rfl⟩ : ∃ q, n = q + 1 := ⟨n - 1, by omega⟩
    have hle : ¬ (nI N ≤ nI v) := fun q => by have := (nI_leI (by omega) (by omega)).mp q; omega
    have h10 : ¬ ((1 : Int32) = 0) := by decide
    obtain ⟨b, s0, s5⟩ := stands_ok hr (show v < 8 by omega) (hok.2.2.2.2.2.2 v (by omega)) hok.2.2.2.1
    rw [l0_standing_4, l5_setOf_4, hr.2.2.2.2.1, if_neg hle, if_neg hle, if_neg h10, s0, s5]
    simp only [ob1_so, j0_standing_26, j5_setOf_44, j5_setOf_38, j5_setOf_45, nI_1, or_zero]
    cases b with
    | false => simp only [bi_f, if_true]; exact ih n (v + 1) _ (by omega) (by omega)
    | true => simp only [bi_t, if_neg h10]; exact ih n (v + 1) _ (by omega) (by omega)
theorem coming_loop {xs hp st : Nat → Int32} {tr : Nat → Nat → Int32} {sp : Nat → Int32} {day z : Int32} {N : Nat} (hr : Row xs hp st tr sp (nI N) day z) (hok : OkP hp st tr N day) : ∀ (m n v : Nat) (a : Int32), v + m = N → m < n → ∃ r, l0_comingToday_4 n tr (nI N) day a (nI v) = some r ∧ l5_setOf_4 n xs 0 a (nI v) = some r := by
  have hN := hok.2.2.2.2.1
  intro m
  induction m with
  | zero =>
    intro n v a hv hn
    obtain ⟨n, rfl⟩ : ∃ q, n = q + 1 := ⟨n - 1, by omega⟩
    exact ⟨a, by rw [l0_comingToday_4, if_pos (nI_le (by omega) (by omega))], by rw [l5_setOf_4, hr.2.2.2.2.1, if_pos (nI_le (by omega) (by omega))]⟩
  | succ m ih =>
    intro n v a hv hn
    obtain ⟨n, rfl⟩ : ∃ q, n = q + 1 := ⟨n - 1, by omega⟩
    have hle : ¬ (nI N ≤ nI v) := fun q => by have := (nI_leI (by omega) (by omega)).mp q; omega
    have h10 : ¬ ((1 : Int32) = 0) := by decide
    obtain ⟨b, s0, s5⟩ := due_ok hr (show v < 8 by omega) (hok.2.2.2.2.2.2 v (by omega))
    rw [l0_comingToday_4, l5_setOf_4, hr.2.2.2.2.1, if_neg hle, if_neg hle, if_pos rfl, s0, s5]
    simp only [ob1_so, j0_comingToday_26, j5_setOf_44, j5_setOf_38, j5_setOf_45, nI_1, or_zero]
    cases b with
    | false => simp only [bi_f, if_true]; exact ih n (v + 1) _ (by omega) (by omega)
    | true => simp only [bi_t, if_neg h10]; exact ih n (v + 1) _ (by omega) (by omega)
set_option maxRecDepth 100000 in
theorem bit_fin0 : ∀ lo, lo < 16 → ∀ hi, hi < 16 → lo ≤ hi → ∀ c, c < 16 → ((lo ≤ c ∧ c ≤ hi) ∨ (nI (spN lo hi) >>> (nI c &&& 31)) &&& 1 = 0) := by decide +kernel
theorem sh0_fin : ∀ v, v < 8 → (0 : Int32) <<< (nI v &&& 31) = 0 := by decide +kernel
theorem at_loop {xs hp st xf : Nat → Int32} {tr : Nat → Nat → Int32} {sp : Nat → Int32} {day z w2 : Int32} {N c : Nat} (hc : c < 16) (hw2 : ¬ w2 = 0) (hr : Row xs hp st tr sp (nI N) day z) (hok : OkP hp st tr N day) : ∀ (m n v : Nat) (a : Int32), v + m = N → m < n → ∃ r, l0_visitorsAt_4 n tr (nI N) (nI c) a (nI v) = some r ∧ l5_cell_27 n xs xf (nI c) w2 a (nI v) = some (r, xf) := by
  have hN := hok.2.2.2.2.1
  intro m
  induction m with
  | zero =>
    intro n v a hv hn
    obtain ⟨n, rfl⟩ : ∃ q, n = q + 1 := ⟨n - 1, by omega⟩
    exact ⟨a, by rw [l0_visitorsAt_4, if_pos (nI_le (by omega) (by omega))], by rw [l5_cell_27, hr.2.2.2.2.1, if_pos (nI_le (by omega) (by omega)), if_neg hw2]⟩
  | succ m ih =>
    intro n v a hv hn
    obtain ⟨n, rfl⟩ : ∃ q, n = q + 1 := ⟨n - 1, by omega⟩
    have hle : ¬ (nI N ≤ nI v) := fun q => by have := (nI_leI (by omega) (by omega)).mp q; omega
    have ho := hok.2.2.2.2.2.2 v (by omega)
    obtain ⟨lo, hi, hs⟩ := Span.ex (show v < 8 by omega) ho
    have hl := hs.1
    have hh := hs.2.1
    rw [l0_visitorsAt_4, l5_cell_27, hr.2.2.2.2.1, if_neg hle, if_neg hle, hs.2.2.1, hs.2.2.2, span5 hr (show v < 8 by omega) ho hs]
    simp only [ob1_so, j0_visitorsAt_35, nI_1]
    by_cases q : lo ≤ c ∧ c ≤ hi
    · have hw : f4_within (nI c) (nI lo) (nI hi) = 1 := by rw [in4, if_pos ⟨nI_le q.1 (by omega), nI_le q.2 (by omega)⟩]
      rw [hw, if_neg (by decide), (bit_fin lo (by omega) hi hh hl c hc).mpr q]
      exact ih n (v + 1) _ (by omega) (by omega)
    · have hw : f4_within (nI c) (nI lo) (nI hi) = 0 := by rw [in4, if_neg (fun h => q ⟨(nI_leI (by omega) (by omega)).mp h.1, (nI_leI (by omega) (by omega)).mp h.2⟩)]
      rw [hw, if_pos rfl, (bit_fin0 lo (by omega) hi hh hl c hc).resolve_left q, sh0_fin v (by omega), or_zero]
      exact ih n (v + 1) _ (by omega) (by omega)
theorem at_loop0 {xs hp st xf : Nat → Int32} {tr : Nat → Nat → Int32} {sp : Nat → Int32} {day z : Int32} {N c : Nat} (hc : c < 16) (hr : Row xs hp st tr sp (nI N) day z) (hok : OkP hp st tr N day) : ∀ (m n v : Nat) (a : Int32), v + m = N → m < n → l5_cell_27 n xs xf (nI c) 0 a (nI v) = some (hp c, xf) := by
  have hN := hok.2.2.2.2.1
  intro m
  induction m with
  | zero =>
    intro n v a hv hn
    obtain ⟨n, rfl⟩ : ∃ q, n = q + 1 := ⟨n - 1, by omega⟩
    rw [l5_cell_27, hr.2.2.2.2.1, if_pos (nI_le (by omega) (by omega)), if_pos rfl, li 6, nI_add, inb_y (show 88 < 2 ^ 31 by decide) (show 6 + c < 88 by omega), gd_t, nI_clamp (by omega), hr.1 c hc]
  | succ m ih =>
    intro n v a hv hn
    obtain ⟨n, rfl⟩ : ∃ q, n = q + 1 := ⟨n - 1, by omega⟩
    have hle : ¬ (nI N ≤ nI v) := fun q => by have := (nI_leI (by omega) (by omega)).mp q; omega
    have ho := hok.2.2.2.2.2.2 v (by omega)
    obtain ⟨lo, hi, hs⟩ := Span.ex (show v < 8 by omega) ho
    rw [l5_cell_27, hr.2.2.2.2.1, if_neg hle, span5 hr (show v < 8 by omega) ho hs]
    simp only [ob1_so, nI_1]
    exact ih n (v + 1) _ (by omega) (by omega)
