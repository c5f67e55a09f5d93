/-! the calls, ninth group: comings, odds -/
theorem nI_self (x : Int32) : x = nI x.toBitVec.toNat := by
  rw [← Int32.toBitVec_inj]
  unfold nI
  rw [Int32.toBitVec_ofNat']
  simp
theorem drawn (z : Int32) : ∃ n, n < 2 ^ 24 ∧ (z.toUInt32 >>> ((8 : Int32).toUInt32 &&& Int32.toUInt32 31)).toInt32 = nI n := by
  refine ⟨z.toBitVec.toNat / 2 ^ 8, ?_, ?_⟩
  · have := z.toBitVec.isLt
    omega
  · rw [← pk_ushr z 8 8 (by decide)]
    exact nI_self _
theorem day1_ok {xs hp st ov : Nat → Int32} {tr : Nat → Nat → Int32} {sp : Nat → Int32} {day z g : Int32} {N : Nat} (hr : Row xs hp st tr sp (nI N) day z) (hok : OkP hp st tr N day) : ∃ hp' st' tr' day' xs' ov', f0_passDays hp st tr (nI N) day 1 g = some (hp', st', tr', day') ∧ f5_day xs g ov = some (xs', ov') ∧ Row xs' hp' st' tr' sp (nI N) day' z ∧ OkP hp' st' tr' N day' := by
  obtain ⟨hp4, st4, tr4, day4, xs4, ov4, a1, a2, a3, a4⟩ := days_ok (d := 1) (g := g) (ov := ov) (by decide) hr hok
  refine ⟨hp4, st4, tr4, day4, xs4, ov4, a1, ?_, a3, a4⟩
  obtain ⟨hq, sq, tq, dq, xq, oq, -, c2, -, -⟩ := day_ok (g := g) (v1 := 0) (v3 := 0) (ov := ov) (l0_passDays_2 1) hr hok
  unfold f5_goes at a2
  rw [l5_goes_2, if_neg (by decide), c2, ob2_so, l5_goes_2, if_pos (by decide)] at a2
  rw [c2]; exact a2
theorem com_loop {xf fd sp : Nat → Int32} {d N : Nat} (hd : d ≤ 20) : ∀ (m n i : Nat) (xs hp st ov : Nat → Int32) (tr : Nat → Nat → Int32) (day z : Int32), i + m = d → m < n → Row xs hp st tr sp (nI N) day z → OkP hp st tr N day → ∃ r hp' st' tr' day' z' xs' ov', l4_comings_38 n hp st tr (nI N) day z fd (nI d) (nI i) = some (r, hp', st', tr', day', z', fd) ∧ l5_comings_37 n xs xf 0 ov (nI d) (nI i) = some (r, xs', xf, ov') ∧ Row xs' hp' st' tr' sp (nI N) day' z' ∧ OkP hp' st' tr' N day' := by
  intro m
  induction m with
  | zero =>
    intro n i xs hp st ov tr day z hi hn hr hok
    obtain ⟨n, rfl⟩ : ∃ q, n = q + 1 := ⟨n - 1, by omega⟩
    obtain ⟨r, e1, e2⟩ := road_ok hr.1
    rw [l4_comings_38, l5_comings_37, if_pos (nI_le (by omega) (by omega)), if_pos (nI_le (by omega) (by omega)), e1, e2]
    exact ⟨r, hp, st, tr, day, z, xs, ov, rfl, rfl, hr, hok⟩
  | succ m ih =>
    intro n i xs hp st ov tr day z hi hn hr hok
    obtain ⟨n, rfl⟩ : ∃ q, n = q + 1 := ⟨n - 1, by omega⟩
    have hN := hok.2.2.2.2.1
    have hle : ¬ (nI d ≤ nI i) := fun q => by have := (nI_leI (by omega) (by omega)).mp q; omega
    have hz : xs 2 = z := hr.2.2.2.2.2.2
    obtain ⟨a, ha, ea⟩ := drawn (z * 1103515245 + 12345)
    obtain ⟨b, hb, eb⟩ := drawn ((z * 1103515245 + 12345) * 1103515245 + 12345)
    have r1 := (hr.z (z * 1103515245 + 12345)).z ((z * 1103515245 + 12345) * 1103515245 + 12345)
    have go : ∀ (ys hq sq : Nat → Int32) (tq : Nat → Nat → Int32), Row ys hq sq tq sp (nI N) day ((z * 1103515245 + 12345) * 1103515245 + 12345) → OkP hq sq tq N day → ∃ r hp' st' tr' day' z' xs' ov', j4_comings_96 (l4_comings_38 n) hq sq tq (nI N) day ((z * 1103515245 + 12345) * 1103515245 + 12345) fd (nI d) (nI i) = some (r, hp', st', tr', day', z', fd) ∧ j5_comings_82 (l5_comings_37 n) ys xf 0 ov (nI d) (nI i) = some (r, xs', xf, ov') ∧ Row xs' hp' st' tr' sp (nI N) day' z' ∧ OkP hp' st' tr' N day' := by
      intro ys hq sq tq h1 h2
      obtain ⟨hp4, st4, tr4, day4, xs4, ov4, a1, a2, a3, a4⟩ := day1_ok (g := 0) (ov := ov) h1 h2
      unfold j4_comings_96 j5_comings_82
      rw [a1, a2, ob4_so', ob2_so, nI_1]
      exact ih n (i + 1) _ _ _ _ _ _ _ (by omega) (by omega) a3 a4
    rw [l4_comings_38, l5_comings_37, if_neg hle, if_neg hle]
    unfold f0_draw f5_draw
    simp only [ob2_so, upd_s, hz, ea, eb]
    rw [li 8, li 16, pk_rem (show a < 2 ^ 31 by omega) (by decide) (by decide), pk_rem (show b < 2 ^ 31 by omega) (by decide) (by decide)]
    rcases visC r1.2.2.2.2.1 hN (nI (a % 8)) with ⟨q1, q2⟩ | ⟨v, ev, hv, q1, q2⟩
    · rw [if_pos q1, if_pos q2]
      exact go _ hp st tr r1 hok
    · have hkv : a % 8 = v := (nI_eq (by omega) (by omega)).mp ev
      rw [if_neg (fun p => ne10 (q1.symm.trans p)), if_neg (fun p => ne10 (q2.symm.trans p)), hkv, li 1, p5 _ _ (show v < 8 by omega) (by decide), ob1_so, inb_y (show 8 < 2 ^ 31 by decide) (show v < 8 by omega), gd_t, nI_clamp (show v < 2 ^ 31 by omega)]
      have r2 := r1.tr (t := 1) (by decide) (show v < 8 by omega) (nI (b % 16))
      have o2 : OkP hp st (upd2 tr 1 v (nI (b % 16))) N day := ⟨hok.1, hok.2.1, hok.2.2.1, hok.2.2.2.1, hN, hok.2.2.2.2.2.1, fun u hu => (hok.2.2.2.2.2.2 u hu).put (by decide) (by rw [show kTL 1 = nI 0 from rfl, show kTM 1 = nI 15 from rfl, nI_toInt (by omega), nI_toInt (by omega)]; omega)⟩
      obtain ⟨m', xs', hp', st', tr', c1, c2, c3, c4, -, -⟩ := come_ok r2 o2 hv
      rw [c1, c2, ob4_so', ob2_so]
      exact go _ hp' st' tr' c3 c4
theorem op_comings {xs hp st xf fd ov : Nat → Int32} {tr : Nat → Nat → Int32} {sp : Nat → Int32} {vis day z : Int32} (hP : PitOK xs hp st tr sp vis day z) (hF : RelF fd xf) (v1 : Int32) : ∃ r hp' st' tr' day' z' fd' xs' xf' ov', f4_comings hp st tr vis day z fd v1 = some (r, hp', st', tr', day', z', fd') ∧ f5_comings xs xf 0 ov v1 = some (r, xs', xf', ov') ∧ PitOK xs' hp' st' tr' sp vis day' z' ∧ RelF fd' xf' := by
  have no : ∀ k, k < 7 → ∃ r hp' st' tr' day' z' fd' xs' xf' ov', ob2 (f4_found fd (nI k)) (fun r fd' => some (r, hp, st, tr, day, z, fd')) = some (r, hp', st', tr', day', z', fd') ∧ ob2 (f5_no xf (nI k)) (fun r x => some (r, xs, x, ov)) = some (r, xs', xf', ov') ∧ PitOK xs' hp' st' tr' sp vis day' z' ∧ RelF fd' xf' := by
    intro k hk
    obtain ⟨r, fd', xf', n1, n2, n3⟩ := no_ok hF hk
    exact ⟨r, hp, st, tr, day, z, fd', xs, xf', ov, by rw [n1]; rfl, by rw [n2]; rfl, hP, n3⟩
  unfold f4_comings f5_comings
  rw [in54]
  rcases inC v1 (a := 1) (b := 20) (by decide) (by decide) with h | ⟨d, rfl, hd1, hd, h⟩
  · simp only [show f4_within v1 1 20 = 0 from h, i0, reduceIte]
    exact no 0 (by decide)
  simp only [show f4_within (nI d) 1 20 = 1 from h, i1, reduceIte]
  obtain ⟨N, rfl, h2, h3, h4⟩ := id hP
  rw [h2.2.2.2.2.2.1]
  by_cases hq : day + nI d ≤ 99999
  · simp only [if_pos hq]
    obtain ⟨r, hp', st', tr', day', z', xs', ov', a1, a2, a3, a4⟩ := com_loop (xf := xf) (fd := fd) (sp := sp) hd d 1000 0 xs hp st ov tr day z (by omega) (by omega) h2 h3
    exact ⟨r, hp', st', tr', day', z', fd, xs', xf, ov', a1, a2, ⟨N, rfl, a3, a4, h4⟩, hF⟩
  · simp only [if_neg hq]
    exact no 4 (by decide)
theorem cells_loop {xs hp xf : Nat → Int32} {v1 v2 : Int32} (hx : ∀ c, c < 16 → xs (6 + c) = hp c) : ∀ (m n c a : Nat), c + m = 16 → m < n → a ≤ c → ∃ r, r ≤ 16 ∧ l0_roadCells_4 n hp (nI a) (nI c) = some (nI r) ∧ l5_odds_31 n xs xf v1 v2 (nI a) (nI c) = l5_odds_75 1000 xs xf v1 v2 (nI r) 1 1 0 := by
  intro m
  induction m with
  | zero =>
    intro n c a hc hn ha
    obtain ⟨n, rfl⟩ : ∃ q, n = q + 1 := ⟨n - 1, by omega⟩
    exact ⟨a, by omega, by rw [l0_roadCells_4, li 16, if_pos (nI_le (by omega) (by omega))], by rw [l5_odds_31, li 16, if_pos (nI_le (by omega) (by omega))]⟩
  | succ m ih =>
    intro n c a hc hn ha
    obtain ⟨n, rfl⟩ : ∃ q, n = q + 1 := ⟨n - 1, by omega⟩
    have h16 : ¬ (nI 16 ≤ nI c) := fun q => by have := (nI_leI (by omega) (by omega)).mp q; omega
    rw [l0_roadCells_4, l5_odds_31, li 16, if_neg h16, if_neg h16, li 6, nI_add, inb_y (show 16 < 2 ^ 31 by decide) (show c < 16 by omega), gd_t, inb_y (show 88 < 2 ^ 31 by decide) (show 6 + c < 88 by omega), gd_t, nI_clamp (show c < 2 ^ 31 by omega), nI_clamp (show 6 + c < 2 ^ 31 by omega), hx c (by omega)]
    by_cases q : hp c < 5
    · simp only [if_pos q, j0_roadCells_23, j5_odds_58, Int32.add_zero, nI_1]; exact ih n (c + 1) a (by omega) (by omega) (by omega)
    · simp only [if_neg q, j0_roadCells_23, j5_odds_58, nI_1]; exact ih n (c + 1) (a + 1) (by omega) (by omega) (by omega)
def sec {α β γ : Type} (c : γ) (x : Option (α × β)) : Option (α × γ) := match x with
  | none => none
  | some p => some (p.1, c)
def z0 : Nat → Int32 := fun _ => 0
theorem o4_par (hp fd : Nat → Int32) (v1 v2 : Int32) : ∀ (n : Nat) (a b c : Int32), l4_odds_41 n hp fd v1 v2 a b c = sec fd (l4_odds_41 n z0 z0 v1 v2 a b c) := by
  have p : ∀ t, j4_odds_79 hp fd v1 t = sec fd (j4_odds_79 z0 z0 v1 t) := by
    intro t
    unfold j4_odds_79
    cases f4_power t v1 with
    | none => rfl
    | some x => rfl
  have q : ∀ a b, j4_odds_69 hp fd v1 v2 a b = sec fd (j4_odds_69 z0 z0 v1 v2 a b) := by
    intro a b
    unfold j4_odds_69
    by_cases h : v2 = 0
    · rw [if_pos h, if_pos h]; exact p _
    · rw [if_neg h, if_neg h]; exact p _
  intro n
  induction n with
  | zero => intro a b c; rfl
  | succ n ih =>
    intro a b c
    rw [l4_odds_41, l4_odds_41]
    by_cases h : (4 : Int32) ≤ c
    · rw [if_pos h, if_pos h]; exact q _ _
    · rw [if_neg h, if_neg h]
      by_cases g : a - a / 2 * 2 = 0
      · rw [if_pos g, if_pos g]; exact ih _ _ _
      · rw [if_neg g, if_neg g]; exact q _ _
theorem o5_par (xs xf : Nat → Int32) (v2 : Int32) (v4 v6 : Int64) : ∀ (n : Nat) (a b : Int64), l5_odds_110 n xs xf v2 v4 v6 a b = sec xf (l5_odds_110 n z0 z0 v2 v4 v6 a b) := by
  intro n
  induction n with
  | zero => intro a b; rfl
  | succ n ih =>
    intro a b
    rw [l5_odds_110, l5_odds_110]
    by_cases h : lg_cmp b 0 = 0
    · rw [if_pos h, if_pos h]
      by_cases g : v2 = 0
      · rw [if_pos g, if_pos g]; cases nzl a <;> rfl
      · rw [if_neg g, if_neg g]; cases nzl a <;> rfl
    · rw [if_neg h, if_neg h]
      cases nzl b with
      | false => rfl
      | true => exact ih _ _
theorem o6_par (xs xf : Nat → Int32) (v1 v2 v3 : Int32) : ∀ (n : Nat) (a b : Int64) (c : Int32), l5_odds_75 n xs xf v1 v2 v3 a b c = sec xf (l5_odds_75 n z0 z0 v1 v2 v3 a b c) := by
  intro n
  induction n with
  | zero => intro a b c; rfl
  | succ n ih =>
    intro a b c
    rw [l5_odds_75, l5_odds_75]
    by_cases h : v1 ≤ c
    · rw [if_pos h, if_pos h]; exact o5_par xs xf v2 a b 1000 a b
    · rw [if_neg h, if_neg h]; exact ih _ _ _
def fst? {α β : Type} (x : Option (α × β)) : Option α := match x with
  | none => none
  | some p => some p.1
theorem sec_of {α β γ : Type} {c : γ} {x : Option (α × β)} {r : α} (h : fst? x = some r) : sec c x = some (r, c) := by
  cases x with
  | none => exact nomatch (show (none : Option α) = some r from h)
  | some p => obtain ⟨rfl⟩ := Option.some.inj h; rfl
set_option maxRecDepth 1000000 in
theorem odds_fin : ∀ v1, v1 < 16 → ∀ v2, v2 < 2 → ∀ r, r < 17 → (fst? (l4_odds_41 1000 z0 z0 (nI v1) (nI v2) (nI r) 16 0) = fst? (l5_odds_75 1000 z0 z0 (nI v1) (nI v2) (nI r) 1 1 0) ∧ (fst? (l4_odds_41 1000 z0 z0 (nI v1) (nI v2) (nI r) 16 0)).isSome = true) := by decide +kernel
theorem op_odds {xs hp st xf fd : Nat → Int32} {tr : Nat → Nat → Int32} {sp : Nat → Int32} {vis day z : Int32} (hP : PitOK xs hp st tr sp vis day z) (hF : RelF fd xf) (v1 v2 : Int32) : ∃ r fd' xf', f4_odds hp fd v1 v2 = some (r, fd') ∧ f5_odds xs xf v1 v2 = some (r, xf') ∧ RelF fd' xf' := by
  obtain ⟨r, fd', xf', n1, n2, n3⟩ := no_ok hF (k := 0) (by decide)
  have bad : ∃ r fd' xf', j4_odds_19 hp fd = some (r, fd') ∧ j5_odds_19 xs xf = some (r, xf') ∧ RelF fd' xf' := by
    refine ⟨r.toInt64, fd', xf', ?_, ?_, n3⟩
    · unfold j4_odds_19; rw [li 0, n1]; rfl
    · unfold j5_odds_19; rw [li 0, n2]; rfl
  unfold f4_odds f5_odds
  rw [in54, in54]
  rcases inC v1 (a := 0) (b := 15) (by decide) (by decide) with h | ⟨c, rfl, -, hc, h⟩
  · simp only [show f4_within v1 0 15 = 0 from h, i0, reduceIte]; exact bad
  simp only [show f4_within (nI c) 0 15 = 1 from h, i1, reduceIte]
  rcases inC v2 (a := 0) (b := 1) (by decide) (by decide) with h | ⟨x, rfl, -, hx, h⟩
  · simp only [show f4_within v2 0 1 = 0 from h, i0, reduceIte]; exact bad
  simp only [show f4_within (nI x) 0 1 = 1 from h, i1, reduceIte]
  obtain ⟨N, rfl, h2, h3, h4⟩ := hP
  obtain ⟨q, hq, e1, e2⟩ := cells_loop (xf := xf) (v1 := nI c) (v2 := nI x) h2.1 16 1000 0 0 (by omega) (by omega) (by omega)
  unfold f0_roadCells
  rw [show l0_roadCells_4 1000 hp 0 0 = _ from e1, show l5_odds_31 1000 xs xf (nI c) (nI x) 0 0 = _ from e2, ob1_so, o4_par, o6_par]
  obtain ⟨f1, f2⟩ := odds_fin c (by omega) x (by omega) q (by omega)
  obtain ⟨w, ew⟩ := Option.isSome_iff_exists.mp f2
  rw [sec_of ew, sec_of (f1.symm.trans ew)]
  exact ⟨w, fd, xf, rfl, rfl, hF⟩
