/-! the calls, seventh group: searches by trials -/
theorem try_ok {xs ov : Nat → Int32} {hp1 st1 : Nat → Int32} {tr1 : Nat → Nat → Int32} {sp1 : Nat → Int32} {vis1 day1 z1 : Int32} (hP : PitOK xs hp1 st1 tr1 sp1 vis1 day1 z1) (hp3 st3 : Nat → Int32) (tr3 : Nat → Nat → Int32) (sp3 : Nat → Int32) (vis3 day3 z3 : Int32) (xa : Nat → Int32) {v t x d N : Nat} (eN : vis1 = nI N) (hN8 : N ≤ 8) (hv : v < N) (ht : t < 7) (hx : (kTL t).toInt ≤ x ∧ (x : Int) ≤ (kTM t).toInt) (hd : d < 1000) : ∃ hp4 st4 tr4 day4 xa' xs1 xs4 ov4, f4_tryTrait hp1 st1 tr1 sp1 vis1 day1 z1 hp3 st3 tr3 sp3 vis3 day3 z3 (nI v) (nI t) (nI x) (nI d) = some (hp4, st4, tr4, sp1, vis1, day4, z1) ∧ f5_setsAside xs xa = some xa' ∧ f5_puts xs (nI v) (nI t) (nI x) = some xs1 ∧ f5_goes xs1 0 ov (nI d) = some (xs4, ov4) ∧ Row xs4 hp4 st4 tr4 sp1 (nI N) day4 z1 ∧ OkP hp4 st4 tr4 N day4 ∧ ∀ ys, ∃ ys', f5_laysBack ys xa' = some ys' ∧ PitOK ys' hp1 st1 tr1 sp1 vis1 day1 z1 := by
  obtain ⟨tr', xa', q1, q2, q3, q4⟩ := trial hP hp3 st3 tr3 sp3 vis3 day3 z3 xa
  obtain ⟨N', e', h2, h3, h4⟩ := q3
  have hN := h3.2.2.2.2.1
  have : N' = N := (nI_eq (by omega) (by omega)).mp (e'.symm.trans eN)
  subst this
  have r2 := h2.tr ht (show v < 8 by omega) (nI x)
  have r3 : OkP hp1 st1 (upd2 tr' t v (nI x)) N' day1 := ⟨h3.1, h3.2.1, h3.2.2.1, h3.2.2.2.1, hN, h3.2.2.2.2.2.1, fun u hu => (h3.2.2.2.2.2.2 u hu).put ht hx⟩
  obtain ⟨hp4, st4, tr4, day4, xs4, ov4, a1, a2, a3, a4⟩ := days_ok (g := 0) (ov := ov) hd r2 r3
  refine ⟨hp4, st4, tr4, day4, xa', upd xs (22 + 7 * v + t) (nI x), xs4, ov4, ?_, q2, p5 xs (nI x) (show v < 8 by omega) ht, a2, a3, a4, q4⟩
  unfold f4_tryTrait
  rw [q1]
  simp only [ob7]
  rw [inb_y (show 7 < 2 ^ 31 by decide) ht, gd_t, inb_y (show 8 < 2 ^ 31 by decide) (show v < 8 by omega), gd_t, nI_clamp (show t < 2 ^ 31 by omega), nI_clamp (show v < 2 ^ 31 by omega), e', a1]
  rfl
theorem long_loop {hp1 st1 : Nat → Int32} {tr1 : Nat → Nat → Int32} {sp1 : Nat → Int32} {vis1 day1 z1 : Int32} {v t d N b : Nat} (eN : vis1 = nI N) (hN8 : N ≤ 8) (hv : v < N) (ht : t < 7) (hL : kTL t = nI 0) (hM : kTM t = nI b) (hb : b < 100) (hd : d < 1000) : ∀ (m n x : Nat) (xs xa ov : Nat → Int32) (hp3 st3 : Nat → Int32) (tr3 : Nat → Nat → Int32) (sp3 : Nat → Int32) (vis3 day3 z3 : Int32) (best bl : Int32), x + m = b + 1 → m < n → PitOK xs hp1 st1 tr1 sp1 vis1 day1 z1 → ∃ r hp4 st4 tr4 sp4 vis4 day4 z4 xs' xa' ov', l4_forLongestRoad_17 n hp1 st1 tr1 sp1 vis1 day1 z1 hp3 st3 tr3 sp3 vis3 day3 z3 (nI v) (nI t) (nI d) best bl (nI x) = some (r, hp4, st4, tr4, sp4, vis4, day4, z4) ∧ l5_longestBy_9 n xs xa 0 ov (nI v) (nI t) (nI d) best bl (nI x) = some (r, xs', xa', ov') ∧ PitOK xs' hp1 st1 tr1 sp1 vis1 day1 z1 := by
  intro m
  induction m with
  | zero =>
    intro n x xs xa ov hp3 st3 tr3 sp3 vis3 day3 z3 best bl hx hn hP
    obtain ⟨n, rfl⟩ : ∃ q, n = q + 1 := ⟨n - 1, by omega⟩
    have hlt : nI b < nI x := Int32.not_le.mp (nI_ge (by omega) (by omega))
    rw [l4_forLongestRoad_17, l5_longestBy_9, inb_y (show 7 < 2 ^ 31 by decide) ht, gd_t, nI_clamp (show t < 2 ^ 31 by omega), (lm_fin t ht).2, hM, if_pos hlt, if_pos hlt]
    exact ⟨_, _, _, _, _, _, _, _, _, _, _, rfl, rfl, hP⟩
  | succ m ih =>
    intro n x xs xa ov hp3 st3 tr3 sp3 vis3 day3 z3 best bl hx hn hP
    obtain ⟨n, rfl⟩ : ∃ q, n = q + 1 := ⟨n - 1, by omega⟩
    have hlt : ¬ nI b < nI x := Int32.not_lt.mpr (nI_le (by omega) (by omega))
    obtain ⟨hp4, st4, tr4, day4, xa', xs1, xs4, ov4, a1, a2, a3, a4, a5, a6, a7⟩ := try_ok (ov := ov) hP hp3 st3 tr3 sp3 vis3 day3 z3 xa (v := v) (t := t) (x := x) (d := d) eN hN8 hv ht (by rw [hL, hM, nI_toInt (by omega), nI_toInt (by omega)]; omega) hd
    obtain ⟨ys, b1, b2⟩ := a7 xs4
    obtain ⟨r, c1, c2⟩ := road_ok a5.1
    rw [l4_forLongestRoad_17, l5_longestBy_9, inb_y (show 7 < 2 ^ 31 by decide) ht, gd_t, nI_clamp (show t < 2 ^ 31 by omega), (lm_fin t ht).2, hM, if_neg hlt, if_neg hlt, a1, a2, ob1_so, a3, ob1_so]
    unfold f5_thenOf
    rw [a4, ob2_so, if_neg (show ¬ (0 : Int32) ≤ -1 by decide), c2, ob1_so, j5_thenOf_29, b1, ob1_so]
    simp only [ob7, ob3]
    rw [c1, ob1_so]
    by_cases q : r ≤ bl
    · rw [if_pos q, if_pos q, j4_forLongestRoad_60, j5_longestBy_52, if_pos q, j5_longestBy_68, nI_1]
      exact ih n (x + 1) _ _ _ _ _ _ _ _ _ _ _ _ (by omega) (by omega) b2
    · rw [if_neg q, if_neg q, j4_forLongestRoad_60, j5_longestBy_52, if_neg q, j5_longestBy_68, nI_1]
      exact ih n (x + 1) _ _ _ _ _ _ _ _ _ _ _ _ (by omega) (by omega) b2
theorem long_ok {xs xa xf fd ov : Nat → Int32} {hp1 st1 : Nat → Int32} {tr1 : Nat → Nat → Int32} {sp1 : Nat → Int32} {vis1 day1 z1 : Int32} {hp3 st3 : Nat → Int32} {tr3 : Nat → Nat → Int32} {sp3 : Nat → Int32} {vis3 day3 z3 : Int32} (hP : PitOK xs hp1 st1 tr1 sp1 vis1 day1 z1) (hF : RelF fd xf) {v t d N b : Nat} (eN : vis1 = nI N) (hN8 : N ≤ 8) (hv : v < N) (ht : t < 7) (hL : kTL t = nI 0) (hM : kTM t = nI b) (hb : b < 100) (hd : d < 1000) : TR (ob8 (f4_forLongestRoad hp1 st1 tr1 sp1 vis1 day1 z1 hp3 st3 tr3 sp3 vis3 day3 z3 (nI v) (nI t) (nI d)) (fun r hp st tr sp vis day z => some (r, hp, st, tr, sp, vis, day, z, fd))) (ob4 (f5_longestBy xs xa 0 ov (nI v) (nI t) (nI d)) (fun r xs xa ov => some (r, xs, xa, xf, ov))) hp1 st1 tr1 sp1 vis1 day1 z1 := by
  obtain ⟨r, hp4, st4, tr4, sp4, vis4, day4, z4, xs4, xa4, ov4, e1, e2, e3⟩ := long_loop eN hN8 hv ht hL hM hb hd (b + 1) 1000 0 xs xa ov hp3 st3 tr3 sp3 vis3 day3 z3 0 (-1) (by omega) (by omega) hP
  unfold f4_forLongestRoad f5_longestBy
  rw [inb_y (show 7 < 2 ^ 31 by decide) ht, gd_t, gd_t, nI_clamp (show t < 2 ^ 31 by omega), hL, show l5_longestBy_9 1000 xs xa 0 ov (nI v) (nI t) (nI d) 0 (-1) 0 = _ from e2, show l4_forLongestRoad_17 1000 hp1 st1 tr1 sp1 vis1 day1 z1 hp3 st3 tr3 sp3 vis3 day3 z3 (nI v) (nI t) (nI d) (nI 0) (-1) (nI 0) = _ from e1]
  exact ⟨_, _, _, _, _, _, _, _, _, _, _, _, _, rfl, rfl, e3, hF⟩
theorem soonW (v : Int32) : f5_isSoon v = f4_within v 0 40 := by unfold f5_isSoon; rw [in54]
theorem op_fromFor {xs xa xf fd ov : Nat → Int32} {hp1 st1 : Nat → Int32} {tr1 : Nat → Nat → Int32} {sp1 : Nat → Int32} {vis1 day1 z1 : Int32} {hp3 st3 : Nat → Int32} {tr3 : Nat → Nat → Int32} {sp3 : Nat → Int32} {vis3 day3 z3 : Int32} (hP : PitOK xs hp1 st1 tr1 sp1 vis1 day1 z1) (hF : RelF fd xf) (v1 v2 : Int32) : TR (f4_fromFor hp1 st1 tr1 sp1 vis1 day1 z1 hp3 st3 tr3 sp3 vis3 day3 z3 fd v1 v2) (f5_fromFor xs xa xf 0 ov v1 v2) hp1 st1 tr1 sp1 vis1 day1 z1 := by
  have bad : TR (j4_fromFor_18 hp1 st1 tr1 sp1 vis1 day1 z1 hp3 st3 tr3 sp3 vis3 day3 z3 fd) (j5_fromFor_25 xs xa xf 0 ov) hp1 st1 tr1 sp1 vis1 day1 z1 := TR.no hP hF (k := 0) (by decide)
  obtain ⟨N, eN, h2, h3, h4⟩ := id hP
  have hN := h3.2.2.2.2.1
  unfold f4_fromFor f5_fromFor
  rcases visC h2.2.2.2.2.1 hN v1 with ⟨q1, q2⟩ | ⟨v, rfl, hv, q1, q2⟩
  · rw [← eN] at q1; rw [if_pos q1, if_pos q2]; exact bad
  rw [← eN] at q1
  rw [if_neg (fun p => ne10 (q1.symm.trans p)), if_neg (fun p => ne10 (q2.symm.trans p)), soonW]
  rcases inC v2 (a := 0) (b := 40) (by decide) (by decide) with h | ⟨d, rfl, -, hd, h⟩
  · simp only [show f4_within v2 0 40 = 0 from h, i0, reduceIte]; exact bad
  simp only [show f4_within (nI d) 0 40 = 1 from h, i1, reduceIte]
  exact long_ok hP hF eN hN hv (t := 1) (b := 15) (by decide) rfl rfl (by decide) (by omega)
theorem op_kindFor {xs xa xf fd ov : Nat → Int32} {hp1 st1 : Nat → Int32} {tr1 : Nat → Nat → Int32} {sp1 : Nat → Int32} {vis1 day1 z1 : Int32} {hp3 st3 : Nat → Int32} {tr3 : Nat → Nat → Int32} {sp3 : Nat → Int32} {vis3 day3 z3 : Int32} (hP : PitOK xs hp1 st1 tr1 sp1 vis1 day1 z1) (hF : RelF fd xf) (v1 v2 : Int32) : TR (f4_kindFor hp1 st1 tr1 sp1 vis1 day1 z1 hp3 st3 tr3 sp3 vis3 day3 z3 fd v1 v2) (f5_kindFor xs xa xf 0 ov v1 v2) hp1 st1 tr1 sp1 vis1 day1 z1 := by
  have bad : TR (j4_kindFor_18 hp1 st1 tr1 sp1 vis1 day1 z1 hp3 st3 tr3 sp3 vis3 day3 z3 fd) (j5_kindFor_25 xs xa xf 0 ov) hp1 st1 tr1 sp1 vis1 day1 z1 := TR.no hP hF (k := 0) (by decide)
  obtain ⟨N, eN, h2, h3, h4⟩ := id hP
  have hN := h3.2.2.2.2.1
  unfold f4_kindFor f5_kindFor
  rcases visC h2.2.2.2.2.1 hN v1 with ⟨q1, q2⟩ | ⟨v, rfl, hv, q1, q2⟩
  · rw [← eN] at q1; rw [if_pos q1, if_pos q2]; exact bad
  rw [← eN] at q1
  rw [if_neg (fun p => ne10 (q1.symm.trans p)), if_neg (fun p => ne10 (q2.symm.trans p)), soonW]
  rcases inC v2 (a := 0) (b := 40) (by decide) (by decide) with h | ⟨d, rfl, -, hd, h⟩
  · simp only [show f4_within v2 0 40 = 0 from h, i0, reduceIte]; exact bad
  simp only [show f4_within (nI d) 0 40 = 1 from h, i1, reduceIte]
  exact long_ok hP hF eN hN hv (t := 0) (b := 6) (by decide) rfl rfl (by decide) (by omega)
theorem low0 {x : Nat} (hx : x < 1000) : (nI x ≤ 0 ↔ x = 0) ∧ (nI x < 1 ↔ x = 0) := by
  rw [show (0 : Int32) = nI 0 from rfl, show (1 : Int32) = nI 1 from rfl, nI_leI (by omega) (by omega), ← Int32.not_le, nI_leI (by omega) (by omega)]
  omega
theorem dec1 {x : Nat} (hx : 0 < x) : nI x + -1 = nI (x - 1) := by rw [← Int32.sub_eq_add_neg]; exact nsub1 hx
theorem wide_loop {xf fd : Nat → Int32} {hp1 st1 : Nat → Int32} {tr1 : Nat → Nat → Int32} {sp1 : Nat → Int32} {vis1 day1 z1 : Int32} {v d N : Nat} {w : Int32} (hF : RelF fd xf) (eN : vis1 = nI N) (hN8 : N ≤ 8) (hv : v < N) (hd : d < 1000) : ∀ (x n : Nat) (xs xa ov : Nat → Int32) (hp3 st3 : Nat → Int32) (tr3 : Nat → Nat → Int32) (sp3 : Nat → Int32) (vis3 day3 z3 : Int32), x ≤ 8 → x < n → PitOK xs hp1 st1 tr1 sp1 vis1 day1 z1 → TR (l4_wideFor_45 n hp1 st1 tr1 sp1 vis1 day1 z1 hp3 st3 tr3 sp3 vis3 day3 z3 fd (nI v) w (nI d) (nI x)) (l5_wideFor_36 n xs xa xf 0 ov (nI v) w (nI d) (nI x)) hp1 st1 tr1 sp1 vis1 day1 z1 := by
  intro x
  induction x with
  | zero =>
    intro n xs xa ov hp3 st3 tr3 sp3 vis3 day3 z3 hx hn hP
    obtain ⟨n, rfl⟩ : ∃ q, n = q + 1 := ⟨n - 1, by omega⟩
    rw [l4_wideFor_45, l5_wideFor_36, if_pos (show nI 0 < kTL 2 from (low0 (by decide)).2.mpr rfl), if_pos ((low0 (by decide)).1.mpr rfl)]
    exact TR.no hP hF (k := 3) (by decide)
  | succ x ih =>
    intro n xs xa ov hp3 st3 tr3 sp3 vis3 day3 z3 hx hn hP
    obtain ⟨n, rfl⟩ : ∃ q, n = q + 1 := ⟨n - 1, by omega⟩
    obtain ⟨hp4, st4, tr4, day4, xa', xs1, xs4, ov4, a1, a2, a3, a4, a5, a6, a7⟩ := try_ok (ov := ov) hP hp3 st3 tr3 sp3 vis3 day3 z3 xa (v := v) (t := 2) (x := x + 1) (d := d) eN hN8 hv (by decide) (by rw [show kTL 2 = nI 1 from rfl, show kTM 2 = nI 8 from rfl, nI_toInt (by omega), nI_toInt (by omega)]; omega) hd
    obtain ⟨ys, b1, b2⟩ := a7 xs4
    have a5' := a5.2.2.1 6 v (by decide) (by omega)
    rw [l4_wideFor_45, l5_wideFor_36, if_neg (show ¬ nI (x + 1) < kTL 2 from fun q => absurd ((low0 (by omega)).2.mp q) (by omega)), if_neg (fun q => absurd ((low0 (by omega)).1.mp q) (by omega)), show f4_tryTrait hp1 st1 tr1 sp1 vis1 day1 z1 hp3 st3 tr3 sp3 vis3 day3 z3 (nI v) 2 (nI (x + 1)) (nI d) = _ from a1, a2, ob1_so, show f5_puts xs (nI v) 2 (nI (x + 1)) = _ from a3, ob1_so, a4, ob2_so, li 6, g5 xs4 (show v < 8 by omega) (by decide), ob1_so, a5']
    simp only [ob7]
    rw [inb_y (show 8 < 2 ^ 31 by decide) (show v < 8 by omega), gd_t, nI_clamp (show v < 2 ^ 31 by omega), dec1 (by omega)]
    simp only [j5_wideFor_74, b1, ob1_so, i0, i1]
    by_cases q : tr4 6 v < w
    · simp only [if_pos q, dec1 (show 0 < x + 1 by omega)]
      exact ih n _ _ _ _ _ _ _ _ _ _ (by omega) (by omega) b2
    · simp only [if_neg q]
      exact ⟨_, _, _, _, _, _, _, _, _, _, _, _, _, rfl, rfl, b2, hF⟩
theorem op_wideFor {xs xa xf fd ov : Nat → Int32} {hp1 st1 : Nat → Int32} {tr1 : Nat → Nat → Int32} {sp1 : Nat → Int32} {vis1 day1 z1 : Int32} {hp3 st3 : Nat → Int32} {tr3 : Nat → Nat → Int32} {sp3 : Nat → Int32} {vis3 day3 z3 : Int32} (hP : PitOK xs hp1 st1 tr1 sp1 vis1 day1 z1) (hF : RelF fd xf) (v1 v2 v3 : Int32) : TR (f4_wideFor hp1 st1 tr1 sp1 vis1 day1 z1 hp3 st3 tr3 sp3 vis3 day3 z3 fd v1 v2 v3) (f5_wideFor xs xa xf 0 ov v1 v2 v3) hp1 st1 tr1 sp1 vis1 day1 z1 := by
  have bad : TR (j4_wideFor_32 hp1 st1 tr1 sp1 vis1 day1 z1 hp3 st3 tr3 sp3 vis3 day3 z3 fd) (j5_wideFor_26 xs xa xf 0 ov) hp1 st1 tr1 sp1 vis1 day1 z1 := TR.no hP hF (k := 0) (by decide)
  obtain ⟨N, eN, h2, h3, h4⟩ := id hP
  have hN := h3.2.2.2.2.1
  unfold f4_wideFor f5_wideFor
  rcases visC h2.2.2.2.2.1 hN v1 with ⟨q1, q2⟩ | ⟨v, rfl, hv, q1, q2⟩
  · rw [← eN] at q1; rw [if_pos q1, if_pos q2]; exact bad
  rw [← eN] at q1
  rw [if_neg (fun p => ne10 (q1.symm.trans p)), if_neg (fun p => ne10 (q2.symm.trans p)), soonW, in54, show kTM 6 = 9999 from rfl]
  by_cases h : f4_within v2 0 9999 = 0
  · rw [if_pos h, if_pos h]; exact bad
  rw [if_neg h, if_neg h]
  rcases inC v3 (a := 0) (b := 40) (by decide) (by decide) with h | ⟨d, rfl, -, hd, h⟩
  · simp only [show f4_within v3 0 40 = 0 from h, i0, reduceIte]; exact bad
  simp only [show f4_within (nI d) 0 40 = 1 from h, i1, reduceIte]
  exact wide_loop hF eN hN hv (by omega) 8 1000 xs xa ov hp3 st3 tr3 sp3 vis3 day3 z3 (by omega) (by omega) hP
theorem each_loop {xf fd : Nat → Int32} {hp1 st1 : Nat → Int32} {tr1 : Nat → Nat → Int32} {sp1 : Nat → Int32} {vis1 day1 z1 : Int32} {v d N : Nat} (hF : RelF fd xf) (eN : vis1 = nI N) (hN8 : N ≤ 8) (hv : v < N) (hd : d < 1000) : ∀ (x n : Nat) (xs xa ov : Nat → Int32) (hp3 st3 : Nat → Int32) (tr3 : Nat → Nat → Int32) (sp3 : Nat → Int32) (vis3 day3 z3 : Int32), x ≤ 9 → x < n → PitOK xs hp1 st1 tr1 sp1 vis1 day1 z1 → TR (l4_eachFor_30 n hp1 st1 tr1 sp1 vis1 day1 z1 hp3 st3 tr3 sp3 vis3 day3 z3 fd (nI v) (nI d) (nI x)) (l5_eachFor_24 n xs xa xf 0 ov (nI v) (nI d) (nI x)) hp1 st1 tr1 sp1 vis1 day1 z1 := by
  intro x
  induction x with
  | zero =>
    intro n xs xa ov hp3 st3 tr3 sp3 vis3 day3 z3 hx hn hP
    obtain ⟨n, rfl⟩ : ∃ q, n = q + 1 := ⟨n - 1, by omega⟩
    rw [l4_eachFor_30, l5_eachFor_24, if_pos (show nI 0 < kTL 4 from (low0 (by decide)).2.mpr rfl), if_pos ((low0 (by decide)).1.mpr rfl)]
    exact TR.no hP hF (k := 3) (by decide)
  | succ x ih =>
    intro n xs xa ov hp3 st3 tr3 sp3 vis3 day3 z3 hx hn hP
    obtain ⟨n, rfl⟩ : ∃ q, n = q + 1 := ⟨n - 1, by omega⟩
    obtain ⟨hp4, st4, tr4, day4, xa', xs1, xs4, ov4, a1, a2, a3, a4, a5, a6, a7⟩ := try_ok (ov := ov) hP hp3 st3 tr3 sp3 vis3 day3 z3 xa (v := v) (t := 4) (x := x + 1) (d := d) eN hN8 hv (by decide) (by rw [show kTL 4 = nI 1 from rfl, show kTM 4 = nI 9 from rfl, nI_toInt (by omega), nI_toInt (by omega)]; omega) hd
    obtain ⟨ys, b1, b2⟩ := a7 xs4
    obtain ⟨b, s0, s5⟩ := stands_ok a5 (show v < 8 by omega) (a6.2.2.2.2.2.2 v hv) a6.2.2.2.1
    rw [l4_eachFor_30, l5_eachFor_24, if_neg (show ¬ nI (x + 1) < kTL 4 from fun q => absurd ((low0 (by omega)).2.mp q) (by omega)), if_neg (fun q => absurd ((low0 (by omega)).1.mp q) (by omega)), show f4_tryTrait hp1 st1 tr1 sp1 vis1 day1 z1 hp3 st3 tr3 sp3 vis3 day3 z3 (nI v) 4 (nI (x + 1)) (nI d) = _ from a1, a2, ob1_so, show f5_puts xs (nI v) 4 (nI (x + 1)) = _ from a3, ob1_so]
    unfold f5_thenOf
    rw [a4, ob2_so, if_pos (show (0 : Int32) ≤ nI v from nI_pos' (by omega)), s5, ob1_so]
    simp only [ob7, s0, ob1_so, j5_thenOf_29, b1, dec1 (show 0 < x + 1 by omega)]
    cases b with
    | false =>
      simp only [bi_f, if_true, ob3, if_neg (show ¬ (0 : Int32) = 1 by decide)]
      exact ih n _ _ _ _ _ _ _ _ _ _ (by omega) (by omega) b2
    | true =>
      simp only [bi_t, i1, if_true, ob3]
      exact ⟨_, _, _, _, _, _, _, _, _, _, _, _, _, rfl, rfl, b2, hF⟩
theorem op_eachFor {xs xa xf fd ov : Nat → Int32} {hp1 st1 : Nat → Int32} {tr1 : Nat → Nat → Int32} {sp1 : Nat → Int32} {vis1 day1 z1 : Int32} {hp3 st3 : Nat → Int32} {tr3 : Nat → Nat → Int32} {sp3 : Nat → Int32} {vis3 day3 z3 : Int32} (hP : PitOK xs hp1 st1 tr1 sp1 vis1 day1 z1) (hF : RelF fd xf) (v1 v2 : Int32) : TR (f4_eachFor hp1 st1 tr1 sp1 vis1 day1 z1 hp3 st3 tr3 sp3 vis3 day3 z3 fd v1 v2) (f5_eachFor xs xa xf 0 ov v1 v2) hp1 st1 tr1 sp1 vis1 day1 z1 := by
  have bad : TR (j4_eachFor_18 hp1 st1 tr1 sp1 vis1 day1 z1 hp3 st3 tr3 sp3 vis3 day3 z3 fd) (j5_eachFor_15 xs xa xf 0 ov) hp1 st1 tr1 sp1 vis1 day1 z1 := TR.no hP hF (k := 0) (by decide)
  obtain ⟨N, eN, h2, h3, h4⟩ := id hP
  have hN := h3.2.2.2.2.1
  unfold f4_eachFor f5_eachFor
  rcases visC h2.2.2.2.2.1 hN v1 with ⟨q1, q2⟩ | ⟨v, rfl, hv, q1, q2⟩
  · rw [← eN] at q1; rw [if_pos q1, if_pos q2]; exact bad
  rw [← eN] at q1
  rw [if_neg (fun p => ne10 (q1.symm.trans p)), if_neg (fun p => ne10 (q2.symm.trans p)), soonW]
  rcases inC v2 (a := 0) (b := 40) (by decide) (by decide) with h | ⟨d, rfl, -, hd, h⟩
  · simp only [show f4_within v2 0 40 = 0 from h, i0, reduceIte]; exact bad
  simp only [show f4_within (nI d) 0 40 = 1 from h, i1, reduceIte]
  exact each_loop hF eN hN hv (by omega) 9 1000 xs xa ov hp3 st3 tr3 sp3 vis3 day3 z3 (by omega) (by omega) hP
theorem wind_loop {xf fd : Nat → Int32} {hp1 st1 : Nat → Int32} {tr1 : Nat → Nat → Int32} {sp1 : Nat → Int32} {vis1 day1 z1 : Int32} {v d N : Nat} (hF : RelF fd xf) (eN : vis1 = nI N) (hN8 : N ≤ 8) (hv : v < N) (hd : d < 1000) : ∀ (x n : Nat) (xs xa ov : Nat → Int32) (hp3 st3 : Nat → Int32) (tr3 : Nat → Nat → Int32) (sp3 : Nat → Int32) (vis3 day3 z3 : Int32), x ≤ 6 → x < n → PitOK xs hp1 st1 tr1 sp1 vis1 day1 z1 → TR (l4_windFor_30 n hp1 st1 tr1 sp1 vis1 day1 z1 hp3 st3 tr3 sp3 vis3 day3 z3 fd (nI v) (nI d) (nI x - 1)) (l5_windFor_23 n xs xa xf 0 ov (nI v) (nI d) (nI x - 1)) hp1 st1 tr1 sp1 vis1 day1 z1 := by
  intro x
  induction x with
  | zero =>
    intro n xs xa ov hp3 st3 tr3 sp3 vis3 day3 z3 hx hn hP
    obtain ⟨n, rfl⟩ : ∃ q, n = q + 1 := ⟨n - 1, by omega⟩
    rw [l4_windFor_30, l5_windFor_23, if_pos (by decide), if_pos (by decide)]
    exact TR.no hP hF (k := 3) (by decide)
  | succ x ih =>
    intro n xs xa ov hp3 st3 tr3 sp3 vis3 day3 z3 hx hn hP
    obtain ⟨n, rfl⟩ : ∃ q, n = q + 1 := ⟨n - 1, by omega⟩
    have ex : nI (x + 1) - 1 = nI x := by rw [nsub1 (by omega)]; rfl
    have e' : nI x + -1 = nI x - 1 := (Int32.sub_eq_add_neg _ _).symm
    obtain ⟨tr', xa', q1, q2, q3, q4⟩ := trial hP hp3 st3 tr3 sp3 vis3 day3 z3 xa
    obtain ⟨N', eN', h2, h3, h4⟩ := q3
    have : N' = N := (nI_eq (by have := h3.2.2.2.2.1; omega) (by omega)).mp (eN'.symm.trans eN)
    subst this
    have r2 := h2.st (c := 1) (by decide) (nI x)
    have r3 : OkP hp1 (upd st1 1 (nI x)) tr' N' day1 := ⟨h3.1, by rw [upd_n (by decide)]; exact h3.2.1, by rw [upd_s]; exact Bt.of (by omega) (by omega) (by omega), by rw [upd_n (by decide)]; exact h3.2.2.2.1, h3.2.2.2.2⟩
    obtain ⟨hp4, st4, tr4, day4, xs4, ov4, a1, a2, a3, a4⟩ := days_ok (g := 0) (ov := ov) hd r2 r3
    obtain ⟨ys, b1, b2⟩ := q4 xs4
    obtain ⟨b, s0, s5⟩ := stands_ok a3 (show v < 8 by omega) (a4.2.2.2.2.2.2 v hv) a4.2.2.2.1
    rw [ex, l4_windFor_30, l5_windFor_23, if_neg (nI_pos (by omega)), if_neg (nI_pos (by omega)), q1, q2, ob1_so]
    unfold f5_thenOf
    rw [show f5_goes (upd xs 4 (nI x)) 0 ov (nI d) = _ from a2, ob2_so, if_pos (show (0 : Int32) ≤ nI v from nI_pos' (by omega)), s5, ob1_so, e']
    simp only [ob7]
    rw [eN', a1]
    simp only [ob4_so', s0, ob1_so, j5_thenOf_29, b1]
    cases b with
    | false =>
      simp only [bi_f, if_true, ob3, if_neg (show ¬ (0 : Int32) = 1 by decide)]
      rw [← eN']
      exact ih n _ _ _ _ _ _ _ _ _ _ (by omega) (by omega) b2
    | true =>
      simp only [bi_t, i1, if_true, ob3]
      rw [← eN']
      exact ⟨_, _, _, _, _, _, _, _, _, _, _, _, _, rfl, rfl, b2, hF⟩
theorem op_windFor {xs xa xf fd ov : Nat → Int32} {hp1 st1 : Nat → Int32} {tr1 : Nat → Nat → Int32} {sp1 : Nat → Int32} {vis1 day1 z1 : Int32} {hp3 st3 : Nat → Int32} {tr3 : Nat → Nat → Int32} {sp3 : Nat → Int32} {vis3 day3 z3 : Int32} (hP : PitOK xs hp1 st1 tr1 sp1 vis1 day1 z1) (hF : RelF fd xf) (v1 v2 : Int32) : TR (f4_windFor hp1 st1 tr1 sp1 vis1 day1 z1 hp3 st3 tr3 sp3 vis3 day3 z3 fd v1 v2) (f5_windFor xs xa xf 0 ov v1 v2) hp1 st1 tr1 sp1 vis1 day1 z1 := by
  have bad : TR (j4_windFor_18 hp1 st1 tr1 sp1 vis1 day1 z1 hp3 st3 tr3 sp3 vis3 day3 z3 fd) (j5_windFor_15 xs xa xf 0 ov) hp1 st1 tr1 sp1 vis1 day1 z1 := TR.no hP hF (k := 0) (by decide)
  obtain ⟨N, eN, h2, h3, h4⟩ := id hP
  have hN := h3.2.2.2.2.1
  unfold f4_windFor f5_windFor
  rcases visC h2.2.2.2.2.1 hN v1 with ⟨q1, q2⟩ | ⟨v, rfl, hv, q1, q2⟩
  · rw [← eN] at q1; rw [if_pos q1, if_pos q2]; exact bad
  rw [← eN] at q1
  rw [if_neg (fun p => ne10 (q1.symm.trans p)), if_neg (fun p => ne10 (q2.symm.trans p)), soonW]
  rcases inC v2 (a := 0) (b := 40) (by decide) (by decide) with h | ⟨d, rfl, -, hd, h⟩
  · simp only [show f4_within v2 0 40 = 0 from h, i0, reduceIte]; exact bad
  simp only [show f4_within (nI d) 0 40 = 1 from h, i1, reduceIte]
  exact wind_loop hF eN hN hv (by omega) 6 1000 xs xa ov hp3 st3 tr3 sp3 vis3 day3 z3 (by omega) (by omega) hP
