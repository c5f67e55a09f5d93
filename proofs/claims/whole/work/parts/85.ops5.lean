/-! the calls, sixth group: what a trial shows -/
def TR (c : Option (Int32 × (Nat → Int32) × (Nat → Int32) × (Nat → Nat → Int32) × (Nat → Int32) × Int32 × Int32 × Int32 × (Nat → Int32))) (m : Option (Int32 × (Nat → Int32) × (Nat → Int32) × (Nat → Int32) × (Nat → Int32))) (hp1 st1 : Nat → Int32) (tr1 : Nat → Nat → Int32) (sp1 : Nat → Int32) (vis1 day1 z1 : Int32) : Prop := ∃ r hp3 st3 tr3 sp3 vis3 day3 z3 fd xs xa xf ov, c = some (r, hp3, st3, tr3, sp3, vis3, day3, z3, fd) ∧ m = some (r, xs, xa, xf, ov) ∧ PitOK xs hp1 st1 tr1 sp1 vis1 day1 z1 ∧ RelF fd xf
theorem TR.no {xs xa xf fd ov : Nat → Int32} {hp1 st1 : Nat → Int32} {tr1 : Nat → Nat → Int32} {sp1 : Nat → Int32} {vis1 day1 z1 : Int32} {hp3 st3 : Nat → Int32} {tr3 : Nat → Nat → Int32} {sp3 : Nat → Int32} {vis3 day3 z3 : Int32} (hP : PitOK xs hp1 st1 tr1 sp1 vis1 day1 z1) (hF : RelF fd xf) {k : Nat} (hk : k < 7) : TR (ob2 (f4_found fd (nI k)) (fun r fd' => some (r, hp3, st3, tr3, sp3, vis3, day3, z3, fd'))) (ob2 (f5_no xf (nI k)) (fun r x => some (r, xs, xa, x, ov))) hp1 st1 tr1 sp1 vis1 day1 z1 := by
  obtain ⟨r, fd', xf', n1, n2, n3⟩ := no_ok hF hk
  exact ⟨r, hp3, st3, tr3, sp3, vis3, day3, z3, fd', xs, xa, xf', ov, by rw [n1]; rfl, by rw [n2]; rfl, hP, n3⟩
theorem ob4_so' {α β γ δ ρ : Type} {a : α} {b : β} {c : γ} {d : δ} {k : α → β → γ → δ → Option ρ} : ob4 (some (a, b, c, d)) k = k a b c d := rfl
theorem ob5_so {α β γ δ ε ρ : Type} {a : α} {b : β} {c : γ} {d : δ} {e : ε} {k : α → β → γ → δ → ε → Option ρ} : ob5 (some (a, b, c, d, e)) k = k a b c d e := rfl
/-- a trial begins: the class's trial pit becomes the pit, the reference lays its row aside, and can lay it back -/
theorem trial {xs : Nat → Int32} {hp1 st1 : Nat → Int32} {tr1 : Nat → Nat → Int32} {sp1 : Nat → Int32} {vis1 day1 z1 : Int32} (hP : PitOK xs hp1 st1 tr1 sp1 vis1 day1 z1) (hp3 st3 : Nat → Int32) (tr3 : Nat → Nat → Int32) (sp3 : Nat → Int32) (vis3 day3 z3 : Int32) (xa : Nat → Int32) : ∃ tr' xa', f0_become hp3 st3 tr3 sp3 vis3 day3 z3 hp1 st1 tr1 sp1 vis1 day1 z1 = some (hp1, st1, tr', sp1, vis1, day1, z1) ∧ f5_setsAside xs xa = some xa' ∧ PitOK xs hp1 st1 tr' sp1 vis1 day1 z1 ∧ ∀ ys, ∃ ys', f5_laysBack ys xa' = some ys' ∧ PitOK ys' hp1 st1 tr1 sp1 vis1 day1 z1 := by
  obtain ⟨tr', q1, q2⟩ := become_ok hp3 st3 tr3 sp3 vis3 day3 z3 hp1 st1 tr1 sp1 vis1 day1 z1
  obtain ⟨xa', p1, p2⟩ := aside_ok xs xa
  refine ⟨tr', xa', q1, p1, hP.trc q2, fun ys => ?_⟩
  obtain ⟨ys', b1, b2⟩ := back_ok ys xa'
  exact ⟨ys', b1, hP.cong (fun k hk => by rw [b2 k hk, p2 k hk])⟩
theorem op_high {xs xa xf fd ov : Nat → Int32} {hp1 st1 : Nat → Int32} {tr1 : Nat → Nat → Int32} {sp1 : Nat → Int32} {vis1 day1 z1 : Int32} {hp3 st3 : Nat → Int32} {tr3 : Nat → Nat → Int32} {sp3 : Nat → Int32} {vis3 day3 z3 : Int32} (hP : PitOK xs hp1 st1 tr1 sp1 vis1 day1 z1) (hF : RelF fd xf) (v1 v2 : Int32) : TR (f4_high hp1 st1 tr1 sp1 vis1 day1 z1 hp3 st3 tr3 sp3 vis3 day3 z3 fd v1 v2) (f5_high xs xa xf 0 ov v1 v2) hp1 st1 tr1 sp1 vis1 day1 z1 := by
  have bad : TR (j4_high_20 hp1 st1 tr1 sp1 vis1 day1 z1 hp3 st3 tr3 sp3 vis3 day3 z3 fd) (j5_high_29 xs xa xf 0 ov) hp1 st1 tr1 sp1 vis1 day1 z1 := TR.no hP hF (k := 0) (by decide)
  unfold f4_high f5_high
  rw [cellW, in54]
  rcases inC v1 (a := 0) (b := 15) (by decide) (by decide) with h | ⟨c, rfl, -, hc, h⟩
  · simp only [show f4_within v1 0 15 = 0 from h, i0, reduceIte]; exact bad
  simp only [show f4_within (nI c) 0 15 = 1 from h, i1, reduceIte]
  rcases inC v2 (a := 0) (b := 100) (by decide) (by decide) with h | ⟨d, rfl, -, hd, h⟩
  · simp only [show f4_within v2 0 100 = 0 from h, i0, reduceIte]; exact bad
  simp only [show f4_within (nI d) 0 100 = 1 from h, i1, reduceIte]
  obtain ⟨tr', xa', q1, q2, q3, q4⟩ := trial hP hp3 st3 tr3 sp3 vis3 day3 z3 xa
  obtain ⟨N, rfl, h2, h3, h4⟩ := q3
  obtain ⟨hp4, st4, tr4, day4, xs4, ov4, a1, a2, a3, a4⟩ := days_ok (g := 0) (ov := ov) (show d < 1000 by omega) h2 h3
  obtain ⟨ys, b1, b2⟩ := q4 xs4
  unfold f5_thenAt
  rw [q1, q2, ob1_so, a2, ob2_so, b1, li 6, nI_add, inb_y (show 88 < 2 ^ 31 by decide) (show 6 + c < 88 by omega), gd_t, nI_clamp (show 6 + c < 2 ^ 31 by omega), a3.1 c (by omega)]
  simp only [ob7]
  rw [a1, ob4_so', inb_y (show 16 < 2 ^ 31 by decide) (show c < 16 by omega), gd_t, nI_clamp (show c < 2 ^ 31 by omega)]
  exact ⟨_, _, _, _, _, _, _, _, _, _, _, _, _, rfl, rfl, b2, hF⟩
theorem op_built {xs xa xf fd ov : Nat → Int32} {hp1 st1 : Nat → Int32} {tr1 : Nat → Nat → Int32} {sp1 : Nat → Int32} {vis1 day1 z1 : Int32} {hp3 st3 : Nat → Int32} {tr3 : Nat → Nat → Int32} {sp3 : Nat → Int32} {vis3 day3 z3 : Int32} (hP : PitOK xs hp1 st1 tr1 sp1 vis1 day1 z1) (hF : RelF fd xf) (v1 v2 : Int32) : TR (f4_built hp1 st1 tr1 sp1 vis1 day1 z1 hp3 st3 tr3 sp3 vis3 day3 z3 fd v1 v2) (f5_built xs xa xf 0 ov v1 v2) hp1 st1 tr1 sp1 vis1 day1 z1 := by
  have bad : TR (j4_built_18 hp1 st1 tr1 sp1 vis1 day1 z1 hp3 st3 tr3 sp3 vis3 day3 z3 fd) (j5_built_36 xs xa xf 0 ov) hp1 st1 tr1 sp1 vis1 day1 z1 := TR.no hP hF (k := 0) (by decide)
  obtain ⟨N, eN, h2, h3, h4⟩ := id hP
  have hN := h3.2.2.2.2.1
  unfold f4_built f5_built
  rw [eN]
  rcases visC h2.2.2.2.2.1 hN v1 with ⟨q1, q2⟩ | ⟨v, rfl, hv, q1, q2⟩
  · simp only [q1, q2, i0, reduceIte]; rw [← eN]; exact bad
  simp only [q1, q2, i1, reduceIte, in54]
  rw [← eN]
  rcases inC v2 (a := 0) (b := 100) (by decide) (by decide) with h | ⟨d, rfl, -, hd, h⟩
  · simp only [show f4_within v2 0 100 = 0 from h, i0, reduceIte]; exact bad
  simp only [show f4_within (nI d) 0 100 = 1 from h, i1, reduceIte]
  clear h2 h3 h4
  obtain ⟨tr', xa', q1, q2, q3, q4⟩ := trial hP hp3 st3 tr3 sp3 vis3 day3 z3 xa
  obtain ⟨N', rfl, h2, h3, h4⟩ := q3
  obtain ⟨hp4, st4, tr4, day4, xs4, ov4, a1, a2, a3, a4⟩ := days_ok (g := 0) (ov := ov) (show d < 1000 by omega) h2 h3
  obtain ⟨ys, b1, b2⟩ := q4 xs4
  unfold f5_thenAt
  rw [q1, q2, ob1_so, a2, ob2_so, b1, li 22, li 7, li 6, pk_mul, nI_add, nI_add, inb_y (show 88 < 2 ^ 31 by decide) (show 22 + 7 * v + 6 < 88 by omega), gd_t, nI_clamp (show 22 + 7 * v + 6 < 2 ^ 31 by omega), a3.2.2.1 6 v (by decide) (by omega)]
  simp only [ob7]
  rw [a1, ob4_so', inb_y (show 8 < 2 ^ 31 by decide) (show v < 8 by omega), gd_t, nI_clamp (show v < 2 ^ 31 by omega)]
  exact ⟨_, _, _, _, _, _, _, _, _, _, _, _, _, rfl, rfl, b2, hF⟩
/-- whose shapes stand, as a number -/
def msk (u : Nat → Bool) : Nat → Nat
  | 0 => 0
  | n + 1 => msk u n + if u n = true then 2 ^ n else 0
theorem msk_s (u : Nat → Bool) (n : Nat) : msk u (n + 1) = msk u n + if u n = true then 2 ^ n else 0 := rfl
theorem msk_lt (u : Nat → Bool) : ∀ n, msk u n < 2 ^ n
  | 0 => by unfold msk; decide
  | n + 1 => by
    have := msk_lt u n
    unfold msk
    rw [Nat.pow_succ]
    by_cases h : u n = true
    · rw [if_pos h]; omega
    · rw [if_neg h]; omega
set_option maxRecDepth 100000 in
theorem tb_fin : ∀ v, v < 8 → ∀ a, a < 2 ^ v → (∀ j, j < v → Nat.testBit (a + 2 ^ v) j = Nat.testBit a j) ∧ Nat.testBit (a + 2 ^ v) v = true ∧ Nat.testBit a v = false ∧ nI a ||| (1 <<< (nI v &&& 31)) = nI (a + 2 ^ v) := by decide +kernel
theorem msk_bit (u : Nat → Bool) : ∀ n, n ≤ 8 → ∀ j, j < n → Nat.testBit (msk u n) j = u j := by
  intro n
  induction n with
  | zero => intro _ j hj; omega
  | succ n ih =>
    intro hn j hj
    have hl := msk_lt u n
    obtain ⟨t1, t2, t3, -⟩ := tb_fin n (by omega) (msk u n) hl
    unfold msk
    by_cases h : u n = true
    · rw [if_pos h]
      by_cases e : j = n
      · subst e; rw [t2, h]
      · rw [t1 j (by omega)]; exact ih (by omega) j (by omega)
    · rw [if_neg h, Nat.add_zero]
      by_cases e : j = n
      · subst e; rw [t3]; cases q : u j with
        | false => rfl
        | true => exact absurd q h
      · exact ih (by omega) j (by omega)
theorem mask_loop {xs hp st : Nat → Int32} {tr : Nat → Nat → Int32} {sp : Nat → Int32} {day z : Int32} {N : Nat} (hr : Row xs hp st tr sp (nI N) day z) (hok : OkP hp st tr N day) : ∃ u : Nat → Bool, (∀ v, v < N → f0_isUp hp st tr (nI v) = some (bi (u v)) ∧ f5_standsNow xs (nI v) = some (bi (u v))) ∧ f0_standing hp st tr (nI N) = some (nI (msk u N)) := by
  have hN := hok.2.2.2.2.1
  have hall : ∀ v, ∃ b : Bool, v < N → f0_isUp hp st tr (nI v) = some (bi b) ∧ f5_standsNow xs (nI v) = some (bi b) := by
    intro v
    by_cases h : v < N
    · obtain ⟨b, s0, s5⟩ := stands_ok hr (show v < 8 by omega) (hok.2.2.2.2.2.2 v h) hok.2.2.2.1
      exact ⟨b, fun _ => ⟨s0, s5⟩⟩
    · exact ⟨false, fun q => absurd q h⟩
  refine ⟨fun v => (hall v).choose, fun v hv => (hall v).choose_spec hv, ?_⟩
  have key : ∀ (m n v : Nat), v + m = N → m < n → l0_standing_4 n hp st tr (nI N) (nI (msk (fun v => (hall v).choose) v)) (nI v) = some (nI (msk (fun v => (hall v).choose) N)) := by
    intro m
    induction m with
    | zero =>
      intro n v hv hn
      obtain ⟨n, rfl⟩ : ∃ q, n = q + 1 := ⟨n - 1, by omega⟩
      rw [l0_standing_4, if_pos (nI_le (by omega) (by omega)), show v = N by omega]
    | succ m ih =>
      intro n v hv hn
      obtain ⟨n, rfl⟩ : ∃ q, n = q + 1 := ⟨n - 1, by omega⟩
      have hle : ¬ (nI N ≤ nI v) := fun q => by have := (nI_leI (by omega) (by omega)).mp q; omega
      have hs := ((hall v).choose_spec (show v < N by omega)).1
      have hi := ih n (v + 1) (by omega) (by omega)
      rw [l0_standing_4, if_neg hle, hs, ob1_so, j0_standing_26, j0_standing_26, nI_1]
      rw [msk_s] at hi
      cases hb : (hall v).choose with
      | false =>
        simp only [hb] at hi
        rw [if_neg (by decide), Nat.add_zero] at hi
        rw [bi_f, if_pos rfl]; exact hi
      | true =>
        simp only [hb] at hi
        rw [if_pos trivial] at hi
        rw [bi_t, if_neg ne10, (tb_fin v (by omega) _ (msk_lt _ v)).2.2.2]; exact hi
  exact key N 1000 0 (by omega) (by omega)
set_option maxRecDepth 1000000 in
theorem bits2_fin : ∀ j, j < 8 → ∀ k, k < 8 → ∀ r, r < 256 → (nI r &&& ((1 <<< (nI j &&& 31)) ||| (1 <<< (nI k &&& 31))) = ((1 <<< (nI j &&& 31)) ||| (1 <<< (nI k &&& 31))) ↔ (Nat.testBit r j = true ∧ Nat.testBit r k = true)) := by decide +kernel
theorem bits1_fin : ∀ j, j < 8 → (1 : Int32) <<< (nI j &&& 31) = ((1 <<< (nI j &&& 31)) ||| (1 <<< (nI j &&& 31))) := by decide +kernel
theorem wait_loop {xa xf fd : Nat → Int32} {hp1 st1 : Nat → Int32} {tr1 : Nat → Nat → Int32} {sp1 : Nat → Int32} {vis1 day1 z1 : Int32} {sp3 : Nat → Int32} {z3 c a b1 b2 : Int32} {N : Nat} (hB : ∀ ys, ∃ ys', f5_laysBack ys xa = some ys' ∧ PitOK ys' hp1 st1 tr1 sp1 vis1 day1 z1) (hF : RelF fd xf) (hG : ∀ (xs hp st : Nat → Int32) (tr : Nat → Nat → Int32) (day : Int32), Row xs hp st tr sp3 (nI N) day z3 → OkP hp st tr N day → ∃ b : Bool, f4_isGranted hp st tr (nI N) c a = some (bi b) ∧ f5_isSo xs c b1 b2 = some (bi b)) : ∀ (m n v : Nat) (xs hp st ov : Nat → Int32) (tr : Nat → Nat → Int32) (day : Int32), v + m = 101 → m < n → Row xs hp st tr sp3 (nI N) day z3 → OkP hp st tr N day → TR (l4_waitFor_13 n hp1 st1 tr1 sp1 vis1 day1 z1 hp st tr sp3 (nI N) day z3 fd c a (nI v)) (l5_firstBy_7 n xs xa xf 0 ov c b1 b2 (nI v)) hp1 st1 tr1 sp1 vis1 day1 z1 := by
  intro m
  induction m with
  | zero =>
    intro n v xs hp st ov tr day hv hn hr hok
    obtain ⟨n, rfl⟩ : ∃ q, n = q + 1 := ⟨n - 1, by omega⟩
    obtain ⟨ys, e1, e2⟩ := hB xs
    have hlt : nI 100 < nI v := (Int32.not_le.mp (nI_ge (by omega) (by omega)))
    rw [l4_waitFor_13, l5_firstBy_7, li 100, if_pos hlt, if_pos hlt, j5_firstBy_34, e1, ob1_so, li 100, if_neg (nI_ge (by omega) (by omega))]
    exact TR.no e2 hF (k := 3) (by decide)
  | succ m ih =>
    intro n v xs hp st ov tr day hv hn hr hok
    obtain ⟨n, rfl⟩ : ∃ q, n = q + 1 := ⟨n - 1, by omega⟩
    have hle : nI v ≤ nI 100 := nI_le (by omega) (by omega)
    have hlt : ¬ nI 100 < nI v := Int32.not_lt.mpr hle
    obtain ⟨b, g1, g2⟩ := hG xs hp st tr day hr hok
    rw [l4_waitFor_13, l5_firstBy_7, li 100, if_neg hlt, if_neg hlt, g1, g2, ob1_so, ob1_so]
    cases b with
    | true =>
      obtain ⟨ys, e1, e2⟩ := hB xs
      rw [bi_t, if_neg ne10, if_neg ne10, j5_firstBy_34, e1, ob1_so, li 100, if_pos hle]
      exact ⟨_, _, _, _, _, _, _, _, _, _, _, _, _, rfl, rfl, e2, hF⟩
    | false =>
      obtain ⟨hp4, st4, tr4, day4, xs4, ov4, a1, a2, a3, a4⟩ := days_ok (d := 1) (g := 0) (ov := ov) (by decide) hr hok
      have a2' : f5_day xs 0 ov = some (xs4, ov4) := by
        obtain ⟨hq, sq, tq, dq, xq, oq, -, c2, -, -⟩ := day_ok (g := 0) (v1 := 0) (v3 := 0) (ov := ov) (l0_passDays_2 1) hr hok
        unfold f5_goes at a2
        rw [l5_goes_2, if_neg (by decide), c2, ob2_so, l5_goes_2, if_pos (by decide)] at a2
        rw [c2]; exact a2
      rw [bi_f, if_pos rfl, if_pos rfl, show f0_passDays hp st tr (nI N) day 1 0 = _ from a1, a2', ob4_so', ob2_so, nI_1]
      exact ih n (v + 1) _ _ _ _ _ _ (by omega) (by omega) a3 a4
theorem wait_ok {xs xa xf fd ov : Nat → Int32} {hp1 st1 : Nat → Int32} {tr1 : Nat → Nat → Int32} {sp1 : Nat → Int32} {vis1 day1 z1 : Int32} {hp3 st3 : Nat → Int32} {tr3 : Nat → Nat → Int32} {sp3 : Nat → Int32} {vis3 day3 z3 : Int32} {c a b1 b2 : Int32} (hP : PitOK xs hp1 st1 tr1 sp1 vis1 day1 z1) (hF : RelF fd xf) (hG : ∀ (N : Nat) (xs hp st : Nat → Int32) (tr : Nat → Nat → Int32) (day : Int32), vis1 = nI N → Row xs hp st tr sp1 (nI N) day z1 → OkP hp st tr N day → ∃ b : Bool, f4_isGranted hp st tr (nI N) c a = some (bi b) ∧ f5_isSo xs c b1 b2 = some (bi b)) : TR (ob9 (f4_waitFor hp1 st1 tr1 sp1 vis1 day1 z1 hp3 st3 tr3 sp3 vis3 day3 z3 fd c a) (fun r hp st tr sp vis day z fd => some (r, hp, st, tr, sp, vis, day, z, fd))) (ob5 (f5_firstBy xs xa xf 0 ov c b1 b2) (fun r xs xa xf ov => some (r, xs, xa, xf, ov))) hp1 st1 tr1 sp1 vis1 day1 z1 := by
  obtain ⟨tr', xa', q1, q2, q3, q4⟩ := trial hP hp3 st3 tr3 sp3 vis3 day3 z3 xa
  obtain ⟨N, rfl, h2, h3, h4⟩ := q3
  have := wait_loop (xa := xa') (xf := xf) (c := c) (a := a) (b1 := b1) (b2 := b2) q4 hF (fun xs hp st tr day hr ho => hG N xs hp st tr day rfl hr ho) 101 1000 0 xs hp1 st1 ov tr' day1 (by omega) (by omega) h2 h3
  unfold f4_waitFor f5_firstBy
  rw [q1, q2, ob1_so]
  obtain ⟨r, hp4, st4, tr4, sp4, vis4, day4, z4, fd4, xs4, xa4, xf4, ov4, e1, e2, e3, e4⟩ := this
  exact ⟨r, hp4, st4, tr4, sp4, vis4, day4, z4, fd4, xs4, xa4, xf4, ov4, by simp only [ob7]; rw [show l4_waitFor_13 1000 hp1 st1 tr1 sp1 (nI N) day1 z1 hp1 st1 tr' sp1 (nI N) day1 z1 fd c a 0 = _ from e1]; rfl, by rw [show l5_firstBy_7 1000 xs xa' xf 0 ov c b1 b2 0 = _ from e2]; rfl, e3, e4⟩
theorem up_ok {N j k : Nat} {sp1 : Nat → Int32} {z1 : Int32} (hj : j < N) (hk : k < N) (hN8 : N ≤ 8) : ∀ (xs hp st : Nat → Int32) (tr : Nat → Nat → Int32) (day : Int32), Row xs hp st tr sp1 (nI N) day z1 → OkP hp st tr N day → ∃ b : Bool, f4_isGranted hp st tr (nI N) 0 ((1 <<< (nI j &&& 31)) ||| (1 <<< (nI k &&& 31))) = some (bi b) ∧ f5_isSo xs 0 (nI j) (nI k) = some (bi b) := by
  intro xs hp st tr day hr hok
  obtain ⟨u, hu, hm⟩ := mask_loop hr hok
  have hl : msk u N < 256 := Nat.lt_of_lt_of_le (msk_lt u N) (Nat.pow_le_pow_right (by decide) hN8)
  have hb := bits2_fin j (by omega) k (by omega) (msk u N) hl
  rw [msk_bit u N hN8 j hj, msk_bit u N hN8 k hk] at hb
  refine ⟨u j && u k, ?_, ?_⟩
  · unfold f4_isGranted
    rw [if_pos rfl, hm, ob1_so]
    cases e1 : u j <;> cases e2 : u k <;> simp only [e1, e2] at hb
    · rw [if_neg (fun q => absurd (hb.mp q).1 (by decide))]; rfl
    · rw [if_neg (fun q => absurd (hb.mp q).1 (by decide))]; rfl
    · rw [if_neg (fun q => absurd (hb.mp q).2 (by decide))]; rfl
    · rw [if_pos (hb.mpr ⟨trivial, trivial⟩)]; rfl
  · unfold f5_isSo
    rw [if_pos rfl, (hu j hj).2, ob1_so, (hu k hk).2, ob1_so]
    cases e1 : u j <;> cases e2 : u k <;> rfl
theorem op_stands {xs xa xf fd ov : Nat → Int32} {hp1 st1 : Nat → Int32} {tr1 : Nat → Nat → Int32} {sp1 : Nat → Int32} {vis1 day1 z1 : Int32} {hp3 st3 : Nat → Int32} {tr3 : Nat → Nat → Int32} {sp3 : Nat → Int32} {vis3 day3 z3 : Int32} (hP : PitOK xs hp1 st1 tr1 sp1 vis1 day1 z1) (hF : RelF fd xf) (v1 : Int32) : TR (f4_stands hp1 st1 tr1 sp1 vis1 day1 z1 hp3 st3 tr3 sp3 vis3 day3 z3 fd v1) (f5_stands xs xa xf 0 ov v1) hp1 st1 tr1 sp1 vis1 day1 z1 := by
  obtain ⟨N, eN, h2, h3, h4⟩ := id hP
  have hN := h3.2.2.2.2.1
  unfold f4_stands f5_stands
  rcases visC h2.2.2.2.2.1 hN v1 with ⟨q1, q2⟩ | ⟨v, rfl, hv, q1, q2⟩
  · rw [← eN] at q1; rw [if_pos q1, if_pos q2]; exact TR.no hP hF (k := 0) (by decide)
  · rw [← eN] at q1
    rw [if_neg (fun p => ne10 (q1.symm.trans p)), if_neg (fun p => ne10 (q2.symm.trans p)), bits1_fin v (by omega)]
    refine wait_ok hP hF (fun N' xs hp st tr day e hr ho => ?_)
    have : N' = N := (nI_eq (by have := ho.2.2.2.2.1; omega) (by omega)).mp (e.symm.trans eN)
    subst this
    exact up_ok hv hv hN xs hp st tr day hr ho
theorem op_both {xs xa xf fd ov : Nat → Int32} {hp1 st1 : Nat → Int32} {tr1 : Nat → Nat → Int32} {sp1 : Nat → Int32} {vis1 day1 z1 : Int32} {hp3 st3 : Nat → Int32} {tr3 : Nat → Nat → Int32} {sp3 : Nat → Int32} {vis3 day3 z3 : Int32} (hP : PitOK xs hp1 st1 tr1 sp1 vis1 day1 z1) (hF : RelF fd xf) (v1 v2 : Int32) : TR (f4_both hp1 st1 tr1 sp1 vis1 day1 z1 hp3 st3 tr3 sp3 vis3 day3 z3 fd v1 v2) (f5_both xs xa xf 0 ov v1 v2) hp1 st1 tr1 sp1 vis1 day1 z1 := by
  have bad : TR (j4_both_21 hp1 st1 tr1 sp1 vis1 day1 z1 hp3 st3 tr3 sp3 vis3 day3 z3 fd) (j5_both_31 xs xa xf 0 ov) hp1 st1 tr1 sp1 vis1 day1 z1 := TR.no hP hF (k := 0) (by decide)
  obtain ⟨N, eN, h2, h3, h4⟩ := id hP
  have hN := h3.2.2.2.2.1
  unfold f4_both f5_both
  rcases visC h2.2.2.2.2.1 hN v1 with ⟨q1, q2⟩ | ⟨v, rfl, hv, q1, q2⟩
  · rw [← eN] at q1; rw [if_pos q1, if_pos q2]; exact bad
  rw [← eN] at q1
  rw [if_neg (fun p => ne10 (q1.symm.trans p)), if_neg (fun p => ne10 (q2.symm.trans p))]
  rcases visC h2.2.2.2.2.1 hN v2 with ⟨q1, q2⟩ | ⟨w, rfl, hw, q1, q2⟩
  · rw [← eN] at q1; rw [if_pos q1, if_pos q2]; exact bad
  rw [← eN] at q1
  rw [if_neg (fun p => ne10 (q1.symm.trans p)), if_neg (fun p => ne10 (q2.symm.trans p))]
  by_cases e : nI v = nI w
  · rw [if_pos e, if_pos e]; exact bad
  rw [if_neg e, if_neg e]
  refine wait_ok hP hF (fun N' xs hp st tr day e hr ho => ?_)
  have : N' = N := (nI_eq (by have := ho.2.2.2.2.1; omega) (by omega)).mp (e.symm.trans eN)
  subst this
  exact up_ok hv hw hN xs hp st tr day hr ho
theorem op_road {xs xa xf fd ov : Nat → Int32} {hp1 st1 : Nat → Int32} {tr1 : Nat → Nat → Int32} {sp1 : Nat → Int32} {vis1 day1 z1 : Int32} {hp3 st3 : Nat → Int32} {tr3 : Nat → Nat → Int32} {sp3 : Nat → Int32} {vis3 day3 z3 : Int32} (hP : PitOK xs hp1 st1 tr1 sp1 vis1 day1 z1) (hF : RelF fd xf) (v1 : Int32) : TR (f4_road hp1 st1 tr1 sp1 vis1 day1 z1 hp3 st3 tr3 sp3 vis3 day3 z3 fd v1) (f5_road xs xa xf 0 ov v1) hp1 st1 tr1 sp1 vis1 day1 z1 := by
  unfold f4_road f5_road
  rw [in54]
  by_cases h : f4_within v1 0 16 = 0
  · rw [if_pos h, if_pos h]; exact TR.no hP hF (k := 0) (by decide)
  rw [if_neg h, if_neg h]
  refine wait_ok hP hF (fun N' xs hp st tr day e hr ho => ?_)
  obtain ⟨r, e1, e2⟩ := road_ok hr.1
  unfold f4_isGranted f5_isSo
  rw [if_neg ne10, if_neg ne10, if_pos rfl, if_pos rfl, e1, e2, ob1_so]
  by_cases q : r < v1
  · rw [if_pos q]; exact ⟨false, rfl, rfl⟩
  · rw [if_neg q]; exact ⟨true, rfl, rfl⟩
theorem op_empty {xs xa xf fd ov : Nat → Int32} {hp1 st1 : Nat → Int32} {tr1 : Nat → Nat → Int32} {sp1 : Nat → Int32} {vis1 day1 z1 : Int32} {hp3 st3 : Nat → Int32} {tr3 : Nat → Nat → Int32} {sp3 : Nat → Int32} {vis3 day3 z3 : Int32} (hP : PitOK xs hp1 st1 tr1 sp1 vis1 day1 z1) (hF : RelF fd xf) : TR (f4_empty hp1 st1 tr1 sp1 vis1 day1 z1 hp3 st3 tr3 sp3 vis3 day3 z3 fd) (f5_empty xs xa xf 0 ov) hp1 st1 tr1 sp1 vis1 day1 z1 := by
  unfold f4_empty f5_empty
  refine wait_ok hP hF (fun N' xs hp st tr day e hr ho => ?_)
  unfold f4_isGranted f5_isSo
  rw [if_neg (show ¬ (2 : Int32) = 0 by decide), if_neg (show ¬ (2 : Int32) = 0 by decide), if_neg (show ¬ (2 : Int32) = 1 by decide), if_neg (show ¬ (2 : Int32) = 1 by decide), show xs 3 = st 0 from hr.2.1 0 (by decide)]
  by_cases q : st 0 = 0
  · rw [if_pos q]; exact ⟨true, rfl, rfl⟩
  · rw [if_neg q]; exact ⟨false, rfl, rfl⟩
