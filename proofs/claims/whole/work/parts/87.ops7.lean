/-! the calls, eighth group: away, fits, kinds -/
def bcN (i : Nat) : Nat := (f6_bitCount (nI i)).toNatClampNeg
set_option maxRecDepth 1000000 in
theorem bc_fin : ∀ i, i < 256 → f5_bits (nI i) = some (nI (bcN i)) ∧ f6_bitCount (nI i) = nI (bcN i) := by decide +kernel
set_option maxRecDepth 1000000 in
theorem bc_le : ∀ N, N < 9 → ∀ j, j < 2 ^ N → bcN j ≤ N := by decide +kernel
theorem sh_fin : ∀ N, N < 9 → (1 : Int32) <<< (nI N &&& 31) = nI (2 ^ N) := by decide +kernel
theorem p2_le {N : Nat} (h : N ≤ 8) : 2 ^ N ≤ 256 := Nat.pow_le_pow_right (by decide) h
theorem bi_inj {a b : Bool} (h : some (bi a) = some (bi b)) : a = b := by
  cases a <;> cases b
  · rfl
  · exact absurd (Option.some.inj h) (by decide)
  · exact absurd (Option.some.inj h) (by decide)
  · rfl
/-- who stands on a later day without some visitors: the same on both sides, wherever the trial is made -/
theorem without_ok {xs0 : Nat → Int32} {hp1 st1 : Nat → Int32} {tr1 : Nat → Nat → Int32} {sp1 : Nat → Int32} {vis1 day1 z1 : Int32} (hP : PitOK xs0 hp1 st1 tr1 sp1 vis1 day1 z1) {v d N : Nat} (eN : vis1 = nI N) (hN8 : N ≤ 8) (hv : v < N) (hd : d < 1000) : ∃ P : Nat → Bool, ∀ g, (∀ tr', (∀ t, t < 7 → tr' t = tr1 t) → ∃ hp4 st4 tr4 day4, f0_passDays hp1 st1 tr' vis1 day1 (nI d) (nI g) = some (hp4, st4, tr4, day4) ∧ f0_isUp hp4 st4 tr4 (nI v) = some (bi (P g))) ∧ (∀ xs ov, PitOK xs hp1 st1 tr1 sp1 vis1 day1 z1 → ∃ xs4 ov4, f5_goes xs (nI g) ov (nI d) = some (xs4, ov4) ∧ f5_standsNow xs4 (nI v) = some (bi (P g))) := by
  have run : ∀ (g : Nat) (xs ov : Nat → Int32) (tr' : Nat → Nat → Int32), PitOK xs hp1 st1 tr1 sp1 vis1 day1 z1 → (∀ t, t < 7 → tr' t = tr1 t) → ∃ (b : Bool) (hp4 st4 : Nat → Int32) (tr4 : Nat → Nat → Int32) (day4 : Int32) (xs4 ov4 : Nat → Int32), f0_passDays hp1 st1 tr' vis1 day1 (nI d) (nI g) = some (hp4, st4, tr4, day4) ∧ f5_goes xs (nI g) ov (nI d) = some (xs4, ov4) ∧ f0_isUp hp4 st4 tr4 (nI v) = some (bi b) ∧ f5_standsNow xs4 (nI v) = some (bi b) := by
    intro g xs ov tr' hQ ht
    obtain ⟨N', eN', h2, h3, h4⟩ := hQ.trc ht
    have : N' = N := (nI_eq (by have := h3.2.2.2.2.1; omega) (by omega)).mp (eN'.symm.trans eN)
    subst this
    obtain ⟨hp4, st4, tr4, day4, xs4, ov4, a1, a2, a3, a4⟩ := days_ok (g := nI g) (ov := ov) hd h2 h3
    obtain ⟨b, s0, s5⟩ := stands_ok a3 (show v < 8 by omega) (a4.2.2.2.2.2.2 v hv) a4.2.2.2.1
    exact ⟨b, hp4, st4, tr4, day4, xs4, ov4, by rw [eN']; exact a1, a2, s0, s5⟩
  refine ⟨fun g => (run g xs0 xs0 tr1 hP (fun _ _ => rfl)).choose, fun g => ?_⟩
  obtain ⟨hp4, st4, tr4, day4, xs4, ov4, a1, a2, a3, a4⟩ := (run g xs0 xs0 tr1 hP (fun _ _ => rfl)).choose_spec
  refine ⟨fun tr' ht => ?_, fun xs ov hQ => ?_⟩
  · obtain ⟨b, hq, sq, tq, dq, xq, oq, b1, b2, b3, b4⟩ := run g xs0 xs0 tr' hP ht
    have e := Option.some.inj (a2.symm.trans b2)
    have e1 : xs4 = xq := congrArg Prod.fst e
    subst e1
    have := bi_inj (b4.symm.trans a4)
    rw [this] at b3
    exact ⟨hq, sq, tq, dq, b1, b3⟩
  · obtain ⟨b, hq, sq, tq, dq, xq, oq, b1, b2, b3, b4⟩ := run g xs ov tr1 hQ (fun _ _ => rfl)
    have e := Option.some.inj (a1.symm.trans b1)
    have e1 : hp4 = hq := congrArg Prod.fst e
    have e2 : st4 = sq := congrArg (fun p => p.2.1) e
    have e3 : tr4 = tq := congrArg (fun p => p.2.2.1) e
    subst e1 e2 e3
    have := bi_inj (b3.symm.trans a3)
    rw [this] at b4
    exact ⟨xq, oq, b2, b4⟩
/-- the fewest, and of those the least -/
def LM (P : Nat → Bool) (N r : Nat) : Prop := r < 2 ^ N ∧ P r = true ∧ ∀ j, j < 2 ^ N → P j = true → bcN r < bcN j ∨ (bcN r = bcN j ∧ r ≤ j)
theorem LM.uni {P : Nat → Bool} {N r s : Nat} (h : LM P N r) (h' : LM P N s) : r = s := by
  have a := h.2.2 s h'.1 h'.2.1
  have b := h'.2.2 r h.1 h.2.1
  omega
theorem away_in {fd : Nat → Int32} {hp1 st1 : Nat → Int32} {tr1 : Nat → Nat → Int32} {sp1 : Nat → Int32} {vis1 day1 z1 : Int32} {v d N k : Nat} {P : Nat → Bool} (eN : vis1 = nI N) (hN8 : N ≤ 8) (hk : k ≤ 8) (hP : ∀ g tr', (∀ t, t < 7 → tr' t = tr1 t) → ∃ hp4 st4 tr4 day4, f0_passDays hp1 st1 tr' vis1 day1 (nI d) (nI g) = some (hp4, st4, tr4, day4) ∧ f0_isUp hp4 st4 tr4 (nI v) = some (bi (P g))) (k26 : (Nat → Int32) → (Nat → Int32) → (Nat → Nat → Int32) → (Nat → Int32) → Int32 → Int32 → Int32 → (Nat → Int32) → (Nat → Int32) → (Nat → Nat → Int32) → (Nat → Int32) → Int32 → Int32 → Int32 → (Nat → Int32) → Int32 → Int32 → Int32 → Option (Int32 × (Nat → Int32) × (Nat → Int32) × (Nat → Nat → Int32) × (Nat → Int32) × Int32 × Int32 × Int32 × (Nat → Int32))) : ∀ (m n i : Nat) (hp3 st3 : Nat → Int32) (tr3 : Nat → Nat → Int32) (sp3 : Nat → Int32) (vis3 day3 z3 : Int32), i + m = 2 ^ N → m < n → (∀ j, j < i → P j = true → bcN j ≠ k) → (∃ hp4 st4 tr4 sp4 vis4 day4 z4, l4_away_40 k26 n hp1 st1 tr1 sp1 vis1 day1 z1 hp3 st3 tr3 sp3 vis3 day3 z3 fd (nI v) (nI d) (nI k) (nI i) = k26 hp1 st1 tr1 sp1 vis1 day1 z1 hp4 st4 tr4 sp4 vis4 day4 z4 fd (nI v) (nI d) (nI k + 1) ∧ ∀ j, j < 2 ^ N → P j = true → bcN j ≠ k) ∨ (∃ r hp4 st4 tr4 sp4 vis4 day4 z4, l4_away_40 k26 n hp1 st1 tr1 sp1 vis1 day1 z1 hp3 st3 tr3 sp3 vis3 day3 z3 fd (nI v) (nI d) (nI k) (nI i) = some (nI r, hp4, st4, tr4, sp4, vis4, day4, z4, fd) ∧ r < 2 ^ N ∧ P r = true ∧ bcN r = k ∧ ∀ j, j < r → P j = true → bcN j ≠ k) := by
  have h256 := p2_le hN8
  intro m
  induction m with
  | zero =>
    intro n i hp3 st3 tr3 sp3 vis3 day3 z3 hi hn hj
    obtain ⟨n, rfl⟩ : ∃ q, n = q + 1 := ⟨n - 1, by omega⟩
    refine Or.inl ⟨hp3, st3, tr3, sp3, vis3, day3, z3, ?_, fun j hj' => hj j (by omega)⟩
    rw [l4_away_40, eN, sh_fin N (by omega), if_pos (nI_le (by omega) (by omega))]
  | succ m ih =>
    intro n i hp3 st3 tr3 sp3 vis3 day3 z3 hi hn hj
    obtain ⟨n, rfl⟩ : ∃ q, n = q + 1 := ⟨n - 1, by omega⟩
    have hle : ¬ (nI (2 ^ N) ≤ nI i) := fun q => by have := (nI_leI (by omega) (by omega)).mp q; omega
    have e1 : l4_away_40 k26 (n + 1) hp1 st1 tr1 sp1 vis1 day1 z1 hp3 st3 tr3 sp3 vis3 day3 z3 fd (nI v) (nI d) (nI k) (nI i) = if nI (bcN i) = nI k then ob8 (f4_isUpWithout hp1 st1 tr1 sp1 vis1 day1 z1 hp3 st3 tr3 sp3 vis3 day3 z3 (nI i) (nI v) (nI d)) (fun r hp4 st4 tr4 sp4 vis4 day4 z4 => if r = 0 then l4_away_40 k26 n hp1 st1 tr1 sp1 vis1 day1 z1 hp4 st4 tr4 sp4 vis4 day4 z4 fd (nI v) (nI d) (nI k) (nI (i + 1)) else some (nI i, hp4, st4, tr4, sp4, vis4, day4, z4, fd)) else l4_away_40 k26 n hp1 st1 tr1 sp1 vis1 day1 z1 hp3 st3 tr3 sp3 vis3 day3 z3 fd (nI v) (nI d) (nI k) (nI (i + 1)) := by
      rw [l4_away_40, eN, sh_fin N (by omega), if_neg hle, (bc_fin i (by omega)).2]
      simp only [j4_away_77, nI_1]
    rw [e1]
    have hbi : bcN i ≤ N := bc_le N (by omega) i (by omega)
    by_cases q : bcN i = k
    · rw [if_pos (by rw [q])]
      obtain ⟨tr', q1, q2⟩ := become_ok hp3 st3 tr3 sp3 vis3 day3 z3 hp1 st1 tr1 sp1 vis1 day1 z1
      obtain ⟨hp4, st4, tr4, day4, a1, a2⟩ := hP i tr' q2
      have e2 : f4_isUpWithout hp1 st1 tr1 sp1 vis1 day1 z1 hp3 st3 tr3 sp3 vis3 day3 z3 (nI i) (nI v) (nI d) = some (bi (P i), hp4, st4, tr4, sp1, vis1, day4, z1) := by
        unfold f4_isUpWithout
        rw [q1]
        simp only [ob7]
        rw [a1, ob4_so', a2, ob1_so]
        cases P i <;> rfl
      rw [e2]
      simp only [ob8]
      cases hb : P i with
      | false =>
        rw [bi_f, if_pos rfl]
        refine ih n (i + 1) _ _ _ _ _ _ _ (by omega) (by omega) (fun j hj' hp => ?_)
        by_cases e : j = i
        · subst e; exact absurd hp (by rw [hb]; decide)
        · exact hj j (by omega) hp
      | true =>
        rw [bi_t, if_neg ne10]
        exact Or.inr ⟨i, _, _, _, _, _, _, _, rfl, by omega, hb, q, hj⟩
    · rw [if_neg (fun e => q ((nI_eq (by omega) (by omega)).mp e))]
      refine ih n (i + 1) _ _ _ _ _ _ _ (by omega) (by omega) (fun j hj' hp => ?_)
      by_cases e : j = i
      · subst e; exact q
      · exact hj j (by omega) hp
theorem away_c {fd : Nat → Int32} {hp1 st1 : Nat → Int32} {tr1 : Nat → Nat → Int32} {sp1 : Nat → Int32} {vis1 day1 z1 : Int32} {v d N : Nat} {P : Nat → Bool} (eN : vis1 = nI N) (hN8 : N ≤ 8) (hP : ∀ g tr', (∀ t, t < 7 → tr' t = tr1 t) → ∃ hp4 st4 tr4 day4, f0_passDays hp1 st1 tr' vis1 day1 (nI d) (nI g) = some (hp4, st4, tr4, day4) ∧ f0_isUp hp4 st4 tr4 (nI v) = some (bi (P g))) : ∀ (m n k : Nat) (hp3 st3 : Nat → Int32) (tr3 : Nat → Nat → Int32) (sp3 : Nat → Int32) (vis3 day3 z3 : Int32), k + m = N + 1 → m < n → (∀ j, j < 2 ^ N → P j = true → k ≤ bcN j) → ((∀ j, j < 2 ^ N → P j = false) ∧ ∃ hp4 st4 tr4 sp4 vis4 day4 z4, l4_away_26 n hp1 st1 tr1 sp1 vis1 day1 z1 hp3 st3 tr3 sp3 vis3 day3 z3 fd (nI v) (nI d) (nI k) = ob2 (f4_found fd (nI 3)) (fun r fd' => some (r, hp4, st4, tr4, sp4, vis4, day4, z4, fd'))) ∨ (∃ r hp4 st4 tr4 sp4 vis4 day4 z4, l4_away_26 n hp1 st1 tr1 sp1 vis1 day1 z1 hp3 st3 tr3 sp3 vis3 day3 z3 fd (nI v) (nI d) (nI k) = some (nI r, hp4, st4, tr4, sp4, vis4, day4, z4, fd) ∧ LM P N r) := by
  intro m
  induction m with
  | zero =>
    intro n k hp3 st3 tr3 sp3 vis3 day3 z3 hk hn hj
    obtain ⟨n, rfl⟩ : ∃ q, n = q + 1 := ⟨n - 1, by omega⟩
    refine Or.inl ⟨fun j hj' => ?_, hp3, st3, tr3, sp3, vis3, day3, z3, ?_⟩
    · cases hb : P j with
      | false => rfl
      | true =>
        have := hj j hj' hb
        have := bc_le N (by omega) j hj'
        omega
    · rw [l4_away_26, if_pos (by rw [eN]; exact Int32.not_le.mp (nI_ge (by omega) (by omega)))]; rfl
  | succ m ih =>
    intro n k hp3 st3 tr3 sp3 vis3 day3 z3 hk hn hj
    obtain ⟨n, rfl⟩ : ∃ q, n = q + 1 := ⟨n - 1, by omega⟩
    have h256 := p2_le hN8
    have e1 : l4_away_26 (n + 1) hp1 st1 tr1 sp1 vis1 day1 z1 hp3 st3 tr3 sp3 vis3 day3 z3 fd (nI v) (nI d) (nI k) = l4_away_40 (l4_away_26 n) 1000 hp1 st1 tr1 sp1 vis1 day1 z1 hp3 st3 tr3 sp3 vis3 day3 z3 fd (nI v) (nI d) (nI k) (nI 0) := by
      rw [l4_away_26, if_neg (by rw [eN]; exact Int32.not_lt.mpr (nI_le (by omega) (by omega)))]; rfl
    rw [e1]
    rcases away_in (fd := fd) (sp1 := sp1) (z1 := z1) eN hN8 (show k ≤ 8 by omega) hP (l4_away_26 n) (2 ^ N) 1000 0 hp3 st3 tr3 sp3 vis3 day3 z3 (by omega) (by omega) (fun j hj => by omega) with ⟨hp4, st4, tr4, sp4, vis4, day4, z4, a1, a2⟩ | ⟨r, hp4, st4, tr4, sp4, vis4, day4, z4, a1, a2, a3, a4, a5⟩
    · rw [a1, nI_1]
      exact ih n (k + 1) _ _ _ _ _ _ _ (by omega) (by omega) (fun j hj' hp => by have := hj j hj' hp; have := a2 j hj' hp; omega)
    · refine Or.inr ⟨r, _, _, _, _, _, _, _, a1, a2, a3, fun j hj' hp => ?_⟩
      have h1 := hj j hj' hp
      by_cases q : bcN j = k
      · refine Or.inr ⟨by omega, Nat.le_of_not_lt fun hl => a5 j hl hp q⟩
      · exact Or.inl (by omega)
theorem away_m {xf : Nat → Int32} {hp1 st1 : Nat → Int32} {tr1 : Nat → Nat → Int32} {sp1 : Nat → Int32} {vis1 day1 z1 : Int32} {v d N : Nat} {P : Nat → Bool} (eN : vis1 = nI N) (hN8 : N ≤ 8) (hP : ∀ g xs ov, PitOK xs hp1 st1 tr1 sp1 vis1 day1 z1 → ∃ xs4 ov4, f5_goes xs (nI g) ov (nI d) = some (xs4, ov4) ∧ f5_standsNow xs4 (nI v) = some (bi (P g))) : ∀ (m n i : Nat) (best : Int32) (xs xa ov : Nat → Int32), i + m = 2 ^ N → m < n → PitOK xs hp1 st1 tr1 sp1 vis1 day1 z1 → ((best = -1 ∧ ∀ j, j < i → P j = false) ∨ ∃ b, best = nI b ∧ b < i ∧ P b = true ∧ ∀ j, j < i → P j = true → bcN b < bcN j ∨ (bcN b = bcN j ∧ b ≤ j)) → ((∀ j, j < 2 ^ N → P j = false) ∧ ∃ xs' xa' ov', l5_away_29 n xs xa xf 0 ov (nI v) (nI d) best (nI i) = ob2 (f5_no xf (nI 3)) (fun r x => some (r, xs', xa', x, 0, ov')) ∧ PitOK xs' hp1 st1 tr1 sp1 vis1 day1 z1) ∨ (∃ r xs' xa' ov', l5_away_29 n xs xa xf 0 ov (nI v) (nI d) best (nI i) = some (nI r, xs', xa', xf, 0, ov') ∧ LM P N r ∧ PitOK xs' hp1 st1 tr1 sp1 vis1 day1 z1) := by
  have h256 := p2_le hN8
  intro m
  induction m with
  | zero =>
    intro n i best xs xa ov hi hn hQ hb
    obtain ⟨n, rfl⟩ : ∃ q, n = q + 1 := ⟨n - 1, by omega⟩
    have hx : xs 1 = nI N := by obtain ⟨N', e', h2, -, -⟩ := hQ; rw [h2.2.2.2.2.1, ← e', eN]
    rw [l5_away_29, hx, sh_fin N (by omega), if_pos (nI_le (by omega) (by omega))]
    rcases hb with ⟨rfl, h⟩ | ⟨b, rfl, hb, h1, h2⟩
    · rw [if_neg (by decide)]
      exact Or.inl ⟨fun j hj => h j (by omega), xs, xa, ov, rfl, hQ⟩
    · rw [if_pos (nI_pos' (by omega))]
      exact Or.inr ⟨b, xs, xa, ov, rfl, ⟨by omega, h1, fun j hj => h2 j (by omega)⟩, hQ⟩
  | succ m ih =>
    intro n i best xs xa ov hi hn hQ hb
    obtain ⟨n, rfl⟩ : ∃ q, n = q + 1 := ⟨n - 1, by omega⟩
    have hx : xs 1 = nI N := by obtain ⟨N', e', h2, -, -⟩ := hQ; rw [h2.2.2.2.2.1, ← e', eN]
    have hle : ¬ (nI (2 ^ N) ≤ nI i) := fun q => by have := (nI_leI (by omega) (by omega)).mp q; omega
    obtain ⟨xa', p1, p2⟩ := aside_ok xs xa
    obtain ⟨xs4, ov4, g1, g2⟩ := hP i xs ov hQ
    obtain ⟨ys, b1, b2⟩ := back_ok xs4 xa'
    have hQ' : PitOK ys hp1 st1 tr1 sp1 vis1 day1 z1 := hQ.cong (fun k hk => by rw [b2 k hk, p2 k hk])
    have eW : f5_standsWithout xs xa 0 ov (nI v) (nI i) (nI d) = some (bi (P i), ys, xa', 0, ov4) := by
      unfold f5_standsWithout
      rw [p1, ob1_so, g1, ob2_so, g2, ob1_so, b1, ob1_so]
      cases P i <;> rfl
    have step : j5_away_58 (l5_away_29 n) xs xa xf 0 ov (nI v) (nI d) best (nI i) = if bi (P i) = 0 then l5_away_29 n ys xa' xf 0 ov4 (nI v) (nI d) best (nI (i + 1)) else l5_away_29 n ys xa' xf 0 ov4 (nI v) (nI d) (nI i) (nI (i + 1)) := by
      rw [j5_away_58, j5_away_63, if_neg ne10, eW, ob5_so, j5_away_86, j5_away_87, j5_away_87, nI_1]
    have e0 : l5_away_29 (n + 1) xs xa xf 0 ov (nI v) (nI d) best (nI i) = if best < 0 then j5_away_58 (l5_away_29 n) xs xa xf 0 ov (nI v) (nI d) best (nI i) else ob1 (f5_bits (nI i)) (fun r12 => ob1 (f5_bits best) (fun r14 => if r14 ≤ r12 then l5_away_29 n xs xa xf 0 ov (nI v) (nI d) best (nI (i + 1)) else j5_away_58 (l5_away_29 n) xs xa xf 0 ov (nI v) (nI d) best (nI i))) := by
      rw [l5_away_29, hx, sh_fin N (by omega), if_neg hle]
      simp only [j5_away_63, i0, if_true, j5_away_86, j5_away_87, nI_1]
    rw [e0]
    rcases hb with ⟨rfl, h⟩ | ⟨b, rfl, hb, h1, h2⟩
    · rw [if_pos (by decide), step]
      cases hb : P i with
      | false =>
        rw [bi_f, if_pos rfl]
        refine ih n (i + 1) _ _ _ _ (by omega) (by omega) hQ' (Or.inl ⟨rfl, fun j hj => ?_⟩)
        by_cases e : j = i
        · subst e; exact hb
        · exact h j (by omega)
      | true =>
        rw [bi_t, if_neg ne10]
        refine ih n (i + 1) _ _ _ _ (by omega) (by omega) hQ' (Or.inr ⟨i, rfl, by omega, hb, fun j hj hp => ?_⟩)
        by_cases e : j = i
        · subst e; exact Or.inr ⟨rfl, by omega⟩
        · exact absurd hp (by rw [h j (by omega)]; decide)
    · rw [if_neg (nI_pos (by omega)), (bc_fin i (by omega)).1, (bc_fin b (by omega)).1, ob1_so, ob1_so]
      have hbi : bcN i ≤ N := bc_le N (by omega) i (by omega)
      have hbb : bcN b ≤ N := bc_le N (by omega) b (by omega)
      by_cases q : bcN b ≤ bcN i
      · rw [if_pos (nI_le q (by omega))]
        refine ih n (i + 1) _ _ _ _ (by omega) (by omega) hQ (Or.inr ⟨b, rfl, by omega, h1, fun j hj hp => ?_⟩)
        by_cases e : j = i
        · subst e; omega
        · exact h2 j (by omega) hp
      · rw [if_neg (nI_ge (by omega) (by omega)), step]
        cases hb' : P i with
        | false =>
          rw [bi_f, if_pos rfl]
          refine ih n (i + 1) _ _ _ _ (by omega) (by omega) hQ' (Or.inr ⟨b, rfl, by omega, h1, fun j hj hp => ?_⟩)
          by_cases e : j = i
          · subst e; exact absurd hp (by rw [hb']; decide)
          · exact h2 j (by omega) hp
        | true =>
          rw [bi_t, if_neg ne10]
          refine ih n (i + 1) _ _ _ _ (by omega) (by omega) hQ' (Or.inr ⟨i, rfl, by omega, hb', fun j hj hp => ?_⟩)
          by_cases e : j = i
          · subst e; exact Or.inr ⟨rfl, by omega⟩
          · have := h2 j (by omega) hp; omega
theorem op_away {xs xa xf fd ov : Nat → Int32} {hp1 st1 : Nat → Int32} {tr1 : Nat → Nat → Int32} {sp1 : Nat → Int32} {vis1 day1 z1 : Int32} {hp3 st3 : Nat → Int32} {tr3 : Nat → Nat → Int32} {sp3 : Nat → Int32} {vis3 day3 z3 : Int32} (hP : PitOK xs hp1 st1 tr1 sp1 vis1 day1 z1) (hF : RelF fd xf) (v1 v2 : Int32) : ∃ r hp4 st4 tr4 sp4 vis4 day4 z4 fd' xs' xa' xf' ov', f4_away hp1 st1 tr1 sp1 vis1 day1 z1 hp3 st3 tr3 sp3 vis3 day3 z3 fd v1 v2 = some (r, hp4, st4, tr4, sp4, vis4, day4, z4, fd') ∧ f5_away xs xa xf 0 ov v1 v2 = some (r, xs', xa', xf', 0, ov') ∧ PitOK xs' hp1 st1 tr1 sp1 vis1 day1 z1 ∧ RelF fd' xf' := by
  have no : ∀ k, k < 7 → ∀ (hp3 st3 : Nat → Int32) (tr3 : Nat → Nat → Int32) (sp3 : Nat → Int32) (vis3 day3 z3 : Int32) (xs xa ov : Nat → Int32), PitOK xs hp1 st1 tr1 sp1 vis1 day1 z1 → ∃ r hp4 st4 tr4 sp4 vis4 day4 z4 fd' xs' xa' xf' ov', ob2 (f4_found fd (nI k)) (fun r fd' => some (r, hp3, st3, tr3, sp3, vis3, day3, z3, fd')) = some (r, hp4, st4, tr4, sp4, vis4, day4, z4, fd') ∧ ob2 (f5_no xf (nI k)) (fun r x => some (r, xs, xa, x, (0 : Int32), ov)) = some (r, xs', xa', xf', 0, ov') ∧ PitOK xs' hp1 st1 tr1 sp1 vis1 day1 z1 ∧ RelF fd' xf' := by
    intro k hk hp3 st3 tr3 sp3 vis3 day3 z3 xs xa ov hP
    obtain ⟨r, fd', xf', n1, n2, n3⟩ := no_ok hF hk
    exact ⟨r, hp3, st3, tr3, sp3, vis3, day3, z3, fd', xs, xa, xf', ov, by rw [n1]; rfl, by rw [n2]; rfl, hP, n3⟩
  have bad := no 0 (by decide) hp3 st3 tr3 sp3 vis3 day3 z3 xs xa ov hP
  obtain ⟨N, eN, h2, h3, h4⟩ := id hP
  have hN := h3.2.2.2.2.1
  unfold f4_away f5_away
  rcases visC h2.2.2.2.2.1 hN v1 with ⟨q1, q2⟩ | ⟨v, rfl, hv, q1, q2⟩
  · rw [← eN] at q1; rw [if_pos q1, if_pos q2]; exact bad
  rw [← eN] at q1
  rw [if_neg (fun p => ne10 (q1.symm.trans p)), if_neg (fun p => ne10 (q2.symm.trans p)), in54]
  rcases inC v2 (a := 0) (b := 12) (by decide) (by decide) with h | ⟨d, rfl, -, hd, h⟩
  · simp only [show f4_within v2 0 12 = 0 from h, i0, reduceIte]; exact bad
  simp only [show f4_within (nI d) 0 12 = 1 from h, i1, reduceIte]
  obtain ⟨P, hW⟩ := without_ok (d := d) hP eN hN hv (by omega)
  have h256 := p2_le hN
  have c := away_c (fd := fd) (sp1 := sp1) (z1 := z1) eN hN (fun g => (hW g).1) (N + 1) 1000 0 hp3 st3 tr3 sp3 vis3 day3 z3 (by omega) (by omega) (fun j _ _ => Nat.zero_le _)
  have m := away_m (xf := xf) eN hN (fun g => (hW g).2) (2 ^ N) 1000 0 (-1) xs xa ov (by omega) (by omega) hP (Or.inl ⟨rfl, fun j hj => by omega⟩)
  rcases c with ⟨cn, hp4, st4, tr4, sp4, vis4, day4, z4, c1⟩ | ⟨r, hp4, st4, tr4, sp4, vis4, day4, z4, c1, c2⟩
  · rcases m with ⟨mn, xs', xa', ov', m1, m2⟩ | ⟨r', xs', xa', ov', m1, m2, m3⟩
    · rw [show l4_away_26 1000 hp1 st1 tr1 sp1 vis1 day1 z1 hp3 st3 tr3 sp3 vis3 day3 z3 fd (nI v) (nI d) 0 = _ from c1, show l5_away_29 1000 xs xa xf 0 ov (nI v) (nI d) (-1) 0 = _ from m1]
      exact no 3 (by decide) hp4 st4 tr4 sp4 vis4 day4 z4 xs' xa' ov' m2
    · exact absurd m2.2.1 (by rw [cn r' m2.1]; decide)
  · rcases m with ⟨mn, xs', xa', ov', m1, m2⟩ | ⟨r', xs', xa', ov', m1, m2, m3⟩
    · exact absurd c2.2.1 (by rw [mn r c2.1]; decide)
    · have := c2.uni m2
      subst this
      exact ⟨nI r, hp4, st4, tr4, sp4, vis4, day4, z4, fd, xs', xa', xf, ov', c1, m1, m3, hF⟩
theorem tells_loop {xs hp xa ov xsiz xcel shz : Nat → Int32} {shn : Nat → Nat → Int32} {s L : Nat} (hs : s < 4) (hL : L ≤ 40) (hx : xsiz s = nI L) (hC : Cel shn xcel) (hH : ∀ c, c < 16 → xs (6 + c) = hp c) : ∀ (m n k : Nat), k + m = min L 16 → m < n → ∃ b : Bool, l1_tells_12 n s shn shz hp (nI (min L 16)) (nI k) = some (bi b) ∧ l5_fitsAs_24 n xs xa 0 ov xsiz xcel (nI s) 1 (nI k) = j5_fitsAs_91 xs xa 0 ov xsiz xcel (bi b) := by
  have stop : ∀ (n k : Nat), k < 2 ^ 31 → l5_fitsAs_24 (n + 1) xs xa 0 ov xsiz xcel (nI s) 0 (nI k) = j5_fitsAs_91 xs xa 0 ov xsiz xcel 0 := by
    intro n k hk
    rw [l5_fitsAs_24, inb_y (show 4 < 2 ^ 31 by decide) hs, gd_t]
    by_cases a : xsiz (nI s).toNatClampNeg ≤ nI k
    · rw [if_pos a]
    · rw [if_neg a]
      by_cases b : (16 : Int32) ≤ nI k
      · rw [if_pos b]
      · rw [if_neg b, if_pos rfl]
  intro m
  induction m with
  | zero =>
    intro n k hk hn
    obtain ⟨n, rfl⟩ : ∃ q, n = q + 1 := ⟨n - 1, by omega⟩
    obtain rfl : k = min L 16 := by omega
    refine ⟨true, ?_, ?_⟩
    · rw [l1_tells_12, if_pos (nI_le (by omega) (by omega))]; rfl
    · rw [l5_fitsAs_24, inb_y (show 4 < 2 ^ 31 by decide) hs, gd_t, nI_clamp (show s < 2 ^ 31 by omega), hx, li 16]
      by_cases q : L ≤ 16
      · rw [if_pos (nI_le (by omega) (by omega))]; rfl
      · rw [if_neg (fun p => by have := (nI_leI (by omega) (by omega)).mp p; omega), if_pos (nI_le (by omega) (by omega))]; rfl
  | succ m ih =>
    intro n k hk hn
    obtain ⟨n, rfl⟩ : ∃ q, n = q + 1 := ⟨n - 1, by omega⟩
    have h1 : ¬ (nI (min L 16) ≤ nI k) := fun q => by have := (nI_leI (by omega) (by omega)).mp q; omega
    have h2 : ¬ (nI L ≤ nI k) := fun q => by have := (nI_leI (by omega) (by omega)).mp q; omega
    have h3 : ¬ (nI 16 ≤ nI k) := fun q => by have := (nI_leI (by omega) (by omega)).mp q; omega
    have et : f5_told xcel (nI s) (nI k) = some (shn s k) := by
      unfold f5_told
      rw [li 40, pk_mul, nI_add, inb_y (show 160 < 2 ^ 31 by decide) (show 40 * s + k < 160 by omega), gd_t, nI_clamp (show 40 * s + k < 2 ^ 31 by omega), hC s k hs (by omega)]
    rw [l1_tells_12, if_neg h1, l5_fitsAs_24, inb_y (show 4 < 2 ^ 31 by decide) hs, gd_t, nI_clamp (show s < 2 ^ 31 by omega), hx, li 16, if_neg h2, if_neg h3, if_neg ne10, inb_y (show 40 < 2 ^ 31 by decide) (show k < 40 by omega), inb_y (show 16 < 2 ^ 31 by decide) (show k < 16 by omega), nI_clamp (show k < 2 ^ 31 by omega), gd_t, gd_t, gd_t, et, ob1_so, ob1_so, li 6, nI_add, inb_y (show 88 < 2 ^ 31 by decide) (show 6 + k < 88 by omega), gd_t, nI_clamp (show 6 + k < 2 ^ 31 by omega), hH k (by omega)]
    by_cases q : shn s k = -1
    · rw [if_pos q, if_pos q, j1_tells_41, j5_fitsAs_78, j5_fitsAs_83, nI_1]; exact ih n (k + 1) (by omega) (by omega)
    rw [if_neg q, if_neg q]
    by_cases r : shn s k = hp k
    · rw [if_pos r, if_pos r, j1_tells_41, j5_fitsAs_78, j5_fitsAs_83, nI_1]; exact ih n (k + 1) (by omega) (by omega)
    · obtain ⟨n, rfl⟩ : ∃ q, n = q + 1 := ⟨n - 1, by omega⟩
      rw [if_neg r, if_neg r, j5_fitsAs_83, nI_1, stop n (k + 1) (by omega)]
      exact ⟨false, rfl, rfl⟩
theorem told_loop {xf fd shb shz xsiz xcel : Nat → Int32} {shn : Nat → Nat → Int32} {hp1 st1 : Nat → Int32} {tr1 : Nat → Nat → Int32} {sp1 : Nat → Int32} {vis1 day1 z1 : Int32} {v t d s L N b : Nat} (hF : RelF fd xf) (hs : s < 4) (hL40 : L ≤ 40) (hx : xsiz s = nI L) (hz : shz s = nI L) (hC : Cel shn xcel) (eN : vis1 = nI N) (hN8 : N ≤ 8) (hv : v < N) (ht : t < 7) (hL : kTL t = nI 0) (hM : kTM t = nI b) (hb : b < 100) (hd : d < 1000) : ∀ (m n x : Nat) (a : Int32) (xs xa ov : Nat → Int32) (hp3 st3 : Nat → Int32) (tr3 : Nat → Nat → Int32) (sp3 : Nat → Int32) (vis3 day3 z3 : Int32), x + m = b + 1 → m < n → PitOK xs hp1 st1 tr1 sp1 vis1 day1 z1 → ∃ r hp4 st4 tr4 sp4 vis4 day4 z4 xs' xa' ov', l4_toldBy_70 n hp1 st1 tr1 sp1 vis1 day1 z1 hp3 st3 tr3 sp3 vis3 day3 z3 shn shb shz fd (nI v) (nI t) (nI d) s a (nI x) = some (r, hp4, st4, tr4, sp4, vis4, day4, z4, fd) ∧ l5_allThatFit_6 n xs xa 0 ov xsiz xcel (nI s) (nI v) (nI t) (nI d) a (nI x) = some (r, xs', xa', ov') ∧ PitOK xs' hp1 st1 tr1 sp1 vis1 day1 z1 := by
  intro m
  induction m with
  | zero =>
    intro n x a xs xa ov hp3 st3 tr3 sp3 vis3 day3 z3 hx' hn hP
    obtain ⟨n, rfl⟩ : ∃ q, n = q + 1 := ⟨n - 1, by omega⟩
    have hlt : nI b < nI x := Int32.not_le.mp (nI_ge (by omega) (by omega))
    rw [l4_toldBy_70, l5_allThatFit_6, inb_y (show 7 < 2 ^ 31 by decide) ht, gd_t, nI_clamp (show t < 2 ^ 31 by omega), (lm_fin t ht).2, hM, if_pos hlt, if_pos hlt]
    exact ⟨_, _, _, _, _, _, _, _, _, _, _, rfl, rfl, hP⟩
  | succ m ih =>
    intro n x a xs xa ov hp3 st3 tr3 sp3 vis3 day3 z3 hx' hn hP
    obtain ⟨n, rfl⟩ : ∃ q, n = q + 1 := ⟨n - 1, by omega⟩
    have hlt : ¬ nI b < nI x := Int32.not_lt.mpr (nI_le (by omega) (by omega))
    obtain ⟨hp4, st4, tr4, day4, xa', xs1, xs4, ov4, a1, a2, a3, a4, a5, a6, a7⟩ := try_ok (ov := ov) hP hp3 st3 tr3 sp3 vis3 day3 z3 xa (v := v) (t := t) (x := x) (d := d) eN hN8 hv ht (by rw [hL, hM, nI_toInt (by omega), nI_toInt (by omega)]; omega) hd
    obtain ⟨ys, b1, b2⟩ := a7 xs4
    obtain ⟨f, f1, f2⟩ := tells_loop (xa := xa') (ov := ov4) (shz := shz) hs hL40 hx hC a5.1 (min L 16) 1000 0 (by omega) (by omega)
    have e1 : f1_tells s shn shz hp4 = some (bi f) := by
      unfold f1_tells
      rw [hz, li 16, jmin_n (by omega) (by omega)]
      exact f1
    have e2 : f5_fitsAs xs xa 0 ov xsiz xcel (nI s) (nI v) (nI t) (nI x) (nI d) = some (bi f, ys, xa', ov4) := by
      unfold f5_fitsAs
      rw [a2, ob1_so, a3, ob1_so, a4, ob2_so, show l5_fitsAs_24 1000 xs4 xa' 0 ov4 xsiz xcel (nI s) 1 0 = _ from f2, j5_fitsAs_91, b1, ob1_so]
      cases f <;> rfl
    rw [l4_toldBy_70, l5_allThatFit_6, inb_y (show 7 < 2 ^ 31 by decide) ht, gd_t, nI_clamp (show t < 2 ^ 31 by omega), (lm_fin t ht).2, hM, if_neg hlt, if_neg hlt, a1, e2, ob4_so']
    simp only [ob7, e1, ob1_so, j4_toldBy_114, j5_allThatFit_39, nI_1]
    cases f with
    | false =>
      simp only [bi_f, if_true, or_zero]
      exact ih n (x + 1) _ _ _ _ _ _ _ _ _ _ _ (by omega) (by omega) b2
    | true =>
      simp only [bi_t, i1]
      exact ih n (x + 1) _ _ _ _ _ _ _ _ _ _ _ (by omega) (by omega) b2
theorem told_ok {xs xa xf fd ov xwid xsiz xcel shb shz : Nat → Int32} {shn : Nat → Nat → Int32} {hp1 st1 : Nat → Int32} {tr1 : Nat → Nat → Int32} {sp1 : Nat → Int32} {vis1 day1 z1 : Int32} {hp3 st3 : Nat → Int32} {tr3 : Nat → Nat → Int32} {sp3 : Nat → Int32} {vis3 day3 z3 : Int32} (hP : PitOK xs hp1 st1 tr1 sp1 vis1 day1 z1) (hS : RelS shn shb shz xwid xsiz xcel) (hF : RelF fd xf) {t b : Nat} (ht : t < 7) (hL : kTL t = nI 0) (hM : kTM t = nI b) (hb : b < 100) (v1 v2 v3 : Int32) : TR (ob9 (f4_toldBy hp1 st1 tr1 sp1 vis1 day1 z1 hp3 st3 tr3 sp3 vis3 day3 z3 shn shb shz fd v1 v2 (nI t) v3) (fun r hp st tr sp vis day z fd => some (r, hp, st, tr, sp, vis, day, z, fd))) (ob1 (f5_wrongTold xs xwid v1 v2 v3) (fun r1 => if r1 < 0 then ob4 (f5_allThatFit xs xa 0 ov xsiz xcel v1 v2 (nI t) v3) (fun r4 xs_5 xaside_6 xover_7 => some (r4, xs_5, xaside_6, xf, xover_7)) else ob2 (f5_no xf r1) (fun r9 x => some (r9, xs, xa, x, ov)))) hp1 st1 tr1 sp1 vis1 day1 z1 := by
  have no : ∀ k, k < 7 → TR (ob9 (ob2 (f4_found fd (nI k)) (fun r fd' => some (r, hp3, st3, tr3, sp3, vis3, day3, z3, fd'))) (fun r hp st tr sp vis day z fd => some (r, hp, st, tr, sp, vis, day, z, fd))) (ob2 (f5_no xf (nI k)) (fun r x => some (r, xs, xa, x, ov))) hp1 st1 tr1 sp1 vis1 day1 z1 := by
    intro k hk
    obtain ⟨r, fd', xf', n1, n2, n3⟩ := no_ok hF hk
    exact ⟨r, hp3, st3, tr3, sp3, vis3, day3, z3, fd', xs, xa, xf', ov, by rw [n1]; rfl, by rw [n2]; rfl, hP, n3⟩
  obtain ⟨N, eN, h2, h3, h4⟩ := id hP
  have hN := h3.2.2.2.2.1
  unfold f4_toldBy f5_wrongTold f5_wrongSheet
  rcases isSh v1 with ⟨q1, q2⟩ | ⟨s, rfl, hs, q1, q2⟩
  · simp only [q1, q2, i0, reduceIte, ob1_so, if_neg (show ¬ (0 : Int32) < 0 by decide)]; exact no 0 (by decide)
  simp only [q1, q2, i1, reduceIte]
  rw [inb_y (show 4 < 2 ^ 31 by decide) hs, gd_t, gd_t, nI_clamp (by omega), miss, ← hS.1 s hs]
  by_cases c : shb s = 0
  · simp only [if_pos c, ob1_so, i1, if_neg (show ¬ (5 : Int32) < 0 by decide)]; exact no 5 (by decide)
  simp only [if_neg c, ob1_so, i0, if_pos (show (-1 : Int32) < 0 by decide)]
  rcases visC h2.2.2.2.2.1 hN v2 with ⟨q1, q2⟩ | ⟨v, rfl, hv, q1, q2⟩
  · rw [← eN] at q1; simp only [q1, q2, i0, reduceIte, ob1_so, if_neg (show ¬ (0 : Int32) < 0 by decide)]; exact no 0 (by decide)
  rw [← eN] at q1
  simp only [q1, q2, i1, in54]
  rcases inC v3 (a := 0) (b := 20) (by decide) (by decide) with h | ⟨d, rfl, -, hd, h⟩
  · simp only [show f4_within v3 0 20 = 0 from h, i0, reduceIte, ob1_so, if_neg (show ¬ (0 : Int32) < 0 by decide)]; exact no 0 (by decide)
  simp only [show f4_within (nI d) 0 20 = 1 from h, i1, reduceIte, ob1_so, if_pos (show (-1 : Int32) < 0 by decide)]
  obtain ⟨n, hn, e1, e2⟩ := hS.2.1 s hs
  obtain ⟨r, hp4, st4, tr4, sp4, vis4, day4, z4, xs', xa', ov', a1, a2, a3⟩ := told_loop (xf := xf) (fd := fd) (shb := shb) hF hs hn e2 e1 hS.2.2 eN hN hv ht hL hM hb (show d < 1000 by omega) (b + 1) 1000 0 0 xs xa ov hp3 st3 tr3 sp3 vis3 day3 z3 (by omega) (by omega) hP
  unfold f5_allThatFit
  rw [inb_y (show 7 < 2 ^ 31 by decide) ht, gd_t, nI_clamp (show t < 2 ^ 31 by omega), hL, a1, show l5_allThatFit_6 1000 xs xa 0 ov xsiz xcel (nI s) (nI v) (nI t) (nI d) 0 0 = _ from a2]
  exact ⟨_, _, _, _, _, _, _, _, _, _, _, _, _, rfl, rfl, a3, hF⟩
theorem op_fits {xs xa xf fd ov xwid xsiz xcel shb shz : Nat → Int32} {shn : Nat → Nat → Int32} {hp1 st1 : Nat → Int32} {tr1 : Nat → Nat → Int32} {sp1 : Nat → Int32} {vis1 day1 z1 : Int32} {hp3 st3 : Nat → Int32} {tr3 : Nat → Nat → Int32} {sp3 : Nat → Int32} {vis3 day3 z3 : Int32} (hP : PitOK xs hp1 st1 tr1 sp1 vis1 day1 z1) (hS : RelS shn shb shz xwid xsiz xcel) (hF : RelF fd xf) (v1 v2 v3 : Int32) : TR (f4_fits hp1 st1 tr1 sp1 vis1 day1 z1 hp3 st3 tr3 sp3 vis3 day3 z3 shn shb shz fd v1 v2 v3) (f5_fits xs xa xf 0 ov xwid xsiz xcel v1 v2 v3) hp1 st1 tr1 sp1 vis1 day1 z1 :=
  told_ok hP hS hF (t := 1) (b := 15) (by decide) rfl rfl (by decide) v1 v2 v3
theorem op_kinds {xs xa xf fd ov xwid xsiz xcel shb shz : Nat → Int32} {shn : Nat → Nat → Int32} {hp1 st1 : Nat → Int32} {tr1 : Nat → Nat → Int32} {sp1 : Nat → Int32} {vis1 day1 z1 : Int32} {hp3 st3 : Nat → Int32} {tr3 : Nat → Nat → Int32} {sp3 : Nat → Int32} {vis3 day3 z3 : Int32} (hP : PitOK xs hp1 st1 tr1 sp1 vis1 day1 z1) (hS : RelS shn shb shz xwid xsiz xcel) (hF : RelF fd xf) (v1 v2 v3 : Int32) : TR (f4_kinds hp1 st1 tr1 sp1 vis1 day1 z1 hp3 st3 tr3 sp3 vis3 day3 z3 shn shb shz fd v1 v2 v3) (f5_kinds xs xa xf 0 ov xwid xsiz xcel v1 v2 v3) hp1 st1 tr1 sp1 vis1 day1 z1 :=
  told_ok hP hS hF (t := 0) (b := 6) (by decide) rfl rfl (by decide) v1 v2 v3
