/-! one who digs; then a coming as a whole -/
theorem dg_g {l h : Nat} (hl : l < 2 ^ 30) (hh : h < 2 ^ 30) : jmax 0 (jmin (nI l) (nI h - nI 0)) = nI (min l h) := by
  rw [up_g hl hh (by decide), Nat.sub_zero]
theorem neg_n {a d : Nat} (h : d ≤ a) : nI a + -nI d = nI (a - d) := by rw [← Int32.sub_eq_add_neg, pk_sub h]
theorem subneg_n {a d : Nat} : nI a - -nI d = nI (a + d) := by rw [Int32.sub_eq_add_neg, Int32.neg_neg, nI_add]
theorem neg_pos {d : Nat} (hd : d < 2 ^ 31) : (0 : Int32) ≤ -nI d ↔ d = 0 := by
  rw [Int32.le_iff_toInt_le, sb_negT hd, show (0 : Int32).toInt = 0 by decide]
  omega
theorem step_dg {xs hp st : Nat → Int32} {tr : Nat → Nat → Int32} {sp : Nat → Int32} {vis day z : Int32} {v lo hi c s L h : Nat} (hr : Row xs hp (upd st 0 (nI s)) tr sp vis day z) (hv : v < 8) (hk : tr 0 v = 4) (hl : lo ≤ hi) (hh : hi < 16) (hc1 : lo ≤ c) (hc2 : c ≤ hi) (hs9 : s ≤ 9999) (hL : L ≤ 40) (eh : hp c = nI h) (hh30 : h ≤ 30) (n : Nat) :
    ∃ xs', l5_comes_15 (n + 1) xs (nI v) (nI (spN lo hi)) (nI L) (nI c) = l5_comes_15 n xs' (nI v) (nI (spN lo hi)) (nI (L - min L h)) (nI (c + 1)) ∧ Row xs' (upd hp c (nI (h - min L h))) (upd st 0 (nI (min 9999 (s + min L h)))) tr sp vis day z := by
  have hbit := bit_fin lo (by omega) hi hh hl c (by omega)
  have h3 : xs 3 = nI s := by have := hr.2.1 0 (by decide); rw [upd_s] at this; exact this
  generalize hg : min L h = g
  have e1 : f5_getsAt xs (nI v) (nI c) (nI L) = some (-nI g) := by
    unfold f5_getsAt
    rw [li 0, g5 xs hv (by decide), hr.2.2.1 0 v (by decide) hv]
    simp only [ob1_so]
    rw [if_pos hk, li 6, nI_add, inb_y (show 88 < 2 ^ 31 by decide) (show 6 + c < 88 by omega), gd_t, nI_clamp (by omega), hr.1 c (by omega), eh, less_min, jmin_n (by omega) (by omega), show min h L = g by omega]
  refine ⟨upd (upd xs (6 + c) (nI (h - g))) 3 (nI (min 9999 (s + g))), ?_, ?_⟩
  · rw [l5_comes_15, li 16, if_neg (fun q => by have := (nI_leI (by omega) (by omega)).mp q; omega), if_pos (hbit.mpr ⟨hc1, hc2⟩), e1]
    simp only [ob1_so]
    unfold j5_comes_44 j5_comes_96
    rw [li 6, nI_add, inb_y (show 88 < 2 ^ 31 by decide) (show 6 + c < 88 by omega), gd_t, gd_t, nI_clamp (by omega), hr.1 c (by omega), eh, neg_n (by omega), upd_n (show 3 ≠ 6 + c by omega), h3, subneg_n, less_min, li 9999, jmin_n (by decide) (by omega), nI_1, Int32.neg_neg, pk_sub (by omega)]
    by_cases e : g = 0
    · subst e
      rw [if_pos ((neg_pos (by decide)).mpr rfl), show nI L - -nI 0 = nI (L - 0) by rw [subneg_n, Nat.add_zero, Nat.sub_zero]]
    · rw [if_neg (fun q => e ((neg_pos (by omega)).mp q))]
  · have := (hr.hp (show c < 16 by omega) (nI (h - g))).st (show 0 < 3 by decide) (nI (min 9999 (s + g)))
    rw [upd_twice] at this
    exact this
theorem loop_dg {st : Nat → Int32} {tr : Nat → Nat → Int32} {sp : Nat → Int32} {vis day z : Int32} {v lo hi mv : Nat} (hv : v < 8) (hk : tr 0 v = 4) (hl : lo ≤ hi) (hh : hi < 16) :
    ∀ (m n1 n2 c L s : Nat) (xs hp : Nat → Int32), c + m = hi + 1 → lo ≤ c → m < n1 → Row xs hp (upd st 0 (nI s)) tr sp vis day z → (∀ c, c < 16 → Bt (hp c) 0 30) → s ≤ 9999 → L ≤ 40 →
    ∃ (hp' xs' : Nat → Int32) (g : Nat), g ≤ L ∧ (∀ c, c < 16 → Bt (hp' c) 0 30) ∧ l0_dig_30 n1 hp st tr (nI 0) (nI hi) (nI mv) (nI L) (nI c) = some (nI mv - nI (L - g), hp', upd st 0 (jmin (kSM 0) (((st 0) + nI mv) - nI (L - g)))) ∧
      l5_comes_15 (n2 + m) xs (nI v) (nI (spN lo hi)) (nI L) (nI c) = l5_comes_15 n2 xs' (nI v) (nI (spN lo hi)) (nI (L - g)) (nI (hi + 1)) ∧ Row xs' hp' (upd st 0 (nI (min 9999 (s + g)))) tr sp vis day z := by
  intro m
  induction m with
  | zero =>
    intro n1 n2 c L s xs hp hc hc1 hn hr hb hs9 hL
    obtain ⟨n1, rfl⟩ : ∃ k, n1 = k + 1 := ⟨n1 - 1, by omega⟩
    refine ⟨hp, xs, 0, by omega, hb, ?_, ?_, ?_⟩
    · rw [l0_dig_30, if_pos ((nI_ltI (by omega) (by omega)).mpr (by omega))]
      rfl
    · rw [show c = hi + 1 by omega]; rfl
    · rw [show min 9999 (s + 0) = s by omega]; exact hr
  | succ m ih =>
    intro n1 n2 c L s xs hp hc hc1 hn hr hb hs9 hL
    obtain ⟨n1, rfl⟩ : ∃ k, n1 = k + 1 := ⟨n1 - 1, by omega⟩
    obtain ⟨h, eh, hh30⟩ := Bt.nat (b := 30) (hb c (by omega))
    obtain ⟨xs1, e1, hr1⟩ := step_dg hr hv hk hl hh hc1 (by omega) hs9 hL eh hh30 (n2 + m)
    generalize hg : min L h = g at e1 hr1
    have hb1 : ∀ j, j < 16 → Bt (upd hp c (nI (h - g)) j) 0 30 := by
      intro j hj
      by_cases e : j = c
      · subst e; rw [upd_s]; exact Bt.of (by omega) (by omega) (by omega)
      · rw [upd_n e]; exact hb j hj
    obtain ⟨hp', xs', g', i1, i3, i4, i5, i6⟩ := ih n1 n2 (c + 1) (L - g) (min 9999 (s + g)) xs1 _ (by omega) (by omega) (by omega) hr1 hb1 (by omega) (by omega)
    refine ⟨hp', xs', g + g', by omega, i3, ?_, ?_, ?_⟩
    · rw [l0_dig_30, if_neg (fun q => by have := (nI_ltI (by omega) (by omega)).mp q; omega), inb_y (show 16 < 2 ^ 31 by decide) (show c < 16 by omega), gd_t, gd_t, gd_t, nI_clamp (by omega), eh, dg_g (by omega) (by omega), hg, pk_sub (by omega), pk_sub (by omega), nI_1, i4, show L - g - g' = L - (g + g') by omega]
    · rw [show n2 + (m + 1) = (n2 + m) + 1 by omega, e1, i5, show L - g - g' = L - (g + g') by omega]
    · rw [show min 9999 (s + (g + g')) = min 9999 (min 9999 (s + g) + g') by omega]; exact i6
/-- what is told when all cells have been seen -/
theorem comes_end {xs hp st : Nat → Int32} {tr : Nat → Nat → Int32} {sp : Nat → Int32} {vis day z : Int32} {v S mv : Nat} {L : Int32} (hr : Row xs hp st tr sp vis day z) (hv : v < 8) (ho : OkV tr v) (hw : Bt (st 2) 0 9) (em : f0_movesOf st tr (nI v) = some (nI mv)) (n : Nat) (t0 : Int32) :
    ∃ (xs' : Nat → Int32) (tr' : Nat → Nat → Int32), j0_receive_21 hp st tr (nI v) t0 = some (t0, hp, st, tr') ∧ l5_comes_15 (n + 1) xs (nI v) (nI S) L (nI 16) = some (nI mv - L, xs') ∧ Row xs' hp st tr' sp vis day z ∧ (∀ u, OkV tr u → OkV tr' u) := by
  obtain ⟨b, e0, e5⟩ := stands_ok hr hv ho hw
  obtain ⟨u, eu, hu⟩ := Bt.nat (b := 9999) ho.2.2.2.2.2.2
  have hmv : ∀ (xs' : Nat → Int32) (tr' : Nat → Nat → Int32), tr' 0 v = tr 0 v → Row xs' hp st tr' sp vis day z → f5_movesOf xs' (nI v) = some (nI mv) := by
    intro xs' tr' ht hr'
    rw [mov5 hr' hv, ← em]
    simp only [f0_movesOf, nI_clamp (show v < 2 ^ 31 by omega), ht]
  have hup : jmin (kTM 6) (tr 6 v + 1) = nI (min 9999 (u + 1)) := by
    rw [eu, nI_1, show kTM 6 = nI 9999 by decide, jmin_n (by decide) (by omega)]
  cases b with
  | false =>
    refine ⟨upd xs (22 + 7 * v + 6) (tr 6 v), tr, ?_, ?_, ?_, fun u h => h⟩
    · unfold j0_receive_21
      rw [e0]
      rfl
    · rw [l5_comes_15, if_pos (by decide), e5, li 6, g5 xs hv (by decide), hr.2.2.1 6 v (by decide) hv]
      simp only [ob1_so, bi_f]
      rw [if_pos trivial]
      unfold j5_comes_141
      rw [p5 xs _ hv (by decide)]
      simp only [ob1_so]
      have h2 := hr.tr (show 6 < 7 by decide) hv (tr 6 v)
      rw [upd2_same rfl] at h2
      rw [hmv _ tr rfl h2]
      rfl
    · have h2 := hr.tr (show 6 < 7 by decide) hv (tr 6 v)
      rw [upd2_same rfl] at h2
      exact h2
  | true =>
    have h2 := hr.tr (show 6 < 7 by decide) hv (nI (min 9999 (u + 1)))
    refine ⟨upd xs (22 + 7 * v + 6) (nI (min 9999 (u + 1))), upd2 tr 6 v (nI (min 9999 (u + 1))), ?_, ?_, h2, ?_⟩
    · unfold j0_receive_21
      rw [e0]
      simp only [ob1_so, bi_t]
      rw [if_neg (by decide), inb_y (show 8 < 2 ^ 31 by decide) hv, gd_t, gd_t, nI_clamp (by omega), hup]
    · rw [l5_comes_15, if_pos (by decide), e5, li 6, g5 xs hv (by decide), hr.2.2.1 6 v (by decide) hv]
      simp only [ob1_so, bi_t]
      rw [if_neg (by decide)]
      unfold j5_comes_141
      rw [less_min, show (9999 : Int32) = kTM 6 by decide, hup, p5 xs _ hv (by decide)]
      simp only [ob1_so]
      rw [hmv _ _ (upd2_n (by omega)) h2]
      rfl
    · intro w hw
      obtain ⟨a0, a1, a2, a3, a4, a5, a6⟩ := hw
      refine ⟨by rw [upd2_n (by omega)]; exact a0, by rw [upd2_n (by omega)]; exact a1, by rw [upd2_n (by omega)]; exact a2, by rw [upd2_n (by omega)]; exact a3, by rw [upd2_n (by omega)]; exact a4, by rw [upd2_n (by omega)]; exact a5, ?_⟩
      by_cases e : w = v
      · subst e; rw [upd2_s]; exact Bt.of (by omega) (by omega) (by omega)
      · rw [upd2_n (by omega)]; exact a6
theorem Row.of_st {xs hp st : Nat → Int32} {tr : Nat → Nat → Int32} {sp : Nat → Int32} {vis day z : Int32} {s : Nat} (hr : Row xs hp st tr sp vis day z) (e : st 0 = nI s) : Row xs hp (upd st 0 (nI s)) tr sp vis day z := by rw [upd_same e]; exact hr
/-- A COMING, on both sides -/
theorem come_ok {xs hp st : Nat → Int32} {tr : Nat → Nat → Int32} {sp : Nat → Int32} {vis day z : Int32} {v n : Nat} (hr : Row xs hp st tr sp vis day z) (hok : OkP hp st tr n day) (hv : v < n) :
    ∃ (m : Int32) (xs' hp' st' : Nat → Int32) (tr' : Nat → Nat → Int32), f0_receive hp st tr (nI v) = some (m, hp', st', tr') ∧ f5_comes xs (nI v) = some (m, xs') ∧ Row xs' hp' st' tr' sp vis day z ∧ OkP hp' st' tr' n day ∧ st' 1 = st 1 ∧ st' 2 = st 2 := by
  obtain ⟨hb, hs0, hs1, hs2, hn8, hday, hvs⟩ := hok
  have hv8 : v < 8 := by omega
  have ho := hvs v hv
  obtain ⟨lo, hi, hsp⟩ := Span.ex hv8 ho
  obtain ⟨r, er, hr30, hr0⟩ := rais_ok hv8 ho hs2
  obtain ⟨mv, em, hmv⟩ := mov_ok (tr := tr) hv8 hs1
  obtain ⟨s, es, hs9⟩ := Bt.nat (b := 9999) hs0
  have hl := hsp.1
  have hh := hsp.2.1
  have hrs := hr.of_st es
  unfold f0_receive f5_comes
  rw [dig0 hv8, span5 hr hv8 ho hsp, mov5 hr hv8, em]
  simp only [ob1_so]
  have pre : l5_comes_15 1000 xs (nI v) (nI (spN lo hi)) (nI mv) 0 = l5_comes_15 (1000 - lo) xs (nI v) (nI (spN lo hi)) (nI mv) (nI lo) := by
    have := skips (xs := xs) (v := nI v) (L := nI mv) hl hh (show xs 3 = nI s by rw [← es]; exact hr.2.1 0 (by decide)) hs9 lo (1000 - lo) 0 (by omega) (fun j h1 h2 => by omega)
    rw [show 1000 - lo + lo = 1000 by omega, Nat.zero_add] at this
    exact this
  rw [pre]
  by_cases hk : tr 0 v = 4
  · rw [if_neg (by simp [hk, bi])]
    unfold f0_dig
    rw [er, hsp.2.2.1, hsp.2.2.2, em]
    simp only [ob1_so]
    rw [hr0 hk]
    obtain ⟨hp', xs', g, g1, g3, g4, g5', g6⟩ := loop_dg (mv := mv) (st := st) hv8 hk hl hh (hi + 1 - lo) 1000 (1000 - lo - (hi + 1 - lo)) lo mv s xs hp (by omega) (by omega) (by omega) hrs hb hs9 hmv
    rw [show 1000 - lo - (hi + 1 - lo) + (hi + 1 - lo) = 1000 - lo by omega] at g5'
    rw [g4, g5']
    have hst' : upd st 0 (jmin (kSM 0) (((st 0) + nI mv) - nI (mv - g))) = upd st 0 (nI (min 9999 (s + g))) := by
      rw [es, nI_add, pk_sub (by omega), show kSM 0 = nI 9999 by decide, jmin_n (by decide) (by omega), show s + mv - (mv - g) = s + g by omega]
    rw [hst', pk_sub (by omega), show mv - (mv - g) = g by omega]
    have h3 : xs' 3 = nI (min 9999 (s + g)) := by have := g6.2.1 0 (by decide); rw [upd_s] at this; exact this
    have post : l5_comes_15 (1000 - lo - (hi + 1 - lo)) xs' (nI v) (nI (spN lo hi)) (nI (mv - g)) (nI (hi + 1)) = l5_comes_15 (1000 - lo - (hi + 1 - lo) - (16 - (hi + 1)) - 1 + 1) xs' (nI v) (nI (spN lo hi)) (nI (mv - g)) (nI 16) := by
      have := skips (xs := xs') (v := nI v) (L := nI (mv - g)) hl hh h3 (by omega) (16 - (hi + 1)) (1000 - lo - (hi + 1 - lo) - (16 - (hi + 1))) (hi + 1) (by omega) (fun j h1 h2 => by omega)
      rw [show 1000 - lo - (hi + 1 - lo) - (16 - (hi + 1)) + (16 - (hi + 1)) = 1000 - lo - (hi + 1 - lo) by omega, show hi + 1 + (16 - (hi + 1)) = 16 by omega] at this
      rw [this, show 1000 - lo - (hi + 1 - lo) - (16 - (hi + 1)) - 1 + 1 = 1000 - lo - (hi + 1 - lo) - (16 - (hi + 1)) by omega]
    rw [post]
    obtain ⟨xs2, tr2, k1, k2, k3, k4⟩ := comes_end (S := spN lo hi) (L := nI (mv - g)) g6 hv8 ho (by rw [upd_n (by decide)]; exact hs2) (by rw [mov_st]; exact em) (1000 - lo - (hi + 1 - lo) - (16 - (hi + 1)) - 1) (nI g)
    refine ⟨nI g, xs2, hp', _, tr2, k1, ?_, k3, ⟨g3, ?_, ?_, ?_, hn8, hday, fun u hu => k4 u (hvs u hu)⟩, upd_n (by decide), upd_n (by decide)⟩
    · rw [k2, pk_sub (by omega), show mv - (mv - g) = g by omega]
    · rw [upd_s]; exact Bt.of (by omega) (by omega) (by omega)
    · rw [upd_n (by decide)]; exact hs1
    · rw [upd_n (by decide)]; exact hs2
  · rw [if_pos (by simp [hk, bi])]
    unfold f0_heapUp
    rw [er, hsp.2.2.1, hsp.2.2.2, em]
    simp only [ob1_so]
    rw [es, jmin_n (by omega) (by omega)]
    obtain ⟨hp', xs', g, g1, g2, g3, g4, g5', g6⟩ := loop_up (able := min mv s) (st := st) hv8 er hk hl hh hr30 (hi + 1 - lo) 1000 (1000 - lo - (hi + 1 - lo)) lo mv s xs hp (by omega) (by omega) (by omega) hrs hb hs9 hmv
    rw [show 1000 - lo - (hi + 1 - lo) + (hi + 1 - lo) = 1000 - lo by omega] at g5'
    rw [g4, g5']
    have hst' : upd st 0 (st 0 - (nI (min mv s) - nI (min mv s - g))) = upd st 0 (nI (s - g)) := by
      rw [es, pk_sub (by omega), show min mv s - (min mv s - g) = g by omega, pk_sub (by omega)]
    rw [hst', pk_sub (by omega), show min mv s - (min mv s - g) = g by omega]
    have h3 : xs' 3 = nI (s - g) := by have := g6.2.1 0 (by decide); rw [upd_s] at this; exact this
    have post : l5_comes_15 (1000 - lo - (hi + 1 - lo)) xs' (nI v) (nI (spN lo hi)) (nI (mv - g)) (nI (hi + 1)) = l5_comes_15 (1000 - lo - (hi + 1 - lo) - (16 - (hi + 1)) - 1 + 1) xs' (nI v) (nI (spN lo hi)) (nI (mv - g)) (nI 16) := by
      have := skips (xs := xs') (v := nI v) (L := nI (mv - g)) hl hh h3 (by omega) (16 - (hi + 1)) (1000 - lo - (hi + 1 - lo) - (16 - (hi + 1))) (hi + 1) (by omega) (fun j h1 h2 => by omega)
      rw [show 1000 - lo - (hi + 1 - lo) - (16 - (hi + 1)) + (16 - (hi + 1)) = 1000 - lo - (hi + 1 - lo) by omega, show hi + 1 + (16 - (hi + 1)) = 16 by omega] at this
      rw [this, show 1000 - lo - (hi + 1 - lo) - (16 - (hi + 1)) - 1 + 1 = 1000 - lo - (hi + 1 - lo) - (16 - (hi + 1)) by omega]
    rw [post]
    obtain ⟨xs2, tr2, k1, k2, k3, k4⟩ := comes_end (S := spN lo hi) (L := nI (mv - g)) g6 hv8 ho (by rw [upd_n (by decide)]; exact hs2) (by rw [mov_st]; exact em) (1000 - lo - (hi + 1 - lo) - (16 - (hi + 1)) - 1) (nI g)
    refine ⟨nI g, xs2, hp', _, tr2, k1, ?_, k3, ⟨g3, ?_, ?_, ?_, hn8, hday, fun u hu => k4 u (hvs u hu)⟩, upd_n (by decide), upd_n (by decide)⟩
    · rw [k2, pk_sub (by omega), show mv - (mv - g) = g by omega]
    · rw [upd_s]; exact Bt.of (by omega) (by omega) (by omega)
    · rw [upd_n (by decide)]; exact hs1
    · rw [upd_n (by decide)]; exact hs2
