/-! a visitor comes, on both sides -/
theorem jmin_n {a b : Nat} (ha : a < 2 ^ 31) (hb : b < 2 ^ 31) : jmin (nI a) (nI b) = nI (min a b) := by
  unfold jmin
  by_cases h : b < a
  · rw [if_pos ((nI_ltI hb ha).mpr h), Nat.min_eq_right (by omega)]
  · rw [if_neg (fun q => h ((nI_ltI hb ha).mp q)), Nat.min_eq_left (by omega)]
theorem jmax_n {a b : Nat} (ha : a < 2 ^ 31) (hb : b < 2 ^ 31) : jmax (nI a) (nI b) = nI (max a b) := by
  unfold jmax
  by_cases h : a < b
  · rw [if_pos ((nI_ltI ha hb).mpr h), Nat.max_eq_right (by omega)]
  · rw [if_neg (fun q => h ((nI_ltI ha hb).mp q)), Nat.max_eq_left (by omega)]
/-- what a cell gets -/
theorem up_g {l r h : Nat} (hl : l < 2 ^ 30) (hr : r < 2 ^ 30) (hh : h < 2 ^ 30) : jmax 0 (jmin (nI l) (nI r - nI h)) = nI (min l (r - h)) := by
  by_cases e : h ≤ r
  · rw [pk_sub e, jmin_n (by omega) (by omega), ← nI_0, jmax_n (by decide) (by omega), Nat.zero_max]
  · have hn : nI r - nI h < 0 := pk_sneg hh (by omega)
    have h1 : jmin (nI l) (nI r - nI h) = nI r - nI h := by
      unfold jmin
      rw [if_pos (Int32.lt_of_lt_of_le hn (nI_pos' (by omega)))]
    rw [h1]
    unfold jmax
    rw [if_neg (fun q => Int32.lt_irrefl (Int32.lt_trans hn q)), show r - h = 0 by omega, Nat.min_zero]
    rfl
theorem up_m {l r h s : Nat} (hl : l < 2 ^ 30) (hr : r < 2 ^ 30) (hh : h < 2 ^ 30) (hs : s < 2 ^ 30) : (if (0 : Int32) < nI r - nI h then some (jmin (jmin (nI r - nI h) (nI l)) (nI s)) else some 0) = some (nI (min (min (r - h) l) s)) := by
  by_cases e : h < r
  · rw [pk_sub (by omega), if_pos (by rw [← nI_0]; exact (nI_ltI (by decide) (by omega)).mpr (by omega)), jmin_n (by omega) (by omega), jmin_n (by omega) (by omega)]
  · have e2 : min (min (r - h) l) s = 0 := by omega
    rw [e2, if_neg]
    · rfl
    · by_cases e3 : h = r
      · rw [e3, pk_sub (by omega), Nat.sub_self]; decide
      · have hn : nI r - nI h < 0 := pk_sneg hh (by omega)
        exact fun q => Int32.lt_irrefl (Int32.lt_trans hn q)
theorem upd_same {f : Nat → Int32} {k : Nat} {x : Int32} (h : f k = x) : upd f k x = f := by
  funext j
  by_cases e : j = k
  · subst e; rw [upd_s, h]
  · rw [upd_n e]
theorem upd2_same {f : Nat → Nat → Int32} {t i : Nat} {x : Int32} (h : f t i = x) : upd2 f t i x = f := by
  funext j k
  by_cases e : j = t ∧ k = i
  · obtain ⟨rfl, rfl⟩ := e; rw [upd2_s, h]
  · rw [upd2_n e]
theorem upd_twice {f : Nat → Int32} {k : Nat} {x y : Int32} : upd (upd f k x) k y = upd f k y := by
  funext j
  by_cases e : j = k
  · subst e; rw [upd_s, upd_s]
  · rw [upd_n e, upd_n e, upd_n e]
theorem rais_st {st : Nat → Int32} {tr : Nat → Nat → Int32} {v : Int32} {x : Int32} : f0_raisesOf (upd st 0 x) tr v = f0_raisesOf st tr v := by
  unfold f0_raisesOf
  rw [upd_n (by decide)]
theorem mov_st {st : Nat → Int32} {tr : Nat → Nat → Int32} {v : Int32} {x : Int32} : f0_movesOf (upd st 0 x) tr v = f0_movesOf st tr v := by
  unfold f0_movesOf
  rw [upd_n (by decide)]
/-- a cell outside the span: nothing -/
theorem skip1 {xs : Nat → Int32} {v : Int32} {lo hi c s : Nat} {L : Int32} (hl : lo ≤ hi) (hh : hi < 16) (hc : c < 16) (hs : xs 3 = nI s) (hs9 : s ≤ 9999) (hn : ¬ (lo ≤ c ∧ c ≤ hi)) (n : Nat) : l5_comes_15 (n + 1) xs v (nI (spN lo hi)) L (nI c) = l5_comes_15 n xs v (nI (spN lo hi)) L (nI (c + 1)) := by
  have hbit := bit_fin lo (by omega) hi hh hl c hc
  rw [l5_comes_15, li 16, if_neg (fun q => by have := (nI_leI (by omega) (by omega)).mp q; omega), if_neg (fun q => hn (hbit.mp q))]
  unfold j5_comes_44 j5_comes_96
  rw [li 6, nI_add, inb_y (show 88 < 2 ^ 31 by decide) (show 6 + c < 88 by omega), gd_t, gd_t, nI_clamp (by omega), if_pos (by decide), Int32.add_zero, upd_same (f := xs) (k := 6 + c) rfl, Int32.sub_zero, Int32.sub_zero, less_min, hs, li 9999, jmin_n (by decide) (by omega), show min 9999 s = s by omega, upd_same hs, nI_1]
theorem skips {xs : Nat → Int32} {v : Int32} {lo hi s : Nat} {L : Int32} (hl : lo ≤ hi) (hh : hi < 16) (hs : xs 3 = nI s) (hs9 : s ≤ 9999) : ∀ (m n c : Nat), c + m ≤ 16 → (∀ j, c ≤ j → j < c + m → ¬ (lo ≤ j ∧ j ≤ hi)) → l5_comes_15 (n + m) xs v (nI (spN lo hi)) L (nI c) = l5_comes_15 n xs v (nI (spN lo hi)) L (nI (c + m)) := by
  intro m
  induction m with
  | zero => intro n c _ _; rfl
  | succ m ih =>
    intro n c hc hj
    rw [show n + (m + 1) = (n + m) + 1 by omega, skip1 hl hh (by omega) hs hs9 (hj c (by omega) (by omega)), ih n (c + 1) (by omega) (fun j h1 h2 => hj j (by omega) (by omega)), show c + 1 + m = c + (m + 1) by omega]
/-- one cell of the span, for one who heaps up -/
theorem step_up {xs hp st : Nat → Int32} {tr : Nat → Nat → Int32} {sp : Nat → Int32} {vis day z : Int32} {v lo hi c s r L h : Nat} (hr : Row xs hp (upd st 0 (nI s)) tr sp vis day z) (hv : v < 8) (er : f0_raisesOf st tr (nI v) = some (nI r)) (hk : ¬ tr 0 v = 4) (hl : lo ≤ hi) (hh : hi < 16) (hc1 : lo ≤ c) (hc2 : c ≤ hi) (hr30 : r ≤ 30) (hs9 : s ≤ 9999) (hL : L ≤ 40) (eh : hp c = nI h) (hh30 : h ≤ 30) (n : Nat) :
    ∃ xs', l5_comes_15 (n + 1) xs (nI v) (nI (spN lo hi)) (nI L) (nI c) = l5_comes_15 n xs' (nI v) (nI (spN lo hi)) (nI (L - min (min (r - h) L) s)) (nI (c + 1)) ∧ Row xs' (upd hp c (nI (h + min (min (r - h) L) s))) (upd st 0 (nI (s - min (min (r - h) L) s))) tr sp vis day z := by
  have hbit := bit_fin lo (by omega) hi hh hl c (by omega)
  have h3 : xs 3 = nI s := by have := hr.2.1 0 (by decide); rw [upd_s] at this; exact this
  generalize hg : min (min (r - h) L) s = g
  have e1 : f5_getsAt xs (nI v) (nI c) (nI L) = some (nI g) := by
    unfold f5_getsAt
    rw [li 0, g5 xs hv (by decide), hr.2.2.1 0 v (by decide) hv]
    simp only [ob1_so]
    rw [if_neg hk, rais5 hr hv, rais_st, er]
    simp only [ob1_so]
    rw [li 6, nI_add, inb_y (show 88 < 2 ^ 31 by decide) (show 6 + c < 88 by omega), gd_t, nI_clamp (by omega), hr.1 c (by omega), eh, h3, less_min, less_min, ← hg]
    exact up_m (by omega) (by omega) (by omega) (by omega)
  refine ⟨upd (upd xs (6 + c) (nI (h + g))) 3 (nI (s - g)), ?_, ?_⟩
  · rw [l5_comes_15, li 16, if_neg (fun q => by have := (nI_leI (by omega) (by omega)).mp q; omega), if_pos (hbit.mpr ⟨hc1, hc2⟩), e1]
    simp only [ob1_so]
    unfold j5_comes_44 j5_comes_96
    rw [li 6, nI_add, inb_y (show 88 < 2 ^ 31 by decide) (show 6 + c < 88 by omega), gd_t, gd_t, nI_clamp (by omega), if_pos (nI_pos' (by omega)), hr.1 c (by omega), eh, nI_add, upd_n (show 3 ≠ 6 + c by omega), h3, pk_sub (by omega), pk_sub (by omega), less_min, li 9999, jmin_n (by decide) (by omega), show min 9999 (s - g) = s - g by omega, nI_1]
  · have := (hr.hp (show c < 16 by omega) (nI (h + g))).st (show 0 < 3 by decide) (nI (s - g))
    rw [upd_twice] at this
    exact this
/-- the whole span, for one who heaps up: both sides side by side -/
theorem loop_up {st : Nat → Int32} {tr : Nat → Nat → Int32} {sp : Nat → Int32} {vis day z : Int32} {v lo hi r able : Nat} (hv : v < 8) (er : f0_raisesOf st tr (nI v) = some (nI r)) (hk : ¬ tr 0 v = 4) (hl : lo ≤ hi) (hh : hi < 16) (hr30 : r ≤ 30) :
    ∀ (m n1 n2 c L s : Nat) (xs hp : Nat → Int32), c + m = hi + 1 → lo ≤ c → m < n1 → Row xs hp (upd st 0 (nI s)) tr sp vis day z → (∀ c, c < 16 → Bt (hp c) 0 30) → s ≤ 9999 → L ≤ 40 →
    ∃ (hp' xs' : Nat → Int32) (g : Nat), g ≤ L ∧ g ≤ s ∧ (∀ c, c < 16 → Bt (hp' c) 0 30) ∧ l0_heapUp_39 n1 hp st tr (nI r) (nI hi) (nI able) (nI (min L s)) (nI c) = some (nI able - nI (min L s - g), hp', upd st 0 (st 0 - (nI able - nI (min L s - g)))) ∧
      l5_comes_15 (n2 + m) xs (nI v) (nI (spN lo hi)) (nI L) (nI c) = l5_comes_15 n2 xs' (nI v) (nI (spN lo hi)) (nI (L - g)) (nI (hi + 1)) ∧ Row xs' hp' (upd st 0 (nI (s - g))) tr sp vis day z := by
  intro m
  induction m with
  | zero =>
    intro n1 n2 c L s xs hp hc hc1 hn hr hb hs9 hL
    obtain ⟨n1, rfl⟩ : ∃ k, n1 = k + 1 := ⟨n1 - 1, by omega⟩
    refine ⟨hp, xs, 0, by omega, by omega, hb, ?_, ?_, hr⟩
    · rw [l0_heapUp_39, if_pos ((nI_ltI (by omega) (by omega)).mpr (by omega))]
      rfl
    · rw [show c = hi + 1 by omega]; rfl
  | succ m ih =>
    intro n1 n2 c L s xs hp hc hc1 hn hr hb hs9 hL
    obtain ⟨n1, rfl⟩ : ∃ k, n1 = k + 1 := ⟨n1 - 1, by omega⟩
    obtain ⟨h, eh, hh30⟩ := Bt.nat (b := 30) (hb c (by omega))
    obtain ⟨xs1, e1, hr1⟩ := step_up hr hv er hk hl hh hc1 (by omega) hr30 hs9 hL eh hh30 (n2 + m)
    generalize hg : min (min (r - h) L) s = g at e1 hr1
    have hb1 : ∀ j, j < 16 → Bt (upd hp c (nI (h + g)) j) 0 30 := by
      intro j hj
      by_cases e : j = c
      · subst e; rw [upd_s]; exact Bt.of (by omega) (by omega) (by omega)
      · rw [upd_n e]; exact hb j hj
    obtain ⟨hp', xs', g', i1, i2, i3, i4, i5, i6⟩ := ih n1 n2 (c + 1) (L - g) (s - g) xs1 _ (by omega) (by omega) (by omega) hr1 hb1 (by omega) (by omega)
    have em : min (L - g) (s - g) = min L s - g := by omega
    rw [em] at i4
    refine ⟨hp', xs', g + g', by omega, by omega, i3, ?_, ?_, ?_⟩
    · rw [l0_heapUp_39, if_neg (fun q => by have := (nI_ltI (by omega) (by omega)).mp q; omega), inb_y (show 16 < 2 ^ 31 by decide) (show c < 16 by omega), gd_t, gd_t, gd_t, nI_clamp (by omega), eh, up_g (by omega) (by omega) (by omega), show min (min L s) (r - h) = g by omega, nI_add, pk_sub (by omega), nI_1, i4, show min L s - g - g' = min L s - (g + g') by omega]
    · rw [show n2 + (m + 1) = (n2 + m) + 1 by omega, e1, i5, show L - g - g' = L - (g + g') by omega]
    · rw [show s - (g + g') = s - g - g' by omega]; exact i6
