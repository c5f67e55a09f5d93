/-! gusts, a day, days -/
theorem ob2_so {α β ρ : Type} {a : α} {b : β} {k : α → β → Option ρ} : ob2 (some (a, b)) k = k a b := rfl
theorem ob3_so {α β γ ρ : Type} {a : α} {b : β} {c : γ} {k : α → β → γ → Option ρ} : ob3 (some (a, b, c)) k = k a b c := rfl
theorem ob4_so {α β γ δ ρ : Type} {a : α} {b : β} {c : γ} {d : δ} {k : α → β → γ → δ → Option ρ} : ob4 (some (a, b, c, d)) k = k a b c d := rfl
theorem Row.cells {xs xs' hp hp' st : Nat → Int32} {tr : Nat → Nat → Int32} {sp : Nat → Int32} {vis day z : Int32} (h : Row xs hp st tr sp vis day z) (h1 : ∀ c, c < 16 → xs' (6 + c) = hp' c) (h2 : ∀ k, k < 6 ∨ 22 ≤ k → xs' k = xs k) : Row xs' hp' st tr sp vis day z := by
  obtain ⟨-, a2, a3, a4, a5, a6, a7⟩ := h
  exact ⟨h1, fun i hi => by rw [h2 _ (by omega)]; exact a2 i hi, fun t v ht hv => by rw [h2 _ (by omega)]; exact a3 t v ht hv, fun k hk => by rw [h2 _ (by omega)]; exact a4 k hk, by rw [h2 _ (by omega)]; exact a5, by rw [h2 _ (by omega)]; exact a6, by rw [h2 _ (by omega)]; exact a7⟩
theorem heapN {hp : Nat → Int32} (hb : ∀ c, c < 16 → Bt (hp c) 0 30) : ∃ h : Nat → Nat, (∀ c, c < 16 → hp c = nI (h c)) ∧ ∀ c, c < 16 → h c ≤ 30 := by
  refine ⟨fun c => (hp c).toInt.toNat, fun c hc => ?_, fun c hc => ?_⟩
  · obtain ⟨n, e, hn⟩ := Bt.nat (b := 30) (hb c hc)
    show hp c = nI (hp c).toInt.toNat
    rw [e, nI_toInt (by omega), Int.toNat_natCast]
  · have := (hb c hc).2
    show (hp c).toInt.toNat ≤ 30
    omega
theorem quiet_R {h : Nat → Nat} {w : Nat} (hq : ∀ j, j < 15 → oR h w j = false) (c : Nat) : FR h w c = h c := by
  have h15 : ∀ j, oR h w j = false := fun j => by
    by_cases e : j < 15
    · exact hq j e
    · simp [oR, e]
  unfold FR inR
  rw [h15, h15, Bool.and_false, nb_f]; omega
theorem quiet_L {h : Nat → Nat} {w : Nat} (hq : ∀ j, 0 < j → j < 16 → oL h w j = false) {c : Nat} (hc : c < 16) : FL h w c = h c := by
  have h0 : ∀ j, j < 16 → oL h w j = false := fun j hj => by
    by_cases e : 0 < j
    · exact hq j e hj
    · simp [oL, e]
  unfold FL inL
  rw [h0 c hc, nb_f]
  by_cases e : c < 15
  · rw [if_pos e, h0 (c + 1) (by omega), nb_f]; omega
  · rw [if_neg e]; omega
theorem oL_cong {h g : Nat → Nat} {w : Nat} (e : ∀ c, c < 16 → h c = g c) {c : Nat} (hc : c < 16) : oL h w c = oL g w c := by
  unfold oL
  rw [e c hc, e (c - 1) (by omega)]
theorem oR_cong {h g : Nat → Nat} {w : Nat} (e : ∀ c, c < 16 → h c = g c) {c : Nat} (hc : c < 15) : oR h w c = oR g w c := by
  unfold oR
  rw [e c (by omega), e (c + 1) (by omega)]
/-- where nothing slides, further gusts do nothing -/
theorem quiet_loop {g : Int32} {W w : Nat} {h : Nat → Nat} {xs0 : Nat → Int32} (hW : xs0 4 = nI W) (hW5 : W ≤ 5) (hw : xs0 5 = nI w) (hw9 : w ≤ 9) (hb : ∀ c, c < 16 → h c ≤ 30) (q1 : ∀ j, j < 15 → oR h w j = false) (q2 : ∀ j, 0 < j → j < 16 → oL h w j = false) :
    ∀ (m n i : Nat) (xs ov : Nat → Int32), i + m = W → m < n → (∀ c, c < 16 → xs (6 + c) = nI (h c)) → (∀ k, k < 6 ∨ 22 ≤ k → xs k = xs0 k) → ∃ xs' ov', l5_day_83 n xs g ov (nI i) = some (upd xs' 0 (f5_less 99999 (xs' 0 + 1)), ov') ∧ (∀ c, c < 16 → xs' (6 + c) = nI (h c)) ∧ (∀ k, k < 6 ∨ 22 ≤ k → xs' k = xs0 k) := by
  intro m
  induction m with
  | zero =>
    intro n i xs ov hi hn hx hk
    obtain ⟨n, rfl⟩ : ∃ q, n = q + 1 := ⟨n - 1, by omega⟩
    refine ⟨xs, ov, ?_, hx, hk⟩
    rw [l5_day_83, hk 4 (by omega), hW, if_pos (nI_le (by omega) (by omega))]
  | succ m ih =>
    intro n i xs ov hi hn hx hk
    obtain ⟨n, rfl⟩ : ∃ q, n = q + 1 := ⟨n - 1, by omega⟩
    obtain ⟨xs1, ov1, e1, h1, k1⟩ := slide5R (ov := ov) hx (by rw [hk 5 (by omega), hw]) hb hw9
    obtain ⟨xs2, ov2, e2, h2, k2⟩ := slide5L (xs := xs1) (ov := ov1) (h := h) (fun c hc => by rw [h1 c hc, quiet_R q1]) (by rw [k1 5 (by omega), hk 5 (by omega), hw]) hb hw9
    rw [l5_day_83, hk 4 (by omega), hW, if_neg (fun q => by have := (nI_leI (by omega) (by omega)).mp q; omega), e1]
    simp only [ob2_so]
    rw [e2]
    simp only [ob2_so]
    rw [nI_1]
    exact ih n (i + 1) xs2 ov2 (by omega) (by omega) (fun c hc => by rw [h2 c hc, quiet_L q2 hc]) (fun k hk2 => by rw [k2 k hk2, k1 k hk2, hk k hk2])
theorem blow_loop {st : Nat → Int32} {tr : Nat → Nat → Int32} {sp : Nat → Int32} {vis day z g : Int32} {W w : Nat} (hW : st 1 = nI W) (hW5 : W ≤ 5) (hw : st 2 = nI w) (hw9 : w ≤ 9) :
    ∀ (m n1 n2 i : Nat) (xs hp ov : Nat → Int32), i + m = W → m < n1 → m < n2 → Row xs hp st tr sp vis day z → (∀ c, c < 16 → Bt (hp c) 0 30) → ∃ hp' xs' ov', l0_blow_2 n1 hp st (nI i) = some hp' ∧ l5_day_83 n2 xs g ov (nI i) = some (upd xs' 0 (f5_less 99999 (xs' 0 + 1)), ov') ∧ Row xs' hp' st tr sp vis day z ∧ (∀ c, c < 16 → Bt (hp' c) 0 30) := by
  intro m
  induction m with
  | zero =>
    intro n1 n2 i xs hp ov hi hn1 hn2 hr hb
    obtain ⟨n1, rfl⟩ : ∃ q, n1 = q + 1 := ⟨n1 - 1, by omega⟩
    obtain ⟨n2, rfl⟩ : ∃ q, n2 = q + 1 := ⟨n2 - 1, by omega⟩
    refine ⟨hp, xs, ov, ?_, ?_, hr, hb⟩
    · rw [l0_blow_2, hW, if_pos (nI_le (by omega) (by omega))]
    · rw [l5_day_83, show xs 4 = st 1 from hr.2.1 1 (by decide), hW, if_pos (nI_le (by omega) (by omega))]
  | succ m ih =>
    intro n1 n2 i xs hp ov hi hn1 hn2 hr hb
    obtain ⟨n1, rfl⟩ : ∃ q, n1 = q + 1 := ⟨n1 - 1, by omega⟩
    obtain ⟨n2, rfl⟩ : ∃ q, n2 = q + 1 := ⟨n2 - 1, by omega⟩
    obtain ⟨h, eh, hh⟩ := heapN hb
    have x4 : xs 4 = nI W := by rw [show xs 4 = st 1 from hr.2.1 1 (by decide), hW]
    have x5 : xs 5 = nI w := by rw [show xs 5 = st 2 from hr.2.1 2 (by decide), hw]
    obtain ⟨xs1, ov1, e1, h1, k1⟩ := slide5R (ov := ov) (fun c hc => by rw [hr.1 c hc, eh c hc]) x5 hh hw9
    obtain ⟨xs2, ov2, e2, h2, k2⟩ := slide5L (ov := ov1) h1 (by rw [k1 5 (by omega), x5]) (fun c hc => FR_le hc hh) hw9
    obtain ⟨hp1, c1, f1, b1, z1, y1⟩ := slide0R eh hw hh hw9
    obtain ⟨hp2, c2, f2, b2, z2, y2⟩ := slide0L (hp := hp1) y1 hw (fun c hc => FR_le hc hh) hw9
    have hr2 : Row xs2 hp2 st tr sp vis day z := hr.cells (fun c hc => by rw [h2 c hc, y2 c hc]) (fun k hk => by rw [k2 k hk, k1 k hk])
    have hb2 : ∀ c, c < 16 → Bt (hp2 c) 0 30 := fun c hc => by
      rw [y2 c hc]
      have := FL_le (h := FR h w) (w := w) hc (fun c hc => FR_le (w := w) hc hh)
      exact Bt.of (by omega) (by omega) (by omega)
    have hnle : ¬ (nI W ≤ nI i) := fun q => by have := (nI_leI (by omega) (by omega)).mp q; omega
    have hC : l0_blow_2 (n1 + 1) hp st (nI i) = if nI (c1 + c2) = 0 then some hp2 else l0_blow_2 n1 hp2 st (nI (i + 1)) := by
      rw [l0_blow_2, hW, if_neg hnle, f1]
      simp only [ob2_so]
      rw [f2]
      simp only [ob2_so]
      rw [nI_1, nI_add]
    have hM : l5_day_83 (n2 + 1) xs g ov (nI i) = l5_day_83 n2 xs2 g ov2 (nI (i + 1)) := by
      rw [l5_day_83, x4, if_neg hnle, e1]
      simp only [ob2_so]
      rw [e2]
      simp only [ob2_so]
      rw [nI_1]
    rw [hC, hM]
    by_cases hz : c1 + c2 = 0
    · rw [if_pos (by rw [hz]; rfl)]
      have q1 := z1 (by omega)
      have q2 := z2 (by omega)
      have eFR : ∀ c, c < 16 → FR h w c = h c := fun c _ => quiet_R q1 c
      have q2' : ∀ j, 0 < j → j < 16 → oL h w j = false := fun j h0 hj => by rw [← oL_cong eFR hj]; exact q2 j h0 hj
      have eall : ∀ c, c < 16 → FL (FR h w) w c = h c := fun c hc => by rw [quiet_L q2 hc, eFR c hc]
      obtain ⟨xs', ov', a1, a2, a3⟩ := quiet_loop (g := g) (xs0 := xs) (h := h) x4 hW5 x5 hw9 hh q1 q2' m n2 (i + 1) xs2 ov2 (by omega) (by omega) (fun c hc => by rw [h2 c hc, eall c hc]) (fun k hk => by rw [k2 k hk, k1 k hk])
      exact ⟨hp2, xs', ov', rfl, a1, hr.cells (fun c hc => by rw [a2 c hc, y2 c hc, eall c hc]) a3, hb2⟩
    · rw [if_neg (fun q => hz (by rw [← nI_0] at q; exact (nI_eq (by omega) (by decide)).mp q))]
      exact ih n1 n2 (i + 1) xs2 hp2 ov2 (by omega) (by omega) (by omega) hr2 hb2
/-- all grow older -/
theorem age_loop {hp st : Nat → Int32} {sp : Nat → Int32} {day z g : Int32} {N : Nat} (hN : N ≤ 8) : ∀ (m n1 n2 v : Nat) (xs ov : Nat → Int32) (tr : Nat → Nat → Int32), v + m = N → m < n1 → m < n2 → Row xs hp st tr sp (nI N) day z → (∀ u, u < N → OkV tr u) → ∃ tr' xs', l0_ageByADay_2 n1 tr (nI N) (nI v) = some tr' ∧ l5_day_45 n2 xs g ov (nI v) = l5_day_83 1000 xs' g ov 0 ∧ Row xs' hp st tr' sp (nI N) day z ∧ (∀ u, u < N → OkV tr' u) := by
  intro m
  induction m with
  | zero =>
    intro n1 n2 v xs ov tr hv hn1 hn2 hr ho
    obtain ⟨n1, rfl⟩ : ∃ q, n1 = q + 1 := ⟨n1 - 1, by omega⟩
    obtain ⟨n2, rfl⟩ : ∃ q, n2 = q + 1 := ⟨n2 - 1, by omega⟩
    refine ⟨tr, xs, ?_, ?_, hr, ho⟩
    · rw [l0_ageByADay_2, if_pos (nI_le (by omega) (by omega))]
    · rw [l5_day_45, hr.2.2.2.2.1, if_pos (nI_le (by omega) (by omega))]
  | succ m ih =>
    intro n1 n2 v xs ov tr hv hn1 hn2 hr ho
    obtain ⟨n1, rfl⟩ : ∃ q, n1 = q + 1 := ⟨n1 - 1, by omega⟩
    obtain ⟨n2, rfl⟩ : ∃ q, n2 = q + 1 := ⟨n2 - 1, by omega⟩
    obtain ⟨a, ea, ha⟩ := Bt.nat (b := 9999) (ho v (by omega)).2.2.2.2.2.1
    have e : jmin (kTM 5) (tr 5 v + 1) = nI (min 9999 (a + 1)) := by rw [ea, nI_1, show kTM 5 = nI 9999 by decide, jmin_n (by decide) (by omega)]
    have hr1 := hr.tr (show 5 < 7 by decide) (show v < 8 by omega) (nI (min 9999 (a + 1)))
    rw [l0_ageByADay_2, if_neg (fun q => by have := (nI_leI (by omega) (by omega)).mp q; omega), inb_y (show 8 < 2 ^ 31 by decide) (show v < 8 by omega), gd_t, gd_t, nI_clamp (by omega), e, nI_1, l5_day_45, hr.2.2.2.2.1, if_neg (fun q => by have := (nI_leI (by omega) (by omega)).mp q; omega), li 5, g5 xs (show v < 8 by omega) (by decide), hr.2.2.1 5 v (by decide) (by omega)]
    simp only [ob1_so]
    rw [less_min, show (9999 : Int32) = kTM 5 by decide, e, p5 xs _ (show v < 8 by omega) (by decide)]
    simp only [ob1_so]
    rw [nI_1]
    refine ih n1 n2 (v + 1) _ ov _ (by omega) (by omega) (by omega) hr1 (fun u hu => ?_)
    obtain ⟨a0, a1, a2, a3, a4, a5, a6⟩ := ho u hu
    refine ⟨by rw [upd2_n (by omega)]; exact a0, by rw [upd2_n (by omega)]; exact a1, by rw [upd2_n (by omega)]; exact a2, by rw [upd2_n (by omega)]; exact a3, by rw [upd2_n (by omega)]; exact a4, ?_, by rw [upd2_n (by omega)]; exact a6⟩
    by_cases q : u = v
    · subst q; rw [upd2_s]; exact Bt.of (by omega) (by omega) (by omega)
    · rw [upd2_n (by omega)]; exact a5
/-- all who are due come -/
theorem visit_loop {sp : Nat → Int32} {day z g v1 v3 : Int32} {N : Nat} {k2 : (Nat → Int32) → (Nat → Int32) → (Nat → Nat → Int32) → Int32 → Int32 → Int32 → Int32 → Int32 → Option ((Nat → Int32) × (Nat → Int32) × (Nat → Nat → Int32) × Int32)} : ∀ (m n1 n2 v : Nat) (xs hp st ov : Nat → Int32) (tr : Nat → Nat → Int32), v + m = N → m < n1 → m < n2 → Row xs hp st tr sp (nI N) day z → OkP hp st tr N day → ∃ hp' st' tr' xs', l0_passDays_10 k2 n1 hp st tr (nI N) day v1 g v3 (nI v) = ob1 (f0_ageByADay tr' (nI N)) (fun tr_3 => ob1 (f0_blow hp' st') (fun hp_5 => k2 hp_5 st' tr_3 (nI N) (jmin (99999 : Int32) (day + (1 : Int32))) v1 g (v3 + (1 : Int32)))) ∧ l5_day_2 n2 xs g ov (nI v) = l5_day_45 1000 xs' g ov 0 ∧ Row xs' hp' st' tr' sp (nI N) day z ∧ OkP hp' st' tr' N day ∧ st' 1 = st 1 ∧ st' 2 = st 2 := by
  intro m
  induction m with
  | zero =>
    intro n1 n2 v xs hp st ov tr hv hn1 hn2 hr hok
    have hN := hok.2.2.2.2.1
    obtain ⟨n1, rfl⟩ : ∃ q, n1 = q + 1 := ⟨n1 - 1, by omega⟩
    obtain ⟨n2, rfl⟩ : ∃ q, n2 = q + 1 := ⟨n2 - 1, by omega⟩
    refine ⟨hp, st, tr, xs, ?_, ?_, hr, hok, rfl, rfl⟩
    · rw [l0_passDays_10, if_pos (nI_le (by omega) (by omega))]
    · rw [l5_day_2, hr.2.2.2.2.1, if_pos (nI_le (by omega) (by omega))]
  | succ m ih =>
    intro n1 n2 v xs hp st ov tr hv hn1 hn2 hr hok
    have hN := hok.2.2.2.2.1
    obtain ⟨n1, rfl⟩ : ∃ q, n1 = q + 1 := ⟨n1 - 1, by omega⟩
    obtain ⟨n2, rfl⟩ : ∃ q, n2 = q + 1 := ⟨n2 - 1, by omega⟩
    obtain ⟨b, d0, d5⟩ := due_ok hr (show v < 8 by omega) (hok.2.2.2.2.2.2 v (by omega))
    have skip := ih n1 n2 (v + 1) xs hp st ov tr (by omega) (by omega) (by omega) hr hok
    have hnle : ¬ (nI N ≤ nI v) := fun q => by have := (nI_leI (by omega) (by omega)).mp q; omega
    rw [l0_passDays_10, if_neg hnle, l5_day_2, hr.2.2.2.2.1, if_neg hnle, d0, d5]
    simp only [ob1_so, j0_passDays_44, j5_day_37, nI_1]
    cases b with
    | false =>
      rw [bi_f, if_pos rfl, if_pos rfl, ite_self]
      exact skip
    | true =>
      have h10 : ¬ ((1 : Int32) = 0) := by decide
      simp only [bi_t, if_neg h10]
      by_cases hg : ((g >>> (nI v &&& 31)) &&& (1 : Int32)) = 0
      · simp only [if_pos hg]
        obtain ⟨mm, xs1, hp1, st1, tr1, c0, c5, hr1, hok1, s1, s2⟩ := come_ok hr hok (show v < N by omega)
        rw [c0, c5]
        simp only [ob4_so, ob2_so]
        obtain ⟨hp', st', tr', xs', i1, i2, i3, i4, i5, i6⟩ := ih n1 n2 (v + 1) xs1 hp1 st1 ov tr1 (by omega) (by omega) (by omega) hr1 hok1
        exact ⟨hp', st', tr', xs', i1, i2, i3, i4, by rw [i5, s1], by rw [i6, s2]⟩
      · simp only [if_neg hg]
        exact skip
/-- A DAY, on both sides -/
theorem day_ok {xs hp st ov : Nat → Int32} {tr : Nat → Nat → Int32} {sp : Nat → Int32} {day z g v1 v3 : Int32} {N : Nat} (k2 : (Nat → Int32) → (Nat → Int32) → (Nat → Nat → Int32) → Int32 → Int32 → Int32 → Int32 → Int32 → Option ((Nat → Int32) × (Nat → Int32) × (Nat → Nat → Int32) × Int32)) (hr : Row xs hp st tr sp (nI N) day z) (hok : OkP hp st tr N day) :
    ∃ hp' st' tr' day' xs' ov', l0_passDays_10 k2 1000 hp st tr (nI N) day v1 g v3 0 = k2 hp' st' tr' (nI N) day' v1 g (v3 + 1) ∧ f5_day xs g ov = some (xs', ov') ∧ Row xs' hp' st' tr' sp (nI N) day' z ∧ OkP hp' st' tr' N day' := by
  have hN := hok.2.2.2.2.1
  obtain ⟨hp1, st1, tr1, xs1, a1, a2, a3, a4, a5, a6⟩ := visit_loop (g := g) (v1 := v1) (v3 := v3) (k2 := k2) N 1000 1000 0 xs hp st ov tr (by omega) (by omega) (by omega) hr hok
  obtain ⟨tr2, xs2, b1, b2, b3, b4⟩ := age_loop (g := g) hN N 1000 1000 0 xs1 ov tr1 (by omega) (by omega) (by omega) a3 a4.2.2.2.2.2.2
  obtain ⟨W, eW, hW5⟩ := Bt.nat (b := 5) a4.2.2.1
  obtain ⟨w, ew, hw9⟩ := Bt.nat (b := 9) a4.2.2.2.1
  obtain ⟨hp3, xs3, ov3, c1, c2, c3, c4⟩ := blow_loop (g := g) eW hW5 ew hw9 W 1000 1000 0 xs2 hp1 ov (by omega) (by omega) (by omega) b3 a4.1
  obtain ⟨d, ed, hd⟩ := Bt.nat (b := 99999) hok.2.2.2.2.2.1
  refine ⟨hp3, st1, tr2, jmin 99999 (day + 1), upd xs3 0 (f5_less 99999 (xs3 0 + 1)), ov3, ?_, ?_, ?_, ?_⟩
  · refine a1.trans ?_
    rw [show f0_ageByADay tr1 (nI N) = some tr2 from b1]
    simp only [ob1_so]
    rw [show f0_blow hp1 st1 = some hp3 from c1]
    rfl
  · exact (a2.trans b2).trans c2
  · have := c3.day (f5_less 99999 (xs3 0 + 1))
    rw [less_min, c3.2.2.2.2.2.1] at this ⊢
    exact this
  · refine ⟨c4, a4.2.1, a4.2.2.1, a4.2.2.2.1, hN, ?_, b4⟩
    rw [ed, nI_1, li 99999, jmin_n (by decide) (by omega)]
    exact Bt.of (by omega) (by omega) (by omega)
theorem days_loop {sp : Nat → Int32} {z g : Int32} {N d : Nat} (hd : d < 1000) : ∀ (m n1 n2 i : Nat) (xs hp st ov : Nat → Int32) (tr : Nat → Nat → Int32) (day : Int32), i + m = d → m < n1 → m < n2 → Row xs hp st tr sp (nI N) day z → OkP hp st tr N day → ∃ hp' st' tr' day' xs' ov', l0_passDays_2 n1 hp st tr (nI N) day (nI d) g (nI i) = some (hp', st', tr', day') ∧ l5_goes_2 n2 xs g ov (nI d) (nI i) = some (xs', ov') ∧ Row xs' hp' st' tr' sp (nI N) day' z ∧ OkP hp' st' tr' N day' := by
  intro m
  induction m with
  | zero =>
    intro n1 n2 i xs hp st ov tr day hi hn1 hn2 hr hok
    obtain ⟨n1, rfl⟩ : ∃ q, n1 = q + 1 := ⟨n1 - 1, by omega⟩
    obtain ⟨n2, rfl⟩ : ∃ q, n2 = q + 1 := ⟨n2 - 1, by omega⟩
    refine ⟨hp, st, tr, day, xs, ov, ?_, ?_, hr, hok⟩
    · rw [l0_passDays_2, if_pos (nI_le (by omega) (by omega))]
    · rw [l5_goes_2, if_pos (nI_le (by omega) (by omega))]
  | succ m ih =>
    intro n1 n2 i xs hp st ov tr day hi hn1 hn2 hr hok
    obtain ⟨n1, rfl⟩ : ∃ q, n1 = q + 1 := ⟨n1 - 1, by omega⟩
    obtain ⟨n2, rfl⟩ : ∃ q, n2 = q + 1 := ⟨n2 - 1, by omega⟩
    obtain ⟨hp1, st1, tr1, day1, xs1, ov1, a1, a2, a3, a4⟩ := day_ok (g := g) (v1 := nI d) (v3 := nI i) (ov := ov) (l0_passDays_2 n1) hr hok
    rw [l0_passDays_2, if_neg (fun q => by have := (nI_leI (by omega) (by omega)).mp q; omega), a1, l5_goes_2, if_neg (fun q => by have := (nI_leI (by omega) (by omega)).mp q; omega), a2]
    simp only [ob2_so]
    rw [nI_1]
    exact ih n1 n2 (i + 1) xs1 hp1 st1 ov1 tr1 day1 (by omega) (by omega) (by omega) a3 a4
/-- DAYS, on both sides -/
theorem days_ok {xs hp st ov : Nat → Int32} {tr : Nat → Nat → Int32} {sp : Nat → Int32} {day z g : Int32} {N d : Nat} (hd : d < 1000) (hr : Row xs hp st tr sp (nI N) day z) (hok : OkP hp st tr N day) : ∃ hp' st' tr' day' xs' ov', f0_passDays hp st tr (nI N) day (nI d) g = some (hp', st', tr', day') ∧ f5_goes xs g ov (nI d) = some (xs', ov') ∧ Row xs' hp' st' tr' sp (nI N) day' z ∧ OkP hp' st' tr' N day' :=
  days_loop hd d 1000 1000 0 xs hp st ov tr day (by omega) (by omega) (by omega) hr hok
