/-! slides the other way; the class's slides -/
theorem nsub1 {a : Nat} (h : 1 ≤ a) : nI a - 1 = nI (a - 1) := by rw [li 1, pk_sub h]
theorem overL {xs : Nat → Int32} {h : Nat → Nat} {w : Nat} (hx : ∀ c, c < 16 → xs (6 + c) = nI (h c)) (hw : xs 5 = nI w) (hb : ∀ c, c < 16 → h c ≤ 30) (hw9 : w ≤ 9) : ∀ (m n c : Nat) (ov : Nat → Int32), c + m = 16 → m < n → (∀ j, j < c → ov j = bi (oL h w j)) → ∃ ov', (∀ j, j < 16 → ov' j = bi (oL h w j)) ∧ l5_slides_2 n xs ov (-1) (nI c) = l5_slides_68 1000 xs ov' (-1) 0 := by
  intro m
  induction m with
  | zero =>
    intro n c ov hc hn ho
    obtain ⟨n, rfl⟩ : ∃ k, n = k + 1 := ⟨n - 1, by omega⟩
    refine ⟨ov, fun j hj => ho j (by omega), ?_⟩
    rw [l5_slides_2, li 16, if_pos ((nI_leI (by omega) (by omega)).mpr (by omega))]
  | succ m ih =>
    intro n c ov hc hn ho
    obtain ⟨n, rfl⟩ : ∃ k, n = k + 1 := ⟨n - 1, by omega⟩
    have key : ∀ b : Bool, b = oL h w c → ∃ ov', (∀ j, j < 16 → ov' j = bi (oL h w j)) ∧ j5_slides_59 (l5_slides_2 n) xs ov (-1) (nI c) (nI c) (bi b) = l5_slides_68 1000 xs ov' (-1) 0 := by
      intro b hbq
      obtain ⟨ov', h1, h2⟩ := ih n (c + 1) (upd ov c (bi b)) (by omega) (by omega) (fun j hj => by
        by_cases e : j = c
        · subst e; rw [upd_s, hbq]
        · rw [upd_n e]; exact ho j (by omega))
      refine ⟨ov', h1, ?_⟩
      unfold j5_slides_59
      rw [inb_y (show 16 < 2 ^ 31 by decide) (show c < 16 by omega), gd_t, nI_clamp (by omega), nI_1]
      exact h2
    have k0 := key false
    have k1 := key true
    rw [bi_f] at k0
    rw [bi_t] at k1
    rw [l5_slides_2, li 16, if_neg (fun q => by have := (nI_leI (by omega) (by omega)).mp q; omega)]
    unfold j5_slides_58
    by_cases e0 : c = 0
    · subst e0
      rw [show f5_isCell (nI 0 + -1) = 0 by decide, if_pos rfl]
      exact k0 (by simp [oL])
    · obtain ⟨d, rfl⟩ : ∃ d, c = d + 1 := ⟨c - 1, by omega⟩
      rw [pk_m1, cell5 (by omega), show decide (d < 16) = true by simp; omega, bi_t, if_neg (by decide), li 6, nI_add, show 6 + (d + 1) = (6 + d) + 1 by omega, pk_m1, inb_y (show 88 < 2 ^ 31 by decide) (show 6 + d + 1 < 88 by omega), gd_t, inb_y (show 88 < 2 ^ 31 by decide) (show 6 + d < 88 by omega), gd_t, nI_clamp (by omega), nI_clamp (by omega), hx d (by omega), show 6 + d + 1 = 6 + (d + 1) by omega, hx (d + 1) (by omega), hw, nI_add, li 2, nI_add]
      have := hb d (by omega)
      have := hb (d + 1) (by omega)
      by_cases e : h (d + 1) ≤ h d + w + 2
      · rw [if_pos (nI_le e (by omega))]
        exact k0 (by simp [oL]; omega)
      · rw [if_neg (fun q => e ((nI_leI (by omega) (by omega)).mp q))]
        exact k1 (by simp [oL]; omega)
theorem goL {xs0 : Nat → Int32} {h : Nat → Nat} {w : Nat} {ov : Nat → Int32} (ho : ∀ j, j < 16 → ov j = bi (oL h w j)) (hb : ∀ c, c < 16 → h c ≤ 30) : ∀ (m n c : Nat) (xs : Nat → Int32), c + m = 16 → m < n → (∀ j, j < 16 → xs (6 + j) = nI (if j + 1 < c then FL h w j else if j + 1 = c then h j - nb (oL h w j) else h j)) → (∀ k, k < 6 ∨ 22 ≤ k → xs k = xs0 k) → ∃ xs', l5_slides_68 n xs ov (-1) (nI c) = some (xs', ov) ∧ (∀ j, j < 16 → xs' (6 + j) = nI (FL h w j)) ∧ (∀ k, k < 6 ∨ 22 ≤ k → xs' k = xs0 k) := by
  intro m
  induction m with
  | zero =>
    intro n c xs hc hn hx hk
    obtain ⟨n, rfl⟩ : ∃ k, n = k + 1 := ⟨n - 1, by omega⟩
    refine ⟨xs, ?_, fun j hj => ?_, hk⟩
    · rw [l5_slides_68, li 16, if_pos ((nI_leI (by omega) (by omega)).mpr (by omega))]
    · rw [hx j hj]
      congr 1
      by_cases q : j + 1 < c
      · rw [if_pos q]
      · rw [if_neg q, if_pos (by omega), FL, if_neg (by omega), Nat.add_zero]
  | succ m ih =>
    intro n c xs hc hn hx hk
    obtain ⟨n, rfl⟩ : ∃ k, n = k + 1 := ⟨n - 1, by omega⟩
    rw [l5_slides_68, li 16, if_neg (fun q => by have := (nI_leI (by omega) (by omega)).mp q; omega), inb_y (show 16 < 2 ^ 31 by decide) (show c < 16 by omega), gd_t, nI_clamp (by omega), ho c (by omega)]
    unfold j5_slides_112
    rw [nI_1]
    cases e : oL h w c with
    | false =>
      rw [bi_f, if_neg (by decide)]
      refine ih n (c + 1) xs (by omega) (by omega) (fun j hj => ?_) hk
      rw [hx j hj]
      congr 1
      rcases Nat.lt_trichotomy (j + 1) c with q | q | q
      · rw [if_pos q, if_pos (by omega)]
      · rw [if_neg (by omega), if_pos q, if_pos (by omega), FL, if_pos (by omega)]
        unfold inL
        rw [q, e, nb_f, Nat.add_zero]
      · rw [if_neg (by omega), if_neg (by omega), if_neg (by omega)]
        by_cases q2 : j = c
        · subst q2; rw [if_pos rfl, e, nb_f, Nat.sub_zero]
        · rw [if_neg (by omega)]
    | true =>
      have hp := oL_pos e
      obtain ⟨d, rfl⟩ : ∃ d, c = d + 1 := ⟨c - 1, by omega⟩
      have hxd : xs (6 + d) = nI (h d - nb (oL h w d)) := by rw [hx d (by omega), if_neg (by omega), if_pos rfl]
      have hxd1 : xs (6 + (d + 1)) = nI (h (d + 1)) := by rw [hx (d + 1) (by omega), if_neg (by omega), if_neg (by omega)]
      rw [bi_t, if_pos rfl, li 6, nI_add, show 6 + (d + 1) = (6 + d) + 1 by omega, pk_m1, inb_y (show 88 < 2 ^ 31 by decide) (show 6 + d + 1 < 88 by omega), gd_t, gd_t, inb_y (show 88 < 2 ^ 31 by decide) (show 6 + d < 88 by omega), gd_t, gd_t, nI_clamp (by omega), nI_clamp (by omega), upd_n (show 6 + d ≠ 6 + d + 1 by omega), hxd, show 6 + d + 1 = 6 + (d + 1) by omega, hxd1, nsub1 (by omega), nI_1]
      have hdn : nb (oL h w d) ≤ h d := by
        cases e2 : oL h w d with
        | false => rw [nb_f]; omega
        | true => have := oL_pos e2; rw [nb_t]; omega
      refine ih n (d + 1 + 1) _ (by omega) (by omega) (fun j hj => ?_) (fun k hk2 => by rw [upd_n (by omega), upd_n (by omega)]; exact hk k hk2)
      rcases Nat.lt_trichotomy j d with q | q | q
      · rw [upd_n (by omega), upd_n (by omega), hx j hj, if_pos (by omega), if_pos (by omega)]
      · subst q
        rw [upd_s, if_pos (by omega), FL, if_pos (by omega)]
        unfold inL
        rw [e, nb_t]
        congr 1
        omega
      · by_cases q2 : j = d + 1
        · subst q2; rw [upd_n (by omega), upd_s, if_neg (by omega), if_pos rfl, e, nb_t]
        · rw [upd_n (by omega), upd_n (by omega), hx j hj, if_neg (by omega), if_neg (by omega), if_neg (by omega), if_neg (by omega)]
theorem slide5L {xs : Nat → Int32} {ov : Nat → Int32} {h : Nat → Nat} {w : Nat} (hx : ∀ c, c < 16 → xs (6 + c) = nI (h c)) (hw : xs 5 = nI w) (hb : ∀ c, c < 16 → h c ≤ 30) (hw9 : w ≤ 9) : ∃ xs' ov', f5_slides xs ov (-1) = some (xs', ov') ∧ (∀ j, j < 16 → xs' (6 + j) = nI (FL h w j)) ∧ (∀ k, k < 6 ∨ 22 ≤ k → xs' k = xs k) := by
  obtain ⟨ov', h1, h2⟩ := overL hx hw hb hw9 16 1000 0 ov (by omega) (by omega) (fun j hj => by omega)
  obtain ⟨xs', h3, h4, h5⟩ := goL (xs0 := xs) h1 hb 16 1000 0 xs (by omega) (by omega) (fun j hj => by rw [hx j hj, if_neg (by omega), if_neg (by omega)]) (fun _ _ => rfl)
  exact ⟨xs', ov', h2.trans h3, h4, h5⟩
/-- the class: to the next cell -/
theorem slide0R_loop {st : Nat → Int32} {h : Nat → Nat} {w : Nat} (hb : ∀ c, c < 16 → h c ≤ 30) (hw9 : w ≤ 9) : ∀ (m n i k : Nat) (hp : Nat → Int32), i + m = 15 → m < n → k ≤ i → (k = 0 → ∀ j, j < i → oR h w j = false) → (∀ j, j < 16 → hp j = nI (if j < i then FR h w j else h j)) → ∃ hp' k', l0_slide_18 n hp st 0 1 (nI (w + 2)) (nI k) (nI (inR h w i)) (nI i) = some (nI k', hp') ∧ k' ≤ 15 ∧ (k' = 0 → ∀ j, j < 15 → oR h w j = false) ∧ (∀ j, j < 16 → hp' j = nI (FR h w j)) := by
  intro m
  induction m with
  | zero =>
    intro n i k hp hi hn hk hz hx
    obtain ⟨n, rfl⟩ : ∃ q, n = q + 1 := ⟨n - 1, by omega⟩
    have e15 : i = 15 := by omega
    subst e15
    refine ⟨upd hp 15 (nI (h 15 + inR h w 15)), k, ?_, by omega, fun e j hj => hz e j hj, fun j hj => ?_⟩
    · rw [l0_slide_18, if_pos (by decide), show (0 : Int32) + (15 : Int32) * 1 = nI 15 by decide, inb_y (show 16 < 2 ^ 31 by decide) (show 15 < 16 by decide), gd_t, gd_t, nI_clamp (by decide), hx 15 (by decide), if_neg (by decide), nI_add]
    · by_cases q : j = 15
      · subst q; rw [upd_s]; simp [FR, oR, nb]
      · rw [upd_n q, hx j hj, if_pos (by omega)]
  | succ m ih =>
    intro n i k hp hi hn hk hz hx
    obtain ⟨n, rfl⟩ : ∃ q, n = q + 1 := ⟨n - 1, by omega⟩
    have hin : inR h w (i + 1) = nb (oR h w i) := by simp [inR]
    have key : ∀ b : Bool, b = oR h w i → ∃ hp' k', j0_slide_59 (l0_slide_18 n) hp st 0 1 (nI (w + 2)) (nI k) (nI (inR h w i)) (nI i) (nI i) (bi b) = some (nI k', hp') ∧ k' ≤ 15 ∧ (k' = 0 → ∀ j, j < 15 → oR h w j = false) ∧ (∀ j, j < 16 → hp' j = nI (FR h w j)) := by
      intro b hbq
      unfold j0_slide_59
      have hge : nb (oR h w i) ≤ h i := by
        cases e2 : oR h w i with
        | false => rw [nb_f]; omega
        | true => have := oR_pos e2; rw [nb_t]; omega
      rw [inb_y (show 16 < 2 ^ 31 by decide) (show i < 16 by omega), gd_t, gd_t, nI_clamp (by omega), hx i (by omega), if_neg (by omega), sub3, ← nb_bi, nI_add, hbq, pk_sub (by omega), nI_add, nI_1, ← hin]
      have e1 : h i + inR h w i - inR h w (i + 1) = FR h w i := by rw [hin]; rfl
      rw [e1]
      have h1 := nb_le (oR h w i)
      exact ih n (i + 1) _ _ (by omega) (by omega) (by omega) (fun e j hj => by
        by_cases q : j = i
        · subst q
          cases e2 : oR h w j with
          | false => rfl
          | true => rw [hin, e2, nb_t] at e; omega
        · exact hz (by omega) j (by omega)) (fun j hj => by
        by_cases q : j = i
        · subst q; rw [upd_s, if_pos (by omega)]
        · rw [upd_n q, hx j hj]
          congr 1
          by_cases q2 : j < i
          · rw [if_pos q2, if_pos (by omega)]
          · rw [if_neg q2, if_neg (by omega)])
    have k0 := key false
    have k1 := key true
    rw [bi_f] at k0
    rw [bi_t] at k1
    have hxi : hp i = nI (h i) := by rw [hx i (by omega), if_neg (by omega)]
    have hxi1 : hp (i + 1) = nI (h (i + 1)) := by rw [hx (i + 1) (by omega), if_neg (by omega)]
    rw [l0_slide_18, li 15, if_neg (fun q => by have := (nI_leI (by omega) (by omega)).mp q; omega), Int32.mul_one, Int32.zero_add, nI_1, inb_y (show 16 < 2 ^ 31 by decide) (show i < 16 by omega), gd_t, inb_y (show 16 < 2 ^ 31 by decide) (show i + 1 < 16 by omega), gd_t, nI_clamp (by omega), nI_clamp (by omega), hxi, hxi1, nI_add]
    have := hb i (by omega)
    have := hb (i + 1) (by omega)
    by_cases e : h i ≤ h (i + 1) + (w + 2)
    · rw [if_pos (nI_le e (by omega))]
      exact k0 (by simp [oR]; omega)
    · rw [if_neg (fun q => e ((nI_leI (by omega) (by omega)).mp q))]
      exact k1 (by simp [oR]; omega)
theorem slide0R {hp st : Nat → Int32} {h : Nat → Nat} {w : Nat} (hx : ∀ c, c < 16 → hp c = nI (h c)) (hw : st 2 = nI w) (hb : ∀ c, c < 16 → h c ≤ 30) (hw9 : w ≤ 9) : ∃ hp' k', f0_slide hp st 0 1 = some (nI k', hp') ∧ k' ≤ 15 ∧ (k' = 0 → ∀ j, j < 15 → oR h w j = false) ∧ (∀ j, j < 16 → hp' j = nI (FR h w j)) := by
  unfold f0_slide
  rw [hw, li 2, nI_add]
  exact slide0R_loop hb hw9 15 1000 0 0 hp (by omega) (by omega) (by omega) (fun _ j hj => by omega) (fun j hj => by rw [hx j hj, if_neg (by omega)])
/-- the class: to the cell ahead -/
theorem ixL : ∀ i, i < 16 → (15 : Int32) + nI i * (-1) = nI (15 - i) := by decide +kernel
theorem slide0L_loop {st : Nat → Int32} {h : Nat → Nat} {w : Nat} (hb : ∀ c, c < 16 → h c ≤ 30) (hw9 : w ≤ 9) : ∀ (m n i k : Nat) (hp : Nat → Int32) (shed : Nat), i + m = 15 → m < n → k ≤ i → (k = 0 → ∀ j, 15 - i < j → j < 16 → oL h w j = false) → shed = (if i = 0 then 0 else nb (oL h w (16 - i))) → (∀ j, j < 16 → hp j = nI (if 15 - i < j then FL h w j else h j)) → ∃ hp' k', l0_slide_18 n hp st 15 (-1) (nI (w + 2)) (nI k) (nI shed) (nI i) = some (nI k', hp') ∧ k' ≤ 15 ∧ (k' = 0 → ∀ j, 0 < j → j < 16 → oL h w j = false) ∧ (∀ j, j < 16 → hp' j = nI (FL h w j)) := by
  intro m
  induction m with
  | zero =>
    intro n i k hp shed hi hn hk hz hs hx
    obtain ⟨n, rfl⟩ : ∃ q, n = q + 1 := ⟨n - 1, by omega⟩
    have e15 : i = 15 := by omega
    subst e15
    rw [if_neg (by decide)] at hs
    refine ⟨upd hp 0 (nI (h 0 + shed)), k, ?_, by omega, fun e j h1 hj => hz e j (by omega) hj, fun j hj => ?_⟩
    · rw [l0_slide_18, if_pos (by decide), show (15 : Int32) + (15 : Int32) * (-1) = nI 0 by decide, inb_y (show 16 < 2 ^ 31 by decide) (show 0 < 16 by decide), gd_t, gd_t, nI_clamp (by decide), hx 0 (by decide), if_neg (by decide), nI_add]
    · by_cases q : j = 0
      · subst q; rw [upd_s, hs]; simp [FL, inL, oL, nb]
      · rw [upd_n q, hx j hj, if_pos (by omega)]
  | succ m ih =>
    intro n i k hp shed hi hn hk hz hs hx
    obtain ⟨n, rfl⟩ : ∃ q, n = q + 1 := ⟨n - 1, by omega⟩
    obtain ⟨d, hd⟩ : ∃ d, 15 - i = d + 1 := ⟨14 - i, by omega⟩
    have hsl : shed = if d + 1 < 15 then inL h w (d + 1) else 0 := by
      rw [hs]
      by_cases q : i = 0
      · rw [if_pos q, if_neg (by omega)]
      · rw [if_neg q, if_pos (by omega)]; unfold inL; rw [show 16 - i = d + 1 + 1 by omega]
    have hs1 : shed ≤ 1 := by
      rw [hs]
      by_cases q : i = 0
      · rw [if_pos q]; omega
      · rw [if_neg q]; exact nb_le _
    have key : ∀ b : Bool, b = oL h w (d + 1) → ∃ hp' k', j0_slide_59 (l0_slide_18 n) hp st 15 (-1) (nI (w + 2)) (nI k) (nI shed) (nI i) (nI (d + 1)) (bi b) = some (nI k', hp') ∧ k' ≤ 15 ∧ (k' = 0 → ∀ j, 0 < j → j < 16 → oL h w j = false) ∧ (∀ j, j < 16 → hp' j = nI (FL h w j)) := by
      intro b hbq
      unfold j0_slide_59
      have hge : nb (oL h w (d + 1)) ≤ h (d + 1) := by
        cases e2 : oL h w (d + 1) with
        | false => rw [nb_f]; omega
        | true => have := oL_pos e2; rw [nb_t]; omega
      rw [inb_y (show 16 < 2 ^ 31 by decide) (show d + 1 < 16 by omega), gd_t, gd_t, nI_clamp (by omega), hx (d + 1) (by omega), if_neg (by omega), sub3, ← nb_bi, nI_add, hbq, pk_sub (by omega), nI_add, nI_1]
      have e1 : h (d + 1) + shed - nb (oL h w (d + 1)) = FL h w (d + 1) := by rw [hsl]; rfl
      rw [e1]
      have h1 := nb_le (oL h w (d + 1))
      exact ih n (i + 1) _ _ _ (by omega) (by omega) (by omega) (fun e j h2 hj => by
        by_cases q : j = d + 1
        · subst q
          cases e2 : oL h w (d + 1) with
          | false => rfl
          | true => rw [e2, nb_t] at e; omega
        · exact hz (by omega) j (by omega) hj) (by rw [if_neg (by omega), show 16 - (i + 1) = d + 1 by omega]) (fun j hj => by
        by_cases q : j = d + 1
        · subst q; rw [upd_s, if_pos (by omega)]
        · rw [upd_n q, hx j hj]
          congr 1
          by_cases q2 : 15 - i < j
          · rw [if_pos q2, if_pos (by omega)]
          · rw [if_neg q2, if_neg (by omega)])
    have k0 := key false
    have k1 := key true
    rw [bi_f] at k0
    rw [bi_t] at k1
    have hxi : hp (d + 1) = nI (h (d + 1)) := by rw [hx (d + 1) (by omega), if_neg (by omega)]
    have hxi1 : hp d = nI (h d) := by rw [hx d (by omega), if_neg (by omega)]
    rw [l0_slide_18, if_neg (fun q => by rw [li 15] at q; have := (nI_leI (by omega) (by omega)).mp q; omega), ixL i (by omega), hd, pk_m1, inb_y (show 16 < 2 ^ 31 by decide) (show d + 1 < 16 by omega), gd_t, inb_y (show 16 < 2 ^ 31 by decide) (show d < 16 by omega), gd_t, nI_clamp (by omega), nI_clamp (by omega), hxi, hxi1, nI_add]
    have := hb d (by omega)
    have := hb (d + 1) (by omega)
    by_cases e : h (d + 1) ≤ h d + (w + 2)
    · rw [if_pos (nI_le e (by omega))]
      exact k0 (by simp [oL]; omega)
    · rw [if_neg (fun q => e ((nI_leI (by omega) (by omega)).mp q))]
      exact k1 (by simp [oL]; omega)
theorem slide0L {hp st : Nat → Int32} {h : Nat → Nat} {w : Nat} (hx : ∀ c, c < 16 → hp c = nI (h c)) (hw : st 2 = nI w) (hb : ∀ c, c < 16 → h c ≤ 30) (hw9 : w ≤ 9) : ∃ hp' k', f0_slide hp st 15 (-1) = some (nI k', hp') ∧ k' ≤ 15 ∧ (k' = 0 → ∀ j, 0 < j → j < 16 → oL h w j = false) ∧ (∀ j, j < 16 → hp' j = nI (FL h w j)) := by
  unfold f0_slide
  rw [hw, li 2, nI_add]
  exact slide0L_loop hb hw9 15 1000 0 0 hp 0 (by omega) (by omega) (by omega) (fun _ j h1 hj => by omega) (by rw [if_pos rfl]) (fun j hj => by rw [hx j hj, if_neg (by omega)])
