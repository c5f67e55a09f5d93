/-! the texts, fourth: items, whole texts -/
/-- one number behind a word: a setting, or a cell's sand, is read alike -/
theorem kinds_skip {tb hp st : Nat → Int32} {tr : Nat → Nat → Int32} {vis : Int32} {L : Nat} {rtok rbg ren rvl : Int32} : ∀ (m n v u : Nat), v + m = u → u ≤ 7 → (∀ w, v ≤ w → w < u → f3_isWord (W7 w) tb rtok rbg ren = some (bi false)) → l3_readItem_2 (n + m) tb (nI L) rtok rbg ren rvl hp st tr vis (nI v) = l3_readItem_2 n tb (nI L) rtok rbg ren rvl hp st tr vis (nI u) := by
  intro m
  induction m with
  | zero => intro n v u hv hu h; rw [show v = u by omega]; rfl
  | succ m ih =>
    intro n v u hv hu h
    have hle : ¬ (nI 7 ≤ nI v) := fun q => by have := (nI_leI (by omega) (by omega)).mp q; omega
    rw [show n + (m + 1) = (n + m) + 1 by omega, l3_readItem_2, li 7, if_neg hle, show f3_isWord (f3_wordOf (nI v)) tb rtok rbg ren = _ from h v (by omega) (by omega), ob1_so, bi_f, if_pos rfl, nI_1]
    exact ih n (v + 1) u (by omega) hu (fun w h1 h2 => h w (by omega) h2)
theorem item_ok {tb xt hp st xs : Nat → Int32} {tr : Nat → Nat → Int32} {sp : Nat → Int32} {day z : Int32} {B : Nat → Nat} {L b e N : Nat} {rtok rbg ren rvl xtok xbeg xend : Int32} {xval : Int64} (hT : Tape tb xt B L) (hK : TK tb L b e rtok rbg ren rvl xtok xbeg xend xval) (hr : Row xs hp st tr sp (nI N) day z) (hok : OkP hp st tr N day) : ∃ (r : Bool) (b' e' N' : Nat) (rtok' rbg' ren' rvl' xtok' xbeg' xend' : Int32) (xval' : Int64) (hp' st' : Nat → Int32) (tr' : Nat → Nat → Int32) (xs' : Nat → Int32), f3_readItem tb (nI L) rtok rbg ren rvl hp st tr (nI N) = some (bi r, rtok', rbg', ren', rvl', hp', st', tr', nI N') ∧ f5_readsItem xs xt (nI L) xtok xbeg xend xval = some (bi r, xs', xtok', xbeg', xend', xval') ∧ b ≤ b' ∧ (r = true → b + 1 ≤ b') ∧ TK tb L b' e' rtok' rbg' ren' rvl' xtok' xbeg' xend' xval' ∧ Row xs' hp' st' tr' sp (nI N') day z ∧ OkP hp' st' tr' N' day ∧ N ≤ N' := by
  have hN := hok.2.2.2.2.1
  obtain ⟨h1, h2, h3, h4, h5, h6⟩ := hK.ends
  have neg1 : (-1 : Int32) < 0 := by decide
  have nneg1 : ¬ (0 : Int32) ≤ -1 := by decide
  -- no kind: the class goes on to the other words
  have skip : (∀ w, w < 7 → f3_isWord (W7 w) tb rtok rbg ren = some (bi false)) → f3_readItem tb (nI L) rtok rbg ren rvl hp st tr (nI N) = l3_readItem_2 993 tb (nI L) rtok rbg ren rvl hp st tr (nI N) (nI 7) := fun h => kinds_skip 7 993 0 7 (by omega) (by omega) (fun w _ h2 => h w h2)
  have at7 : ∀ n, l3_readItem_2 (n + 1) tb (nI L) rtok rbg ren rvl hp st tr (nI N) (nI 7) = ob1 (f3_isWord 11 tb rtok rbg ren) (fun r2 => if r2 = 0 then ob1 (f3_isWord 12 tb rtok rbg ren) (fun r5 => if r5 = 0 then ob1 (f3_isWord 13 tb rtok rbg ren) (fun r8 => if r8 = 0 then ob1 (f3_isWord 14 tb rtok rbg ren) (fun r11 => if r11 = 0 then some (0, rtok, rbg, ren, rvl, hp, st, tr, nI N) else ob6 (f3_readSetting tb (nI L) rtok rbg ren rvl st 2) (fun r14 rtok_15 rbg_15 ren_15 rvl_15 st_19 => if r14 = 0 then some (0, rtok_15, rbg_15, ren_15, rvl_15, hp, st_19, tr, nI N) else some (1, rtok_15, rbg_15, ren_15, rvl_15, hp, st_19, tr, nI N))) else ob6 (f3_readSetting tb (nI L) rtok rbg ren rvl st 1) (fun r22 rtok_23 rbg_23 ren_23 rvl_23 st_27 => gd (b01 r22) (some (r22, rtok_23, rbg_23, ren_23, rvl_23, hp, st_27, tr, nI N)))) else ob6 (f3_readSetting tb (nI L) rtok rbg ren rvl st 0) (fun r30 rtok_31 rbg_31 ren_31 rvl_31 st_35 => gd (b01 r30) (some (r30, rtok_31, rbg_31, ren_31, rvl_31, hp, st_35, tr, nI N)))) else ob6 (f3_readSand tb (nI L) rtok rbg ren rvl hp) (fun r38 rtok_39 rbg_39 ren_39 rvl_39 hp_43 => gd (b01 r38) (some (r38, rtok_39, rbg_39, ren_39, rvl_39, hp_43, st, tr, nI N)))) := by
    intro n
    rw [l3_readItem_2, li 7, if_pos (nI_le (by omega) (by omega))]
  rcases hK.word with ⟨ht, hbe, X, hX, ex, hw⟩ | ⟨ht, hw⟩
  case inr =>
    refine ⟨false, b, e, N, rtok, rbg, ren, rvl, xtok, xbeg, xend, xval, hp, st, tr, xs, ?_, ?_, Nat.le_refl b, fun q => absurd q (by decide), hK, hr, hok, Nat.le_refl N⟩
    · rw [skip (fun w _ => hw _), show (993 : Nat) = 992 + 1 from rfl, at7, hw, ob1_so, bi_f, if_pos rfl, hw, ob1_so, bi_f, if_pos rfl, hw, ob1_so, bi_f, if_pos rfl, hw, ob1_so, bi_f, if_pos rfl]
    · unfold f5_readsItem
      rw [wordOf7_no ht, ob1_so, if_pos neg1, wordOf9_no ht, ob1_so, if_neg nneg1]
      rfl
  subst ht ex
  rcases wordOf7 hX with ⟨u, u1, u2, u3⟩ | ⟨u1, u2⟩
  · -- a visitor
    obtain ⟨r, b', e', N', rtok', rbg', ren', rvl', xtok', xbeg', xend', xval', tr', xs', c1, c2, c3, c4, c5, c6, c7, c8⟩ := visit_ok hT hK u1 hr hok
    refine ⟨r, b', e', N', rtok', rbg', ren', rvl', xtok', xbeg', xend', xval', hp, st, tr', xs', ?_, ?_, c3, fun q => by have := c4 q; omega, c5, c6, c7, c8⟩
    · have sk := kinds_skip (tb := tb) (hp := hp) (st := st) (tr := tr) (vis := nI N) (L := L) (rvl := rvl) u (1000 - u) 0 u (by omega) (by omega) (rtok := rtok) (rbg := rbg) (ren := ren) (fun w _ h2 => by
        rw [hw _ (cd7_fin w (by omega)).2, decide_eq_false]
        intro q
        have := W7_inj u u1 w (by omega) (wc_inj _ (cd7_fin u u1).2 _ (cd7_fin w (by omega)).2 (u2.symm.trans q))
        omega)
      rw [show 1000 - u + u = 1000 by omega] at sk
      have hle : ¬ (nI 7 ≤ nI u) := fun q => by have := (nI_leI (by omega) (by omega)).mp q; omega
      have hwu : f3_isWord (f3_wordOf (nI u)) tb rtok rbg ren = some (bi true) := by
        rw [show f3_wordOf (nI u) = W7 u from rfl, hw _ (cd7_fin u u1).2, decide_eq_true u2]
      unfold f3_readItem
      rw [show l3_readItem_2 1000 tb (nI L) rtok rbg ren rvl hp st tr (nI N) 0 = _ from sk, show 1000 - u = (999 - u) + 1 by omega, l3_readItem_2, li 7, if_neg hle, hwu, ob1_so, bi_t, if_neg ne10, c1]
      cases r <;> rfl
    · unfold f5_readsItem
      rw [u3, ob1_so, if_neg (nI_pos (by omega)), c2, ob6_so]
      cases r <;> rfl
  have noK : ∀ w, w < 7 → f3_isWord (W7 w) tb rtok rbg ren = some (bi false) := fun w h => by rw [hw _ (cd7_fin w h).2, decide_eq_false (u1 w h)]
  have iw : ∀ i, i < 4 → f3_isWord (11 + i) tb rtok rbg ren = some (bi (decide (X = wc (W9 i)))) := fun i hi => hw (11 + i) (by omega)
  rcases wordOf9 hX with ⟨u, w1, w2, w3⟩ | ⟨w1, w2⟩
  case inr =>
    refine ⟨false, b, e, N, rtok, rbg, ren, rvl, 1, xbeg, xend, lN X, hp, st, tr, xs, ?_, ?_, Nat.le_refl b, fun q => absurd q (by decide), hK, hr, hok, Nat.le_refl N⟩
    · rw [skip noK, show (993 : Nat) = 992 + 1 from rfl, at7, iw 0 (by decide), decide_eq_false (w1 0 (by decide)), ob1_so, bi_f, if_pos rfl, iw 1 (by decide), decide_eq_false (w1 1 (by decide)), ob1_so, bi_f, if_pos rfl, iw 2 (by decide), decide_eq_false (w1 2 (by decide)), ob1_so, bi_f, if_pos rfl, iw 3 (by decide), decide_eq_false (w1 3 (by decide)), ob1_so, bi_f, if_pos rfl]
    · unfold f5_readsItem
      rw [u2, ob1_so, if_pos neg1, w2, ob1_so, if_neg nneg1]
      rfl
  -- sand, or a setting
  obtain ⟨b1, e1, rtok1, rbg1, ren1, rvl1, xtok1, xbeg1, xend1, xval1, a1, a2, a3, a4⟩ := hK.next hT
  obtain ⟨g1, g2, g3, g4, g5', g6⟩ := a4.ends
  have other : ∀ i, i < 4 → i ≠ u → f3_isWord (11 + i) tb rtok rbg ren = some (bi false) := fun i hi hne => by
    rw [iw i hi, decide_eq_false]
    intro q
    exact hne (W9_inj i hi u w1 (wc_inj _ (cd9_fin i hi).2 _ (cd9_fin u w1).2 (q.symm.trans w2)))
  have this_ : f3_isWord (11 + u) tb rtok rbg ren = some (bi true) := by rw [iw u w1, decide_eq_true w2]
  have refs : f5_readsItem xs xt (nI L) 1 xbeg xend (lN X) = if nI u = 0 then ob5 (f5_takesNumber xt (nI L) xtok1 xbeg1 xend1 xval1 0 15) (fun r13 xtok_14 xbeg_14 xend_14 xval_14 => j5_readsItem_53 xs xt (nI L) xtok_14 xbeg_14 xend_14 xval_14 (nI u) r13) else j5_readsItem_53 xs xt (nI L) xtok1 xbeg1 xend1 xval1 (nI u) 0 := by
    unfold f5_readsItem
    rw [u2, ob1_so, if_pos neg1, w3, ob1_so, if_pos (show (0 : Int32) ≤ nI u from nI_pos' (by omega)), a2, ob4_so']
  rw [refs, skip noK, show (993 : Nat) = 992 + 1 from rfl, at7]
  by_cases hu0 : u = 0
  · -- sand
    subst hu0
    rw [show f3_isWord 11 tb rtok rbg ren = _ from this_, ob1_so, bi_t, if_neg ne10, if_pos (show nI 0 = 0 from rfl)]
    unfold f3_readSand
    rw [a1, ob4_so']
    rcases num_ok (xt := xt) (a := 0) (c := 15) a4 (by decide) (by decide) with ⟨n1, n2⟩ | ⟨x, x1, x2, n1, n2, n3⟩
    · rw [show f5_takesNumber xt (nI L) xtok1 xbeg1 xend1 xval1 0 15 = _ from n2, ob5_so, if_pos (show f3_isNumber rtok1 rvl1 0 15 = 0 from n1), j5_readsItem_53, if_neg nneg1, j5_readsItem_98, if_pos neg1, j5_readsItem_128, if_pos neg1]
      exact ⟨false, b1, e1, N, rtok1, rbg1, ren1, rvl1, xtok1, xbeg1, xend1, xval1, hp, st, tr, xs, rfl, rfl, by omega, fun q => absurd q (by decide), a4, hr, hok, Nat.le_refl N⟩
    obtain ⟨b2, e2, rtok2, rbg2, ren2, rvl2, xtok2, xbeg2, xend2, xval2, c1, c2, c3, c4⟩ := a4.next hT
    obtain ⟨k1, k2, k3, k4, k5, k6⟩ := c4.ends
    rw [show f5_takesNumber xt (nI L) xtok1 xbeg1 xend1 xval1 0 15 = _ from n3, c2, ob4_so', ob5_so, if_neg (show ¬ f3_isNumber rtok1 rvl1 0 15 = 0 from fun p => ne10 (n1.symm.trans p)), c1, ob4_so', j5_readsItem_53, if_pos (show (0 : Int32) ≤ nI x from nI_pos' (by omega)), if_pos (show nI 0 = 0 from rfl), j5_readsItem_95]
    rcases num_ok (xt := xt) (a := 0) (c := 30) c4 (by decide) (by decide) with ⟨m1, m2⟩ | ⟨y, y1, y2, m1, m2, m3⟩
    · rw [show f5_takesNumber xt (nI L) xtok2 xbeg2 xend2 xval2 0 30 = _ from m2, ob5_so, if_pos (show f3_isNumber rtok2 rvl2 0 30 = 0 from m1), j5_readsItem_98, if_pos neg1, j5_readsItem_128, if_pos neg1]
      exact ⟨false, b2, e2, N, rtok2, rbg2, ren2, rvl2, xtok2, xbeg2, xend2, xval2, hp, st, tr, xs, rfl, rfl, by omega, fun q => absurd q (by decide), c4, hr, hok, Nat.le_refl N⟩
    obtain ⟨b3, e3, rtok3, rbg3, ren3, rvl3, xtok3, xbeg3, xend3, xval3, d1, d2, d3, d4⟩ := c4.next hT
    rw [show f5_takesNumber xt (nI L) xtok2 xbeg2 xend2 xval2 0 30 = _ from m3, d2, ob4_so', ob5_so, if_neg (show ¬ f3_isNumber rtok2 rvl2 0 30 = 0 from fun p => ne10 (m1.symm.trans p)), n2, inb_y (show 16 < 2 ^ 31 by decide) (show x < 16 by omega), gd_t, d1, ob4_so', j5_readsItem_98, if_neg (nI_pos (show y < 2 ^ 31 by omega)), if_pos (show nI 0 = 0 from rfl), j5_readsItem_125, li 6, nI_add, inb_y (show 88 < 2 ^ 31 by decide) (show 6 + x < 88 by omega), gd_t, j5_readsItem_128, if_neg (nI_pos (show y < 2 ^ 31 by omega)), nI_clamp (show x < 2 ^ 31 by omega), nI_clamp (show 6 + x < 2 ^ 31 by omega), m2]
    refine ⟨true, b3, e3, N, rtok3, rbg3, ren3, rvl3, xtok3, xbeg3, xend3, xval3, upd hp x (nI y), st, tr, _, rfl, rfl, by omega, fun _ => by omega, d4, hr.hp (by omega) _, ⟨fun j hj => ?_, hok.2⟩, Nat.le_refl N⟩
    by_cases q : j = x
    · subst q; rw [upd_s]; exact Bt.of (by omega) (by omega) (by omega)
    · rw [upd_n q]; exact hok.1 j hj
  · -- a setting
    rw [show f3_isWord 11 tb rtok rbg ren = _ from other 0 (by decide) (fun q => hu0 q.symm), ob1_so, bi_f, if_pos rfl, if_neg (nI_ne0 (by omega) (by omega))]
    have set_ : ∀ (i m : Nat), i < 3 → u = i + 1 → kSM i = nI m → m ≤ 9999 → (∀ x : Nat, x ≤ m → OkP hp (upd st i (nI x)) tr N day) → (∀ t : Int32, j5_readsItem_53 xs xt (nI L) xtok1 xbeg1 xend1 xval1 (nI u) 0 = j5_readsItem_95 xs xt (nI L) xtok1 xbeg1 xend1 xval1 (nI u) 0 0 (nI m)) → ∃ (r : Bool) (b' e' N' : Nat) (rtok' rbg' ren' rvl' xtok' xbeg' xend' : Int32) (xval' : Int64) (st' : Nat → Int32) (xs' : Nat → Int32), f3_readSetting tb (nI L) rtok rbg ren rvl st (nI i) = some (bi r, rtok', rbg', ren', rvl', st') ∧ j5_readsItem_53 xs xt (nI L) xtok1 xbeg1 xend1 xval1 (nI u) 0 = some (bi r, xs', xtok', xbeg', xend', xval') ∧ b ≤ b' ∧ (r = true → b + 1 ≤ b') ∧ TK tb L b' e' rtok' rbg' ren' rvl' xtok' xbeg' xend' xval' ∧ Row xs' hp st' tr sp (nI N) day z ∧ OkP hp st' tr N day := by
      intro i m hi hui hk hm hkeep hj
      rw [hj 0, j5_readsItem_95]
      unfold f3_readSetting
      rw [a1, ob4_so', inb_y (show 3 < 2 ^ 31 by decide) hi, gd_t, gd_t, nI_clamp (show i < 2 ^ 31 by omega), hk]
      rcases num_ok (xt := xt) (a := 0) (c := m) a4 hm (by omega) with ⟨n1, n2⟩ | ⟨x, x1, x2, n1, n2, n3⟩
      · rw [show f5_takesNumber xt (nI L) xtok1 xbeg1 xend1 xval1 0 (nI m) = _ from n2, ob5_so, if_pos (show f3_isNumber rtok1 rvl1 0 (nI m) = 0 from n1), j5_readsItem_98, if_pos neg1, j5_readsItem_128, if_pos neg1]
        exact ⟨false, b1, e1, N, rtok1, rbg1, ren1, rvl1, xtok1, xbeg1, xend1, xval1, st, xs, rfl, rfl, by omega, fun q => absurd q (by decide), a4, hr, hok⟩
      obtain ⟨b2, e2, rtok2, rbg2, ren2, rvl2, xtok2, xbeg2, xend2, xval2, c1, c2, c3, c4⟩ := a4.next hT
      rw [show f5_takesNumber xt (nI L) xtok1 xbeg1 xend1 xval1 0 (nI m) = _ from n3, c2, ob4_so', ob5_so, if_neg (show ¬ f3_isNumber rtok1 rvl1 0 (nI m) = 0 from fun p => ne10 (n1.symm.trans p)), c1, ob4_so', j5_readsItem_98, if_neg (nI_pos (show x < 2 ^ 31 by omega)), if_neg (nI_ne0 (by omega) (by omega)), j5_readsItem_125, li 3, nI_add, nsub1 (by omega), hui, show 3 + (i + 1) - 1 = 3 + i by omega, inb_y (show 88 < 2 ^ 31 by decide) (show 3 + i < 88 by omega), gd_t, j5_readsItem_128, if_neg (nI_pos (show x < 2 ^ 31 by omega)), nI_clamp (show 3 + i < 2 ^ 31 by omega), n2]
      exact ⟨true, b2, e2, N, rtok2, rbg2, ren2, rvl2, xtok2, xbeg2, xend2, xval2, upd st i (nI x), _, rfl, rfl, by omega, fun _ => by omega, c4, hr.st hi (nI x), hkeep x x2⟩
    rcases (show u = 1 ∨ u = 2 ∨ u = 3 by omega) with rfl | rfl | rfl
    · obtain ⟨r, b', e', N', rtok', rbg', ren', rvl', xtok', xbeg', xend', xval', st', xs', f1, f2, f3, f4, f5, f6, f7⟩ := set_ 0 9999 (by decide) rfl rfl (by decide) (fun x hx => ⟨hok.1, by rw [upd_s]; exact Bt.of (by omega) (by omega) (by omega), by rw [upd_n (by decide)]; exact hok.2.2.1, by rw [upd_n (by decide)]; exact hok.2.2.2.1, hok.2.2.2.2⟩) (fun t => by rw [j5_readsItem_53, if_pos (by decide), if_neg (by decide), if_pos (by decide)]; rfl)
      rw [show f3_isWord 12 tb rtok rbg ren = _ from this_, ob1_so, bi_t, if_neg ne10, show f3_readSetting tb (nI L) rtok rbg ren rvl st 0 = _ from f1, f2, ob6_so]
      exact ⟨r, b', e', N, rtok', rbg', ren', rvl', xtok', xbeg', xend', xval', hp, st', tr, xs', by cases r <;> rfl, rfl, f3, f4, f5, f6, f7, Nat.le_refl N⟩
    · obtain ⟨r, b', e', N', rtok', rbg', ren', rvl', xtok', xbeg', xend', xval', st', xs', f1, f2, f3, f4, f5, f6, f7⟩ := set_ 1 5 (by decide) rfl rfl (by decide) (fun x hx => ⟨hok.1, by rw [upd_n (by decide)]; exact hok.2.1, by rw [upd_s]; exact Bt.of (by omega) (by omega) (by omega), by rw [upd_n (by decide)]; exact hok.2.2.2.1, hok.2.2.2.2⟩) (fun t => by rw [j5_readsItem_53, if_pos (by decide), if_neg (by decide), if_neg (by decide), if_pos (by decide)]; rfl)
      rw [show f3_isWord 12 tb rtok rbg ren = _ from other 1 (by decide) (by decide), ob1_so, bi_f, if_pos rfl, show f3_isWord 13 tb rtok rbg ren = _ from this_, ob1_so, bi_t, if_neg ne10, show f3_readSetting tb (nI L) rtok rbg ren rvl st 1 = _ from f1, f2, ob6_so]
      exact ⟨r, b', e', N, rtok', rbg', ren', rvl', xtok', xbeg', xend', xval', hp, st', tr, xs', by cases r <;> rfl, rfl, f3, f4, f5, f6, f7, Nat.le_refl N⟩
    · obtain ⟨r, b', e', N', rtok', rbg', ren', rvl', xtok', xbeg', xend', xval', st', xs', f1, f2, f3, f4, f5, f6, f7⟩ := set_ 2 9 (by decide) rfl rfl (by decide) (fun x hx => ⟨hok.1, by rw [upd_n (by decide)]; exact hok.2.1, by rw [upd_n (by decide)]; exact hok.2.2.1, by rw [upd_s]; exact Bt.of (by omega) (by omega) (by omega), hok.2.2.2.2⟩) (fun t => by rw [j5_readsItem_53, if_pos (by decide), if_neg (by decide), if_neg (by decide), if_neg (by decide)]; rfl)
      rw [show f3_isWord 12 tb rtok rbg ren = _ from other 1 (by decide) (by decide), ob1_so, bi_f, if_pos rfl, show f3_isWord 13 tb rtok rbg ren = _ from other 2 (by decide) (by decide), ob1_so, bi_f, if_pos rfl, show f3_isWord 14 tb rtok rbg ren = _ from this_, ob1_so, bi_t, if_neg ne10, show f3_readSetting tb (nI L) rtok rbg ren rvl st 2 = _ from f1, f2, ob6_so]
      exact ⟨r, b', e', N, rtok', rbg', ren', rvl', xtok', xbeg', xend', xval', hp, st', tr, xs', by cases r <;> rfl, rfl, f3, f4, f5, f6, f7, Nat.le_refl N⟩
