/-! the texts, third: numbers, items, whole texts -/
theorem num_ok {tb xt : Nat → Int32} {L b e a c : Nat} {rtok rbg ren rvl xtok xbeg xend : Int32} {xval : Int64} (hK : TK tb L b e rtok rbg ren rvl xtok xbeg xend xval) (hc : c ≤ 9999) (ha : a ≤ c) : (f3_isNumber rtok rvl (nI a) (nI c) = 0 ∧ f5_takesNumber xt (nI L) xtok xbeg xend xval (nI a) (nI c) = some (-1, xtok, xbeg, xend, xval)) ∨ ∃ x, a ≤ x ∧ x ≤ c ∧ f3_isNumber rtok rvl (nI a) (nI c) = 1 ∧ rvl = nI x ∧ f5_takesNumber xt (nI L) xtok xbeg xend xval (nI a) (nI c) = ob4 (f5_nextToken xt (nI L) xtok xbeg xend xval) (fun xtok_4 xbeg_4 xend_4 xval_4 => some (nI x, xtok_4, xbeg_4, xend_4, xval_4)) := by
  obtain ⟨-, -, -, -, -, -, h⟩ := hK
  have no : ∀ t : Int32, ¬ t = 2 → f5_takesNumber xt (nI L) t xbeg xend xval (nI a) (nI c) = some (-1, t, xbeg, xend, xval) := by
    intro t ht
    unfold f5_takesNumber j5_takesNumber_29 j5_takesNumber_30
    rw [if_neg ht, if_pos (by decide)]
  have nc : ∀ t v : Int32, ¬ t = 2 → f3_isNumber t v (nI a) (nI c) = 0 := by
    intro t v ht
    unfold f3_isNumber
    rw [if_neg ht]
  rcases h with ⟨rfl, rfl, -, -⟩ | ⟨rfl, -, x, hx, rfl, rfl, rfl⟩ | ⟨rfl, -, rfl, rfl⟩ | ⟨rfl, rfl, -⟩ | ⟨rfl, rfl, -⟩ | ⟨rfl, rfl⟩
  · exact Or.inl ⟨nc 1 _ (by decide), no 1 (by decide)⟩
  · unfold f3_isNumber f5_takesNumber
    rw [if_pos rfl, if_pos rfl, lN_i, in54]
    rcases inC (nI x) (a := a) (b := c) (by omega) (by omega) with q | ⟨x', ex, h1, h2, q⟩
    · rw [if_pos q, if_pos q]
      refine Or.inl ⟨rfl, ?_⟩
      unfold j5_takesNumber_29 j5_takesNumber_30
      rw [if_pos (by decide)]
    · have : x = x' := (nI_eq (by omega) (by omega)).mp ex
      subst this
      have q' : ¬ f4_within (nI x) (nI a) (nI c) = 0 := fun p => ne10 (q.symm.trans p)
      rw [if_neg q', if_neg q']
      refine Or.inr ⟨x, h1, h2, rfl, rfl, ?_⟩
      unfold j5_takesNumber_30
      rw [if_neg (nI_pos (by omega))]
  · refine Or.inl ⟨?_, no 4 (by decide)⟩
    unfold f3_isNumber
    rw [if_pos rfl]
    have : f4_within 10000 (nI a) (nI c) = 0 := by
      rw [in4, if_neg]
      intro h
      exact absurd h.2 (show ¬ nI 10000 ≤ nI c from nI_ge (by omega) (by decide))
    rw [if_pos this]
  · exact Or.inl ⟨nc 3 _ (by decide), no 3 (by decide)⟩
  · exact Or.inl ⟨nc 4 _ (by decide), no 4 (by decide)⟩
  · exact Or.inl ⟨nc 0 _ (by decide), no 0 (by decide)⟩
theorem TK.ends {tb : Nat → Int32} {L b e : Nat} {rtok rbg ren rvl xtok xbeg xend : Int32} {xval : Int64} (hK : TK tb L b e rtok rbg ren rvl xtok xbeg xend xval) : rbg = nI b ∧ xbeg = nI b ∧ ren = nI e ∧ xend = nI e ∧ b ≤ e ∧ e ≤ L := ⟨hK.1, hK.2.1, hK.2.2.1, hK.2.2.2.1, hK.2.2.2.2.1, hK.2.2.2.2.2.1⟩
/-- the next token, from a token -/
theorem TK.next {tb xt : Nat → Int32} {B : Nat → Nat} {L b e : Nat} {rtok rbg ren rvl xtok xbeg xend : Int32} {xval : Int64} (hK : TK tb L b e rtok rbg ren rvl xtok xbeg xend xval) (hT : Tape tb xt B L) : ∃ b' e' rtok' rbg' ren' rvl' xtok' xbeg' xend' xval', f3_readToken tb (nI L) rtok rbg ren rvl = some (rtok', rbg', ren', rvl') ∧ f5_nextToken xt (nI L) xtok xbeg xend xval = some (xtok', xbeg', xend', xval') ∧ e ≤ b' ∧ TK tb L b' e' rtok' rbg' ren' rvl' xtok' xbeg' xend' xval' := by
  obtain ⟨h1, h2, h3, h4, h5, h6⟩ := hK.ends
  rw [h3, h4]
  exact next_ok hT h6 rtok rbg rvl xtok xbeg xval
/-- is it this word? -/
theorem TK.word {tb : Nat → Int32} {L b e : Nat} {rtok rbg ren rvl xtok xbeg xend : Int32} {xval : Int64} (hK : TK tb L b e rtok rbg ren rvl xtok xbeg xend xval) : (xtok = 1 ∧ b < e ∧ ∃ X, X < 2 ^ 63 ∧ xval = lN X ∧ ∀ i, i < 15 → f3_isWord i tb rtok rbg ren = some (bi (decide (X = wc i)))) ∨ (¬ xtok = 1 ∧ ∀ i, f3_isWord i tb rtok rbg ren = some (bi false)) := by
  obtain ⟨h1, h2, h3, h4, h5, h6, h⟩ := hK
  rcases h with ⟨rfl, rfl, hb, X, hX, e1, hw⟩ | ⟨rfl, -, x, hx, rfl, rfl, rfl⟩ | ⟨rfl, -, rfl, rfl⟩ | ⟨rfl, rfl, -⟩ | ⟨rfl, rfl, -⟩ | ⟨rfl, rfl⟩
  · exact Or.inl ⟨rfl, hb, X, hX, e1, fun i hi => by rw [h1, h3]; exact hw i hi⟩
  · exact Or.inr ⟨by decide, fun i => isw_no (by decide)⟩
  · exact Or.inr ⟨by decide, fun i => isw_no (by decide)⟩
  · exact Or.inr ⟨by decide, fun i => isw_no (by decide)⟩
  · exact Or.inr ⟨by decide, fun i => isw_no (by decide)⟩
  · exact Or.inr ⟨by decide, fun i => isw_no (by decide)⟩
theorem ob6_so {α β γ δ ε ζ ρ : Type} {a : α} {b : β} {c : γ} {d : δ} {e : ε} {f : ζ} {k : α → β → γ → δ → ε → ζ → Option ρ} : ob6 (some (a, b, c, d, e, f)) k = k a b c d e f := rfl
set_option maxHeartbeats 1000000 in
theorem trait_ok {tb xt hp st xs : Nat → Int32} {tr : Nat → Nat → Int32} {sp : Nat → Int32} {day z : Int32} {B : Nat → Nat} {L b e j v N n : Nat} {rtok rbg ren rvl xtok xbeg xend : Int32} {xval : Int64} (hT : Tape tb xt B L) (hK : TK tb L b e rtok rbg ren rvl xtok xbeg xend xval) (hj : j < 4) (hv : v < N) (hr : Row xs hp st tr sp (nI N) day z) (hok : OkP hp st tr N day) : ∃ (r : Bool) (b' e' : Nat) (rtok' rbg' ren' rvl' xtok' xbeg' xend' : Int32) (xval' : Int64) (tr' : Nat → Nat → Int32) (xs' : Nat → Int32), f3_readTrait (7 + j) tb (nI L) rtok rbg ren rvl tr (nI v) (nI (1 + j)) = some (bi r, rtok', rbg', ren', rvl', tr') ∧ l5_readsVisitor_31 (n + 1) xs xt (nI L) xtok xbeg xend xval (nI v) (nI j) = (if r = true then l5_readsVisitor_31 n xs' xt (nI L) xtok' xbeg' xend' xval' (nI v) (nI (j + 1)) else some (0, xs', xtok', xbeg', xend', xval')) ∧ b ≤ b' ∧ TK tb L b' e' rtok' rbg' ren' rvl' xtok' xbeg' xend' xval' ∧ Row xs' hp st tr' sp (nI N) day z ∧ OkP hp st tr' N day := by
  have hN := hok.2.2.2.2.1
  have hle : ¬ (nI 4 ≤ nI j) := fun q => by have := (nI_leI (by omega) (by omega)).mp q; omega
  have no : ∀ w : Int32, ¬ w = nI j → f5_wordOf_8 xtok xval = some w → f3_isWord (7 + j) tb rtok rbg ren = some (bi false) → ∃ (r : Bool) (b' e' : Nat) (rtok' rbg' ren' rvl' xtok' xbeg' xend' : Int32) (xval' : Int64) (tr' : Nat → Nat → Int32) (xs' : Nat → Int32), f3_readTrait (7 + j) tb (nI L) rtok rbg ren rvl tr (nI v) (nI (1 + j)) = some (bi r, rtok', rbg', ren', rvl', tr') ∧ l5_readsVisitor_31 (n + 1) xs xt (nI L) xtok xbeg xend xval (nI v) (nI j) = (if r = true then l5_readsVisitor_31 n xs' xt (nI L) xtok' xbeg' xend' xval' (nI v) (nI (j + 1)) else some (0, xs', xtok', xbeg', xend', xval')) ∧ b ≤ b' ∧ TK tb L b' e' rtok' rbg' ren' rvl' xtok' xbeg' xend' xval' ∧ Row xs' hp st tr' sp (nI N) day z ∧ OkP hp st tr' N day := by
    intro w hw h1 h2
    refine ⟨true, b, e, rtok, rbg, ren, rvl, xtok, xbeg, xend, xval, tr, xs, ?_, ?_, Nat.le_refl b, hK, hr, hok⟩
    · unfold f3_readTrait
      rw [h2, ob1_so, bi_f, if_pos rfl]
      rfl
    · rw [l5_readsVisitor_31, li 4, if_neg hle, h1, ob1_so, if_neg hw, if_pos rfl, j5_readsVisitor_87, nI_1]
  have m1 : ¬ (-1 : Int32) = nI j := fun e => by
    have h := congrArg Int32.toInt e
    rw [nI_toInt (by omega)] at h
    have : (-1 : Int32).toInt = -1 := by decide
    omega
  rcases hK.word with ⟨ht, hbe, X, hX, ex, hw⟩ | ⟨ht, hw⟩
  case inr => exact no (-1) m1 (wordOf8_no ht) (hw _)
  rcases wordOf8 hX with ⟨u, u1, u2, u3⟩ | ⟨u1, u2⟩
  case inr =>
    refine no (-1) m1 (by rw [ht, ex]; exact u2) ?_
    rw [hw _ (by omega), decide_eq_false (show X ≠ wc (7 + j) from u1 j hj)]
  by_cases hu : u = j
  case neg =>
    refine no (nI u) (fun q => hu ((nI_eq (by omega) (by omega)).mp q)) (by rw [ht, ex]; exact u3) ?_
    rw [hw _ (by omega), decide_eq_false]
    intro q
    have := W8_inj u u1 j hj (wc_inj _ (cd8_fin u u1).2 _ (cd8_fin j hj).2 (u2.symm.trans q))
    exact hu this
  subst hu
  have ew : f3_isWord (7 + u) tb rtok rbg ren = some (bi true) := by rw [hw _ (by omega), decide_eq_true (show X = wc (7 + u) from u2)]
  obtain ⟨h1, h2, h3, h4, h5, h6⟩ := hK.ends
  obtain ⟨b1, e1, rtok1, rbg1, ren1, rvl1, xtok1, xbeg1, xend1, xval1, a1, a2, a3, a4⟩ := hK.next hT
  obtain ⟨lo, mo, elo, emo, hlm, hmo⟩ := tm_fin (1 + u) (by omega)
  have e7 : 1 + u < 7 := by omega
  have hmo' : mo ≤ 9999 := by
    have hlim : ∀ t, t < 7 → (kTM t).toInt ≤ 9999 := by decide +kernel
    have := hlim (1 + u) e7
    rw [emo, nI_toInt (by omega)] at this
    omega
  have start : l5_readsVisitor_31 (n + 1) xs xt (nI L) xtok xbeg xend xval (nI v) (nI u) = ob5 (f5_takesNumber xt (nI L) xtok1 xbeg1 xend1 xval1 (nI lo) (nI mo)) (fun r18 xtok_19 xbeg_19 xend_19 xval_19 => if 0 ≤ r18 then ob1 (f5_puts xs (nI v) (nI (1 + u)) r18) (fun xs_25 => l5_readsVisitor_31 n xs_25 xt (nI L) xtok_19 xbeg_19 xend_19 xval_19 (nI v) (nI (u + 1))) else some (0, xs, xtok_19, xbeg_19, xend_19, xval_19)) := by
    rw [l5_readsVisitor_31, li 4, if_neg hle, show f5_wordOf_8 xtok xval = some (nI u) by rw [ht, ex]; exact u3, ob1_so, if_pos rfl, a2, ob4_so', li 1, nI_add, (lm_fin (1 + u) e7).1, (lm_fin (1 + u) e7).2, elo, emo]
    simp only [j5_readsVisitor_87, nI_1]
  have startc : f3_readTrait (7 + u) tb (nI L) rtok rbg ren rvl tr (nI v) (nI (1 + u)) = if f3_isNumber rtok1 rvl1 (nI lo) (nI mo) = 0 then some (0, rtok1, rbg1, ren1, rvl1, tr) else ob4 (f3_readToken tb (nI L) rtok1 rbg1 ren1 rvl1) (fun rtok_14 rbg_14 ren_14 rvl_14 => some (1, rtok_14, rbg_14, ren_14, rvl_14, upd2 tr (1 + u) v rvl1)) := by
    unfold f3_readTrait
    rw [ew, ob1_so, bi_t, if_neg ne10, a1, ob4_so', inb_y (show 7 < 2 ^ 31 by decide) e7, gd_t, gd_t, gd_t, inb_y (show 8 < 2 ^ 31 by decide) (show v < 8 by omega), gd_t, nI_clamp (show 1 + u < 2 ^ 31 by omega), nI_clamp (show v < 2 ^ 31 by omega), elo, emo]
  rw [start, startc]
  rcases num_ok (xt := xt) (a := lo) (c := mo) a4 hmo' hlm with ⟨n1, n2⟩ | ⟨x, x1, x2, n1, n2, n3⟩
  · rw [n2, ob5_so, if_neg (show ¬ (0 : Int32) ≤ -1 by decide), if_pos n1]
    exact ⟨false, b1, e1, rtok1, rbg1, ren1, rvl1, xtok1, xbeg1, xend1, xval1, tr, xs, rfl, rfl, by omega, a4, hr, hok⟩
  · obtain ⟨b2, e2, rtok2, rbg2, ren2, rvl2, xtok2, xbeg2, xend2, xval2, c1, c2, c3, c4⟩ := a4.next hT
    obtain ⟨g1, g2, g3, g4, g5', g6⟩ := a4.ends
    rw [n3, c2, ob4_so', ob5_so, if_pos (show (0 : Int32) ≤ nI x from nI_pos' (by omega)), if_neg (fun p => ne10 (n1.symm.trans p)), c1, ob4_so', n2, p5 xs (nI x) (show v < 8 by omega) e7, ob1_so]
    refine ⟨true, b2, e2, rtok2, rbg2, ren2, rvl2, xtok2, xbeg2, xend2, xval2, _, _, rfl, by rw [if_pos rfl], by omega, c4, hr.tr e7 (by omega) (nI x), ⟨hok.1, hok.2.1, hok.2.2.1, hok.2.2.2.1, hN, hok.2.2.2.2.2.1, fun w hw => (hok.2.2.2.2.2.2 w hw).put e7 ?_⟩⟩
    rw [elo, emo, nI_toInt (by omega), nI_toInt (by omega)]
    omega
/-- a visitor in a text -/
theorem visit_ok {tb xt hp st xs : Nat → Int32} {tr : Nat → Nat → Int32} {sp : Nat → Int32} {day z : Int32} {B : Nat → Nat} {L b e u N : Nat} {rtok rbg ren rvl xtok xbeg xend : Int32} {xval : Int64} (hT : Tape tb xt B L) (hK : TK tb L b e rtok rbg ren rvl xtok xbeg xend xval) (hu : u < 7) (hr : Row xs hp st tr sp (nI N) day z) (hok : OkP hp st tr N day) : ∃ (r : Bool) (b' e' N' : Nat) (rtok' rbg' ren' rvl' xtok' xbeg' xend' : Int32) (xval' : Int64) (tr' : Nat → Nat → Int32) (xs' : Nat → Int32), f3_readVisitor tb (nI L) rtok rbg ren rvl tr (nI N) (nI u) = some (bi r, rtok', rbg', ren', rvl', tr', nI N') ∧ f5_readsVisitor xs xt (nI L) xtok xbeg xend xval (nI u) = some (bi r, xs', xtok', xbeg', xend', xval') ∧ b ≤ b' ∧ (r = true → e ≤ b') ∧ TK tb L b' e' rtok' rbg' ren' rvl' xtok' xbeg' xend' xval' ∧ Row xs' hp st tr' sp (nI N') day z ∧ OkP hp st tr' N' day ∧ N ≤ N' := by
  have hN := hok.2.2.2.2.1
  obtain ⟨h1, h2, h3, h4, h5, h6⟩ := hK.ends
  unfold f3_readVisitor f5_readsVisitor f0_isFull
  rw [hr.2.2.2.2.1, li 8]
  by_cases hf : N = 8
  · subst hf
    rw [if_neg (show ¬ nI 8 < nI 8 by decide), if_neg (show ¬ ((1 : Int32) = 0) by decide), if_pos rfl]
    exact ⟨false, b, e, 8, rtok, rbg, ren, rvl, xtok, xbeg, xend, xval, tr, xs, rfl, rfl, Nat.le_refl b, fun q => absurd q (by decide), hK, hr, hok, Nat.le_refl 8⟩
  have hN8 : N < 8 := by omega
  obtain ⟨tr0, a1, a2, b0, b1, b2, b3, b4, b5, b6⟩ := admit_ok (tr := tr) hN8 (nI u) (nI 0)
  obtain ⟨xs0, c1, c2, c3, d0, d1, d2, d3, d4, d5, d6⟩ := adds_ok hr.2.2.2.2.1 hN8 (nI u)
  have hr0 : Row xs0 hp st tr0 sp (nI (N + 1)) day z := by
    refine new_row (kind := nI u) (from_ := nI 0) hr hN8 c2 c3 a2 (fun t ht => ?_)
    rcases (show t = 0 ∨ t = 1 ∨ t = 2 ∨ t = 3 ∨ t = 4 ∨ t = 5 ∨ t = 6 by omega) with rfl | rfl | rfl | rfl | rfl | rfl | rfl
    · rw [Nat.add_zero, d0, b0]
    · rw [d1, b1]; rfl
    · rw [d2, b2]
    · rw [d3, b3]
    · rw [d4, b4]
    · rw [d5, b5]
    · rw [d6, b6]
  have hok0 : OkP hp st tr0 (N + 1) day := new_ok hok hN8 a2 ⟨by rw [b0]; exact Bt.of (by omega) (by omega) (by omega), by rw [b1]; exact Bt.of (by omega) (by omega) (by omega), by rw [b2]; exact ⟨by decide, by decide⟩, by rw [b3]; exact ⟨by decide, by decide⟩, by rw [b4]; exact ⟨by decide, by decide⟩, by rw [b5]; exact ⟨by decide, by decide⟩, by rw [b6]; exact ⟨by decide, by decide⟩⟩
  obtain ⟨q0, e0, rtok0, rbg0, ren0, rvl0, xtok0, xbeg0, xend0, xval0, k1, k2, k3, k4⟩ := hK.next hT
  rw [if_pos (show nI N < nI 8 from nI_lt hN8 (by decide)), if_pos rfl, show f0_admit tr (nI N) (nI u) (kTF 1) = _ from a1, ob3_so, k1, ob4_so', if_neg (show ¬ nI N = nI 8 from fun q => hf ((nI_eq (by omega) (by decide)).mp q)), c1, ob1_so, k2, ob4_so']
  obtain ⟨r1, q1, e1, rtok1, rbg1, ren1, rvl1, xtok1, xbeg1, xend1, xval1, tr1, xs1, t11, t12, t13, k4, hr1, hok1⟩ := trait_ok (j := 0) (v := N) (n := 999) hT k4 (by decide) (by omega) hr0 hok0
  rw [show l5_readsVisitor_31 1000 xs0 xt (nI L) xtok0 xbeg0 xend0 xval0 (nI N) 0 = _ from t12]
  rw [show f3_readTrait 7 tb (nI L) rtok0 rbg0 ren0 rvl0 tr0 (nI N) 1 = _ from t11, ob6_so]
  by_cases z1 : r1 = true
  case neg =>
    have z1' : r1 = false := by cases r1 with | false => rfl | true => exact absurd rfl z1
    subst z1'
    rw [if_neg (show ¬ false = true by decide), bi_f, if_pos (show (0 : Int32) = 0 from rfl)]
    exact ⟨false, q1, e1, N + 1, rtok1, rbg1, ren1, rvl1, xtok1, xbeg1, xend1, xval1, tr1, xs1, rfl, rfl, by omega, fun q => absurd q (by decide), k4, hr1, hok1, by omega⟩
  subst z1
  rw [if_pos (show true = true from rfl), bi_t, if_neg ne10]
  obtain ⟨r2, q2, e2, rtok2, rbg2, ren2, rvl2, xtok2, xbeg2, xend2, xval2, tr2, xs2, t21, t22, t23, k4, hr2, hok2⟩ := trait_ok (j := 1) (v := N) (n := 998) hT k4 (by decide) (by omega) hr1 hok1
  rw [show l5_readsVisitor_31 999 xs1 xt (nI L) xtok1 xbeg1 xend1 xval1 (nI N) (nI 1) = _ from t22]
  rw [show f3_readTrait 8 tb (nI L) rtok1 rbg1 ren1 rvl1 tr1 (nI N) 2 = _ from t21, ob6_so]
  by_cases z2 : r2 = true
  case neg =>
    have z2' : r2 = false := by cases r2 with | false => rfl | true => exact absurd rfl z2
    subst z2'
    rw [if_neg (show ¬ false = true by decide), bi_f, if_pos (show (0 : Int32) = 0 from rfl)]
    exact ⟨false, q2, e2, N + 1, rtok2, rbg2, ren2, rvl2, xtok2, xbeg2, xend2, xval2, tr2, xs2, rfl, rfl, by omega, fun q => absurd q (by decide), k4, hr2, hok2, by omega⟩
  subst z2
  rw [if_pos (show true = true from rfl), bi_t, if_neg ne10]
  obtain ⟨r3, q3, e3, rtok3, rbg3, ren3, rvl3, xtok3, xbeg3, xend3, xval3, tr3, xs3, t31, t32, t33, k4, hr3, hok3⟩ := trait_ok (j := 2) (v := N) (n := 997) hT k4 (by decide) (by omega) hr2 hok2
  rw [show l5_readsVisitor_31 998 xs2 xt (nI L) xtok2 xbeg2 xend2 xval2 (nI N) (nI 2) = _ from t32]
  rw [show f3_readTrait 9 tb (nI L) rtok2 rbg2 ren2 rvl2 tr2 (nI N) 3 = _ from t31, ob6_so]
  by_cases z3 : r3 = true
  case neg =>
    have z3' : r3 = false := by cases r3 with | false => rfl | true => exact absurd rfl z3
    subst z3'
    rw [if_neg (show ¬ false = true by decide), bi_f, if_pos (show (0 : Int32) = 0 from rfl)]
    exact ⟨false, q3, e3, N + 1, rtok3, rbg3, ren3, rvl3, xtok3, xbeg3, xend3, xval3, tr3, xs3, rfl, rfl, by omega, fun q => absurd q (by decide), k4, hr3, hok3, by omega⟩
  subst z3
  rw [if_pos (show true = true from rfl), bi_t, if_neg ne10]
  obtain ⟨r4, q4, e4, rtok4, rbg4, ren4, rvl4, xtok4, xbeg4, xend4, xval4, tr4, xs4, t41, t42, t43, k4, hr4, hok4⟩ := trait_ok (j := 3) (v := N) (n := 996) hT k4 (by decide) (by omega) hr3 hok3
  rw [show l5_readsVisitor_31 997 xs3 xt (nI L) xtok3 xbeg3 xend3 xval3 (nI N) (nI 3) = _ from t42]
  rw [show f3_readTrait 10 tb (nI L) rtok3 rbg3 ren3 rvl3 tr3 (nI N) 4 = _ from t41, ob6_so]
  by_cases z4 : r4 = true
  case neg =>
    have z4' : r4 = false := by cases r4 with | false => rfl | true => exact absurd rfl z4
    subst z4'
    rw [if_neg (show ¬ false = true by decide), bi_f, if_pos (show (0 : Int32) = 0 from rfl)]
    exact ⟨false, q4, e4, N + 1, rtok4, rbg4, ren4, rvl4, xtok4, xbeg4, xend4, xval4, tr4, xs4, rfl, rfl, by omega, fun q => absurd q (by decide), k4, hr4, hok4, by omega⟩
  subst z4
  rw [if_pos (show true = true from rfl), bi_t, if_neg ne10]
  rw [show l5_readsVisitor_31 996 xs4 xt (nI L) xtok4 xbeg4 xend4 xval4 (nI N) (nI (3 + 1)) = some (1, xs4, xtok4, xbeg4, xend4, xval4) by rw [show (996 : Nat) = 995 + 1 from rfl, l5_readsVisitor_31, if_pos (by decide)]]
  exact ⟨true, q4, e4, N + 1, rtok4, rbg4, ren4, rvl4, xtok4, xbeg4, xend4, xval4, tr4, xs4, rfl, rfl, by omega, fun _ => by omega, k4, hr4, hok4, by omega⟩
