/-! the texts, last: the call -/
theorem rt3 {tb : Nat → Int32} {L b e : Nat} {rtok rbg ren rvl xtok xbeg xend : Int32} {xval : Int64} (hK : TK tb L b e rtok rbg ren rvl xtok xbeg xend xval) : (rtok = 0 ↔ xtok = 0) ∧ (rtok = 3 ↔ xtok = 3) ∧ (rtok = 3 → b < e) := by
  obtain ⟨h1, h2, h3, h4, h5, h6, h⟩ := hK
  rcases h with ⟨rfl, rfl, hb, -⟩ | ⟨rfl, hb, x, hx, rfl, rfl, rfl⟩ | ⟨rfl, hb, rfl, rfl⟩ | ⟨rfl, rfl, hb⟩ | ⟨rfl, rfl, hb⟩ | ⟨rfl, rfl⟩
  · exact ⟨by decide, by decide, fun _ => hb⟩
  · exact ⟨by decide, by decide, fun _ => hb⟩
  · exact ⟨by decide, by decide, fun _ => hb⟩
  · exact ⟨by decide, by decide, fun _ => hb⟩
  · exact ⟨by decide, by decide, fun _ => hb⟩
  · exact ⟨by decide, by decide, fun q => absurd q (by decide)⟩
theorem text_loop {tb xt xa : Nat → Int32} {sp : Nat → Int32} {day z : Int32} {B : Nat → Nat} {L : Nat} (hT : Tape tb xt B L) : ∀ (m n v b e N : Nat) (rtok rbg ren rvl xtok xbeg xend : Int32) (xval : Int64) (xs hp st : Nat → Int32) (tr : Nat → Nat → Int32), v + m = 70 → m < n → 1 ≤ v → 2 * (v - 1) ≤ b → TK tb L b e rtok rbg ren rvl xtok xbeg xend xval → Row xs hp st tr sp (nI N) day z → OkP hp st tr N day → ∃ (c b' N' : Nat) (rtok' ren' rvl' xtok' xend' : Int32) (xval' : Int64) (hp' st' : Nat → Int32) (tr' : Nat → Nat → Int32) (xs' : Nat → Int32), b' ≤ L ∧ N ≤ N' ∧ Row xs' hp' st' tr' sp (nI N') day z ∧ OkP hp' st' tr' N' day ∧ (((l3_readText_11 n tb (nI L) rtok rbg ren rvl hp st tr (nI N) (nI v) = some (-1 - nI b', rtok', nI b', ren', rvl', hp', st', tr', nI N') ∧ ob6 (f5_readsItem xs xt (nI L) xtok xbeg xend xval) (fun r xs_9 xtok_10 xbeg_10 xend_10 xval_10 => l5_text_20 n xs_9 xa xt (nI L) xtok_10 xbeg_10 xend_10 xval_10 (nI v) r) = ob1 (f5_laysBack xs' xa) (fun xs_32 => some (-1 - nI b', xs_32, xa, 0, xtok', nI b', xend', xval')))) ∨ (c < 100 ∧ l3_readText_11 n tb (nI L) rtok rbg ren rvl hp st tr (nI N) (nI v) = some (nI c, rtok', nI b', ren', rvl', hp', st', tr', nI N') ∧ ob6 (f5_readsItem xs xt (nI L) xtok xbeg xend xval) (fun r xs_9 xtok_10 xbeg_10 xend_10 xval_10 => l5_text_20 n xs_9 xa xt (nI L) xtok_10 xbeg_10 xend_10 xval_10 (nI v) r) = some (nI c, xs', xa, 0, xtok', nI b', xend', xval'))) := by
  have hL := hT.1
  intro m
  induction m with
  | zero =>
    intro n v b e N rtok rbg ren rvl xtok xbeg xend xval xs hp st tr hv hn h1 hb hK hr hok
    have := hK.ends
    omega
  | succ m ih =>
    intro n v b e N rtok rbg ren rvl xtok xbeg xend xval xs hp st tr hv hn h1 hb hK hr hok
    obtain ⟨n, rfl⟩ : ∃ q, n = q + 1 := ⟨n - 1, by omega⟩
    have hke := hK.ends
    obtain ⟨r, b1, e1, N1, rtok1, rbg1, ren1, rvl1, xtok1, xbeg1, xend1, xval1, hp1, st1, tr1, xs1, a1, a2, a3, a4, a5, a6, a7, a8⟩ := item_ok hT hK hr hok
    obtain ⟨k1, k2, k3, k4, k5, k6⟩ := a5.ends
    obtain ⟨t0, t3, tb3⟩ := rt3 a5
    have hlt : ¬ nI 120 < nI v := Int32.not_lt.mpr (nI_le (by omega) (by omega))
    rw [l3_readText_11, li 120, if_neg hlt, a1, a2, ob6_so]
    simp only [ob9]
    rw [l5_text_20]
    cases r with
    | false =>
      rw [bi_f, if_pos rfl, if_pos rfl, j5_text_47, if_pos rfl, j5_text_62, j5_text_63, if_pos rfl, k1, k2]
      exact ⟨0, b1, N1, rtok1, ren1, rvl1, xtok1, xend1, xval1, hp1, st1, tr1, xs1, by omega, a8, a6, a7, Or.inl ⟨rfl, rfl⟩⟩
    | true =>
      have hb1 := a4 rfl
      rw [bi_t, if_neg ne10, if_neg ne10]
      by_cases q0 : rtok1 = 0
      · have x0 := t0.mp q0
        rw [if_pos q0, if_neg (show ¬ xtok1 = 3 by rw [x0]; decide), j5_text_47, if_neg ne10, if_pos x0, j5_text_63, if_neg ne10, k1, k2]
        exact ⟨v, b1, N1, rtok1, ren1, rvl1, xtok1, xend1, xval1, hp1, st1, tr1, xs1, by omega, a8, a6, a7, Or.inr ⟨by omega, rfl, rfl⟩⟩
      · have x0 : ¬ xtok1 = 0 := fun p => q0 (t0.mpr p)
        rw [if_neg q0]
        by_cases q3 : rtok1 = 3
        · have x3 := t3.mp q3
          have hbe := tb3 q3
          obtain ⟨b2, e2, rtok2, rbg2, ren2, rvl2, xtok2, xbeg2, xend2, xval2, c1, c2, c3, c4⟩ := a5.next hT
          rw [if_pos q3, if_pos x3, c1, ob4_so', c2, ob4_so', nI_1]
          obtain ⟨c, b', N', rtok', ren', rvl', xtok', xend', xval', hp', st', tr', xs', g1, g2, g3, g4, g5⟩ := ih n (v + 1) b2 e2 N1 rtok2 rbg2 ren2 rvl2 xtok2 xbeg2 xend2 xval2 xs1 hp1 st1 tr1 (by omega) (by omega) (by omega) (by omega) c4 a6 a7
          exact ⟨c, b', N', rtok', ren', rvl', xtok', xend', xval', hp', st', tr', xs', g1, by omega, g3, g4, g5⟩
        · have x3 : ¬ xtok1 = 3 := fun p => q3 (t3.mpr p)
          rw [if_neg q3, if_neg x3, j5_text_47, if_neg ne10, if_neg x0, j5_text_62, j5_text_63, if_pos rfl, k1, k2]
          exact ⟨0, b1, N1, rtok1, ren1, rvl1, xtok1, xend1, xval1, hp1, st1, tr1, xs1, by omega, a8, a6, a7, Or.inl ⟨rfl, rfl⟩⟩
theorem ob7_so {α β γ δ ε ζ η ρ : Type} {a : α} {b : β} {c : γ} {d : δ} {e : ε} {f : ζ} {g : η} {k : α → β → γ → δ → ε → ζ → η → Option ρ} : ob7 (some (a, b, c, d, e, f, g)) k = k a b c d e f g := rfl
theorem ob9_so {α β γ δ ε ζ η θ ι ρ : Type} {a : α} {b : β} {c : γ} {d : δ} {e : ε} {f : ζ} {g : η} {h : θ} {i : ι} {k : α → β → γ → δ → ε → ζ → η → θ → ι → Option ρ} : ob9 (some (a, b, c, d, e, f, g, h, i)) k = k a b c d e f g h i := rfl
theorem op_text {xs xa tb xt : Nat → Int32} {hp1 st1 : Nat → Int32} {tr1 : Nat → Nat → Int32} {sp1 : Nat → Int32} {vis1 day1 z1 : Int32} {hp3 st3 : Nat → Int32} {tr3 : Nat → Nat → Int32} {sp3 : Nat → Int32} {vis3 day3 z3 : Int32} {tl xtd rtok rbg ren rvl xtok xbeg xend : Int32} {xval : Int64} (hP : PitOK xs hp1 st1 tr1 sp1 vis1 day1 z1) (hT : RelT tb tl xt xtd) : ∃ (r : Int32) (hp1' st1' : Nat → Int32) (tr1' : Nat → Nat → Int32) (sp1' : Nat → Int32) (vis1' day1' z1' : Int32) (hp3' st3' : Nat → Int32) (tr3' : Nat → Nat → Int32) (sp3' : Nat → Int32) (vis3' day3' z3' : Int32) (rtok' rbg' ren' rvl' xtok' xbeg' xend' : Int32) (xval' : Int64) (xs' xa' : Nat → Int32), f4_text hp1 st1 tr1 sp1 vis1 day1 z1 hp3 st3 tr3 sp3 vis3 day3 z3 tb tl rtok rbg ren rvl = some (r, hp1', st1', tr1', sp1', vis1', day1', z1', hp3', st3', tr3', sp3', vis3', day3', z3', 0, rtok', rbg', ren', rvl') ∧ f5_text xs xa xt xtd xtok xbeg xend xval = some (r, xs', xa', 0, xtok', xbeg', xend', xval') ∧ PitOK xs' hp1' st1' tr1' sp1' vis1' day1' z1' ∧ RelT tb 0 xt 0 := by
  have hT0 : RelT tb 0 xt 0 := ⟨0, by omega, rfl, rfl, fun k hk => by omega⟩
  obtain ⟨L, hL, rfl, rfl, hb⟩ := hT
  obtain ⟨B, hB⟩ := Tape.of hL hb
  obtain ⟨tr', xa', q1, q2, q3, q4⟩ := trial hP hp3 st3 tr3 sp3 vis3 day3 z3 xa
  obtain ⟨N, rfl, h2, h3, h4⟩ := q3
  obtain ⟨b0, e0, rtok0, rbg0, ren0, rvl0, xtok0, xbeg0, xend0, xval0, k1, k2, k3, k4⟩ := next_ok hB (Nat.zero_le L) rtok rbg rvl xtok xbeg xval
  obtain ⟨c, b', N', rtok', ren', rvl', xtok', xend', xval', hp', st', tr'', xs', g1, g2, g3, g4, g5⟩ := text_loop (xa := xa') hB 69 1000 1 b0 e0 N rtok0 rbg0 ren0 rvl0 xtok0 xbeg0 xend0 xval0 xs hp1 st1 tr' (by omega) (by omega) (by omega) (by omega) k4 h2 h3
  have z1' : nI 1 = (1 : Int32) := rfl
  have z0' : nI 0 = (0 : Int32) := rfl
  rw [z1'] at g5
  rw [z0'] at k1 k2
  have ec : ∀ R, l3_readText_11 1000 tb (nI L) rtok0 rbg0 ren0 rvl0 hp1 st1 tr' (nI N) 1 = some R → f3_readText tb (nI L) rtok rbg ren rvl hp1 st1 tr' (nI N) = some R := by
    intro R h
    unfold f3_readText
    rw [k1, ob4_so', h]
  have em : f5_text xs xa xt (nI L) xtok xbeg xend xval = ob6 (f5_readsItem xs xt (nI L) xtok0 xbeg0 xend0 xval0) (fun r xs_9 xtok_10 xbeg_10 xend_10 xval_10 => l5_text_20 1000 xs_9 xa' xt (nI L) xtok_10 xbeg_10 xend_10 xval_10 1 r) := by
    unfold f5_text
    rw [q2, ob1_so, k2, ob4_so']
  rcases g5 with ⟨g5, g6⟩ | ⟨g0, g5, g6⟩
  · obtain ⟨ys, y1, y2⟩ := q4 xs'
    have hneg : (-1 : Int32) - nI b' < 0 := by
      rw [Int32.lt_iff_toInt_lt, Int32.toInt_sub, nI_toInt (by omega), show (-1 : Int32).toInt = -1 by decide, show (0 : Int32).toInt = 0 by decide, Int.bmod_eq_of_le (by omega) (by omega)]
      omega
    have hc : f4_text hp1 st1 tr1 sp1 (nI N) day1 z1 hp3 st3 tr3 sp3 vis3 day3 z3 tb (nI L) rtok rbg ren rvl = some (-1 - nI b', hp1, st1, tr1, sp1, nI N, day1, z1, hp', st', tr'', sp1, nI N', day1, z1, 0, rtok', nI b', ren', rvl') := by
      unfold f4_text
      rw [q1, ob7_so, ec _ g5, ob9_so, if_pos hneg]
    have hm : f5_text xs xa xt (nI L) xtok xbeg xend xval = some (-1 - nI b', ys, xa', 0, xtok', nI b', xend', xval') := by
      rw [em, g6, y1, ob1_so]
    exact ⟨_, _, _, _, _, _, _, _, _, _, _, _, _, _, _, _, _, _, _, _, _, _, _, _, _, hc, hm, y2, hT0⟩
  · obtain ⟨trn, n1, n2⟩ := become_ok hp1 st1 tr1 sp1 (nI N) day1 z1 hp' st' tr'' sp1 (nI N') day1 z1
    have hc : f4_text hp1 st1 tr1 sp1 (nI N) day1 z1 hp3 st3 tr3 sp3 vis3 day3 z3 tb (nI L) rtok rbg ren rvl = some (nI c, hp', st', trn, sp1, nI N', day1, z1, hp', st', tr'', sp1, nI N', day1, z1, 0, rtok', nI b', ren', rvl') := by
      unfold f4_text
      rw [q1, ob7_so, ec _ g5, ob9_so, if_neg (nI_pos (by omega)), n1, ob7_so]
    have hm : f5_text xs xa xt (nI L) xtok xbeg xend xval = some (nI c, xs', xa', 0, xtok', nI b', xend', xval') := by
      rw [em, g6]
    exact ⟨_, _, _, _, _, _, _, _, _, _, _, _, _, _, _, _, _, _, _, _, _, _, _, _, _, hc, hm, PitOK.trc ⟨N', rfl, g3, g4, h4.mono g2⟩ n2, hT0⟩
