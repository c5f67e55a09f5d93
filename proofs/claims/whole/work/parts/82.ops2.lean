/-! the calls: change, come, go, now, seed, hold, as, count, status, image, undo, tear -/
theorem lm_fin : ∀ t, t < 7 → f5_leastOf (nI t) = kTL t ∧ f5_mostOf (nI t) = kTM t := by decide +kernel
theorem tm_fin : ∀ t, t < 7 → ∃ a b : Nat, kTL t = nI a ∧ kTM t = nI b ∧ a ≤ b ∧ b < 10000 := by
  intro t ht
  rcases (show t = 0 ∨ t = 1 ∨ t = 2 ∨ t = 3 ∨ t = 4 ∨ t = 5 ∨ t = 6 by omega) with rfl | rfl | rfl | rfl | rfl | rfl | rfl
  · exact ⟨0, 6, rfl, rfl, by decide, by decide⟩
  · exact ⟨0, 15, rfl, rfl, by decide, by decide⟩
  · exact ⟨1, 8, rfl, rfl, by decide, by decide⟩
  · exact ⟨0, 20, rfl, rfl, by decide, by decide⟩
  · exact ⟨1, 9, rfl, rfl, by decide, by decide⟩
  · exact ⟨0, 9999, rfl, rfl, by decide, by decide⟩
  · exact ⟨0, 9999, rfl, rfl, by decide, by decide⟩
theorem OkV.put {tr : Nat → Nat → Int32} {v u t x : Nat} (h : OkV tr u) (ht : t < 7) (hx : (kTL t).toInt ≤ x ∧ (x : Int) ≤ (kTM t).toInt) : OkV (upd2 tr t v (nI x)) u := by
  have hlim : ∀ t, t < 7 → (kTM t).toInt ≤ 9999 := by decide +kernel
  have h9 := hlim t ht
  have hb : Bt (nI x) (kTL t).toInt (kTM t).toInt := Bt.of (by omega) hx.1 hx.2
  by_cases e : u = v
  · subst e
    obtain ⟨a0, a1, a2, a3, a4, a5, a6⟩ := h
    have key : ∀ j, j < 7 → Bt (tr j u) (kTL j).toInt (kTM j).toInt → Bt (upd2 tr t u (nI x) j u) (kTL j).toInt (kTM j).toInt := by
      intro j hj hq
      by_cases q : j = t
      · subst q; rw [upd2_s]; exact hb
      · rw [upd2_n (by omega)]; exact hq
    exact ⟨key 0 (by decide) a0, key 1 (by decide) a1, key 2 (by decide) a2, key 3 (by decide) a3, key 4 (by decide) a4, key 5 (by decide) a5, key 6 (by decide) a6⟩
  · unfold OkV
    rw [upd2_n (by omega), upd2_n (by omega), upd2_n (by omega), upd2_n (by omega), upd2_n (by omega), upd2_n (by omega), upd2_n (by omega)]
    exact h
theorem op_change {xs hp st xf fd : Nat → Int32} {tr : Nat → Nat → Int32} {sp : Nat → Int32} {vis day z : Int32} (hP : PitOK xs hp st tr sp vis day z) (hF : RelF fd xf) (v1 v2 v3 : Int32) : ∃ r tr' fd' xs' xf', f4_change tr vis fd v1 v2 v3 = some (r, tr', fd') ∧ f5_change xs xf v1 v2 v3 = some (r, xs', xf') ∧ PitOK xs' hp st tr' sp vis day z ∧ RelF fd' xf' := by
  obtain ⟨r, fd', xf', n1, n2, n3⟩ := no_ok hF (k := 0) (by decide)
  have bad : ∃ r tr' fd' xs' xf', j4_change_26 tr vis fd = some (r, tr', fd') ∧ j5_change_33 xs xf = some (r, xs', xf') ∧ PitOK xs' hp st tr' sp vis day z ∧ RelF fd' xf' := by
    refine ⟨r, tr, fd', xs, xf', ?_, ?_, hP, n3⟩
    · unfold j4_change_26; rw [li 0, n1]; rfl
    · unfold j5_change_33; rw [li 0, n2]; rfl
  obtain ⟨N, rfl, h2, h3, h4⟩ := hP
  have hN := h3.2.2.2.2.1
  unfold f4_change f5_change
  rcases visC h2.2.2.2.2.1 hN v1 with ⟨q1, q2⟩ | ⟨v, rfl, hv, q1, q2⟩
  · simp only [q1, q2, i0, reduceIte]; exact bad
  simp only [q1, q2, i1, reduceIte, in54]
  rcases inC v2 (a := 0) (b := 6) (by decide) (by decide) with h | ⟨t, rfl, -, ht, h⟩
  · simp only [show f4_within v2 0 6 = 0 from h, i0, reduceIte]; exact bad
  simp only [show f4_within (nI t) 0 6 = 1 from h, i1, reduceIte]
  have ht7 : t < 7 := by omega
  obtain ⟨a, b, ea, eb, hab, hb⟩ := tm_fin t ht7
  have e4 : f4_isTrait (nI t) v3 = some (f4_within v3 (kTL t) (kTM t)) := by
    unfold f4_isTrait
    rw [inb_y (show 7 < 2 ^ 31 by decide) ht7, gd_t, gd_t, nI_clamp (by omega)]
  rw [e4, (lm_fin t ht7).1, (lm_fin t ht7).2, ea, eb]
  simp only [ob1_so]
  rcases inC v3 (a := a) (b := b) (by omega) (by omega) with h | ⟨x, rfl, hx1, hx2, h⟩
  · simp only [h, i0, reduceIte]; exact bad
  simp only [h, i1, reduceIte]
  rw [inb_y (show 7 < 2 ^ 31 by decide) ht7, gd_t, inb_y (show 8 < 2 ^ 31 by decide) (show v < 8 by omega), gd_t, gd_t, gd_t, nI_clamp (by omega), nI_clamp (by omega), g5 xs (show v < 8 by omega) ht7]
  simp only [ob1_so]
  rw [p5 xs (nI x) (show v < 8 by omega) ht7]
  simp only [ob1_so]
  refine ⟨tr t v, upd2 tr t v (nI x), fd, _, xf, rfl, by rw [h2.2.2.1 t v ht7 (by omega)], ⟨N, rfl, h2.tr ht7 (by omega) _, ⟨h3.1, h3.2.1, h3.2.2.1, h3.2.2.2.1, hN, h3.2.2.2.2.2.1, fun u hu => ?_⟩, h4⟩, hF⟩
  exact (h3.2.2.2.2.2.2 u hu).put ht7 (by rw [ea, eb, nI_toInt (by omega), nI_toInt (by omega)]; omega)
theorem op_come {xs hp st xf fd : Nat → Int32} {tr : Nat → Nat → Int32} {sp : Nat → Int32} {vis day z : Int32} (hP : PitOK xs hp st tr sp vis day z) (hF : RelF fd xf) (v1 : Int32) : ∃ r hp' st' tr' fd' xs' xf', f4_come hp st tr vis fd v1 = some (r, hp', st', tr', fd') ∧ f5_come xs xf v1 = some (r, xs', xf') ∧ PitOK xs' hp' st' tr' sp vis day z ∧ RelF fd' xf' := by
  obtain ⟨r, fd', xf', n1, n2, n3⟩ := no_ok hF (k := 0) (by decide)
  obtain ⟨N, rfl, h2, h3, h4⟩ := hP
  have hN := h3.2.2.2.2.1
  unfold f4_come f5_come
  rcases visC h2.2.2.2.2.1 hN v1 with ⟨q1, q2⟩ | ⟨v, rfl, hv, q1, q2⟩
  · simp only [q1, q2, i0, reduceIte]
    rw [li 0, n1, n2]
    exact ⟨r, hp, st, tr, fd', xs, xf', rfl, rfl, ⟨N, rfl, h2, h3, h4⟩, n3⟩
  simp only [q1, q2, i1, reduceIte]
  obtain ⟨mm, xs1, hp1, st1, tr1, c0, c5, hr1, hok1, -, -⟩ := come_ok h2 h3 hv
  rw [c0, c5]
  exact ⟨mm, hp1, st1, tr1, fd, xs1, xf, rfl, rfl, ⟨N, rfl, hr1, hok1, h4⟩, hF⟩
theorem op_go {xs hp st xf fd ov : Nat → Int32} {tr : Nat → Nat → Int32} {sp : Nat → Int32} {vis day z : Int32} (hP : PitOK xs hp st tr sp vis day z) (hF : RelF fd xf) (v1 : Int32) : ∃ r hp' st' tr' day' fd' xs' xf' ov', f4_go hp st tr vis day fd v1 = some (r, hp', st', tr', day', fd') ∧ f5_go xs xf 0 ov v1 = some (r, xs', xf', ov') ∧ PitOK xs' hp' st' tr' sp vis day' z ∧ RelF fd' xf' := by
  obtain ⟨r, fd', xf', n1, n2, n3⟩ := no_ok hF (k := 0) (by decide)
  obtain ⟨r4, fd4, xf4, m1, m2, m3⟩ := no_ok hF (k := 4) (by decide)
  unfold f4_go f5_go
  rw [in54]
  rcases inC v1 (a := 1) (b := 60) (by decide) (by decide) with h | ⟨d, rfl, hd1, hd, h⟩
  · simp only [show f4_within v1 1 60 = 0 from h, i0, reduceIte]
    rw [li 0, n1, n2]
    exact ⟨r, hp, st, tr, day, fd', xs, xf', ov, rfl, rfl, hP, n3⟩
  simp only [show f4_within (nI d) 1 60 = 1 from h, i1, reduceIte]
  obtain ⟨N, rfl, h2, h3, h4⟩ := hP
  rw [h2.2.2.2.2.2.1]
  by_cases hq : day + nI d ≤ 99999
  · simp only [if_pos hq]
    obtain ⟨hp', st', tr', day', xs', ov', a1, a2, a3, a4⟩ := days_ok (g := 0) (ov := ov) (show d < 1000 by omega) h2 h3
    obtain ⟨rr, b1, b2⟩ := road_ok a3.1
    rw [a1, a2]
    simp only [ob4_so, ob2_so]
    rw [b1, b2]
    exact ⟨rr, hp', st', tr', day', fd, xs', xf, ov', rfl, rfl, ⟨N, rfl, a3, a4, h4⟩, hF⟩
  · simp only [if_neg hq]
    rw [li 4, m1, m2]
    exact ⟨r4, hp, st, tr, day, fd4, xs, xf4, ov, rfl, rfl, ⟨N, rfl, h2, h3, h4⟩, m3⟩
theorem op_now {xs hp st xf fd : Nat → Int32} {tr : Nat → Nat → Int32} {sp : Nat → Int32} {vis day z : Int32} (hP : PitOK xs hp st tr sp vis day z) (hF : RelF fd xf) (v1 : Int32) : ∃ r fd' xf', f4_now hp st tr vis day fd v1 = some (r, fd') ∧ f5_now xs xf v1 = some (r, xf') ∧ RelF fd' xf' := by
  obtain ⟨r, fd', xf', n1, n2, n3⟩ := no_ok hF (k := 0) (by decide)
  obtain ⟨N, rfl, h2, h3, h4⟩ := hP
  have hN := h3.2.2.2.2.1
  unfold f4_now f5_now
  by_cases e0 : v1 = 0
  · simp only [if_pos e0]; exact ⟨day, fd, xf, rfl, by rw [h2.2.2.2.2.2.1], hF⟩
  simp only [if_neg e0]
  by_cases e1 : v1 = 1
  · simp only [if_pos e1]; obtain ⟨rr, b1, b2⟩ := road_ok h2.1; rw [b1, b2]; exact ⟨rr, fd, xf, rfl, rfl, hF⟩
  simp only [if_neg e1]
  by_cases e2 : v1 = 2
  · simp only [if_pos e2]; obtain ⟨rr, b1, b2⟩ := sands_loop h2.1 16 1000 0 0 (by omega) (by omega); rw [show f0_sandInAll hp = some rr from b1, show f5_sands xs = some rr from b2]; exact ⟨rr, fd, xf, rfl, rfl, hF⟩
  simp only [if_neg e2]
  by_cases e3 : v1 = 3
  · simp only [if_pos e3]; exact ⟨st 0, fd, xf, rfl, by rw [show xs 3 = st 0 from h2.2.1 0 (by decide)], hF⟩
  simp only [if_neg e3]
  by_cases e4 : v1 = 4
  · simp only [if_pos e4]; obtain ⟨rr, b1, b2⟩ := stand_loop h2 h3 N 1000 0 0 (by omega) (by omega); rw [show f0_standing hp st tr (nI N) = some rr from b1, show f5_setOf xs 1 = some rr from b2]; exact ⟨rr, fd, xf, rfl, rfl, hF⟩
  simp only [if_neg e4]
  by_cases e5 : v1 = 5
  · simp only [if_pos e5]; obtain ⟨rr, b1, b2⟩ := highest_loop h2.1 15 1000 1 0 (by omega) (by omega) (by omega); rw [show f0_highestCell hp = some rr from b1, show f5_highest xs = some rr from b2]; exact ⟨rr, fd, xf, rfl, rfl, hF⟩
  simp only [if_neg e5]
  by_cases e6 : v1 = 6
  · simp only [if_pos e6]; obtain ⟨rr, b1, b2⟩ := builds_loop h2 hN N 1000 0 0 (by omega) (by omega); rw [show f0_builtInAll tr (nI N) = some rr from b1, show f5_builds xs = some rr from b2]; exact ⟨rr, fd, xf, rfl, rfl, hF⟩
  simp only [if_neg e6]
  by_cases e7 : v1 = 7
  · simp only [if_pos e7]; obtain ⟨rr, b1, b2⟩ := coming_loop h2 h3 N 1000 0 0 (by omega) (by omega); rw [show f0_comingToday tr (nI N) day = some rr from b1, show f5_setOf xs 0 = some rr from b2]; exact ⟨rr, fd, xf, rfl, rfl, hF⟩
  simp only [if_neg e7]
  rw [li 0, n1, n2]
  exact ⟨r, fd', xf', rfl, rfl, n3⟩
theorem op_seed {xs hp st : Nat → Int32} {tr : Nat → Nat → Int32} {sp : Nat → Int32} {vis day z : Int32} (hP : PitOK xs hp st tr sp vis day z) (v1 : Int32) : ∃ r z' xs', f4_seed z v1 = some (r, z') ∧ f5_seed xs v1 = some (r, xs') ∧ PitOK xs' hp st tr sp vis day z' := by
  obtain ⟨N, e, h2, h3, h4⟩ := hP
  exact ⟨z, v1, upd xs 2 v1, rfl, by unfold f5_seed; rw [h2.2.2.2.2.2.2], N, e, h2.z v1, h3, h4⟩
theorem op_hold {xs hp st xf fd : Nat → Int32} {tr : Nat → Nat → Int32} {sp : Nat → Int32} {vis day z : Int32} (hP : PitOK xs hp st tr sp vis day z) (hF : RelF fd xf) (v1 v2 : Int32) : ∃ r sp' fd' xs' xf', f4_hold sp vis fd v1 v2 = some (r, sp', fd') ∧ f5_hold xs xf v1 v2 = some (r, xs', xf') ∧ PitOK xs' hp st tr sp' vis day z ∧ RelF fd' xf' := by
  obtain ⟨r, fd', xf', n1, n2, n3⟩ := no_ok hF (k := 0) (by decide)
  have bad : ∃ r sp' fd' xs' xf', j4_hold_23 sp vis fd = some (r, sp', fd') ∧ j5_hold_20 xs xf = some (r, xs', xf') ∧ PitOK xs' hp st tr sp' vis day z ∧ RelF fd' xf' := by
    refine ⟨r, sp, fd', xs, xf', ?_, ?_, hP, n3⟩
    · unfold j4_hold_23; rw [li 0, n1]; rfl
    · unfold j5_hold_20; rw [li 0, n2]; rfl
  unfold f4_hold f5_hold f5_isSpot
  rw [in54]
  rcases inC v1 (a := 0) (b := 9) (by decide) (by decide) with h | ⟨k, rfl, -, hk, h⟩
  · simp only [show f4_within v1 0 9 = 0 from h, i0, reduceIte]; exact bad
  simp only [show f4_within (nI k) 0 9 = 1 from h, i1, reduceIte]
  obtain ⟨N, rfl, h2, h3, h4⟩ := hP
  have good : (v2 = -1 ∨ ∃ v, v < N ∧ v2 = nI v) → ∃ r sp' fd' xs' xf', j4_hold_29 sp (nI N) fd (nI k) v2 = some (r, sp', fd') ∧ j5_hold_26 xs xf (nI k) v2 = some (r, xs', xf') ∧ PitOK xs' hp st tr sp' (nI N) day z ∧ RelF fd' xf' := by
    intro hv
    unfold j4_hold_29 j5_hold_26
    rw [li 78, nI_add, inb_y (show 10 < 2 ^ 31 by decide) (show k < 10 by omega), gd_t, inb_y (show 88 < 2 ^ 31 by decide) (show 78 + k < 88 by omega), gd_t, nI_clamp (by omega), nI_clamp (by omega)]
    refine ⟨1, _, fd, _, xf, rfl, rfl, ⟨N, rfl, h2.sp (show k < 10 by omega) v2, h3, fun j hj => ?_⟩, hF⟩
    by_cases e : j = k
    · subst e; rw [upd_s]; exact hv
    · rw [upd_n e]; exact h4 j hj
  by_cases e : v2 = -1
  · simp only [if_pos e]; exact good (Or.inl e)
  simp only [if_neg e]
  rcases visC h2.2.2.2.2.1 h3.2.2.2.2.1 v2 with ⟨q1, q2⟩ | ⟨v, e2, hv, q1, q2⟩
  · simp only [q1, q2, i0, reduceIte]; exact bad
  · simp only [q1, q2, i1, reduceIte]; exact good (Or.inr ⟨v, hv, e2⟩)
/-- the chain of kinds above a kind -/
def endK : Nat → Int32 → Int32 → Option Int32
  | 0, _, _ => none
  | n + 1, v2, v4 => if v4 = v2 then some v4 else (if v4 = 0 then some v4 else endK n v2 (f5_above v4))
theorem endK_as (xs xf : Nat → Int32) (v2 v3 : Int32) : ∀ (n : Nat) (v4 : Int32), l5_as_51 n xs xf v2 v3 v4 = ob1 (endK n v2 v4) (fun v4 => j5_as_72 xs xf v2 v3 v4) := by
  intro n
  induction n with
  | zero => intro v4; rfl
  | succ n ih =>
    intro v4
    rw [l5_as_51, endK, ih]
    by_cases e : v4 = v2
    · simp only [if_pos e, ob1_so]
    · simp only [if_neg e]
      by_cases e2 : v4 = 0
      · simp only [if_pos e2, ob1_so]
      · simp only [if_neg e2]
theorem kind_fin : ∀ k, k < 7 → ∀ w, w < 7 → ((f4_isOfKind (nI k) (nI w) = some 1 ∧ endK 1000 (nI w) (nI k) = some (nI w)) ∨ (f4_isOfKind (nI k) (nI w) = some 0 ∧ endK 1000 (nI w) (nI k) = some 0 ∧ ¬ (0 : Int32) = nI w)) := by decide +kernel
theorem op_as {xs hp st xf fd : Nat → Int32} {tr : Nat → Nat → Int32} {sp : Nat → Int32} {vis day z : Int32} (hP : PitOK xs hp st tr sp vis day z) (hF : RelF fd xf) (v1 v2 : Int32) : ∃ r fd' xf', f4_as tr sp vis fd v1 v2 = some (r, fd') ∧ f5_as xs xf v1 v2 = some (r, xf') ∧ RelF fd' xf' := by
  obtain ⟨r, fd', xf', n1, n2, n3⟩ := no_ok hF (k := 0) (by decide)
  have bad : ∃ r fd' xf', j4_as_20 tr sp vis fd = some (r, fd') ∧ j5_as_17 xs xf = some (r, xf') ∧ RelF fd' xf' := by
    refine ⟨r, fd', xf', ?_, ?_, n3⟩
    · unfold j4_as_20; rw [li 0, n1]; rfl
    · unfold j5_as_17; rw [li 0, n2]; rfl
  unfold f4_as f5_as f5_isSpot
  rw [in54, in54]
  rcases inC v1 (a := 0) (b := 9) (by decide) (by decide) with h | ⟨k, rfl, -, hk, h⟩
  · simp only [show f4_within v1 0 9 = 0 from h, i0, reduceIte]; exact bad
  simp only [show f4_within (nI k) 0 9 = 1 from h, i1, reduceIte]
  rcases inC v2 (a := 0) (b := 6) (by decide) (by decide) with h | ⟨w, rfl, -, hw, h⟩
  · simp only [show f4_within v2 0 6 = 0 from h, i0, reduceIte]; exact bad
  simp only [show f4_within (nI w) 0 6 = 1 from h, i1, reduceIte]
  obtain ⟨N, rfl, h2, h3, h4⟩ := hP
  have hN := h3.2.2.2.2.1
  rw [li 78, nI_add, inb_y (show 10 < 2 ^ 31 by decide) (show k < 10 by omega), gd_t, inb_y (show 88 < 2 ^ 31 by decide) (show 78 + k < 88 by omega), gd_t, nI_clamp (by omega), nI_clamp (by omega), h2.2.2.2.1 k (by omega)]
  rcases h4 k (by omega) with e | ⟨v, hv, e⟩
  · rw [e]
    obtain ⟨r, fd', xf', n1, n2, n3⟩ := no_ok hF (k := 5) (by decide)
    rcases visC h2.2.2.2.2.1 hN (-1) with ⟨q1, q2⟩ | ⟨v, e2, hv, q1, q2⟩
    · rw [q1, if_pos rfl, if_neg (show ¬ ((0 : Int32) ≤ -1) by decide), li 5, n1, n2]
      exact ⟨r, fd', xf', rfl, rfl, n3⟩
    · exfalso
      have : (nI v).toInt = v := nI_toInt (by omega)
      rw [← e2] at this
      have h1 : (-1 : Int32).toInt = -1 := by decide
      omega
  · rw [e]
    rcases visC h2.2.2.2.2.1 hN (nI v) with ⟨q1, q2⟩ | ⟨u, e2, hu, q1, q2⟩
    · exfalso
      unfold f4_isVisitor at q1
      rw [nsub1 (by omega), in4, if_pos ⟨nI_pos' (by omega), nI_le (by omega) (by omega)⟩] at q1
      exact absurd q1 (by decide)
    · obtain ⟨kk, ek, hkk⟩ := Bt.nat (b := 6) (h3.2.2.2.2.2.2 v hv).1
      rw [q1, if_neg (by decide), if_pos (nI_pos' (by omega)), inb_y (show 8 < 2 ^ 31 by decide) (show v < 8 by omega), gd_t, nI_clamp (by omega), li 0, g5 xs (show v < 8 by omega) (by decide), h2.2.2.1 0 v (by decide) (by omega), ek]
      simp only [ob1_so]
      rw [endK_as]
      rcases kind_fin kk (by omega) w (by omega) with ⟨f1, f2⟩ | ⟨f1, f2, f3⟩
      · rw [f1, f2]
        simp only [ob1_so]
        unfold j5_as_72
        rw [if_pos rfl, if_neg (show ¬ ((1 : Int32) = nI 0) by decide)]
        exact ⟨nI v, fd, xf, rfl, rfl, hF⟩
      · obtain ⟨r, fd', xf', n1, n2, n3⟩ := no_ok hF (k := 2) (by decide)
        rw [f1, f2]
        simp only [ob1_so]
        unfold j5_as_72
        rw [if_neg f3, if_pos (show ((0 : Int32) = nI 0) from rfl), li 2, n1, n2]
        exact ⟨r, fd', xf', rfl, rfl, n3⟩
