/-! the calls, fourth group: count, status, image, undo, tear -/
theorem spots_loop {xs sp xf : Nat → Int32} {xt : Int32} (hx : ∀ k, k < 10 → xs (78 + k) = sp k) {N : Nat} (hN : N ≤ 8) (hs : SpOk sp N) : ∀ (m n k : Nat) (a : Int32), k + m = 10 → m < n → ∃ r, l0_spotsHolding_4 n sp a (nI k) = some r ∧ l5_count_93 n xs xf xt a (nI k) = some (r, xf) := by
  intro m
  induction m with
  | zero =>
    intro n k a hk hn
    obtain ⟨n, rfl⟩ : ∃ q, n = q + 1 := ⟨n - 1, by omega⟩
    exact ⟨a, by rw [l0_spotsHolding_4, li 10, if_pos (nI_le (by omega) (by omega))], by rw [l5_count_93, li 10, if_pos (nI_le (by omega) (by omega))]⟩
  | succ m ih =>
    intro n k a hk hn
    obtain ⟨n, rfl⟩ : ∃ q, n = q + 1 := ⟨n - 1, by omega⟩
    have h16 : ¬ (nI 10 ≤ nI k) := fun q => by have := (nI_leI (by omega) (by omega)).mp q; omega
    rw [l0_spotsHolding_4, l5_count_93, li 10, if_neg h16, if_neg h16, li 78, nI_add, inb_y (show 10 < 2 ^ 31 by decide) (show k < 10 by omega), gd_t, inb_y (show 88 < 2 ^ 31 by decide) (show 78 + k < 88 by omega), gd_t, nI_clamp (by omega), nI_clamp (by omega), hx k (by omega)]
    rcases hs k (by omega) with e | ⟨v, hv, e⟩
    · rw [e, if_pos rfl, if_pos (by decide)]
      simp only [j0_spotsHolding_23, j5_count_117, nI_1, Int32.add_zero]
      exact ih n (k + 1) _ (by omega) (by omega)
    · have hm : ¬ nI v = -1 := fun e => by
        have h := congrArg Int32.toInt e
        rw [nI_toInt (by omega)] at h
        have : (-1 : Int32).toInt = -1 := by decide
        omega
      rw [e, if_neg hm, if_neg (nI_pos (by omega))]
      simp only [j0_spotsHolding_23, j5_count_117, nI_1]
      exact ih n (k + 1) _ (by omega) (by omega)
theorem op_count {xs hp st xf fd : Nat → Int32} {tr : Nat → Nat → Int32} {sp : Nat → Int32} {vis day z tl xt : Int32} (hP : PitOK xs hp st tr sp vis day z) (hF : RelF fd xf) (hT : tl = xt) (v1 : Int32) : ∃ r fd' xf', f4_count hp st tr sp vis day z tl fd v1 = some (r, fd') ∧ f5_count xs xf xt v1 = some (r, xf') ∧ RelF fd' xf' := by
  obtain ⟨r, fd', xf', n1, n2, n3⟩ := no_ok hF (k := 0) (by decide)
  obtain ⟨N, rfl, h2, h3, h4⟩ := hP
  have hN := h3.2.2.2.2.1
  obtain ⟨a1, a2, a3, a4, a5, a6, a7⟩ := id h2
  unfold f4_count f5_count
  by_cases e0 : v1 = 0
  · simp only [if_pos e0]; exact ⟨day, fd, xf, rfl, by rw [a6], hF⟩
  by_cases e1 : v1 = 1
  · simp only [if_neg e0, if_pos e1]; exact ⟨nI N, fd, xf, rfl, by rw [a5], hF⟩
  by_cases e2 : v1 = 2
  · simp only [if_neg e0, if_neg e1, if_pos e2]
    obtain ⟨r, q1, q2⟩ := sands_loop a1 16 1000 0 0 (by omega) (by omega)
    unfold f0_sandInAll f5_sands
    rw [show l0_sandInAll_4 1000 hp 0 0 = some r from q1, show l5_sands_4 1000 xs 0 0 = some r from q2]
    exact ⟨r, fd, xf, rfl, rfl, hF⟩
  by_cases e3 : v1 = 3
  · simp only [if_neg e0, if_neg e1, if_neg e2, if_pos e3]; exact ⟨st 0, fd, xf, rfl, by rw [← a2 0 (by decide)], hF⟩
  by_cases e4 : v1 = 4
  · simp only [if_neg e0, if_neg e1, if_neg e2, if_neg e3, if_pos e4]
    obtain ⟨r, q1, q2⟩ := builds_loop h2 hN N 1000 0 0 (by omega) (by omega)
    unfold f0_builtInAll f5_builds
    rw [show l0_builtInAll_4 1000 tr (nI N) 0 0 = some r from q1, show l5_builds_4 1000 xs 0 0 = some r from q2]
    exact ⟨r, fd, xf, rfl, rfl, hF⟩
  by_cases e5 : v1 = 5
  · simp only [if_neg e0, if_neg e1, if_neg e2, if_neg e3, if_neg e4, if_pos e5]; exact ⟨tl, fd, xf, rfl, by rw [hT], hF⟩
  by_cases e6 : v1 = 6
  · simp only [if_neg e0, if_neg e1, if_neg e2, if_neg e3, if_neg e4, if_neg e5, if_pos e6]; exact ⟨z, fd, xf, rfl, by rw [a7], hF⟩
  by_cases e7 : v1 = 7
  · simp only [if_neg e0, if_neg e1, if_neg e2, if_neg e3, if_neg e4, if_neg e5, if_neg e6, if_pos e7]
    obtain ⟨r, q1, q2⟩ := spots_loop (xf := xf) (xt := xt) a4 hN h4 10 1000 0 0 (by omega) (by omega)
    unfold f0_spotsHolding
    rw [show l0_spotsHolding_4 1000 sp 0 0 = some r from q1]
    exact ⟨r, fd, xf, rfl, q2, hF⟩
  simp only [if_neg e0, if_neg e1, if_neg e2, if_neg e3, if_neg e4, if_neg e5, if_neg e6, if_neg e7]
  rw [show f4_found fd 0 = some (r, fd') from n1, show f5_no xf 0 = some (r, xf') from n2]
  exact ⟨r, fd', xf', rfl, rfl, n3⟩
theorem finds_loop {fd xf : Nat → Int32} (hF : RelF fd xf) : ∀ (m n k : Nat) (a : Int32), k + m = 7 → m < n → ∃ r, l4_findingsInAll_4 n fd a (nI k) = some r ∧ l5_status_20 n xf (-1) a (nI k) = some (r, xf) := by
  intro m
  induction m with
  | zero =>
    intro n k a hk hn
    obtain ⟨n, rfl⟩ : ∃ q, n = q + 1 := ⟨n - 1, by omega⟩
    exact ⟨a, by rw [l4_findingsInAll_4, li 7, if_pos (nI_le (by omega) (by omega))], by rw [l5_status_20, li 7, if_pos (nI_le (by omega) (by omega))]⟩
  | succ m ih =>
    intro n k a hk hn
    obtain ⟨n, rfl⟩ : ∃ q, n = q + 1 := ⟨n - 1, by omega⟩
    have h16 : ¬ (nI 7 ≤ nI k) := fun q => by have := (nI_leI (by omega) (by omega)).mp q; omega
    rw [l4_findingsInAll_4, l5_status_20, li 7, if_neg h16, if_neg h16, if_pos rfl, j5_status_37, inb_y (show 7 < 2 ^ 31 by decide) (show k < 7 by omega), gd_t, gd_t, nI_clamp (by omega), hF k (by omega), j5_status_47, nI_1]
    exact ih n (k + 1) _ (by omega) (by omega)
theorem find_loop {xf : Nat → Int32} {j : Nat} (hj : j < 7) : ∀ (m n k : Nat), k + m = 7 → m < n → l5_status_20 n xf (nI j) (if j < k then xf j else 0) (nI k) = some (xf j, xf) := by
  intro m
  induction m with
  | zero =>
    intro n k hk hn
    obtain ⟨n, rfl⟩ : ∃ q, n = q + 1 := ⟨n - 1, by omega⟩
    rw [l5_status_20, li 7, if_pos (nI_le (by omega) (by omega)), if_pos (by omega)]
  | succ m ih =>
    intro n k hk hn
    obtain ⟨n, rfl⟩ : ∃ q, n = q + 1 := ⟨n - 1, by omega⟩
    have h16 : ¬ (nI 7 ≤ nI k) := fun q => by have := (nI_leI (by omega) (by omega)).mp q; omega
    have hm : ¬ nI j = -1 := fun e => by
      have h := congrArg Int32.toInt e
      rw [nI_toInt (by omega)] at h
      have : (-1 : Int32).toInt = -1 := by decide
      omega
    rw [l5_status_20, li 7, if_neg h16, if_neg hm]
    by_cases e : j = k
    · subst e
      rw [if_pos rfl, j5_status_37, inb_y (show 7 < 2 ^ 31 by decide) hj, gd_t, nI_clamp (by omega), j5_status_47, nI_1, if_neg (by omega), Int32.zero_add]
      have := ih n (j + 1) (by omega) (by omega)
      rw [if_pos (by omega)] at this
      exact this
    · rw [if_neg (fun q => e ((nI_eq (by omega) (by omega)).mp q)), j5_status_47, nI_1, Int32.add_zero]
      have := ih n (k + 1) (by omega) (by omega)
      rw [show (if j < k + 1 then xf j else 0) = if j < k then xf j else 0 from by
        by_cases q : j < k
        · rw [if_pos q, if_pos (by omega)]
        · rw [if_neg q, if_neg (by omega)]] at this
      exact this
theorem op_status {xf fd : Nat → Int32} (hF : RelF fd xf) (v1 : Int32) : ∃ r fd' xf', f4_status fd v1 = some (r, fd') ∧ f5_status xf v1 = some (r, xf') ∧ RelF fd' xf' := by
  obtain ⟨r, fd', xf', n1, n2, n3⟩ := no_ok hF (k := 0) (by decide)
  unfold f4_status f5_status
  rw [in54]
  by_cases hm : v1 = -1
  · subst hm
    obtain ⟨r, q1, q2⟩ := finds_loop hF 7 1000 0 0 (by omega) (by omega)
    rw [if_neg (show ¬ f4_within (-1) (-1) 6 = 0 by decide), if_neg (show ¬ f4_within (-1) (-1) 6 = 0 by decide), if_pos rfl]
    unfold f4_findingsInAll
    rw [show l4_findingsInAll_4 1000 fd 0 0 = some r from q1]
    exact ⟨r, fd, xf, rfl, q2, hF⟩
  by_cases hw : f4_within v1 (-1) 6 = 0
  · rw [if_pos hw, if_pos hw, show f4_found fd 0 = some (r, fd') from n1, show f5_no xf 0 = some (r, xf') from n2]
    exact ⟨r, fd', xf', rfl, rfl, n3⟩
  rw [if_neg hw, if_neg hw, if_neg hm]
  have hb : (-1 : Int32) ≤ v1 ∧ v1 ≤ 6 := by
    rw [in4] at hw
    by_cases q : (-1 : Int32) ≤ v1 ∧ v1 ≤ 6
    · exact q
    · exact absurd (if_neg q) hw
  have h1 : -1 ≤ v1.toInt := by have := Int32.le_iff_toInt_le.mp hb.1; rwa [show (-1 : Int32).toInt = -1 by decide] at this
  have h2 : v1.toInt ≤ 6 := by have := Int32.le_iff_toInt_le.mp hb.2; rwa [show (6 : Int32).toInt = 6 by decide] at this
  have h3 : v1.toInt ≠ -1 := fun e => hm (Int32.toInt_inj.mp (by rw [e]; decide))
  obtain ⟨j, rfl, hj⟩ := Bt.nat (x := v1) (b := 6) ⟨by omega, by omega⟩
  rw [inb_y (show 7 < 2 ^ 31 by decide) (show j < 7 by omega), gd_t, nI_clamp (by omega), hF j (by omega)]
  exact ⟨xf j, fd, xf, rfl, find_loop (show j < 7 by omega) 7 1000 0 (by omega) (by omega), hF⟩
/-- what is kept as an image, on both sides -/
def RelK (xkept : Nat → Int32) (xisK : Int32) (hp st : Nat → Int32) (tr : Nat → Nat → Int32) (sp : Nat → Int32) (vis day z isK : Int32) : Prop := isK = xisK ∧ (isK = 0 ∨ (isK = 1 ∧ PitOK xkept hp st tr sp vis day z))
theorem image_loop {xs : Nat → Int32} {xisK : Int32} : ∀ (m n t : Nat) (a : Nat → Int32), t + m = 88 → m < n → (∀ j, j < t → a j = xs j) → ∃ a', l5_image_2 n xs a xisK (nI t) = some (1, a', 1) ∧ ∀ j, j < 88 → a' j = xs j := by
  intro m
  induction m with
  | zero =>
    intro n t a ht hn h
    obtain ⟨n, rfl⟩ : ∃ q, n = q + 1 := ⟨n - 1, by omega⟩
    refine ⟨a, ?_, fun j hj => h j (by omega)⟩
    rw [l5_image_2, li 88, if_pos (nI_le (by omega) (by omega))]
  | succ m ih =>
    intro n t a ht hn h
    obtain ⟨n, rfl⟩ : ∃ q, n = q + 1 := ⟨n - 1, by omega⟩
    rw [l5_image_2, li 88, if_neg (fun q => by have := (nI_leI (by omega) (by omega)).mp q; omega), inb_y (show 88 < 2 ^ 31 by decide) (show t < 88 by omega), gd_t, gd_t, nI_clamp (by omega), nI_1]
    refine ih n (t + 1) _ (by omega) (by omega) (fun j hj => ?_)
    by_cases e : j = t
    · subst e; rw [upd_s]
    · rw [upd_n e]; exact h j (by omega)
theorem op_image {xs xkept hp1 st1 hp2 st2 : Nat → Int32} {tr1 tr2 : Nat → Nat → Int32} {sp1 sp2 : Nat → Int32} {vis1 day1 z1 vis2 day2 z2 isK xisK : Int32} (hP : PitOK xs hp1 st1 tr1 sp1 vis1 day1 z1) : ∃ r hp2' st2' tr2' sp2' vis2' day2' z2' isK' xkept' xisK', f4_image hp1 st1 tr1 sp1 vis1 day1 z1 hp2 st2 tr2 sp2 vis2 day2 z2 isK = some (r, hp2', st2', tr2', sp2', vis2', day2', z2', isK') ∧ f5_image xs xkept xisK = some (r, xkept', xisK') ∧ RelK xkept' xisK' hp2' st2' tr2' sp2' vis2' day2' z2' isK' := by
  obtain ⟨tr', q1, q2⟩ := become_ok hp2 st2 tr2 sp2 vis2 day2 z2 hp1 st1 tr1 sp1 vis1 day1 z1
  obtain ⟨a', p1, p2⟩ := image_loop (xs := xs) (xisK := xisK) 88 1000 0 xkept (by omega) (by omega) (fun j hj => by omega)
  refine ⟨1, hp1, st1, tr', sp1, vis1, day1, z1, 1, a', 1, ?_, p1, rfl, Or.inr ⟨rfl, (hP.trc q2).cong p2⟩⟩
  unfold f4_image
  rw [q1]
  rfl
theorem undo_loop {a xf : Nat → Int32} {xisK : Int32} : ∀ (m n t : Nat) (xs : Nat → Int32), t + m = 88 → m < n → (∀ j, j < t → xs j = a j) → ∃ xs', l5_undo_15 n xs a xisK xf (nI t) = some (xs' 0, xs', xf) ∧ ∀ j, j < 88 → xs' j = a j := by
  intro m
  induction m with
  | zero =>
    intro n t xs ht hn h
    obtain ⟨n, rfl⟩ : ∃ q, n = q + 1 := ⟨n - 1, by omega⟩
    refine ⟨xs, ?_, fun j hj => h j (by omega)⟩
    rw [l5_undo_15, li 88, if_pos (nI_le (by omega) (by omega))]
  | succ m ih =>
    intro n t xs ht hn h
    obtain ⟨n, rfl⟩ : ∃ q, n = q + 1 := ⟨n - 1, by omega⟩
    rw [l5_undo_15, li 88, if_neg (fun q => by have := (nI_leI (by omega) (by omega)).mp q; omega), inb_y (show 88 < 2 ^ 31 by decide) (show t < 88 by omega), gd_t, gd_t, nI_clamp (by omega), nI_1]
    refine ih n (t + 1) _ (by omega) (by omega) (fun j hj => ?_)
    by_cases e : j = t
    · subst e; rw [upd_s]
    · rw [upd_n e]; exact h j (by omega)
theorem op_undo {xs xkept hp1 st1 hp2 st2 xf fd : Nat → Int32} {tr1 tr2 : Nat → Nat → Int32} {sp1 sp2 : Nat → Int32} {vis1 day1 z1 vis2 day2 z2 isK xisK : Int32} (hP : PitOK xs hp1 st1 tr1 sp1 vis1 day1 z1) (hK : RelK xkept xisK hp2 st2 tr2 sp2 vis2 day2 z2 isK) (hF : RelF fd xf) : ∃ r hp1' st1' tr1' sp1' vis1' day1' z1' fd' xs' xf', f4_undo hp1 st1 tr1 sp1 vis1 day1 z1 hp2 st2 tr2 sp2 vis2 day2 z2 fd isK = some (r, hp1', st1', tr1', sp1', vis1', day1', z1', fd') ∧ f5_undo xs xkept xisK xf = some (r, xs', xf') ∧ PitOK xs' hp1' st1' tr1' sp1' vis1' day1' z1' ∧ RelF fd' xf' := by
  obtain ⟨r, fd', xf', n1, n2, n3⟩ := no_ok hF (k := 3) (by decide)
  obtain ⟨rfl, rfl | ⟨rfl, hK⟩⟩ := hK
  · unfold f4_undo f5_undo
    rw [if_pos rfl, if_pos rfl, show f4_found fd 3 = some (r, fd') from n1, show f5_no xf 3 = some (r, xf') from n2]
    exact ⟨r, hp1, st1, tr1, sp1, vis1, day1, z1, fd', xs, xf', rfl, rfl, hP, n3⟩
  · unfold f4_undo f5_undo
    rw [if_neg ne10, if_neg ne10]
    obtain ⟨tr', q1, q2⟩ := become_ok hp1 st1 tr1 sp1 vis1 day1 z1 hp2 st2 tr2 sp2 vis2 day2 z2
    obtain ⟨a', p1, p2⟩ := undo_loop (a := xkept) (xisK := 1) (xf := xf) 88 1000 0 xs (by omega) (by omega) (fun j hj => by omega)
    have hP' := (hK.trc q2).cong p2
    rw [q1]
    refine ⟨day2, hp2, st2, tr', sp2, vis2, day2, z2, fd, a', xf, rfl, ?_, hP', hF⟩
    have : a' 0 = day2 := by
      obtain ⟨N, e1, h2, h3, h4⟩ := hP'
      exact h2.2.2.2.2.2.1
    rw [show l5_undo_15 1000 xs xkept 1 xf 0 = _ from p1, this]
theorem op_tear {xkept hp2 st2 : Nat → Int32} {tr2 : Nat → Nat → Int32} {sp2 : Nat → Int32} {vis2 day2 z2 isK xisK : Int32} (hK : RelK xkept xisK hp2 st2 tr2 sp2 vis2 day2 z2 isK) : ∃ r isK' xisK', f4_tear isK = some (r, isK') ∧ f5_tear xisK = some (r, xisK') ∧ RelK xkept xisK' hp2 st2 tr2 sp2 vis2 day2 z2 isK' := by
  obtain ⟨rfl, rfl | ⟨rfl, hK⟩⟩ := hK
  · exact ⟨0, 0, 0, rfl, rfl, rfl, Or.inl rfl⟩
  · exact ⟨1, 0, 0, rfl, rfl, rfl, Or.inl rfl⟩
