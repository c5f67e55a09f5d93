/-! whether a shape stands; the road; who comes -/
def bi (b : Bool) : Int32 := if b = true then 1 else 0
theorem bi_t : bi true = 1 := rfl
theorem bi_f : bi false = 0 := rfl
theorem bi_b (b : Bool) : b01 (bi b) = true := by cases b <;> rfl
theorem bi_0 (b : Bool) : bi b = 0 ↔ b = false := by cases b <;> decide
def allG (g : Nat → Bool) : Nat → Nat → Bool
  | _, 0 => true
  | c, m + 1 => g c && allG g (c + 1) m
theorem allG_iff (g : Nat → Bool) : ∀ (m c : Nat), allG g c m = true ↔ ∀ j, c ≤ j → j < c + m → g j = true := by
  intro m
  induction m with
  | zero => intro c; exact ⟨fun _ j h1 h2 => by omega, fun _ => rfl⟩
  | succ m ih =>
    intro c
    rw [allG, Bool.and_eq_true, ih]
    constructor
    · intro h j h1 h2
      by_cases e : j = c
      · rw [e]; exact h.1
      · exact h.2 j (by omega) (by omega)
    · intro h
      exact ⟨h c (by omega) (by omega), fun j h1 h2 => h j (by omega) (by omega)⟩
def goodc (hp : Nat → Int32) (r d : Int32) (c : Nat) : Bool := if d = 0 then decide (r ≤ hp c) else decide (hp c ≤ r)
theorem isUp0 {hp st : Nat → Int32} {tr : Nat → Nat → Int32} {r d : Int32} {hi : Nat} (hh : hi < 16) : ∀ (m n c : Nat), c + m = hi + 1 → m < n → l0_isUp_26 n hp st tr r (nI hi) d (nI c) = some (bi (allG (goodc hp r d) c m)) := by
  intro m
  induction m with
  | zero =>
    intro n c hc hn
    obtain ⟨n, rfl⟩ : ∃ k, n = k + 1 := ⟨n - 1, by omega⟩
    rw [l0_isUp_26, if_pos ((nI_ltI (by omega) (by omega)).mpr (by omega))]
    rfl
  | succ m ih =>
    intro n c hc hn
    obtain ⟨n, rfl⟩ : ∃ k, n = k + 1 := ⟨n - 1, by omega⟩
    rw [l0_isUp_26, if_neg (fun h => by have := (nI_ltI (by omega) (by omega)).mp h; omega)]
    simp only [j0_isUp_64, inb_y (show 16 < 2 ^ 31 by decide) (show c < 16 by omega), gd_t, nI_clamp (show c < 2 ^ 31 by omega), nI_1, ih n (c + 1) (by omega) (by omega)]
    rw [allG]
    by_cases hd : d = 0
    · have e : goodc hp r d c = decide (r ≤ hp c) := by simp [goodc, hd]
      rw [if_pos hd, e]
      by_cases hg : r ≤ hp c <;> simp [hg, bi]
    · have e : goodc hp r d c = decide (hp c ≤ r) := by simp [goodc, hd]
      rw [if_neg hd, e]
      by_cases hg : hp c ≤ r <;> simp [hg, bi]
theorem stand5 {xs hp : Nat → Int32} {r d : Int32} {lo hi : Nat} (hx : ∀ c, c < 16 → xs (6 + c) = hp c) (hl : lo ≤ hi) (hh : hi < 16) (hd : d = 0 ∨ (d = 1 ∧ r = 0)) : ∀ (m n c : Nat) (b : Bool), c + m = 16 → m < n → l5_standsNow_35 n xs (nI (spN lo hi)) r d (bi b) (nI c) = some (bi (b && allG (fun c => !(decide (lo ≤ c ∧ c ≤ hi)) || goodc hp r d c) c m)) := by
  intro m
  induction m with
  | zero =>
    intro n c b hc hn
    obtain ⟨n, rfl⟩ : ∃ k, n = k + 1 := ⟨n - 1, by omega⟩
    rw [l5_standsNow_35, li 16, if_pos ((nI_leI (by omega) (by omega)).mpr (by omega)), bi_b, gd_t]
    simp [allG]
  | succ m ih =>
    intro n c b hc hn
    obtain ⟨n, rfl⟩ : ∃ k, n = k + 1 := ⟨n - 1, by omega⟩
    have hbit := bit_fin lo (by omega) hi hh hl c (by omega)
    have key : ∀ t : Bool, t = !(goodc hp r d c) → j5_standsNow_87 (l5_standsNow_35 n) xs (nI (spN lo hi)) r d (bi b) (nI c) (bi t) = some (bi (b && allG (fun c => !(decide (lo ≤ c ∧ c ≤ hi)) || goodc hp r d c) c (m + 1))) := by
      intro t ht
      unfold j5_standsNow_87 j5_standsNow_113 j5_standsNow_109 j5_standsNow_114
      have i1 := ih n (c + 1) true (by omega) (by omega)
      have i0 := ih n (c + 1) false (by omega) (by omega)
      rw [bi_t, ← nI_1] at i1
      rw [bi_f, ← nI_1] at i0
      rw [i1, i0]
      cases b with
      | false => rfl
      | true =>
        rw [if_neg (by decide)]
        by_cases hs : lo ≤ c ∧ c ≤ hi
        · rw [if_pos (hbit.mpr hs)]
          cases hg : goodc hp r d c with
          | true => rw [hg] at ht; subst ht; simp [allG, hg, bi]
          | false => rw [hg] at ht; subst ht; simp [allG, hg, hs, bi]
        · rw [if_neg (fun h => hs (hbit.mp h))]
          simp [allG, hs]
    have k0 := key false
    have k1 := key true
    rw [bi_f] at k0
    rw [bi_t] at k1
    rw [l5_standsNow_35, li 16, if_neg (fun h => by have := (nI_leI (by omega) (by omega)).mp h; omega), li 6, nI_add, inb_y (show 88 < 2 ^ 31 by decide) (show 6 + c < 88 by omega), gd_t, nI_clamp (by omega), hx c (by omega)]
    rcases hd with hd | ⟨hd, hr⟩
    · rw [if_pos hd]
      by_cases hg : r ≤ hp c
      · rw [if_pos hg]; exact k0 (by simp [goodc, hd, hg])
      · rw [if_neg hg]; exact k1 (by simp [goodc, hd, hg])
    · subst hr
      rw [if_neg (by rw [hd]; decide), gd_t]
      by_cases hg : hp c ≤ 0
      · rw [if_pos hg]; exact k0 (by simp [goodc, hd, hg])
      · rw [if_neg hg]; exact k1 (by simp [goodc, hd, hg])
theorem dig0 {tr : Nat → Nat → Int32} {v : Nat} (hv : v < 8) : f0_isDigger tr (nI v) = some (bi (decide (tr 0 v = 4))) := by
  simp only [f0_isDigger, gd_t, inb_y (show 8 < 2 ^ 31 by decide) hv, nI_clamp (show v < 2 ^ 31 by omega)]
  by_cases h : tr 0 v = 4 <;> simp [h, bi]
/-- a shape stands, on both sides -/
theorem stands_ok {xs hp st : Nat → Int32} {tr : Nat → Nat → Int32} {sp : Nat → Int32} {vis day z : Int32} {v : Nat} (hr : Row xs hp st tr sp vis day z) (hv : v < 8) (ho : OkV tr v) (hw : Bt (st 2) 0 9) : ∃ b : Bool, f0_isUp hp st tr (nI v) = some (bi b) ∧ f5_standsNow xs (nI v) = some (bi b) := by
  obtain ⟨lo, hi, hs⟩ := Span.ex hv ho
  obtain ⟨r, er, -, hr0⟩ := rais_ok hv ho hw
  have hl := hs.1
  have hh := hs.2.1
  refine ⟨allG (goodc hp (nI r) (bi (decide (tr 0 v = 4)))) lo (hi + 1 - lo), ?_, ?_⟩
  · unfold f0_isUp
    rw [er, hs.2.2.1, hs.2.2.2, dig0 hv]
    simp only [ob1_so]
    exact isUp0 hh _ _ _ (by omega) (by omega)
  · unfold f5_standsNow
    rw [span5 hr hv ho hs, rais5 hr hv, er, li 0, g5 xs hv (by decide), hr.2.2.1 0 v (by decide) hv]
    simp only [ob1_so, j5_standsNow_27]
    have e : allG (goodc hp (nI r) (bi (decide (tr 0 v = 4)))) lo (hi + 1 - lo) = (true && allG (fun c => !(decide (lo ≤ c ∧ c ≤ hi)) || goodc hp (nI r) (bi (decide (tr 0 v = 4))) c) 0 16) := by
      rw [Bool.true_and, Bool.eq_iff_iff, allG_iff, allG_iff]
      constructor
      · intro h j h1 h2
        by_cases hj : lo ≤ j ∧ j ≤ hi
        · simp [hj, h j hj.1 (by omega)]
        · simp [hj]
      · intro h j h1 h2
        have := h j (by omega) (by omega)
        simpa [show lo ≤ j ∧ j ≤ hi from ⟨h1, by omega⟩] using this
    rw [e]
    by_cases h4 : tr 0 v = 4
    · rw [if_pos h4, show decide (tr 0 v = 4) = true by simp [h4]]
      have := stand5 (xs := xs) (hp := hp) (r := nI r) (d := bi true) hr.1 hl hh (Or.inr ⟨rfl, by rw [hr0 h4]; rfl⟩) 16 1000 0 true (by omega) (by omega)
      exact this
    · rw [if_neg h4, show decide (tr 0 v = 4) = false by simp [h4]]
      have := stand5 (xs := xs) (hp := hp) (r := nI r) (d := bi false) hr.1 hl hh (Or.inl rfl) 16 1000 0 true (by omega) (by omega)
      exact this
/-- the road, on both sides -/
theorem road_eq {xs hp : Nat → Int32} (hx : ∀ c, c < 16 → xs (6 + c) = hp c) : ∀ (n c : Nat) (a b : Int32), c ≤ 16 → l5_roadNow_6 n xs a b (nI c) = l0_roadLength_6 n hp a b (nI c) := by
  intro n
  induction n with
  | zero => intro c a b _; rfl
  | succ n ih =>
    intro c a b hc
    rw [l5_roadNow_6, l0_roadLength_6]
    by_cases h : c = 16
    · rw [if_pos (by rw [h]; decide), if_pos (by rw [h]; decide)]
    · have h16 : ¬ ((16 : Int32) ≤ nI c) := fun q => by rw [li 16] at q; have := (nI_leI (by omega) (by omega)).mp q; omega
      rw [if_neg h16, if_neg h16, li 6, nI_add, inb_y (show 88 < 2 ^ 31 by decide) (show 6 + c < 88 by omega), gd_t, nI_clamp (by omega), hx c (by omega), inb_y (show 16 < 2 ^ 31 by decide) (show c < 16 by omega), gd_t, nI_clamp (by omega)]
      have key : ∀ t : Int32, j5_roadNow_32 (l5_roadNow_6 n) xs a (nI c) t = j0_roadLength_29 (l0_roadLength_6 n) hp a (nI c) t := by
        intro t
        unfold j5_roadNow_32 j5_roadNow_43 j0_roadLength_29 jmax
        rw [nI_1]
        by_cases q : t ≤ a
        · rw [if_pos q, if_neg (Int32.not_lt.mpr q), ih (c + 1) _ _ (by omega)]
        · rw [if_neg q, if_pos (Int32.not_le.mp q), ih (c + 1) _ _ (by omega)]
      rw [key, key]
theorem road_some {hp : Nat → Int32} : ∀ (m n c : Nat) (a b : Int32), c + m = 16 → m < n → ∃ r, l0_roadLength_6 n hp a b (nI c) = some r := by
  intro m
  induction m with
  | zero =>
    intro n c a b hc hn
    obtain ⟨n, rfl⟩ : ∃ k, n = k + 1 := ⟨n - 1, by omega⟩
    rw [l0_roadLength_6, li 16, if_pos ((nI_leI (by omega) (by omega)).mpr (by omega))]
    exact ⟨_, rfl⟩
  | succ m ih =>
    intro n c a b hc hn
    obtain ⟨n, rfl⟩ : ∃ k, n = k + 1 := ⟨n - 1, by omega⟩
    rw [l0_roadLength_6, li 16, if_neg (fun q => by have := (nI_leI (by omega) (by omega)).mp q; omega), inb_y (show 16 < 2 ^ 31 by decide) (show c < 16 by omega), gd_t]
    unfold j0_roadLength_29
    rw [nI_1]
    split <;> exact ih n (c + 1) _ _ (by omega) (by omega)
theorem road_ok {xs hp : Nat → Int32} (hx : ∀ c, c < 16 → xs (6 + c) = hp c) : ∃ r, f0_roadLength hp = some r ∧ f5_roadNow xs = some r := by
  obtain ⟨r, h⟩ := road_some (hp := hp) 16 1000 0 0 0 (by omega) (by omega)
  exact ⟨r, h, (road_eq hx 1000 0 0 0 (by omega)).trans h⟩
/-- who comes, on both sides -/
theorem due_ok {xs hp st : Nat → Int32} {tr : Nat → Nat → Int32} {sp : Nat → Int32} {vis day z : Int32} {v : Nat} (hr : Row xs hp st tr sp vis day z) (hv : v < 8) (ho : OkV tr v) : ∃ b : Bool, f0_comesToday tr day (nI v) = some (bi b) ∧ f5_isDue xs (nI v) = some (bi b) := by
  obtain ⟨-, -, -, -, h4, -⟩ := ho
  have hne : ¬ tr 4 v = 0 := fun e => by have := h4.1; rw [e] at this; exact absurd this (by decide)
  have hle : ¬ tr 4 v ≤ 0 := fun e => by have := h4.1; have := Int32.le_iff_toInt_le.mp e; have h0 : (0 : Int32).toInt = 0 := by decide
                                         omega
  have hnz : nz (tr 4 v) = true := by simp [nz, hne]
  refine ⟨decide ((day - day / (tr 4 v) * (tr 4 v)) = 0), ?_, ?_⟩
  · simp only [f0_comesToday, gd_t, inb_y (show 8 < 2 ^ 31 by decide) hv, nI_clamp (show v < 2 ^ 31 by omega), if_neg hle, hnz]
    by_cases h : (day - day / (tr 4 v) * (tr 4 v)) = 0 <;> simp [h, bi]
  · unfold f5_isDue
    rw [li 4, g5 xs hv (by decide), hr.2.2.1 4 v (by decide) hv, hr.2.2.2.2.2.1]
    simp only [ob1_so, hnz, gd_t]
    by_cases h : (day - day / (tr 4 v) * (tr 4 v)) = 0 <;> simp [h, bi]
