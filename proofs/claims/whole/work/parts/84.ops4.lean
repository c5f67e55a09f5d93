/-! the calls, fifth group: sheets and the tape -/
def Cel (shn : Nat → Nat → Int32) (xcel : Nat → Int32) : Prop := ∀ s i, s < 4 → i < 40 → shn s i = xcel (40 * s + i)
def RelS (shn : Nat → Nat → Int32) (shb shz xwid xsiz xcel : Nat → Int32) : Prop := (∀ s, s < 4 → shb s = xwid s) ∧ (∀ s, s < 4 → ∃ n, n ≤ 40 ∧ shz s = nI n ∧ xsiz s = nI n) ∧ Cel shn xcel
theorem Cel.put {shn : Nat → Nat → Int32} {xcel : Nat → Int32} (h : Cel shn xcel) {s i : Nat} (hs : s < 4) (hi : i < 40) (x : Int32) : Cel (upd2 shn s i x) (upd xcel (40 * s + i) x) := by
  intro s' i' hs' hi'
  by_cases e : s' = s ∧ i' = i
  · obtain ⟨rfl, rfl⟩ := e; rw [upd2_s, upd_s]
  · rw [upd2_n e, upd_n (by omega)]; exact h s' i' hs' hi'
theorem isSh (v : Int32) : (f4_isSheet v = 0 ∧ f5_isSheet v = 0) ∨ ∃ s, v = nI s ∧ s < 4 ∧ f4_isSheet v = 1 ∧ f5_isSheet v = 1 := by
  unfold f4_isSheet f5_isSheet
  rw [in54]
  rcases inC v (a := 0) (b := 3) (by decide) (by decide) with h | ⟨n, e, -, h2, h3⟩
  · exact Or.inl ⟨h, h⟩
  · exact Or.inr ⟨n, e, by omega, h3, h3⟩
theorem lay_loop {xf xwid xsiz shb shz : Nat → Int32} {s : Nat} (hs : s < 4) : ∀ (m n k : Nat) (shn : Nat → Nat → Int32) (xcel : Nat → Int32), k + m = 40 → m < n → Cel shn xcel → ∃ shn' xcel', l1_layOut_20 n s shn shb shz (nI k) = some (shn', shb, shz) ∧ l5_sheet_83 n xf xwid xsiz xcel (nI s) (nI k) = some (xsiz s, xf, xwid, xsiz, xcel') ∧ Cel shn' xcel' := by
  intro m
  induction m with
  | zero =>
    intro n k shn xcel hk hn h
    obtain ⟨n, rfl⟩ : ∃ q, n = q + 1 := ⟨n - 1, by omega⟩
    refine ⟨shn, xcel, ?_, ?_, h⟩
    · rw [l1_layOut_20, li 40, if_pos (nI_le (by omega) (by omega))]
    · rw [l5_sheet_83, li 40, if_pos (nI_le (by omega) (by omega)), inb_y (show 4 < 2 ^ 31 by decide) hs, gd_t, nI_clamp (by omega)]
  | succ m ih =>
    intro n k shn xcel hk hn h
    obtain ⟨n, rfl⟩ : ∃ q, n = q + 1 := ⟨n - 1, by omega⟩
    have h16 : ¬ (nI 40 ≤ nI k) := fun q => by have := (nI_leI (by omega) (by omega)).mp q; omega
    rw [l1_layOut_20, l5_sheet_83, li 40, if_neg h16, if_neg h16, pk_mul, nI_add, inb_y (show 40 < 2 ^ 31 by decide) (show k < 40 by omega), gd_t, inb_y (show 160 < 2 ^ 31 by decide) (show 40 * s + k < 160 by omega), gd_t, nI_clamp (by omega), nI_clamp (by omega), nI_1]
    exact ih n (k + 1) _ _ (by omega) (by omega) (h.put hs (by omega) 0)
theorem op_sheet {xf fd xwid xsiz xcel shb shz : Nat → Int32} {shn : Nat → Nat → Int32} (hS : RelS shn shb shz xwid xsiz xcel) (hF : RelF fd xf) (v1 v2 v3 : Int32) : ∃ r shn' shb' shz' fd' xf' xwid' xsiz' xcel', f4_sheet shn shb shz fd v1 v2 v3 = some (r, shn', shb', shz', fd') ∧ f5_sheet xf xwid xsiz xcel v1 v2 v3 = some (r, xf', xwid', xsiz', xcel') ∧ RelS shn' shb' shz' xwid' xsiz' xcel' ∧ RelF fd' xf' := by
  have no : ∀ k, k < 7 → ∃ r shn' shb' shz' fd' xf' xwid' xsiz' xcel', ob2 (f4_found fd (nI k)) (fun r fd_7 => some (r, shn, shb, shz, fd_7)) = some (r, shn', shb', shz', fd') ∧ ob2 (f5_no xf (nI k)) (fun r x => some (r, x, xwid, xsiz, xcel)) = some (r, xf', xwid', xsiz', xcel') ∧ RelS shn' shb' shz' xwid' xsiz' xcel' ∧ RelF fd' xf' := by
    intro k hk
    obtain ⟨r, fd', xf', n1, n2, n3⟩ := no_ok hF hk
    exact ⟨r, shn, shb, shz, fd', xf', xwid, xsiz, xcel, by rw [n1]; rfl, by rw [n2]; rfl, hS, n3⟩
  unfold f4_sheet f5_sheet
  rcases isSh v1 with ⟨q1, q2⟩ | ⟨s, rfl, hs, q1, q2⟩
  · simp only [q1, q2, i0, reduceIte]; exact no 0 (by decide)
  simp only [q1, q2, i1, reduceIte]
  have good : ∃ r shn' shb' shz' fd' xf' xwid' xsiz' xcel', j4_sheet_35 shn shb shz fd (nI s) v2 v3 = some (r, shn', shb', shz', fd') ∧ j5_sheet_35 xf xwid xsiz xcel (nI s) v2 v3 = some (r, xf', xwid', xsiz', xcel') ∧ RelS shn' shb' shz' xwid' xsiz' xcel' ∧ RelF fd' xf' := by
    unfold j4_sheet_35 j5_sheet_35
    by_cases a : (0 : Int32) ≤ v3
    · by_cases b : v3 ≤ 40
      · obtain ⟨n, hn, rfl⟩ := nI_of (Int32.not_lt.mpr a)
        have hn40 : n ≤ 40 := (nI_leI hn (by decide)).mp b
        have fin : ∀ w : Nat, w ≤ 40 → ∃ r shn' shb' shz' fd' xf' xwid' xsiz' xcel', ob3 (j1_layOut_15 s shn (upd shb s v2) shz (nI w)) (fun shn_12 shb_13 shz_14 => gd (inb (nI s) 4) (some (shz_14 (nI s).toNatClampNeg, shn_12, shb_13, shz_14, fd))) = some (r, shn', shb', shz', fd') ∧ j5_sheet_79 xf (upd xwid s v2) xsiz xcel (nI s) (nI s) (nI w) = some (r, xf', xwid', xsiz', xcel') ∧ RelS shn' shb' shz' xwid' xsiz' xcel' ∧ RelF fd' xf' := by
          intro w hw
          unfold j1_layOut_15 j5_sheet_79
          obtain ⟨shn', xcel', p1, p2, p3⟩ := lay_loop (xf := xf) (xwid := upd xwid s v2) (xsiz := upd xsiz s (nI w)) (shb := upd shb s v2) (shz := upd shz s (nI w)) hs 40 1000 0 shn xcel (by omega) (by omega) hS.2.2
          rw [show l1_layOut_20 1000 s shn (upd shb s v2) (upd shz s (nI w)) 0 = _ from p1, inb_y (show 4 < 2 ^ 31 by decide) hs, gd_t, nI_clamp (by omega), show l5_sheet_83 1000 xf (upd xwid s v2) (upd xsiz s (nI w)) xcel (nI s) 0 = _ from p2, ob3_so]
          refine ⟨nI w, shn', upd shb s v2, upd shz s (nI w), fd, xf, upd xwid s v2, upd xsiz s (nI w), xcel', by rw [gd_t, upd_s], by rw [upd_s], ⟨fun s' hs' => ?_, fun s' hs' => ?_, p3⟩, hF⟩
          · by_cases e : s' = s
            · subst e; rw [upd_s, upd_s]
            · rw [upd_n e, upd_n e]; exact hS.1 s' hs'
          · by_cases e : s' = s
            · subst e; rw [upd_s, upd_s]; exact ⟨w, hw, rfl, rfl⟩
            · rw [upd_n e, upd_n e]; exact hS.2.1 s' hs'
        simp only [if_pos a, if_pos b]
        unfold f1_layOut
        rw [inb_y (show 4 < 2 ^ 31 by decide) hs, gd_t, gd_t, nI_clamp (by omega)]
        have f0 := fin 0 (by omega)
        have fn := fin n hn40
        rw [inb_y (show 4 < 2 ^ 31 by decide) hs, nI_clamp (by omega)] at f0 fn
        by_cases c : v2 = 0
        · simp only [if_pos c]; exact f0
        · simp only [if_neg c]; exact fn
      · simp only [if_pos a, if_neg b]; exact no 0 (by decide)
    · simp only [if_neg a]; exact no 6 (by decide)
  by_cases a0 : v2 = 0
  · simp only [if_pos a0]; exact good
  by_cases a1 : v2 = 8
  · simp only [if_neg a0, if_pos a1]; exact good
  by_cases a2 : v2 = 16
  · simp only [if_neg a0, if_neg a1, if_pos a2]; exact good
  by_cases a3 : v2 = 32
  · simp only [if_neg a0, if_neg a1, if_neg a2, if_pos a3]; exact good
  simp only [if_neg a0, if_neg a1, if_neg a2, if_neg a3]; exact no 0 (by decide)
theorem miss {shb : Nat → Int32} {s : Nat} : f1_isMissing s shb = if shb s = 0 then 1 else 0 := rfl
theorem op_write {xf fd xwid xsiz xcel shb shz : Nat → Int32} {shn : Nat → Nat → Int32} (hS : RelS shn shb shz xwid xsiz xcel) (hF : RelF fd xf) (v1 v2 v3 : Int32) : ∃ r shn' fd' xf' xcel', f4_write shn shb shz fd v1 v2 v3 = some (r, shn', fd') ∧ f5_write xf xwid xsiz xcel v1 v2 v3 = some (r, xf', xcel') ∧ RelS shn' shb shz xwid xsiz xcel' ∧ RelF fd' xf' := by
  have no : ∀ k, k < 7 → ∃ r shn' fd' xf' xcel', ob2 (f4_found fd (nI k)) (fun r fd_7 => some (r, shn, fd_7)) = some (r, shn', fd') ∧ j5_write_31 xf xwid xsiz xcel v1 v2 v3 (nI k) = some (r, xf', xcel') ∧ RelS shn' shb shz xwid xsiz xcel' ∧ RelF fd' xf' := by
    intro k hk
    obtain ⟨r, fd', xf', n1, n2, n3⟩ := no_ok hF hk
    refine ⟨r, shn, fd', xf', xcel, by rw [n1]; rfl, ?_, hS, n3⟩
    unfold j5_write_31
    rw [if_neg (nI_pos (by omega)), n2]
    rfl
  unfold f4_write f5_write f5_wrongSheet
  rcases isSh v1 with ⟨q1, q2⟩ | ⟨s, rfl, hs, q1, q2⟩
  · simp only [q1, q2, i0, reduceIte, ob1_so]; exact no 0 (by decide)
  simp only [q1, q2, i1, reduceIte]
  rw [inb_y (show 4 < 2 ^ 31 by decide) hs, gd_t, gd_t, nI_clamp (by omega), miss, ← hS.1 s hs]
  by_cases c : shb s = 0
  · simp only [if_pos c, ob1_so, i1, if_pos (show (0 : Int32) ≤ 5 by decide)]; exact no 5 (by decide)
  simp only [if_neg c, ob1_so, i0, if_neg (show ¬ (0 : Int32) ≤ -1 by decide), gd_t, in54]
  obtain ⟨n, hn, e1, e2⟩ := hS.2.1 s hs
  rw [e1, e2]
  have hw : f4_within v2 0 (nI n - 1) = 0 ∨ ∃ i, v2 = nI i ∧ i < 40 ∧ f4_within v2 0 (nI n - 1) = 1 := by
    by_cases h0 : n = 0
    · subst h0
      refine Or.inl ?_
      rw [in4, if_neg]
      intro h
      exact absurd (Int32.le_trans h.1 h.2) (by decide)
    · rw [nsub1 (by omega)]
      rcases inC v2 (a := 0) (b := n - 1) (by decide) (by omega) with h | ⟨i, e, -, h2, h3⟩
      · exact Or.inl h
      · exact Or.inr ⟨i, e, by omega, h3⟩
  rcases hw with h | ⟨i, rfl, hi, h⟩
  · simp only [h, i0, reduceIte]; exact no 0 (by decide)
  simp only [h, i1, reduceIte]
  unfold f1_put j5_write_31
  rw [if_pos (show (-1 : Int32) < 0 by decide), inb_y (show 4 < 2 ^ 31 by decide) hs, gd_t, gd_t, nI_clamp (show s < 2 ^ 31 by omega), ← hS.1 s hs, li 40, pk_mul, nI_add, inb_y (show 160 < 2 ^ 31 by decide) (show 40 * s + i < 160 by omega), gd_t, gd_t, gd_t, inb_y (show 40 < 2 ^ 31 by decide) hi, gd_t, gd_t, gd_t, nI_clamp (show i < 2 ^ 31 by omega), nI_clamp (show 40 * s + i < 2 ^ 31 by omega)]
  have put : ∀ x : Int32, ∃ r shn' fd' xf' xcel', some ((1 : Int32), upd2 shn s i x, fd) = some (r, shn', fd') ∧ some ((1 : Int32), xf, upd xcel (40 * s + i) x) = some (r, xf', xcel') ∧ RelS shn' shb shz xwid xsiz xcel' ∧ RelF fd' xf' := fun x => ⟨1, _, fd, xf, _, rfl, rfl, ⟨hS.1, hS.2.1, hS.2.2.put hs hi x⟩, hF⟩
  by_cases c8 : shb s = 8
  · simp only [if_pos c8, ob1_so]; exact put _
  by_cases c16 : shb s = 16
  · simp only [if_neg c8, if_pos c16, ob1_so]; exact put _
  · simp only [if_neg c8, if_neg c16, ob1_so]; exact put _
theorem car_loop {xf xwid xsiz xcel : Nat → Int32} {s1 a s3 b l : Nat} (h1 : s1 < 4) (ha : a + l ≤ 40) (R : (Nat → Int32) → Option (Int32 × (Nat → Int32) × (Nat → Int32) × (Nat → Int32))) (hR : ∀ c, R c = l5_copy_152 1000 xf xwid xsiz xcel c (nI s3) (nI b) (nI l) 0) : ∀ (m n k : Nat) (car : Nat → Int32), k + m = l → m < n → (∀ j, j < k → car j = xcel (40 * s1 + a + j)) → ∃ car', l5_copy_115 n xf xwid xsiz xcel car (nI s1) (nI a) (nI s3) (nI b) (nI l) (nI k) = R car' ∧ ∀ j, j < l → car' j = xcel (40 * s1 + a + j) := by
  intro m
  induction m with
  | zero =>
    intro n k car hk hn h
    obtain ⟨n, rfl⟩ : ∃ q, n = q + 1 := ⟨n - 1, by omega⟩
    refine ⟨car, ?_, fun j hj => h j (by omega)⟩
    rw [l5_copy_115, if_pos (nI_le (by omega) (by omega)), hR]
  | succ m ih =>
    intro n k car hk hn h
    obtain ⟨n, rfl⟩ : ∃ q, n = q + 1 := ⟨n - 1, by omega⟩
    have h16 : ¬ (nI l ≤ nI k) := fun q => by have := (nI_leI (by omega) (by omega)).mp q; omega
    rw [l5_copy_115, if_neg h16, li 40, pk_mul, nI_add, nI_add, inb_y (show 160 < 2 ^ 31 by decide) (show 40 * s1 + a + k < 160 by omega), gd_t, inb_y (show 40 < 2 ^ 31 by decide) (show k < 40 by omega), gd_t, nI_clamp (show k < 2 ^ 31 by omega), nI_clamp (show 40 * s1 + a + k < 2 ^ 31 by omega), nI_1]
    refine ih n (k + 1) _ (by omega) (by omega) (fun j hj => ?_)
    by_cases e : j = k
    · subst e; rw [upd_s]
    · rw [upd_n e]; exact h j (by omega)
theorem cel_loop {xf xwid xsiz car : Nat → Int32} {s3 b l : Nat} (h3 : s3 < 4) (hb : b + l ≤ 40) : ∀ (m n k : Nat) (xcel : Nat → Int32), k + m = l → m < n → ∃ xcel', l5_copy_152 n xf xwid xsiz xcel car (nI s3) (nI b) (nI l) (nI k) = some (nI l, xf, xcel', car) ∧ ∀ q, xcel' q = if 40 * s3 + b + k ≤ q ∧ q < 40 * s3 + b + l then car (q - (40 * s3 + b)) else xcel q := by
  intro m
  induction m with
  | zero =>
    intro n k xcel hk hn
    obtain ⟨n, rfl⟩ : ∃ q, n = q + 1 := ⟨n - 1, by omega⟩
    refine ⟨xcel, ?_, fun q => ?_⟩
    · rw [l5_copy_152, if_pos (nI_le (by omega) (by omega))]
    · rw [if_neg (by omega)]
  | succ m ih =>
    intro n k xcel hk hn
    obtain ⟨n, rfl⟩ : ∃ q, n = q + 1 := ⟨n - 1, by omega⟩
    have h16 : ¬ (nI l ≤ nI k) := fun q => by have := (nI_leI (by omega) (by omega)).mp q; omega
    rw [l5_copy_152, if_neg h16, li 40, pk_mul, nI_add, nI_add, inb_y (show 160 < 2 ^ 31 by decide) (show 40 * s3 + b + k < 160 by omega), inb_y (show 40 < 2 ^ 31 by decide) (show k < 40 by omega), gd_t, gd_t, nI_clamp (show k < 2 ^ 31 by omega), nI_clamp (show 40 * s3 + b + k < 2 ^ 31 by omega), nI_1]
    obtain ⟨x', e1, e2⟩ := ih n (k + 1) (upd xcel (40 * s3 + b + k) (car k)) (by omega) (by omega)
    refine ⟨x', e1, fun q => ?_⟩
    rw [e2]
    by_cases e : q = 40 * s3 + b + k
    · subst e
      rw [if_neg (by omega), if_pos (by omega), upd_s]
      congr 1
      omega
    · rw [upd_n e]
      by_cases c : 40 * s3 + b + k ≤ q ∧ q < 40 * s3 + b + l
      · rw [if_pos c, if_pos (by omega)]
      · rw [if_neg c, if_neg (by omega)]
theorem op_copy {xf fd xwid xsiz xcel xcar shb shz : Nat → Int32} {shn : Nat → Nat → Int32} (hS : RelS shn shb shz xwid xsiz xcel) (hF : RelF fd xf) (v1 v2 v3 v4 v5 : Int32) : ∃ r shn' fd' xf' xcel' xcar', f4_copy shn shb shz fd v1 v2 v3 v4 v5 = some (r, shn', fd') ∧ f5_copy xf xwid xsiz xcel xcar v1 v2 v3 v4 v5 = some (r, xf', xcel', xcar') ∧ RelS shn' shb shz xwid xsiz xcel' ∧ RelF fd' xf' := by
  have no : ∀ k, k < 7 → ∃ r shn' fd' xf' xcel' xcar', ob2 (f4_found fd (nI k)) (fun r fd_7 => some (r, shn, fd_7)) = some (r, shn', fd') ∧ ob2 (f5_no xf (nI k)) (fun r x => some (r, x, xcel, xcar)) = some (r, xf', xcel', xcar') ∧ RelS shn' shb shz xwid xsiz xcel' ∧ RelF fd' xf' := by
    intro k hk
    obtain ⟨r, fd', xf', n1, n2, n3⟩ := no_ok hF hk
    exact ⟨r, shn, fd', xf', xcel, xcar, by rw [n1]; rfl, by rw [n2]; rfl, hS, n3⟩
  unfold f4_copy f5_copy
  rcases isSh v1 with ⟨q1, q2⟩ | ⟨s, rfl, hs, q1, q2⟩
  · simp only [q1, q2, i0, reduceIte]; exact no 0 (by decide)
  simp only [q1, q2, i1, reduceIte]
  rcases isSh v3 with ⟨q1, q2⟩ | ⟨t, rfl, ht, q1, q2⟩
  · simp only [q1, q2, i0, reduceIte]; exact no 0 (by decide)
  simp only [q1, q2, i1, reduceIte]
  simp only [inb_y (show 4 < 2 ^ 31 by decide) hs, inb_y (show 4 < 2 ^ 31 by decide) ht, gd_t, nI_clamp (show s < 2 ^ 31 by omega), nI_clamp (show t < 2 ^ 31 by omega), miss, ← hS.1 s hs, ← hS.1 t ht]
  by_cases c : shb s = 0
  · simp only [if_pos c, i1]; exact no 5 (by decide)
  by_cases d : shb t = 0
  · simp only [if_neg c, if_pos d, i0, i1]; exact no 5 (by decide)
  simp only [if_neg c, if_neg d, i0]
  by_cases e : shb s = shb t
  case neg => simp only [if_neg e]; exact no 2 (by decide)
  simp only [if_pos e]
  obtain ⟨n, hn, e1, e2⟩ := hS.2.1 s hs
  obtain ⟨w, hw, e3, e4⟩ := hS.2.1 t ht
  unfold f1_hasPart
  rw [e1, e2, e3, e4]
  by_cases g2 : v2 < 0
  · simp only [if_pos g2, i0]
    by_cases g5 : v5 < 0
    · simp only [if_pos g5]; exact no 0 (by decide)
    · simp only [if_neg g5]; exact no 0 (by decide)
  by_cases g5 : v5 < 0
  · simp only [if_neg g2, if_pos g5, i0]; exact no 0 (by decide)
  simp only [if_neg g2, if_neg g5]
  by_cases g4 : v4 < 0
  · simp only [if_pos g4, i0]
    by_cases g : nI n - v2 < v5
    · simp only [if_pos g, i0]; exact no 0 (by decide)
    · simp only [if_neg g, i1]; exact no 0 (by decide)
  simp only [if_neg g4]
  obtain ⟨l, hl, rfl⟩ := nI_of g5
  obtain ⟨a, ha, rfl⟩ := nI_of g2
  obtain ⟨b, hb, rfl⟩ := nI_of g4
  have sl : ∀ x y z : Nat, x ≤ 40 → y < 2 ^ 31 → z < 2 ^ 31 → (nI x - nI y < nI z ↔ x < y + z) := by
    intro x y z hx hy hz
    rw [Int32.lt_iff_toInt_lt, Int32.toInt_sub, nI_toInt (by omega), nI_toInt hy, nI_toInt hz]
    rw [Int.bmod_eq_of_le (by omega) (by omega)]
    omega
  have k1 : (nI n - nI a < nI l) ↔ n < a + l := sl n a l hn ha hl
  have k2 : (nI n - nI l < nI a) ↔ n < a + l := by rw [sl n l a hn hl ha]; omega
  have k3 : (nI w - nI b < nI l) ↔ w < b + l := sl w b l hw hb hl
  have k4 : (nI b ≤ nI w - nI l) ↔ ¬ (w < b + l) := by
    rw [← Int32.not_lt, sl w l b hw hl hb]; omega
  simp only [k1, k2, k3, k4]
  by_cases g : n < a + l
  · simp only [if_pos g, i0]; exact no 0 (by decide)
  simp only [if_neg g, i1]
  by_cases g' : w < b + l
  · simp only [if_pos g', i0, if_neg (show ¬ ¬ w < b + l from fun q => q g')]; exact no 0 (by decide)
  simp only [if_neg g', i1, if_pos g']
  obtain ⟨car', p1, p2⟩ := car_loop (xf := xf) (xwid := xwid) (xsiz := xsiz) (xcel := xcel) (s3 := t) (b := b) hs (show a + l ≤ 40 by omega) _ (fun c => rfl) l 1000 0 xcar (by omega) (by omega) (fun j hj => by omega)
  obtain ⟨x', p3, p4⟩ := cel_loop (xf := xf) (xwid := xwid) (xsiz := xsiz) (car := car') ht (show b + l ≤ 40 by omega) l 1000 0 xcel (by omega) (by omega)
  have hc : cpok (nI a) (nI b) (nI l) 40 40 = true := by
    unfold cpok
    rw [nI_clamp ha, nI_clamp hb, nI_clamp hl]
    exact decide_eq_true ⟨nI_pos ha, nI_pos hb, nI_pos hl, by omega, by omega⟩
  rw [hc, gd_t, nI_clamp ha, nI_clamp hb, nI_clamp hl]
  refine ⟨nI l, _, fd, xf, x', car', rfl, p1.trans p3, ⟨hS.1, hS.2.1, fun s' i' hs' hi' => ?_⟩, hF⟩
  rw [p4]
  unfold updR va_cpy
  by_cases e : s' = t
  · subst e
    rw [if_pos rfl]
    by_cases c : b ≤ i' ∧ i' < b + l
    · rw [if_pos c, if_pos (by omega), p2 _ (by omega), hS.2.2 s _ hs (by omega)]
      congr 1
      omega
    · rw [if_neg c, if_neg (by omega)]; exact hS.2.2 _ _ hs' hi'
  · rw [if_neg e, if_neg (by omega)]; exact hS.2.2 _ _ hs' hi'
theorem load_loop {xf fd xwid xsiz xcel shb shz st : Nat → Int32} {shn tr : Nat → Nat → Int32} {sp : Nat → Int32} {vis day z : Int32} {s L N : Nat} (hs : s < 4) (hL : L ≤ 40) (hx : xsiz s = nI L) (hC : Cel shn xcel) : ∀ (m n k : Nat) (xs hp : Nat → Int32), k + m = min L 16 → m < n → PitOK xs hp st tr sp vis day z → ∃ r xs' hp', l4_load_46 n hp shn shb shz fd s (nI (min L 16)) (nI k) = some (r, hp', fd) ∧ l5_load_18 n xs xf xwid xsiz xcel (nI s) (nI k) = some (r, xs', xf) ∧ PitOK xs' hp' st tr sp vis day z := by
  intro m
  induction m with
  | zero =>
    intro n k xs hp hk hn h
    obtain ⟨n, rfl⟩ : ∃ q, n = q + 1 := ⟨n - 1, by omega⟩
    obtain rfl : k = min L 16 := by omega
    refine ⟨nI (min L 16), xs, hp, ?_, ?_, h⟩
    · rw [l4_load_46, if_pos (nI_le (by omega) (by omega))]
    · rw [l5_load_18, inb_y (show 4 < 2 ^ 31 by decide) hs, gd_t, nI_clamp (show s < 2 ^ 31 by omega), hx, li 16]
      by_cases q : L ≤ 16
      · rw [if_pos (nI_le (by omega) (by omega))]
      · rw [if_neg (fun p => by have := (nI_leI (by omega) (by omega)).mp p; omega), if_pos (nI_le (by omega) (by omega))]
  | succ m ih =>
    intro n k xs hp hk hn h
    obtain ⟨n, rfl⟩ : ∃ q, n = q + 1 := ⟨n - 1, by omega⟩
    have h1 : ¬ (nI (min L 16) ≤ nI k) := fun q => by have := (nI_leI (by omega) (by omega)).mp q; omega
    have h2 : ¬ (nI L ≤ nI k) := fun q => by have := (nI_leI (by omega) (by omega)).mp q; omega
    have h3 : ¬ (nI 16 ≤ nI k) := fun q => by have := (nI_leI (by omega) (by omega)).mp q; omega
    rw [l4_load_46, if_neg h1, l5_load_18, inb_y (show 4 < 2 ^ 31 by decide) hs, gd_t, nI_clamp (show s < 2 ^ 31 by omega), hx, li 16, if_neg h2, if_neg h3, inb_y (show 40 < 2 ^ 31 by decide) (show k < 40 by omega), inb_y (show 16 < 2 ^ 31 by decide) (show k < 16 by omega), nI_clamp (show k < 2 ^ 31 by omega), gd_t, gd_t, gd_t]
    unfold f5_told
    rw [li 40, li 6, pk_mul, nI_add, nI_add, inb_y (show 160 < 2 ^ 31 by decide) (show 40 * s + k < 160 by omega), gd_t, nI_clamp (show 40 * s + k < 2 ^ 31 by omega), ob1_so, in54, ob1_so, ← hC s k hs (by omega), inb_y (show 88 < 2 ^ 31 by decide) (show 6 + k < 88 by omega), gd_t, nI_clamp (show 6 + k < 2 ^ 31 by omega)]
    rcases inC (shn s k) (a := 0) (b := 30) (by decide) (by decide) with q | ⟨x, ex, -, hx, q⟩
    · have q : f4_within (shn s k) 0 30 = 0 := q
      rw [if_pos q, if_pos q]; exact ⟨_, xs, hp, rfl, rfl, h⟩
    · have q' : ¬ f4_within (shn s k) 0 30 = 0 := fun p => ne10 (q.symm.trans p)
      rw [if_neg q', if_neg q', ex, nI_1]
      refine ih n (k + 1) _ _ (by omega) (by omega) ?_
      obtain ⟨N, e1, r2, r3, r4⟩ := h
      refine ⟨N, e1, r2.hp (by omega) _, ⟨fun j hj => ?_, r3.2⟩, r4⟩
      by_cases e : j = k
      · subst e; rw [upd_s]; exact Bt.of (by omega) (by omega) (by omega)
      · rw [upd_n e]; exact r3.1 j hj
theorem op_load {xs hp st xf fd xwid xsiz xcel shb shz : Nat → Int32} {tr shn : Nat → Nat → Int32} {sp : Nat → Int32} {vis day z : Int32} (hP : PitOK xs hp st tr sp vis day z) (hS : RelS shn shb shz xwid xsiz xcel) (hF : RelF fd xf) (v1 : Int32) : ∃ r hp' fd' xs' xf', f4_load hp shn shb shz fd v1 = some (r, hp', fd') ∧ f5_load xs xf xwid xsiz xcel v1 = some (r, xs', xf') ∧ PitOK xs' hp' st tr sp vis day z ∧ RelF fd' xf' := by
  have no : ∀ k, k < 7 → ∃ r hp' fd' xs' xf', ob2 (f4_found fd (nI k)) (fun r fd_7 => some (r, hp, fd_7)) = some (r, hp', fd') ∧ ob2 (f5_no xf (nI k)) (fun r x => some (r, xs, x)) = some (r, xs', xf') ∧ PitOK xs' hp' st tr sp vis day z ∧ RelF fd' xf' := by
    intro k hk
    obtain ⟨r, fd', xf', n1, n2, n3⟩ := no_ok hF hk
    exact ⟨r, hp, fd', xs, xf', by rw [n1]; rfl, by rw [n2]; rfl, hP, n3⟩
  unfold f4_load f5_load f5_wrongSheet
  rcases isSh v1 with ⟨q1, q2⟩ | ⟨s, rfl, hs, q1, q2⟩
  · simp only [q1, q2, i0, reduceIte, ob1_so, if_neg (show ¬ (0 : Int32) < 0 by decide)]; exact no 0 (by decide)
  simp only [q1, q2, i1, reduceIte]
  rw [inb_y (show 4 < 2 ^ 31 by decide) hs, gd_t, gd_t, nI_clamp (by omega), miss, ← hS.1 s hs]
  by_cases c : shb s = 0
  · simp only [if_pos c, ob1_so, i1, if_neg (show ¬ (5 : Int32) < 0 by decide)]; exact no 5 (by decide)
  simp only [if_neg c, ob1_so, i0, if_pos (show (-1 : Int32) < 0 by decide)]
  obtain ⟨n, hn, e1, e2⟩ := hS.2.1 s hs
  obtain ⟨r, xs', hp', p1, p2, p3⟩ := load_loop (N := 0) (xf := xf) (fd := fd) (xwid := xwid) (shb := shb) (shz := shz) hs hn e2 hS.2.2 (min n 16) 1000 0 xs hp (by omega) (by omega) hP
  rw [e1, li 16, jmin_n (by omega) (by omega)]
  exact ⟨r, hp', fd, xs', xf, p1, p2, p3, hF⟩
theorem judge_loop {xs hp st xf fd xwid xsiz xcel shb shz : Nat → Int32} {shn tr : Nat → Nat → Int32} {sp : Nat → Int32} {day z : Int32} {s L N : Nat} (hs : s < 4) (hL : L ≤ 40) (hx : xsiz s = nI L) (hz : shz s = nI L) (hC : Cel shn xcel) (hr : Row xs hp st tr sp (nI N) day z) (hN : N ≤ 8) : ∀ (m n k : Nat), k + m = L → m < n → ∃ r, l4_judge_35 n tr (nI N) shn shb shz fd s (nI k) = some (r, fd) ∧ l5_judge_18 n xs xf xwid xsiz xcel (nI s) (nI k) = some (r, xf) := by
  intro m
  induction m with
  | zero =>
    intro n k hk hn
    obtain ⟨n, rfl⟩ : ∃ q, n = q + 1 := ⟨n - 1, by omega⟩
    refine ⟨0, ?_, ?_⟩
    · rw [l4_judge_35, hz, if_pos (nI_le (by omega) (by omega))]
    · rw [l5_judge_18, inb_y (show 4 < 2 ^ 31 by decide) hs, gd_t, nI_clamp (show s < 2 ^ 31 by omega), hx, if_pos (nI_le (by omega) (by omega))]
  | succ m ih =>
    intro n k hk hn
    obtain ⟨n, rfl⟩ : ∃ q, n = q + 1 := ⟨n - 1, by omega⟩
    have h2 : ¬ (nI L ≤ nI k) := fun q => by have := (nI_leI (by omega) (by omega)).mp q; omega
    rw [l4_judge_35, hz, if_neg h2, l5_judge_18, inb_y (show 4 < 2 ^ 31 by decide) hs, gd_t, nI_clamp (show s < 2 ^ 31 by omega), hx, if_neg h2]
    rcases visC hr.2.2.2.2.1 hN (nI k) with ⟨q1, q2⟩ | ⟨v, ev, hv, q1, q2⟩
    · rw [if_pos q1, if_pos q2]; exact ⟨_, rfl, rfl⟩
    have hkv : k = v := (nI_eq (by omega) (by omega)).mp ev
    subst hkv
    rw [if_neg (fun p => ne10 (q1.symm.trans p)), if_neg (fun p => ne10 (q2.symm.trans p)), inb_y (show 8 < 2 ^ 31 by decide) (show k < 8 by omega), inb_y (show 40 < 2 ^ 31 by decide) (show k < 40 by omega), gd_t, gd_t, nI_clamp (show k < 2 ^ 31 by omega), li 6, g5 xs (show k < 8 by omega) (by decide), hr.2.2.1 6 k (by decide) (by omega), ob1_so]
    unfold f5_told
    rw [li 40, pk_mul, nI_add, inb_y (show 160 < 2 ^ 31 by decide) (show 40 * s + k < 160 by omega), gd_t, nI_clamp (show 40 * s + k < 2 ^ 31 by omega), ob1_so, ← hC s k hs (by omega), nI_1]
    by_cases e : tr 6 k = shn s k
    · rw [if_pos e, if_pos e]; exact ih n (k + 1) (by omega) (by omega)
    · rw [if_neg e, if_neg e]; exact ⟨_, rfl, rfl⟩
theorem op_judge {xs hp st xf fd xwid xsiz xcel shb shz : Nat → Int32} {tr shn : Nat → Nat → Int32} {sp : Nat → Int32} {vis day z : Int32} (hP : PitOK xs hp st tr sp vis day z) (hS : RelS shn shb shz xwid xsiz xcel) (hF : RelF fd xf) (v1 : Int32) : ∃ r fd' xf', f4_judge tr vis shn shb shz fd v1 = some (r, fd') ∧ f5_judge xs xf xwid xsiz xcel v1 = some (r, xf') ∧ RelF fd' xf' := by
  have no : ∀ k, k < 7 → ∃ r fd' xf', ob2 (f4_found fd (nI k)) (fun r fd_7 => some (r, fd_7)) = some (r, fd') ∧ ob2 (f5_no xf (nI k)) (fun r x => some (r, x)) = some (r, xf') ∧ RelF fd' xf' := by
    intro k hk
    obtain ⟨r, fd', xf', n1, n2, n3⟩ := no_ok hF hk
    exact ⟨r, fd', xf', by rw [n1]; rfl, by rw [n2]; rfl, n3⟩
  unfold f4_judge f5_judge f5_wrongSheet
  rcases isSh v1 with ⟨q1, q2⟩ | ⟨s, rfl, hs, q1, q2⟩
  · simp only [q1, q2, i0, reduceIte, ob1_so, if_neg (show ¬ (0 : Int32) < 0 by decide)]; exact no 0 (by decide)
  simp only [q1, q2, i1, reduceIte]
  rw [inb_y (show 4 < 2 ^ 31 by decide) hs, gd_t, gd_t, nI_clamp (by omega), miss, ← hS.1 s hs]
  by_cases c : shb s = 0
  · simp only [if_pos c, ob1_so, i1, if_neg (show ¬ (5 : Int32) < 0 by decide)]; exact no 5 (by decide)
  simp only [if_neg c, ob1_so, i0, if_pos (show (-1 : Int32) < 0 by decide)]
  obtain ⟨n, hn, e1, e2⟩ := hS.2.1 s hs
  obtain ⟨N, rfl, h2, h3, h4⟩ := hP
  obtain ⟨r, p1, p2⟩ := judge_loop (xf := xf) (fd := fd) (xwid := xwid) (shb := shb) hs hn e2 e1 hS.2.2 h2 h3.2.2.2.2.1 n 1000 0 (by omega) (by omega)
  exact ⟨r, fd, xf, p1, p2, hF⟩
/-- the tape, on both sides -/
def RelT (tb : Nat → Int32) (tl : Int32) (xtape : Nat → Int32) (xtaped : Int32) : Prop := ∃ L, L ≤ 120 ∧ tl = nI L ∧ xtaped = nI L ∧ ∀ k, k < L → ∃ b, b < 256 ∧ xtape k = nI b ∧ tb k = (nI b).toInt8.toInt32
theorem byte_and (v : Int32) : (v &&& 255).toInt8 = v.toInt8 := by
  rw [← Int8.toBitVec_inj, Int32.toBitVec_toInt8, Int32.toBitVec_toInt8, Int32.toBitVec_and]
  refine BitVec.eq_of_getLsbD_eq fun i hi => ?_
  rw [BitVec.getLsbD_signExtend, BitVec.getLsbD_signExtend, BitVec.getLsbD_and]
  have : ∀ i, i < 8 → (255 : Int32).toBitVec.getLsbD i = true := by decide
  rw [if_pos (by omega), if_pos (by omega), this i hi, Bool.and_true]
theorem byte_nat (v : Int32) : ∃ b, b < 256 ∧ v &&& 255 = nI b := by
  refine ⟨(v &&& 255).toBitVec.toNat, ?_, ?_⟩
  · rw [Int32.toBitVec_and, BitVec.toNat_and]
    have h : (255 : Int32).toBitVec.toNat = 255 := by decide
    rw [h]
    exact Nat.lt_succ_of_le Nat.and_le_right
  · rw [← Int32.toBitVec_inj]
    unfold nI
    rw [Int32.toBitVec_ofNat']
    exact (BitVec.ofNat_toNat ..).symm ▸ (by simp)
theorem feed_loop {xf : Nat → Int32} (v1 : Int32) : ∀ (m n L : Nat) (tb xt : Nat → Int32), L + m ≤ 120 → m < n → (∀ k, k < L → ∃ b, b < 256 ∧ xt k = nI b ∧ tb k = (nI b).toInt8.toInt32) → ∃ tb' xt', l2_append_4 n tb (nI L) v1 (nI m - 1) = some (tb', nI (L + m)) ∧ l5_feed_36 n xf xt (nI L) v1 (nI m - 1) = some (nI (L + m), xf, xt', nI (L + m)) ∧ ∀ k, k < L + m → ∃ b, b < 256 ∧ xt' k = nI b ∧ tb' k = (nI b).toInt8.toInt32 := by
  intro m
  induction m with
  | zero =>
    intro n L tb xt hL hn h
    obtain ⟨n, rfl⟩ : ∃ q, n = q + 1 := ⟨n - 1, by omega⟩
    refine ⟨tb, xt, ?_, ?_, h⟩
    · rw [l2_append_4, if_pos (by decide)]; rfl
    · rw [l5_feed_36, if_pos (by decide)]; rfl
  | succ m ih =>
    intro n L tb xt hL hn h
    obtain ⟨n, rfl⟩ : ∃ q, n = q + 1 := ⟨n - 1, by omega⟩
    have e : nI (m + 1) - 1 = nI m := by rw [nsub1 (by omega)]; rfl
    have h1 : ¬ (nI 120 ≤ nI L) := fun q => by have := (nI_leI (by omega) (by omega)).mp q; omega
    have e' : nI m + -1 = nI m - 1 := (Int32.sub_eq_add_neg _ _).symm
    rw [e, l2_append_4, if_neg (nI_pos (by omega)), l5_feed_36, if_neg (nI_pos (by omega)), li 120, if_neg h1, inb_y (show 120 < 2 ^ 31 by decide) (show L < 120 by omega), gd_t, gd_t, nI_clamp (by omega), nI_1, e', vp_nar_byte]
    obtain ⟨b, hb, eb⟩ := byte_nat (v1 >>> ((8 * nI m) &&& 31))
    obtain ⟨tb', xt', p1, p2, p3⟩ := ih n (L + 1) _ _ (by omega) (by omega) (fun k hk => (show ∃ b, b < 256 ∧ upd xt L ((v1 >>> ((8 * nI m) &&& 31)) &&& 255) k = nI b ∧ upd tb L ((v1 >>> ((8 * nI m) &&& 31)).toInt8.toInt32.toInt8.toInt32) k = (nI b).toInt8.toInt32 by
      by_cases q : k = L
      · subst q
        rw [upd_s, upd_s]
        refine ⟨b, hb, eb, ?_⟩
        rw [← eb, byte_and, Int8.toInt8_toInt32]
      · rw [upd_n q, upd_n q]; exact h k (by omega)))
    refine ⟨tb', xt', ?_, ?_, fun k hk => p3 k (by omega)⟩
    · rw [p1]; congr 3; omega
    · rw [p2, show L + 1 + m = L + (m + 1) by omega]
theorem op_feed {xf fd tb xt : Nat → Int32} {tl xtd : Int32} (hT : RelT tb tl xt xtd) (hF : RelF fd xf) (v1 v2 : Int32) : ∃ r tb' tl' fd' xf' xt' xtd', f4_feed tb tl fd v1 v2 = some (r, tb', tl', fd') ∧ f5_feed xf xt xtd v1 v2 = some (r, xf', xt', xtd') ∧ RelT tb' tl' xt' xtd' ∧ RelF fd' xf' := by
  have no : ∀ k, k < 7 → ∃ r tb' tl' fd' xf' xt' xtd', ob2 (f4_found fd (nI k)) (fun r fd_7 => some (r, tb, tl, fd_7)) = some (r, tb', tl', fd') ∧ ob2 (f5_no xf (nI k)) (fun r x => some (r, x, xt, xtd)) = some (r, xf', xt', xtd') ∧ RelT tb' tl' xt' xtd' ∧ RelF fd' xf' := by
    intro k hk
    obtain ⟨r, fd', xf', n1, n2, n3⟩ := no_ok hF hk
    exact ⟨r, tb, tl, fd', xf', xt, xtd, by rw [n1]; rfl, by rw [n2]; rfl, hT, n3⟩
  unfold f4_feed f5_feed
  rw [in54]
  rcases inC v2 (a := 1) (b := 4) (by decide) (by decide) with h | ⟨m, rfl, hm1, hm4, h⟩
  · have h : f4_within v2 1 4 = 0 := h
    rw [if_pos h, if_pos h]; exact no 0 (by decide)
  have h : ¬ f4_within (nI m) 1 4 = 0 := fun p => ne10 ((show f4_within (nI m) 1 4 = 1 from h).symm.trans p)
  rw [if_neg h, if_neg h]
  obtain ⟨L, hL, rfl, rfl, hk⟩ := id hT
  rw [nI_add, li 120]
  by_cases c : L + m ≤ 120
  · rw [if_pos (nI_le c (by omega)), if_pos (nI_le c (by omega))]
    obtain ⟨tb', xt', p1, p2, p3⟩ := feed_loop (xf := xf) v1 m 1000 L tb xt c (by omega) hk
    unfold f2_append
    rw [p1, p2]
    exact ⟨_, tb', _, fd, xf, xt', _, rfl, rfl, ⟨L + m, c, rfl, rfl, p3⟩, hF⟩
  · have c' : ¬ nI (L + m) ≤ nI 120 := fun q => c ((nI_leI (by omega) (by omega)).mp q)
    rw [if_neg c', if_neg c']; exact no 1 (by decide)
theorem op_wipe {tb xt : Nat → Int32} {tl xtd : Int32} (hT : RelT tb tl xt xtd) : ∃ r tl' xtd', f4_wipe tl = some (r, tl') ∧ f5_wipe xtd = some (r, xtd') ∧ RelT tb tl' xt xtd' := by
  obtain ⟨L, hL, rfl, rfl, hk⟩ := hT
  exact ⟨nI L, 0, 0, rfl, rfl, ⟨0, by omega, rfl, rfl, fun k hk => by omega⟩⟩
