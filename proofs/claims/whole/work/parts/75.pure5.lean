/-! sand slides, on both sides -/
def oR (h : Nat → Nat) (w c : Nat) : Bool := decide (c < 15) && decide (h (c + 1) + (w + 2) < h c)
def oL (h : Nat → Nat) (w c : Nat) : Bool := decide (0 < c) && decide (h (c - 1) + (w + 2) < h c)
def nb (b : Bool) : Nat := if b = true then 1 else 0
theorem nb_bi (b : Bool) : nI (nb b) = bi b := by cases b <;> rfl
theorem nb_t : nb true = 1 := rfl
theorem nb_f : nb false = 0 := rfl
theorem cell5 {c : Nat} (hc : c < 2 ^ 31) : f5_isCell (nI c) = bi (decide (c < 16)) := by
  unfold f5_isCell
  rw [in5, li 15]
  by_cases h : c < 16
  · rw [if_pos ⟨nI_pos' hc, nI_le (by omega) (by omega)⟩]; simp [h, bi]
  · rw [if_neg (fun q => by have := (nI_leI hc (by decide)).mp q.2; omega)]; simp [h, bi]
theorem nb_le (b : Bool) : nb b ≤ 1 := by cases b <;> decide
def inR (h : Nat → Nat) (w c : Nat) : Nat := nb (decide (0 < c) && oR h w (c - 1))
def inL (h : Nat → Nat) (w c : Nat) : Nat := nb (oL h w (c + 1))
def FR (h : Nat → Nat) (w c : Nat) : Nat := h c + inR h w c - nb (oR h w c)
def FL (h : Nat → Nat) (w c : Nat) : Nat := h c + (if c < 15 then inL h w c else 0) - nb (oL h w c)
theorem oR_pos {h : Nat → Nat} {w c : Nat} (q : oR h w c = true) : 1 ≤ h c ∧ h (c + 1) + (w + 2) < h c ∧ c < 15 := by
  simp [oR] at q; omega
theorem oL_pos {h : Nat → Nat} {w c : Nat} (q : oL h w c = true) : 1 ≤ h c ∧ h (c - 1) + (w + 2) < h c ∧ 0 < c := by
  simp [oL] at q; omega
theorem FR_le {h : Nat → Nat} {w c : Nat} (hc : c < 16) (hb : ∀ c, c < 16 → h c ≤ 30) : FR h w c ≤ 30 := by
  unfold FR inR
  cases e : (decide (0 < c) && oR h w (c - 1)) with
  | false => have := hb c hc; rw [nb_f]; omega
  | true =>
    simp at e
    have h1 := oR_pos e.2
    have h2 := hb (c - 1) (by omega)
    rw [show c - 1 + 1 = c by omega] at h1
    rw [nb_t]; omega
theorem FL_le {h : Nat → Nat} {w c : Nat} (hc : c < 16) (hb : ∀ c, c < 16 → h c ≤ 30) : FL h w c ≤ 30 := by
  unfold FL inL
  by_cases e15 : c < 15
  · rw [if_pos e15]
    cases e : oL h w (c + 1) with
    | false => have := hb c hc; rw [nb_f]; omega
    | true =>
      have h1 := oL_pos e
      have h2 := hb (c + 1) (by omega)
      rw [show c + 1 - 1 = c by omega] at h1
      rw [nb_t]; omega
  · rw [if_neg e15]; have := hb c hc; omega
theorem sub3 (a b c : Int32) : a + (b - c) = a + b - c := by rw [Int32.sub_eq_add_neg, Int32.sub_eq_add_neg, Int32.add_assoc]
/-- the reference: what goes over to the next cell -/
theorem overR {xs : Nat → Int32} {h : Nat → Nat} {w : Nat} (hx : ∀ c, c < 16 → xs (6 + c) = nI (h c)) (hw : xs 5 = nI w) (hb : ∀ c, c < 16 → h c ≤ 30) (hw9 : w ≤ 9) : ∀ (m n c : Nat) (ov : Nat → Int32), c + m = 16 → m < n → (∀ j, j < c → ov j = bi (oR h w j)) → ∃ ov', (∀ j, j < 16 → ov' j = bi (oR h w j)) ∧ l5_slides_2 n xs ov 1 (nI c) = l5_slides_68 1000 xs ov' 1 0 := by
  intro m
  induction m with
  | zero =>
    intro n c ov hc hn ho
    obtain ⟨n, rfl⟩ : ∃ k, n = k + 1 := ⟨n - 1, by omega⟩
    refine ⟨ov, fun j hj => ho j (by omega), ?_⟩
    rw [l5_slides_2, li 16, if_pos ((nI_leI (by omega) (by omega)).mpr (by omega))]
  | succ m ih =>
    intro n c ov hc hn ho
    obtain ⟨n, rfl⟩ : ∃ k, n = k + 1 := ⟨n - 1, by omega⟩
    have key : ∀ b : Bool, b = oR h w c → ∃ ov', (∀ j, j < 16 → ov' j = bi (oR h w j)) ∧ j5_slides_59 (l5_slides_2 n) xs ov 1 (nI c) (nI c) (bi b) = l5_slides_68 1000 xs ov' 1 0 := by
      intro b hbq
      obtain ⟨ov', h1, h2⟩ := ih n (c + 1) (upd ov c (bi b)) (by omega) (by omega) (fun j hj => by
        by_cases e : j = c
        · subst e; rw [upd_s, hbq]
        · rw [upd_n e]; exact ho j (by omega))
      refine ⟨ov', h1, ?_⟩
      unfold j5_slides_59
      rw [inb_y (show 16 < 2 ^ 31 by decide) (show c < 16 by omega), gd_t, nI_clamp (by omega), nI_1]
      exact h2
    have k0 := key false
    have k1 := key true
    rw [bi_f] at k0
    rw [bi_t] at k1
    rw [l5_slides_2, li 16, if_neg (fun q => by have := (nI_leI (by omega) (by omega)).mp q; omega), nI_1]
    unfold j5_slides_58
    rw [cell5 (by omega)]
    by_cases e15 : c < 15
    · rw [show decide (c + 1 < 16) = true by simp; omega, bi_t, if_neg (by decide), li 6, nI_add, nI_1, inb_y (show 88 < 2 ^ 31 by decide) (show 6 + c < 88 by omega), gd_t, inb_y (show 88 < 2 ^ 31 by decide) (show 6 + c + 1 < 88 by omega), gd_t, nI_clamp (by omega), nI_clamp (by omega), hx c (by omega), show 6 + c + 1 = 6 + (c + 1) by omega, hx (c + 1) (by omega), hw, nI_add, li 2, nI_add]
      have := hb c (by omega)
      have := hb (c + 1) (by omega)
      by_cases e : h c ≤ h (c + 1) + w + 2
      · rw [if_pos (nI_le e (by omega))]
        exact k0 (by simp [oR, e15]; omega)
      · rw [if_neg (fun q => e ((nI_leI (by omega) (by omega)).mp q))]
        exact k1 (by simp [oR, e15]; omega)
    · rw [show decide (c + 1 < 16) = false by simp; omega, bi_f, if_pos rfl]
      exact k0 (by simp [oR, e15])
/-- the reference: it goes over -/
theorem goR {xs0 : Nat → Int32} {h : Nat → Nat} {w : Nat} {ov : Nat → Int32} (ho : ∀ j, j < 16 → ov j = bi (oR h w j)) (hb : ∀ c, c < 16 → h c ≤ 30) : ∀ (m n c : Nat) (xs : Nat → Int32), c + m = 16 → m < n → (∀ j, j < 16 → xs (6 + j) = nI (if j < c then FR h w j else if j = c then h c + inR h w c else h j)) → (∀ k, k < 6 ∨ 22 ≤ k → xs k = xs0 k) → ∃ xs', l5_slides_68 n xs ov 1 (nI c) = some (xs', ov) ∧ (∀ j, j < 16 → xs' (6 + j) = nI (FR h w j)) ∧ (∀ k, k < 6 ∨ 22 ≤ k → xs' k = xs0 k) := by
  intro m
  induction m with
  | zero =>
    intro n c xs hc hn hx hk
    obtain ⟨n, rfl⟩ : ∃ k, n = k + 1 := ⟨n - 1, by omega⟩
    refine ⟨xs, ?_, fun j hj => ?_, hk⟩
    · rw [l5_slides_68, li 16, if_pos ((nI_leI (by omega) (by omega)).mpr (by omega))]
    · rw [hx j hj, if_pos (by omega)]
  | succ m ih =>
    intro n c xs hc hn hx hk
    obtain ⟨n, rfl⟩ : ∃ k, n = k + 1 := ⟨n - 1, by omega⟩
    rw [l5_slides_68, li 16, if_neg (fun q => by have := (nI_leI (by omega) (by omega)).mp q; omega), inb_y (show 16 < 2 ^ 31 by decide) (show c < 16 by omega), gd_t, nI_clamp (by omega), ho c (by omega)]
    unfold j5_slides_112
    rw [nI_1]
    have hin : inR h w (c + 1) = nb (oR h w c) := by simp [inR]
    cases e : oR h w c with
    | false =>
      rw [bi_f, if_neg (by decide)]
      refine ih n (c + 1) xs (by omega) (by omega) (fun j hj => ?_) hk
      rw [hx j hj]
      congr 1
      rcases Nat.lt_trichotomy j c with q | q | q
      · rw [if_pos q, if_pos (by omega)]
      · subst q; rw [if_neg (by omega), if_pos rfl, if_pos (by omega)]; simp [FR, e, nb]
      · rw [if_neg (by omega), if_neg (by omega), if_neg (by omega)]
        by_cases q2 : j = c + 1
        · subst q2; rw [if_pos rfl, hin, e]; simp [nb]
        · rw [if_neg q2]
    | true =>
      have hp := oR_pos e
      rw [bi_t, if_pos rfl, li 6, li 1, nI_add, nI_add, inb_y (show 88 < 2 ^ 31 by decide) (show 6 + c < 88 by omega), gd_t, gd_t, inb_y (show 88 < 2 ^ 31 by decide) (show 6 + c + 1 < 88 by omega), gd_t, gd_t, nI_clamp (by omega), nI_clamp (by omega), upd_n (show 6 + c + 1 ≠ 6 + c by omega), hx c (by omega), show 6 + c + 1 = 6 + (c + 1) by omega, hx (c + 1) (by omega), if_neg (by omega), if_pos rfl, if_neg (by omega), if_neg (by omega), pk_sub (by omega), nI_add]
      refine ih n (c + 1) _ (by omega) (by omega) (fun j hj => ?_) (fun k hk2 => by rw [upd_n (by omega), upd_n (by omega)]; exact hk k hk2)
      rcases Nat.lt_trichotomy j c with q | q | q
      · rw [upd_n (by omega), upd_n (by omega), hx j hj, if_pos q, if_pos (by omega)]
      · subst q; rw [upd_n (by omega), upd_s, if_pos (by omega)]; simp [FR, e, nb]
      · by_cases q2 : j = c + 1
        · subst q2; rw [upd_s, if_neg (by omega), if_pos rfl, hin, e]; simp [nb]
        · rw [upd_n (by omega), upd_n (by omega), hx j hj, if_neg (by omega), if_neg (by omega), if_neg (by omega), if_neg q2]
theorem slide5R {xs : Nat → Int32} {ov : Nat → Int32} {h : Nat → Nat} {w : Nat} (hx : ∀ c, c < 16 → xs (6 + c) = nI (h c)) (hw : xs 5 = nI w) (hb : ∀ c, c < 16 → h c ≤ 30) (hw9 : w ≤ 9) : ∃ xs' ov', f5_slides xs ov 1 = some (xs', ov') ∧ (∀ j, j < 16 → xs' (6 + j) = nI (FR h w j)) ∧ (∀ k, k < 6 ∨ 22 ≤ k → xs' k = xs k) := by
  obtain ⟨ov', h1, h2⟩ := overR hx hw hb hw9 16 1000 0 ov (by omega) (by omega) (fun j hj => by omega)
  obtain ⟨xs', h3, h4, h5⟩ := goR (xs0 := xs) h1 hb 16 1000 0 xs (by omega) (by omega) (fun j hj => by
    rw [hx j hj, if_neg (by omega)]
    by_cases e : j = 0
    · subst e; rw [if_pos rfl]; simp [inR, nb]
    · rw [if_neg e]) (fun _ _ => rfl)
  exact ⟨xs', ov', h2.trans h3, h4, h5⟩
