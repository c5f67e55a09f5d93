/-! the texts, second: words, and a whole token -/
def wb (i k : Nat) : Nat := (chS i k).toNatClampNeg
def wL (i : Nat) : Nat := lenS.getD i 0
set_option maxRecDepth 100000 in
theorem wb_fin : ∀ i, i < 15 → wL i < 10 ∧ 0 < wL i ∧ lenI i = nI (wL i) ∧ ∀ k, k < 9 → k < wL i → chS i k = nI (wb i k) ∧ 97 ≤ wb i k ∧ wb i k ≤ 122 := by decide +kernel
def wcode (i : Nat) : Nat → Nat
  | 0 => 0
  | l + 1 => wcode i l * 27 + (wb i l - 96)
theorem wcode_s (i l : Nat) : wcode i (l + 1) = wcode i l * 27 + (wb i l - 96) := rfl
def wc (i : Nat) : Nat := wcode i (wL i)
set_option maxRecDepth 100000 in
theorem wcode_fin : ∀ i, i < 15 → ∀ l, l < 10 → l ≤ wL i → wcode i l ≤ Mx := by decide +kernel
set_option maxRecDepth 100000 in
theorem wc_inj : ∀ i, i < 15 → ∀ j, j < 15 → wc i = wc j → i = j := by decide +kernel
theorem word_inj {B : Nat → Nat} {b i : Nat} (hi : i < 15) : ∀ (m l : Nat), l ≤ wL i → (∀ k, k < m → kc (B (b + k)) = 1) → (tcode B b m = wcode i l ↔ m = l ∧ ∀ k, k < l → wb i k = B (b + k)) := by
  obtain ⟨w1, w2, w3, w4⟩ := wb_fin i hi
  intro m
  induction m with
  | zero =>
    intro l hl hB
    cases l with
    | zero => exact ⟨fun _ => ⟨rfl, fun k hk => by omega⟩, fun _ => rfl⟩
    | succ l =>
      have := (w4 l (by omega) (by omega)).2
      rw [wcode_s]
      show 0 = _ ↔ _
      constructor
      · intro q; omega
      · intro q; omega
  | succ m ih =>
    intro l hl hB
    have hm := kc1.mp (hB m (by omega))
    have ih' := fun l hl => ih l hl (fun k hk => hB k (by omega))
    rw [tcode_s]
    cases l with
    | zero =>
      by_cases q : tcode B b m ≤ Mx
      · rw [if_pos q]
        show _ = 0 ↔ _
        constructor
        · intro p; omega
        · intro p; omega
      · rw [if_neg q]
        show _ = 0 ↔ _
        unfold Mx at q
        constructor
        · intro p; omega
        · intro p; omega
    | succ l =>
      have hw := (w4 l (by omega) (by omega)).2
      have i1 := ih' l (by omega)
      have hM := wcode_fin i hi (l + 1) (by omega) hl
      have hM' := wcode_fin i hi l (by omega) (by omega)
      by_cases q : tcode B b m ≤ Mx
      · rw [if_pos q, wcode_s]
        constructor
        · intro p
          have p1 : tcode B b m = wcode i l := by omega
          obtain ⟨e1, e2⟩ := i1.mp p1
          refine ⟨by omega, fun k hk => ?_⟩
          by_cases ek : k = l
          · subst ek; rw [← e1]; rw [← e1] at hw p; omega
          · exact e2 k (by omega)
        · intro ⟨e1, e2⟩
          have p1 := i1.mpr ⟨by omega, fun k hk => e2 k (by omega)⟩
          have p2 := e2 l (by omega)
          rw [p1, show m = l by omega, ← p2]
      · rw [if_neg q]
        constructor
        · intro p; omega
        · intro ⟨e1, e2⟩
          have p1 := i1.mpr ⟨by omega, fun k hk => e2 k (by omega)⟩
          omega
theorem isw_loop {tb xt : Nat → Int32} {B : Nat → Nat} {L b i : Nat} {rtok ren : Int32} (hT : Tape tb xt B L) (hi : i < 15) (hL : b + wL i ≤ L) (hB : ∀ k, b ≤ k → k < b + wL i → kc (B k) = 1) : ∀ (m n k : Nat), k + m = wL i → m < n → ∃ r : Bool, l3_isWord_28 n i tb rtok (nI b) ren (nI k) = some (bi r) ∧ (r = true ↔ ∀ j, k ≤ j → j < wL i → wb i j = B (b + j)) := by
  have hL120 := hT.1
  obtain ⟨w1, w2, w3, w4⟩ := wb_fin i hi
  intro m
  induction m with
  | zero =>
    intro n k hk hn
    obtain ⟨n, rfl⟩ : ∃ q, n = q + 1 := ⟨n - 1, by omega⟩
    refine ⟨true, ?_, ⟨fun _ j h1 h2 => by omega, fun _ => rfl⟩⟩
    rw [l3_isWord_28, w3, if_pos (nI_le (by omega) (by omega))]; rfl
  | succ m ih =>
    intro n k hk hn
    obtain ⟨n, rfl⟩ : ∃ q, n = q + 1 := ⟨n - 1, by omega⟩
    have hle : ¬ (nI (wL i) ≤ nI k) := fun q => by have := (nI_leI (by omega) (by omega)).mp q; omega
    obtain ⟨h1, h2, h3⟩ := hT.2 (b + k) (by omega)
    have hb := kc1.mp (hB (b + k) (by omega) (by omega))
    have h7 := (bt_fin (B (b + k)) h1).2.2.2.2.2.2 (by omega)
    obtain ⟨c1, c2, c3⟩ := w4 k (by omega) (by omega)
    rw [l3_isWord_28, w3, if_neg hle, nI_add, inb_y (show lenS.getD i 0 < 2 ^ 31 from by show wL i < 2 ^ 31; omega) (show k < lenS.getD i 0 from by show k < wL i; omega), gd_t, inb_y (show 120 < 2 ^ 31 by decide) (show b + k < 120 by omega), gd_t, nI_clamp (show k < 2 ^ 31 by omega), nI_clamp (show b + k < 2 ^ 31 by omega), h3, h7, c1, nI_1]
    by_cases e : wb i k = B (b + k)
    · rw [if_pos (by rw [e])]
      obtain ⟨r, r1, r2⟩ := ih n (k + 1) (by omega) (by omega)
      refine ⟨r, r1, r2.trans ⟨fun h j h1 h2 => ?_, fun h j h1 h2 => h j (by omega) h2⟩⟩
      by_cases q : j = k
      · subst q; exact e
      · exact h j (by omega) h2
    · rw [if_neg (fun q => e ((nI_eq (by omega) (by omega)).mp q))]
      refine ⟨false, rfl, ⟨fun q => absurd q (by decide), fun h => absurd (h k (by omega) (by omega)) e⟩⟩
theorem isw_ok {tb xt : Nat → Int32} {B : Nat → Nat} {L b e i : Nat} (hT : Tape tb xt B L) (hi : i < 15) (hb : b ≤ e) (he : e ≤ L) (hB : ∀ k, b ≤ k → k < e → kc (B k) = 1) : f3_isWord i tb 1 (nI b) (nI e) = some (bi (decide (tcode B b (e - b) = wc i))) := by
  have hL120 := hT.1
  obtain ⟨w1, w2, w3, w4⟩ := wb_fin i hi
  have hj := word_inj (B := B) (b := b) hi (e - b) (wL i) (by omega) (fun k hk => hB (b + k) (by omega) (by omega))
  unfold f3_isWord
  rw [if_pos rfl, w3, pk_sub hb]
  by_cases q : wL i = e - b
  · rw [if_pos (by rw [q])]
    obtain ⟨r, r1, r2⟩ := isw_loop (rtok := 1) (ren := nI e) hT hi (show b + wL i ≤ L by omega) (fun k h1 h2 => hB k h1 (by omega)) (wL i) 1000 0 (by omega) (by omega)
    rw [show l3_isWord_28 1000 i tb 1 (nI b) (nI e) 0 = _ from r1]
    congr 2
    have h : r = true ↔ tcode B b (e - b) = wc i := by
      rw [r2]
      refine Iff.trans ⟨fun h => ⟨q.symm, fun k hk => h k (by omega) hk⟩, fun h j _ h2 => h.2 j h2⟩ hj.symm
    cases r with
    | true => exact (decide_eq_true (h.mp rfl)).symm
    | false => exact (decide_eq_false (fun p => absurd (h.mpr p) (by decide))).symm
  · rw [if_neg (fun p => q ((nI_eq (by omega) (by omega)).mp p)), decide_eq_false (show ¬ tcode B b (e - b) = wc i from fun p => q (hj.mp p).1.symm)]
    rfl
theorem isw_no {tb : Nat → Int32} {i : Nat} {rtok rbg ren : Int32} (h : ¬ rtok = 1) : f3_isWord i tb rtok rbg ren = some (bi false) := by
  unfold f3_isWord
  rw [if_neg h]
  rfl
def W7 (v : Nat) : Nat := f3_wordOf (nI v)
def cd7 (v : Nat) : Nat → Int64
  | 0 => 0
  | j + 1 => if kLet (9 * v + j) = 32 then cd7 v j else cd7 v j * 27 + (kLet (9 * v + j)).toInt64 - 96
set_option maxRecDepth 100000 in
theorem cd7_fin : ∀ v, v < 7 → cd7 v 9 = lN (wc (W7 v)) ∧ W7 v < 15 := by decide +kernel
set_option maxRecDepth 100000 in
theorem W7_inj : ∀ v, v < 7 → ∀ u, u < 7 → W7 v = W7 u → v = u := by decide +kernel
theorem in7_loop {k4 : Int32 → Int64 → Int32 → Int32 → Option Int32} {xtok v2 : Int32} {xval : Int64} {v : Nat} (hv : v < 7) : ∀ (m n j : Nat), j + m = 9 → m < n → l5_wordOf_7_27 k4 n xtok xval v2 (nI v) (cd7 v j) (nI j) = if lg_cmp (cd7 v 9) xval = 0 then k4 xtok xval (nI v) (nI (v + 1)) else k4 xtok xval v2 (nI (v + 1)) := by
  intro m
  induction m with
  | zero =>
    intro n j hj hn
    obtain ⟨n, rfl⟩ : ∃ q, n = q + 1 := ⟨n - 1, by omega⟩
    rw [l5_wordOf_7_27, li 9, if_pos (nI_le (by omega) (by omega)), show j = 9 by omega]
    simp only [j5_wordOf_7_97, nI_1]
  | succ m ih =>
    intro n j hj hn
    obtain ⟨n, rfl⟩ : ∃ q, n = q + 1 := ⟨n - 1, by omega⟩
    have hle : ¬ (nI 9 ≤ nI j) := fun q => by have := (nI_leI (by omega) (by omega)).mp q; omega
    have hi := ih n (j + 1) (by omega) (by omega)
    rw [l5_wordOf_7_27, li 9, if_neg hle, pk_mul, nI_add, inb_y (show 63 < 2 ^ 31 by decide) (show 9 * v + j < 63 by omega), gd_t, gd_t, nI_clamp (show 9 * v + j < 2 ^ 31 by omega)]
    simp only [j5_wordOf_7_74, nI_1]
    rw [← hi]
    show _ = l5_wordOf_7_27 k4 n xtok xval v2 (nI v) (if kLet (9 * v + j) = 32 then cd7 v j else cd7 v j * 27 + (kLet (9 * v + j)).toInt64 - 96) (nI (j + 1))
    by_cases q : kLet (9 * v + j) = 32
    · rw [if_pos q, if_pos q]
    · rw [if_neg q, if_neg q]
theorem out7_loop {X : Nat} (hX : X < 2 ^ 63) : ∀ (m n v : Nat) (v2 : Int32), v + m = 7 → m < n → ∃ r, l5_wordOf_7_4 n 1 (lN X) v2 (nI v) = some r ∧ ((∃ u, v ≤ u ∧ u < 7 ∧ X = wc (W7 u) ∧ r = nI u) ∨ ((∀ u, v ≤ u → u < 7 → X ≠ wc (W7 u)) ∧ r = v2)) := by
  intro m
  induction m with
  | zero =>
    intro n v v2 hv hn
    obtain ⟨n, rfl⟩ : ∃ q, n = q + 1 := ⟨n - 1, by omega⟩
    refine ⟨v2, ?_, Or.inr ⟨fun u h1 h2 => by omega, rfl⟩⟩
    rw [l5_wordOf_7_4, show (63 / 9 : Int32) = nI 7 by decide, if_pos (nI_le (by omega) (by omega))]
  | succ m ih =>
    intro n v v2 hv hn
    obtain ⟨n, rfl⟩ : ∃ q, n = q + 1 := ⟨n - 1, by omega⟩
    have hle : ¬ (nI 7 ≤ nI v) := fun q => by have := (nI_leI (by omega) (by omega)).mp q; omega
    have hc := (cd7_fin v (by omega)).1
    have hw := (cd7_fin v (by omega)).2
    obtain ⟨w1, -, -, -⟩ := wb_fin (W7 v) hw
    have hM : wc (W7 v) ≤ Mx := wcode_fin (W7 v) hw (wL (W7 v)) (by omega) (by omega)
    rw [l5_wordOf_7_4, show (63 / 9 : Int32) = nI 7 by decide, if_neg hle, if_pos rfl, show l5_wordOf_7_27 (l5_wordOf_7_4 n) 1000 1 (lN X) v2 (nI v) 0 0 = _ from in7_loop (by omega) 9 1000 0 (by omega) (by omega), hc]
    have hq := lc_eq (a := wc (W7 v)) (b := X) (by unfold Mx at hM; omega) hX
    by_cases e : wc (W7 v) = X
    · rw [if_pos (hq.mpr e)]
      obtain ⟨r, r1, r2⟩ := ih n (v + 1) (nI v) (by omega) (by omega)
      refine ⟨r, r1, Or.inl ?_⟩
      rcases r2 with ⟨u, u1, u2, u3, u4⟩ | ⟨-, u4⟩
      · have := W7_inj v (by omega) u u2 (wc_inj _ hw _ (cd7_fin u u2).2 (e.trans u3))
        omega
      · exact ⟨v, by omega, by omega, e.symm, u4⟩
    · rw [if_neg (fun p => e (hq.mp p))]
      obtain ⟨r, r1, r2⟩ := ih n (v + 1) v2 (by omega) (by omega)
      refine ⟨r, r1, ?_⟩
      rcases r2 with ⟨u, u1, u2, u3, u4⟩ | ⟨u1, u4⟩
      · exact Or.inl ⟨u, by omega, u2, u3, u4⟩
      · refine Or.inr ⟨fun u h1 h2 => ?_, u4⟩
        by_cases q : u = v
        · subst q; exact fun p => e p.symm
        · exact u1 u (by omega) h2
theorem wordOf7 {X : Nat} (hX : X < 2 ^ 63) : (∃ u, u < 7 ∧ X = wc (W7 u) ∧ f5_wordOf_7 1 (lN X) = some (nI u)) ∨ ((∀ u, u < 7 → X ≠ wc (W7 u)) ∧ f5_wordOf_7 1 (lN X) = some (-1)) := by
  obtain ⟨r, r1, r2⟩ := out7_loop hX 7 1000 0 (-1) (by omega) (by omega)
  rcases r2 with ⟨u, u1, u2, u3, u4⟩ | ⟨u1, u4⟩
  · exact Or.inl ⟨u, u2, u3, by rw [← u4]; exact r1⟩
  · exact Or.inr ⟨fun u h => u1 u (by omega) h, by rw [← u4]; exact r1⟩
theorem wordOf7_no {xtok : Int32} {xval : Int64} (h : ¬ xtok = 1) : f5_wordOf_7 xtok xval = some (-1) := by
  unfold f5_wordOf_7
  rw [show (1000 : Nat) = 999 + 1 from rfl, l5_wordOf_7_4, if_neg (by decide), if_neg h]
def W8 (v : Nat) : Nat := 7 + v
def cd8 (v : Nat) : Nat → Int64
  | 0 => 0
  | j + 1 => if kMor (9 * v + j) = 32 then cd8 v j else cd8 v j * 27 + (kMor (9 * v + j)).toInt64 - 96
set_option maxRecDepth 100000 in
theorem cd8_fin : ∀ v, v < 4 → cd8 v 9 = lN (wc (W8 v)) ∧ W8 v < 15 := by decide +kernel
set_option maxRecDepth 100000 in
theorem W8_inj : ∀ v, v < 4 → ∀ u, u < 4 → W8 v = W8 u → v = u := by decide +kernel
theorem in8_loop {k4 : Int32 → Int64 → Int32 → Int32 → Option Int32} {xtok v2 : Int32} {xval : Int64} {v : Nat} (hv : v < 4) : ∀ (m n j : Nat), j + m = 9 → m < n → l5_wordOf_8_27 k4 n xtok xval v2 (nI v) (cd8 v j) (nI j) = if lg_cmp (cd8 v 9) xval = 0 then k4 xtok xval (nI v) (nI (v + 1)) else k4 xtok xval v2 (nI (v + 1)) := by
  intro m
  induction m with
  | zero =>
    intro n j hj hn
    obtain ⟨n, rfl⟩ : ∃ q, n = q + 1 := ⟨n - 1, by omega⟩
    rw [l5_wordOf_8_27, li 9, if_pos (nI_le (by omega) (by omega)), show j = 9 by omega]
    simp only [j5_wordOf_8_97, nI_1]
  | succ m ih =>
    intro n j hj hn
    obtain ⟨n, rfl⟩ : ∃ q, n = q + 1 := ⟨n - 1, by omega⟩
    have hle : ¬ (nI 9 ≤ nI j) := fun q => by have := (nI_leI (by omega) (by omega)).mp q; omega
    have hi := ih n (j + 1) (by omega) (by omega)
    rw [l5_wordOf_8_27, li 9, if_neg hle, pk_mul, nI_add, inb_y (show 36 < 2 ^ 31 by decide) (show 9 * v + j < 36 by omega), gd_t, gd_t, nI_clamp (show 9 * v + j < 2 ^ 31 by omega)]
    simp only [j5_wordOf_8_74, nI_1]
    rw [← hi]
    show _ = l5_wordOf_8_27 k4 n xtok xval v2 (nI v) (if kMor (9 * v + j) = 32 then cd8 v j else cd8 v j * 27 + (kMor (9 * v + j)).toInt64 - 96) (nI (j + 1))
    by_cases q : kMor (9 * v + j) = 32
    · rw [if_pos q, if_pos q]
    · rw [if_neg q, if_neg q]
theorem out8_loop {X : Nat} (hX : X < 2 ^ 63) : ∀ (m n v : Nat) (v2 : Int32), v + m = 4 → m < n → ∃ r, l5_wordOf_8_4 n 1 (lN X) v2 (nI v) = some r ∧ ((∃ u, v ≤ u ∧ u < 4 ∧ X = wc (W8 u) ∧ r = nI u) ∨ ((∀ u, v ≤ u → u < 4 → X ≠ wc (W8 u)) ∧ r = v2)) := by
  intro m
  induction m with
  | zero =>
    intro n v v2 hv hn
    obtain ⟨n, rfl⟩ : ∃ q, n = q + 1 := ⟨n - 1, by omega⟩
    refine ⟨v2, ?_, Or.inr ⟨fun u h1 h2 => by omega, rfl⟩⟩
    rw [l5_wordOf_8_4, show (36 / 9 : Int32) = nI 4 by decide, if_pos (nI_le (by omega) (by omega))]
  | succ m ih =>
    intro n v v2 hv hn
    obtain ⟨n, rfl⟩ : ∃ q, n = q + 1 := ⟨n - 1, by omega⟩
    have hle : ¬ (nI 4 ≤ nI v) := fun q => by have := (nI_leI (by omega) (by omega)).mp q; omega
    have hc := (cd8_fin v (by omega)).1
    have hw := (cd8_fin v (by omega)).2
    obtain ⟨w1, -, -, -⟩ := wb_fin (W8 v) hw
    have hM : wc (W8 v) ≤ Mx := wcode_fin (W8 v) hw (wL (W8 v)) (by omega) (by omega)
    rw [l5_wordOf_8_4, show (36 / 9 : Int32) = nI 4 by decide, if_neg hle, if_pos rfl, show l5_wordOf_8_27 (l5_wordOf_8_4 n) 1000 1 (lN X) v2 (nI v) 0 0 = _ from in8_loop (by omega) 9 1000 0 (by omega) (by omega), hc]
    have hq := lc_eq (a := wc (W8 v)) (b := X) (by unfold Mx at hM; omega) hX
    by_cases e : wc (W8 v) = X
    · rw [if_pos (hq.mpr e)]
      obtain ⟨r, r1, r2⟩ := ih n (v + 1) (nI v) (by omega) (by omega)
      refine ⟨r, r1, Or.inl ?_⟩
      rcases r2 with ⟨u, u1, u2, u3, u4⟩ | ⟨-, u4⟩
      · have := W8_inj v (by omega) u u2 (wc_inj _ hw _ (cd8_fin u u2).2 (e.trans u3))
        omega
      · exact ⟨v, by omega, by omega, e.symm, u4⟩
    · rw [if_neg (fun p => e (hq.mp p))]
      obtain ⟨r, r1, r2⟩ := ih n (v + 1) v2 (by omega) (by omega)
      refine ⟨r, r1, ?_⟩
      rcases r2 with ⟨u, u1, u2, u3, u4⟩ | ⟨u1, u4⟩
      · exact Or.inl ⟨u, by omega, u2, u3, u4⟩
      · refine Or.inr ⟨fun u h1 h2 => ?_, u4⟩
        by_cases q : u = v
        · subst q; exact fun p => e p.symm
        · exact u1 u (by omega) h2
theorem wordOf8 {X : Nat} (hX : X < 2 ^ 63) : (∃ u, u < 4 ∧ X = wc (W8 u) ∧ f5_wordOf_8 1 (lN X) = some (nI u)) ∨ ((∀ u, u < 4 → X ≠ wc (W8 u)) ∧ f5_wordOf_8 1 (lN X) = some (-1)) := by
  obtain ⟨r, r1, r2⟩ := out8_loop hX 4 1000 0 (-1) (by omega) (by omega)
  rcases r2 with ⟨u, u1, u2, u3, u4⟩ | ⟨u1, u4⟩
  · exact Or.inl ⟨u, u2, u3, by rw [← u4]; exact r1⟩
  · exact Or.inr ⟨fun u h => u1 u (by omega) h, by rw [← u4]; exact r1⟩
theorem wordOf8_no {xtok : Int32} {xval : Int64} (h : ¬ xtok = 1) : f5_wordOf_8 xtok xval = some (-1) := by
  unfold f5_wordOf_8
  rw [show (1000 : Nat) = 999 + 1 from rfl, l5_wordOf_8_4, if_neg (by decide), if_neg h]
def W9 (v : Nat) : Nat := 11 + v
def cd9 (v : Nat) : Nat → Int64
  | 0 => 0
  | j + 1 => if kOth (9 * v + j) = 32 then cd9 v j else cd9 v j * 27 + (kOth (9 * v + j)).toInt64 - 96
set_option maxRecDepth 100000 in
theorem cd9_fin : ∀ v, v < 4 → cd9 v 9 = lN (wc (W9 v)) ∧ W9 v < 15 := by decide +kernel
set_option maxRecDepth 100000 in
theorem W9_inj : ∀ v, v < 4 → ∀ u, u < 4 → W9 v = W9 u → v = u := by decide +kernel
theorem in9_loop {k4 : Int32 → Int64 → Int32 → Int32 → Option Int32} {xtok v2 : Int32} {xval : Int64} {v : Nat} (hv : v < 4) : ∀ (m n j : Nat), j + m = 9 → m < n → l5_wordOf_9_27 k4 n xtok xval v2 (nI v) (cd9 v j) (nI j) = if lg_cmp (cd9 v 9) xval = 0 then k4 xtok xval (nI v) (nI (v + 1)) else k4 xtok xval v2 (nI (v + 1)) := by
  intro m
  induction m with
  | zero =>
    intro n j hj hn
    obtain ⟨n, rfl⟩ : ∃ q, n = q + 1 := ⟨n - 1, by omega⟩
    rw [l5_wordOf_9_27, li 9, if_pos (nI_le (by omega) (by omega)), show j = 9 by omega]
    simp only [j5_wordOf_9_97, nI_1]
  | succ m ih =>
    intro n j hj hn
    obtain ⟨n, rfl⟩ : ∃ q, n = q + 1 := ⟨n - 1, by omega⟩
    have hle : ¬ (nI 9 ≤ nI j) := fun q => by have := (nI_leI (by omega) (by omega)).mp q; omega
    have hi := ih n (j + 1) (by omega) (by omega)
    rw [l5_wordOf_9_27, li 9, if_neg hle, pk_mul, nI_add, inb_y (show 36 < 2 ^ 31 by decide) (show 9 * v + j < 36 by omega), gd_t, gd_t, nI_clamp (show 9 * v + j < 2 ^ 31 by omega)]
    simp only [j5_wordOf_9_74, nI_1]
    rw [← hi]
    show _ = l5_wordOf_9_27 k4 n xtok xval v2 (nI v) (if kOth (9 * v + j) = 32 then cd9 v j else cd9 v j * 27 + (kOth (9 * v + j)).toInt64 - 96) (nI (j + 1))
    by_cases q : kOth (9 * v + j) = 32
    · rw [if_pos q, if_pos q]
    · rw [if_neg q, if_neg q]
theorem out9_loop {X : Nat} (hX : X < 2 ^ 63) : ∀ (m n v : Nat) (v2 : Int32), v + m = 4 → m < n → ∃ r, l5_wordOf_9_4 n 1 (lN X) v2 (nI v) = some r ∧ ((∃ u, v ≤ u ∧ u < 4 ∧ X = wc (W9 u) ∧ r = nI u) ∨ ((∀ u, v ≤ u → u < 4 → X ≠ wc (W9 u)) ∧ r = v2)) := by
  intro m
  induction m with
  | zero =>
    intro n v v2 hv hn
    obtain ⟨n, rfl⟩ : ∃ q, n = q + 1 := ⟨n - 1, by omega⟩
    refine ⟨v2, ?_, Or.inr ⟨fun u h1 h2 => by omega, rfl⟩⟩
    rw [l5_wordOf_9_4, show (36 / 9 : Int32) = nI 4 by decide, if_pos (nI_le (by omega) (by omega))]
  | succ m ih =>
    intro n v v2 hv hn
    obtain ⟨n, rfl⟩ : ∃ q, n = q + 1 := ⟨n - 1, by omega⟩
    have hle : ¬ (nI 4 ≤ nI v) := fun q => by have := (nI_leI (by omega) (by omega)).mp q; omega
    have hc := (cd9_fin v (by omega)).1
    have hw := (cd9_fin v (by omega)).2
    obtain ⟨w1, -, -, -⟩ := wb_fin (W9 v) hw
    have hM : wc (W9 v) ≤ Mx := wcode_fin (W9 v) hw (wL (W9 v)) (by omega) (by omega)
    rw [l5_wordOf_9_4, show (36 / 9 : Int32) = nI 4 by decide, if_neg hle, if_pos rfl, show l5_wordOf_9_27 (l5_wordOf_9_4 n) 1000 1 (lN X) v2 (nI v) 0 0 = _ from in9_loop (by omega) 9 1000 0 (by omega) (by omega), hc]
    have hq := lc_eq (a := wc (W9 v)) (b := X) (by unfold Mx at hM; omega) hX
    by_cases e : wc (W9 v) = X
    · rw [if_pos (hq.mpr e)]
      obtain ⟨r, r1, r2⟩ := ih n (v + 1) (nI v) (by omega) (by omega)
      refine ⟨r, r1, Or.inl ?_⟩
      rcases r2 with ⟨u, u1, u2, u3, u4⟩ | ⟨-, u4⟩
      · have := W9_inj v (by omega) u u2 (wc_inj _ hw _ (cd9_fin u u2).2 (e.trans u3))
        omega
      · exact ⟨v, by omega, by omega, e.symm, u4⟩
    · rw [if_neg (fun p => e (hq.mp p))]
      obtain ⟨r, r1, r2⟩ := ih n (v + 1) v2 (by omega) (by omega)
      refine ⟨r, r1, ?_⟩
      rcases r2 with ⟨u, u1, u2, u3, u4⟩ | ⟨u1, u4⟩
      · exact Or.inl ⟨u, by omega, u2, u3, u4⟩
      · refine Or.inr ⟨fun u h1 h2 => ?_, u4⟩
        by_cases q : u = v
        · subst q; exact fun p => e p.symm
        · exact u1 u (by omega) h2
theorem wordOf9 {X : Nat} (hX : X < 2 ^ 63) : (∃ u, u < 4 ∧ X = wc (W9 u) ∧ f5_wordOf_9 1 (lN X) = some (nI u)) ∨ ((∀ u, u < 4 → X ≠ wc (W9 u)) ∧ f5_wordOf_9 1 (lN X) = some (-1)) := by
  obtain ⟨r, r1, r2⟩ := out9_loop hX 4 1000 0 (-1) (by omega) (by omega)
  rcases r2 with ⟨u, u1, u2, u3, u4⟩ | ⟨u1, u4⟩
  · exact Or.inl ⟨u, u2, u3, by rw [← u4]; exact r1⟩
  · exact Or.inr ⟨fun u h => u1 u (by omega) h, by rw [← u4]; exact r1⟩
theorem wordOf9_no {xtok : Int32} {xval : Int64} (h : ¬ xtok = 1) : f5_wordOf_9 xtok xval = some (-1) := by
  unfold f5_wordOf_9
  rw [show (1000 : Nat) = 999 + 1 from rfl, l5_wordOf_9_4, if_neg (by decide), if_neg h]
/-- a token, on both sides -/
def TK (tb : Nat → Int32) (L b e : Nat) (rtok rbg ren rvl xtok xbeg xend : Int32) (xval : Int64) : Prop :=
  rbg = nI b ∧ xbeg = nI b ∧ ren = nI e ∧ xend = nI e ∧ b ≤ e ∧ e ≤ L ∧ (
    (rtok = 1 ∧ xtok = 1 ∧ b < e ∧ ∃ X, X < 2 ^ 63 ∧ xval = lN X ∧ ∀ i, i < 15 → f3_isWord i tb 1 (nI b) (nI e) = some (bi (decide (X = wc i))))
    ∨ (rtok = 2 ∧ b < e ∧ ∃ x, x ≤ 9999 ∧ xtok = 2 ∧ xval = lN x ∧ rvl = nI x)
    ∨ (rtok = 2 ∧ b < e ∧ xtok = 4 ∧ rvl = 10000)
    ∨ (rtok = 3 ∧ xtok = 3 ∧ b < e) ∨ (rtok = 4 ∧ xtok = 4 ∧ b < e) ∨ (rtok = 0 ∧ xtok = 0))
theorem next_ok {tb xt : Nat → Int32} {B : Nat → Nat} {L e0 : Nat} (hT : Tape tb xt B L) (he0 : e0 ≤ L) (rtok rbg rvl xtok xbeg : Int32) (xval : Int64) : ∃ b e rtok' rbg' ren' rvl' xtok' xbeg' xend' xval', f3_readToken tb (nI L) rtok rbg (nI e0) rvl = some (rtok', rbg', ren', rvl') ∧ f5_nextToken xt (nI L) xtok xbeg (nI e0) xval = some (xtok', xbeg', xend', xval') ∧ e0 ≤ b ∧ TK tb L b e rtok' rbg' ren' rvl' xtok' xbeg' xend' xval' := by
  have hL := hT.1
  obtain ⟨b, b1, b2, b3, b4, b5⟩ := skip_loop (rtok := rtok) (ren := nI e0) (rvl := rvl) (xtok := xtok) (xend := nI e0) (xval := xval) hT (L - e0) 1000 e0 (by omega) (by omega)
  unfold f3_readToken f5_nextToken
  rw [b4, b5]
  unfold j3_readToken_52 j5_nextToken_46
  by_cases hb : b = L
  · subst hb
    rw [at_end hL, ob1_so, if_pos rfl, nI_1, jmin_n (by omega) (by omega), show min (b + 1) b = b by omega]
    refine ⟨b, b, 0, nI b, nI b, rvl, 0, nI b, nI b, 0, ?_, rfl, b1, rfl, rfl, rfl, rfl, by omega, by omega, Or.inr (Or.inr (Or.inr (Or.inr (Or.inr ⟨rfl, rfl⟩))))⟩
    rw [show (1000 : Nat) = 999 + 1 from rfl, l3_readToken_84, if_neg (by decide), if_neg (by decide), j3_readToken_142, if_neg (by decide)]
  · obtain ⟨h1, h2, h3⟩ := hT.2 b (by omega)
    obtain ⟨-, -, -, f4, f5, f6, -⟩ := bt_fin (B b) h1
    have hk := kc_le (B b)
    rw [at_ok hT (show b < L by omega), ob1_so, if_neg (fun q => hb ((nI_eq (by omega) (by omega)).mp q)), nI_1, jmin_n (by omega) (by omega), show min (b + 1) L = b + 1 by omega, inb_y (show 120 < 2 ^ 31 by decide) (show b < 120 by omega), gd_t, gd_t, gd_t, nI_clamp (show b < 2 ^ 31 by omega), h2, f5, f6]
    by_cases k1 : kc (B b) = 1
    · rw [k1, if_pos (kc1.mp k1), if_neg ne10]
      have turn := let_turn (n := 999) (xtok := 1) (xbeg := nI b) hT (Nat.le_refl b) (show b < L by omega) (fun k h1 h2 => by omega)
      rw [Nat.sub_self, if_pos k1] at turn
      obtain ⟨e, e1, e2, e3, e4, e5⟩ := word_loop (b := b) (rvl := rvl) hT (L - (b + 1)) 1000 999 (b + 1) (by omega) (by omega) (by omega) (by omega) (fun k h1 h2 => by rw [show k = b by omega]; exact k1)
      refine ⟨b, e, 1, nI b, nI e, rvl, 1, nI b, nI e, _, e4, turn.trans e5, b1, rfl, rfl, rfl, rfl, by omega, e2, Or.inl ⟨rfl, rfl, by omega, tcode B b (e - b), ?_, rfl, fun i hi => isw_ok hT hi (by omega) e2 e3⟩⟩
      have := tcode_le B b (e - b) (fun k hk => (hT.2 (b + k) (by omega)).1)
      omega
    rw [if_neg (fun q => k1 (kc1.mpr q)), if_pos rfl]
    by_cases k2 : kc (B b) = 2
    · rw [k2, if_pos (kc2.mp k2), if_neg ne10]
      have turn := dig_turn (n := 999) (xtok := xtok) (xbeg := nI b) hT (Nat.le_refl b) (show b < L by omega)
      rw [Nat.sub_self, if_pos k2] at turn
      obtain ⟨e, e1, e2, e3, e4, e5⟩ := num_loop (b := b) (rvl := rvl) (xtok := xtok) hT (L - (b + 1)) 1000 999 (b + 1) (by omega) (by omega) (by omega) (by omega) (fun k h1 h2 => by rw [show k = b by omega]; exact k2)
      have hv := val_loop hT (show b ≤ e by omega) e2 e3 (e - b) 1000 b (by omega) (by omega) (by omega)
      rw [Nat.sub_self, show nval B b 0 = 0 from rfl] at hv
      have hn := nval_le B b (e - b) (fun k hk => (hT.2 (b + k) (by omega)).1)
      have hc : l3_readToken_84 1000 tb (nI L) 2 (nI b) (nI (b + 1)) rvl = some (2, nI b, nI e, nI (min 10000 (nval B b (e - b)))) := by
        rw [e4, j3_readToken_142, if_pos rfl]
        unfold f3_readValue
        rw [show l3_readValue_10 1000 tb (nI b) (nI e) 0 (nI b) = _ from hv]
        rfl
      have hr := turn.trans e5
      unfold j5_nextToken_281 j5_nextToken_298 at hr
      have hm : lg_cmp (lN (nval B b (e - b))) (lN 9999) ≤ 0 ↔ nval B b (e - b) ≤ 9999 := lc_le (by omega) (by decide)
      by_cases q : nval B b (e - b) ≤ 9999
      · rw [if_pos (show lg_cmp (lN (nval B b (e - b))) 9999 ≤ 0 from hm.mpr q)] at hr
        refine ⟨b, e, 2, nI b, nI e, _, 2, nI b, nI e, _, hc, hr, b1, rfl, rfl, rfl, rfl, by omega, e2, Or.inr (Or.inl ⟨rfl, by omega, nval B b (e - b), q, rfl, rfl, ?_⟩)⟩
        congr 1
        omega
      · rw [if_neg (show ¬ lg_cmp (lN (nval B b (e - b))) 9999 ≤ 0 from fun p => q (hm.mp p))] at hr
        refine ⟨b, e, 2, nI b, nI e, _, 4, nI b, nI e, _, hc, hr, b1, rfl, rfl, rfl, rfl, by omega, e2, Or.inr (Or.inr (Or.inl ⟨rfl, by omega, rfl, ?_⟩))⟩
        rw [show min 10000 (nval B b (e - b)) = 10000 by omega]
        rfl
    rw [if_neg (fun q => k2 (kc2.mpr q)), if_pos rfl]
    by_cases k3 : B b = 59
    · have k3' : kc (B b) = 3 := by rw [k3]; rfl
      rw [k3', if_pos (f4.mpr k3), j5_nextToken_324, nI_1]
      refine ⟨b, b + 1, 3, nI b, nI (b + 1), rvl, 3, nI b, nI (b + 1), 0, ?_, rfl, b1, rfl, rfl, rfl, rfl, by omega, by omega, Or.inr (Or.inr (Or.inr (Or.inl ⟨rfl, rfl, by omega⟩)))⟩
      rw [show (1000 : Nat) = 999 + 1 from rfl, l3_readToken_84, if_neg (by decide), if_neg (by decide), j3_readToken_142, if_neg (by decide)]; rfl
    · have k4 : kc (B b) = 4 := by
        unfold kc
        rw [if_neg (fun q => k1 (kc1.mpr q)), if_neg (fun q => k2 (kc2.mpr q)), if_neg k3]
      rw [k4, if_neg (fun q => k3 (f4.mp q)), j5_nextToken_324, nI_1]
      refine ⟨b, b + 1, 4, nI b, nI (b + 1), rvl, 4, nI b, nI (b + 1), 0, ?_, rfl, b1, rfl, rfl, rfl, rfl, by omega, by omega, Or.inr (Or.inr (Or.inr (Or.inr (Or.inl ⟨rfl, rfl, by omega⟩))))⟩
      rw [show (1000 : Nat) = 999 + 1 from rfl, l3_readToken_84, if_neg (by decide), if_neg (by decide), j3_readToken_142, if_neg (by decide)]; rfl
