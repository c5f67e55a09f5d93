/-! the texts, first: tokens, the same on both sides -/
theorem lc_le {a b : Nat} (ha : a < 2 ^ 63) (hb : b < 2 ^ 63) : lg_cmp (lN a) (lN b) ≤ 0 ↔ a ≤ b := by
  unfold lg_cmp
  by_cases h : lN a > lN b
  · rw [if_pos h]
    have := (pk_lLT hb ha).mp h
    constructor
    · intro q; exact absurd q (by decide)
    · intro q; omega
  · rw [if_neg h]
    have h' : ¬ b < a := fun q => h ((pk_lLT hb ha).mpr q)
    by_cases e : lN a = lN b
    · rw [if_pos e]; exact ⟨fun _ => by omega, fun _ => by decide⟩
    · rw [if_neg e]; exact ⟨fun _ => by omega, fun _ => by decide⟩
theorem lc_eq {a b : Nat} (ha : a < 2 ^ 63) (hb : b < 2 ^ 63) : lg_cmp (lN a) (lN b) = 0 ↔ a = b := by
  unfold lg_cmp
  by_cases h : lN a > lN b
  · rw [if_pos h]
    have := (pk_lLT hb ha).mp h
    exact ⟨fun q => absurd q (by decide), fun q => by omega⟩
  · rw [if_neg h]
    by_cases e : lN a = lN b
    · rw [if_pos e]; exact ⟨fun _ => (pk_lEQ ha hb).mp e, fun _ => rfl⟩
    · rw [if_neg e]; exact ⟨fun q => absurd q (by decide), fun q => absurd (by rw [q]) e⟩
/-- which token a byte begins -/
def kc (b : Nat) : Nat := if 97 ≤ b ∧ b ≤ 122 then 1 else if 48 ≤ b ∧ b ≤ 57 then 2 else if b = 59 then 3 else 4
set_option maxRecDepth 1000000 in
theorem bt_fin : ∀ b, b < 256 → (if (nI b).toInt8.toInt32 < 97 then j3_tokenAt_37 z0 0 (nI b).toInt8.toInt32 else if 122 < (nI b).toInt8.toInt32 then j3_tokenAt_37 z0 0 (nI b).toInt8.toInt32 else some 1) = some (nI (kc b)) ∧ ((nI b).toInt8.toInt32 = 32 ↔ b = 32) ∧ (nI b = 32 ↔ b = 32) ∧ (nI b = 59 ↔ b = 59) ∧ f5_isLetter (nI b) = (if 97 ≤ b ∧ b ≤ 122 then 1 else 0) ∧ f5_isDigit (nI b) = (if 48 ≤ b ∧ b ≤ 57 then 1 else 0) ∧ (b < 128 → (nI b).toInt8.toInt32 = nI b) := by decide +kernel
def Tape (tb xt : Nat → Int32) (B : Nat → Nat) (L : Nat) : Prop := L ≤ 120 ∧ ∀ k, k < L → B k < 256 ∧ xt k = nI (B k) ∧ tb k = (nI (B k)).toInt8.toInt32
theorem Tape.of {tb xt : Nat → Int32} {L : Nat} (hL : L ≤ 120) (h : ∀ k, k < L → ∃ b, b < 256 ∧ xt k = nI b ∧ tb k = (nI b).toInt8.toInt32) : ∃ B, Tape tb xt B L := by
  have h' : ∀ k, ∃ b, k < L → b < 256 ∧ xt k = nI b ∧ tb k = (nI b).toInt8.toInt32 := by
    intro k
    by_cases q : k < L
    · obtain ⟨b, hb⟩ := h k q; exact ⟨b, fun _ => hb⟩
    · exact ⟨0, fun p => absurd p q⟩
  exact ⟨fun k => (h' k).choose, hL, fun k hk => (h' k).choose_spec hk⟩
theorem at_ok {tb xt : Nat → Int32} {B : Nat → Nat} {L i : Nat} (hT : Tape tb xt B L) (hi : i < L) : f3_tokenAt tb (nI L) (nI i) = some (nI (kc (B i))) := by
  obtain ⟨h1, h2, h3⟩ := hT.2 i hi
  have hL := hT.1
  unfold f3_tokenAt
  rw [if_pos (nI_lt hi (by omega)), inb_y (show 120 < 2 ^ 31 by decide) (show i < 120 by omega), gd_t, nI_clamp (by omega), h3]
  exact (bt_fin (B i) h1).1
theorem at_end {tb : Nat → Int32} {L : Nat} (hL : L ≤ 120) : f3_tokenAt tb (nI L) (nI L) = some 0 := by
  unfold f3_tokenAt
  rw [if_neg (Int32.lt_irrefl)]
/-- blanks are passed by both alike -/
theorem skip_loop {tb xt : Nat → Int32} {B : Nat → Nat} {L : Nat} {rtok ren rvl xtok xend : Int32} {xval : Int64} (hT : Tape tb xt B L) : ∀ (m n i : Nat), i + m = L → m < n → ∃ b, i ≤ b ∧ b ≤ L ∧ (b < L → B b ≠ 32) ∧ l3_readToken_8 n tb (nI L) rtok (nI i) ren rvl = j3_readToken_52 tb (nI L) rtok (nI b) ren rvl ∧ l5_nextToken_8 n xt (nI L) xtok (nI i) xend xval = j5_nextToken_46 xt (nI L) xtok (nI b) xend xval := by
  have hL := hT.1
  intro m
  induction m with
  | zero =>
    intro n i hi hn
    obtain ⟨n, rfl⟩ : ∃ q, n = q + 1 := ⟨n - 1, by omega⟩
    refine ⟨i, by omega, by omega, fun q => by omega, ?_, ?_⟩
    · rw [l3_readToken_8, if_pos (nI_le (by omega) (by omega))]
    · rw [l5_nextToken_8, if_pos (nI_le (by omega) (by omega))]
  | succ m ih =>
    intro n i hi hn
    obtain ⟨n, rfl⟩ : ∃ q, n = q + 1 := ⟨n - 1, by omega⟩
    obtain ⟨h1, h2, h3⟩ := hT.2 i (by omega)
    have hle : ¬ (nI L ≤ nI i) := fun q => by have := (nI_leI (by omega) (by omega)).mp q; omega
    obtain ⟨-, f2, f3, -, -, -, -⟩ := bt_fin (B i) h1
    rw [l3_readToken_8, l5_nextToken_8, if_neg hle, if_neg hle, inb_y (show 120 < 2 ^ 31 by decide) (show i < 120 by omega), gd_t, gd_t, nI_clamp (by omega), h2, h3]
    by_cases e : B i = 32
    · rw [if_pos (f2.mpr e), if_pos (f3.mpr e), nI_1]
      obtain ⟨b, b1, b2, b3, b4, b5⟩ := ih n (i + 1) (by omega) (by omega)
      exact ⟨b, by omega, b2, b3, b4, b5⟩
    · rw [if_neg (fun q => e (f2.mp q)), if_neg (fun q => e (f3.mp q))]
      exact ⟨i, by omega, by omega, fun _ => e, rfl, rfl⟩
def Mx : Nat := 9999999999999
def tcode (B : Nat → Nat) (b : Nat) : Nat → Nat
  | 0 => 0
  | m + 1 => if tcode B b m ≤ Mx then tcode B b m * 27 + (B (b + m) - 96) else tcode B b m
theorem tcode_s (B : Nat → Nat) (b m : Nat) : tcode B b (m + 1) = if tcode B b m ≤ Mx then tcode B b m * 27 + (B (b + m) - 96) else tcode B b m := rfl
theorem tcode_le (B : Nat → Nat) (b : Nat) : ∀ m, (∀ k, k < m → B (b + k) < 256) → tcode B b m < 300000000000000 := by
  intro m
  induction m with
  | zero => intro _; unfold tcode; decide
  | succ m ih =>
    intro h
    have i := ih (fun k hk => h k (by omega))
    have hb := h m (by omega)
    rw [tcode_s]
    by_cases q : tcode B b m ≤ Mx
    · rw [if_pos q]; unfold Mx at q; omega
    · rw [if_neg q]; exact i
theorem kc1 {b : Nat} : kc b = 1 ↔ 97 ≤ b ∧ b ≤ 122 := by
  unfold kc
  by_cases h : 97 ≤ b ∧ b ≤ 122
  · rw [if_pos h]; exact ⟨fun _ => h, fun _ => rfl⟩
  · rw [if_neg h]
    refine ⟨fun q => ?_, fun q => absurd q h⟩
    by_cases h2 : 48 ≤ b ∧ b ≤ 57
    · rw [if_pos h2] at q; omega
    · rw [if_neg h2] at q
      by_cases h3 : b = 59
      · rw [if_pos h3] at q; omega
      · rw [if_neg h3] at q; omega
theorem kc2 {b : Nat} : kc b = 2 ↔ 48 ≤ b ∧ b ≤ 57 := by
  unfold kc
  by_cases h : 97 ≤ b ∧ b ≤ 122
  · rw [if_pos h]; exact ⟨fun q => by omega, fun q => by omega⟩
  · rw [if_neg h]
    by_cases h2 : 48 ≤ b ∧ b ≤ 57
    · rw [if_pos h2]; exact ⟨fun _ => h2, fun _ => rfl⟩
    · rw [if_neg h2]
      refine ⟨fun q => ?_, fun q => absurd q h2⟩
      by_cases h3 : b = 59
      · rw [if_pos h3] at q; omega
      · rw [if_neg h3] at q; omega
theorem kc_le (b : Nat) : 1 ≤ kc b ∧ kc b ≤ 4 := by
  unfold kc
  by_cases h : 97 ≤ b ∧ b ≤ 122
  · rw [if_pos h]; omega
  · rw [if_neg h]
    by_cases h2 : 48 ≤ b ∧ b ≤ 57
    · rw [if_pos h2]; omega
    · rw [if_neg h2]
      by_cases h3 : b = 59
      · rw [if_pos h3]; omega
      · rw [if_neg h3]; omega
/-- the step of the reference's word code -/
theorem code_step {v c : Nat} (hv : v ≤ Mx) (h1 : 97 ≤ c) (h2 : c < 256) : lN v * 27 + (nI c).toInt64 - 96 = lN (v * 27 + (c - 96)) := by
  rw [show (27 : Int64) = lN 27 from rfl, show (96 : Int64) = lN 96 from rfl, nI_l (by omega), lN_mul, lN_add, lN_sub (by omega)]
  congr 1
  omega
/-- one turn of the reference's loop over letters -/
theorem let_turn {tb xt : Nat → Int32} {B : Nat → Nat} {L : Nat} {xtok xbeg : Int32} (hT : Tape tb xt B L) {n b i : Nat} (hb : b ≤ i) (hi : i < L) (hB : ∀ k, b ≤ k → k < i → kc (B k) = 1) : l5_nextToken_98 (n + 1) xt (nI L) xtok xbeg (nI i) (lN (tcode B b (i - b))) = if kc (B i) = 1 then l5_nextToken_98 n xt (nI L) xtok xbeg (nI (i + 1)) (lN (tcode B b (i + 1 - b))) else some (xtok, xbeg, nI i, lN (tcode B b (i - b))) := by
  have hL := hT.1
  obtain ⟨h1, h2, h3⟩ := hT.2 i hi
  have hle : ¬ (nI L ≤ nI i) := fun q => by have := (nI_leI (by omega) (by omega)).mp q; omega
  obtain ⟨-, -, -, -, f5, -, -⟩ := bt_fin (B i) h1
  have hc : tcode B b (i - b) < 300000000000000 := tcode_le B b (i - b) (fun k hk => (hT.2 (b + k) (by omega)).1)
  rw [l5_nextToken_98, if_neg hle, inb_y (show 120 < 2 ^ 31 by decide) (show i < 120 by omega), gd_t, gd_t, nI_clamp (by omega), h2, f5]
  by_cases e : kc (B i) = 1
  · have e' := kc1.mp e
    rw [if_pos e, if_pos e', if_neg ne10, show (9999999999999 : Int64) = lN Mx from rfl]
    have hs : tcode B b (i + 1 - b) = if tcode B b (i - b) ≤ Mx then tcode B b (i - b) * 27 + (B i - 96) else tcode B b (i - b) := by
      rw [show i + 1 - b = (i - b) + 1 by omega, tcode_s, show b + (i - b) = i by omega]
    rw [hs]
    have hm : lg_cmp (lN (tcode B b (i - b))) (lN Mx) ≤ 0 ↔ tcode B b (i - b) ≤ Mx := lc_le (by omega) (by decide)
    by_cases q : tcode B b (i - b) ≤ Mx
    · rw [if_pos (hm.mpr q), if_pos q, j5_nextToken_166, code_step q e'.1 h1, nI_1]
    · rw [if_neg (fun p => q (hm.mp p)), if_neg q, j5_nextToken_166, nI_1]
  · rw [if_neg e, if_neg (fun q => e (kc1.mpr q)), if_pos rfl]
theorem word_loop {tb xt : Nat → Int32} {B : Nat → Nat} {L b : Nat} {rvl : Int32} (hT : Tape tb xt B L) : ∀ (m n1 n2 i : Nat), i + m = L → m < n1 → m < n2 → b < i → (∀ k, b ≤ k → k < i → kc (B k) = 1) → ∃ e, i ≤ e ∧ e ≤ L ∧ (∀ k, b ≤ k → k < e → kc (B k) = 1) ∧ l3_readToken_84 n1 tb (nI L) 1 (nI b) (nI i) rvl = some (1, nI b, nI e, rvl) ∧ l5_nextToken_98 n2 xt (nI L) 1 (nI b) (nI i) (lN (tcode B b (i - b))) = some (1, nI b, nI e, lN (tcode B b (e - b))) := by
  have hL := hT.1
  intro m
  induction m with
  | zero =>
    intro n1 n2 i hi hn1 hn2 hb hB
    obtain ⟨n1, rfl⟩ : ∃ q, n1 = q + 1 := ⟨n1 - 1, by omega⟩
    obtain ⟨n2, rfl⟩ : ∃ q, n2 = q + 1 := ⟨n2 - 1, by omega⟩
    refine ⟨i, by omega, by omega, hB, ?_, ?_⟩
    · rw [l3_readToken_84, if_pos rfl, j3_readToken_100, if_pos (nI_le (by omega) (by omega)), j3_readToken_142, if_neg (by decide)]
    · rw [l5_nextToken_98, if_pos (nI_le (by omega) (by omega))]
  | succ m ih =>
    intro n1 n2 i hi hn1 hn2 hb hB
    obtain ⟨n1, rfl⟩ : ∃ q, n1 = q + 1 := ⟨n1 - 1, by omega⟩
    obtain ⟨n2, rfl⟩ : ∃ q, n2 = q + 1 := ⟨n2 - 1, by omega⟩
    have hle : ¬ (nI L ≤ nI i) := fun q => by have := (nI_leI (by omega) (by omega)).mp q; omega
    rw [let_turn hT (by omega) (by omega) hB, l3_readToken_84, if_pos rfl, j3_readToken_100, if_neg hle, at_ok hT (show i < L by omega), ob1_so, nI_1]
    have hk := kc_le (B i)
    by_cases e : kc (B i) = 1
    · rw [if_pos e, e, if_pos (show nI 1 = 1 from rfl)]
      obtain ⟨e', b1, b2, b3, b4, b5⟩ := ih n1 n2 (i + 1) (by omega) (by omega) (by omega) (by omega) (fun k h1 h2 => by
        by_cases q : k = i
        · subst q; exact e
        · exact hB k h1 (by omega))
      exact ⟨e', by omega, b2, b3, b4, b5⟩
    · rw [if_neg e, if_neg (show ¬ nI (kc (B i)) = 1 from fun q => e ((nI_eq (by omega) (by omega)).mp q)), j3_readToken_142, if_neg (by decide)]
      exact ⟨i, by omega, by omega, hB, rfl, rfl⟩
/-- numbers -/
def nval (B : Nat → Nat) (b : Nat) : Nat → Nat
  | 0 => 0
  | m + 1 => if nval B b m ≤ 9999 then nval B b m * 10 + (B (b + m) - 48) else nval B b m
theorem nval_s (B : Nat → Nat) (b m : Nat) : nval B b (m + 1) = if nval B b m ≤ 9999 then nval B b m * 10 + (B (b + m) - 48) else nval B b m := rfl
theorem nval_le (B : Nat → Nat) (b : Nat) : ∀ m, (∀ k, k < m → B (b + k) < 256) → nval B b m < 200000 := by
  intro m
  induction m with
  | zero => intro _; unfold nval; decide
  | succ m ih =>
    intro h
    have i := ih (fun k hk => h k (by omega))
    have hb := h m (by omega)
    rw [nval_s]
    by_cases q : nval B b m ≤ 9999
    · rw [if_pos q]; omega
    · rw [if_neg q]; exact i
theorem num_step {v c : Nat} (hv : v ≤ 9999) (h1 : 48 ≤ c) (h2 : c < 256) : lN v * 10 + (nI c).toInt64 - 48 = lN (v * 10 + (c - 48)) := by
  rw [show (10 : Int64) = lN 10 from rfl, show (48 : Int64) = lN 48 from rfl, nI_l (by omega), lN_mul, lN_add, lN_sub (by omega)]
  congr 1
  omega
theorem dig_turn {tb xt : Nat → Int32} {B : Nat → Nat} {L : Nat} {xtok xbeg : Int32} (hT : Tape tb xt B L) {n b i : Nat} (hb : b ≤ i) (hi : i < L) : l5_nextToken_197 (n + 1) xt (nI L) xtok xbeg (nI i) (lN (nval B b (i - b))) = if kc (B i) = 2 then l5_nextToken_197 n xt (nI L) xtok xbeg (nI (i + 1)) (lN (nval B b (i + 1 - b))) else j5_nextToken_281 xt (nI L) xtok xbeg (nI i) (lN (nval B b (i - b))) := by
  have hL := hT.1
  obtain ⟨h1, h2, h3⟩ := hT.2 i hi
  have hle : ¬ (nI L ≤ nI i) := fun q => by have := (nI_leI (by omega) (by omega)).mp q; omega
  obtain ⟨-, -, -, -, -, f6, -⟩ := bt_fin (B i) h1
  have hc : nval B b (i - b) < 200000 := nval_le B b (i - b) (fun k hk => (hT.2 (b + k) (by omega)).1)
  rw [l5_nextToken_197, if_neg hle, inb_y (show 120 < 2 ^ 31 by decide) (show i < 120 by omega), gd_t, gd_t, nI_clamp (by omega), h2, f6]
  by_cases e : kc (B i) = 2
  · have e' := kc2.mp e
    rw [if_pos e, if_pos e', if_neg ne10, show (9999 : Int64) = lN 9999 from rfl]
    have hs : nval B b (i + 1 - b) = if nval B b (i - b) ≤ 9999 then nval B b (i - b) * 10 + (B i - 48) else nval B b (i - b) := by
      rw [show i + 1 - b = (i - b) + 1 by omega, nval_s, show b + (i - b) = i by omega]
    rw [hs]
    have hm : lg_cmp (lN (nval B b (i - b))) (lN 9999) ≤ 0 ↔ nval B b (i - b) ≤ 9999 := lc_le (by omega) (by decide)
    by_cases q : nval B b (i - b) ≤ 9999
    · rw [if_pos (hm.mpr q), if_pos q, j5_nextToken_265, num_step q e'.1 h1, nI_1]
    · rw [if_neg (fun p => q (hm.mp p)), if_neg q, j5_nextToken_265, nI_1]
  · rw [if_neg e, if_neg (fun q => e (kc2.mpr q)), if_pos rfl]
theorem num_loop {tb xt : Nat → Int32} {B : Nat → Nat} {L b : Nat} {rvl xtok : Int32} (hT : Tape tb xt B L) : ∀ (m n1 n2 i : Nat), i + m = L → m < n1 → m < n2 → b < i → (∀ k, b ≤ k → k < i → kc (B k) = 2) → ∃ e, i ≤ e ∧ e ≤ L ∧ (∀ k, b ≤ k → k < e → kc (B k) = 2) ∧ l3_readToken_84 n1 tb (nI L) 2 (nI b) (nI i) rvl = j3_readToken_142 tb (nI L) 2 (nI b) (nI e) rvl ∧ l5_nextToken_197 n2 xt (nI L) xtok (nI b) (nI i) (lN (nval B b (i - b))) = j5_nextToken_281 xt (nI L) xtok (nI b) (nI e) (lN (nval B b (e - b))) := by
  have hL := hT.1
  intro m
  induction m with
  | zero =>
    intro n1 n2 i hi hn1 hn2 hb hB
    obtain ⟨n1, rfl⟩ : ∃ q, n1 = q + 1 := ⟨n1 - 1, by omega⟩
    obtain ⟨n2, rfl⟩ : ∃ q, n2 = q + 1 := ⟨n2 - 1, by omega⟩
    refine ⟨i, by omega, by omega, hB, ?_, ?_⟩
    · rw [l3_readToken_84, if_neg (by decide), if_pos rfl, j3_readToken_100, if_pos (nI_le (by omega) (by omega))]
    · rw [l5_nextToken_197, if_pos (nI_le (by omega) (by omega))]
  | succ m ih =>
    intro n1 n2 i hi hn1 hn2 hb hB
    obtain ⟨n1, rfl⟩ : ∃ q, n1 = q + 1 := ⟨n1 - 1, by omega⟩
    obtain ⟨n2, rfl⟩ : ∃ q, n2 = q + 1 := ⟨n2 - 1, by omega⟩
    have hle : ¬ (nI L ≤ nI i) := fun q => by have := (nI_leI (by omega) (by omega)).mp q; omega
    rw [dig_turn hT (by omega) (by omega), l3_readToken_84, if_neg (by decide), if_pos rfl, j3_readToken_100, if_neg hle, at_ok hT (show i < L by omega), ob1_so, nI_1]
    have hk := kc_le (B i)
    by_cases e : kc (B i) = 2
    · rw [if_pos e, e, if_pos (show nI 2 = 2 from rfl)]
      obtain ⟨e', b1, b2, b3, b4, b5⟩ := ih n1 n2 (i + 1) (by omega) (by omega) (by omega) (by omega) (fun k h1 h2 => by
        by_cases q : k = i
        · subst q; exact e
        · exact hB k h1 (by omega))
      exact ⟨e', by omega, b2, b3, b4, b5⟩
    · rw [if_neg e, if_neg (show ¬ nI (kc (B i)) = 2 from fun q => e ((nI_eq (by omega) (by omega)).mp q))]
      exact ⟨i, by omega, by omega, hB, rfl, rfl⟩
theorem val_loop {tb xt : Nat → Int32} {B : Nat → Nat} {L b e : Nat} (hT : Tape tb xt B L) (hb : b ≤ e) (he : e ≤ L) (hB : ∀ k, b ≤ k → k < e → kc (B k) = 2) : ∀ (m n i : Nat), i + m = e → b ≤ i → m < n → l3_readValue_10 n tb (nI b) (nI e) (nI (min 10000 (nval B b (i - b)))) (nI i) = some (nI (min 10000 (nval B b (e - b)))) := by
  have hL := hT.1
  intro m
  induction m with
  | zero =>
    intro n i hi hb hn
    obtain ⟨n, rfl⟩ : ∃ q, n = q + 1 := ⟨n - 1, by omega⟩
    rw [l3_readValue_10, if_pos (nI_le (by omega) (by omega)), show i = e by omega]
  | succ m ih =>
    intro n i hi hb hn
    obtain ⟨n, rfl⟩ : ∃ q, n = q + 1 := ⟨n - 1, by omega⟩
    have hle : ¬ (nI e ≤ nI i) := fun q => by have := (nI_leI (by omega) (by omega)).mp q; omega
    obtain ⟨h1, h2, h3⟩ := hT.2 i (by omega)
    have e' := kc2.mp (hB i hb (by omega))
    have hc : nval B b (i - b) < 200000 := nval_le B b (i - b) (fun k hk => (hT.2 (b + k) (by omega)).1)
    have h7 := (bt_fin (B i) h1).2.2.2.2.2.2 (by omega)
    have := ih n (i + 1) (by omega) (by omega) (by omega)
    rw [l3_readValue_10, if_neg hle, inb_y (show 120 < 2 ^ 31 by decide) (show i < 120 by omega), gd_t, nI_clamp (show i < 2 ^ 31 by omega), h3, h7, nI_1, li 10, pk_mul, nI_add, li 48, pk_sub (by omega), li 10000, jmin_n (by decide) (by omega)]
    rw [← this]
    congr 2
    rw [show i + 1 - b = (i - b) + 1 by omega, nval_s, show b + (i - b) = i by omega]
    by_cases q : nval B b (i - b) ≤ 9999
    · rw [if_pos q]; omega
    · rw [if_neg q]; omega
