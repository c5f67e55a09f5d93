/-! what the Statement gives at the start: the class's static arrays, two statics of the JDK, the String constants -/
def flN : List Cond := flatC (Jvm.Cond.and given_1 narrow_1)
theorem flN_ok {args : Array Value} {s : State} (h : (Jvm.Cond.and given_1 narrow_1).before args s = true) {w : Cond} {i : Nat} (hw : flN[i]? = some w) : w.before args s = true := flat_of_before _ h w (List.mem_of_getElem? hw)
def nth (l : List Nat) (i : Nat) : Nat := l.getD i 0
def tmS (i : Nat) : Term := .string RX3 (nth [61, 63, 65, 67, 69, 71, 73, 89, 95, 97, 99, 47, 52, 57, 59] i)
set_option maxRecDepth 100000 in
set_option maxHeartbeats 4000000 in
theorem fl_ex : ∀ i, i < 15 → flN[nth [61, 70, 80, 89, 102, 119, 133, 150, 165, 181, 198, 216, 235, 256, 277] i]? = some (Cond.exactly (tmS i) "java/lang/String") := by decide +kernel
set_option maxRecDepth 100000 in
set_option maxHeartbeats 4000000 in
theorem fl_co : ∀ i, i < 15 → flN[nth [62, 71, 81, 90, 103, 120, 134, 151, 166, 182, 199, 217, 236, 257, 278] i]? = some (Cond.eq (.field (tmS i) "java/lang/String" "coder" "B") (.int 0)) := by decide +kernel
set_option maxRecDepth 100000 in
set_option maxHeartbeats 4000000 in
theorem fl_ar : ∀ i, i < 15 → flN[nth [63, 72, 82, 91, 104, 121, 135, 152, 167, 183, 200, 218, 237, 258, 279] i]? = some (Cond.arrayOf (.field (tmS i) "java/lang/String" "value" "[B") .byte) := by decide +kernel
set_option maxRecDepth 100000 in
set_option maxHeartbeats 4000000 in
theorem fl_le : ∀ i, i < 15 → flN[nth [64, 73, 83, 92, 105, 122, 136, 153, 168, 184, 201, 219, 238, 259, 280] i]? = some (Cond.eq (.length (.field (tmS i) "java/lang/String" "value" "[B")) (.int (Int32.ofNat (lenS.getD i 0)))) := by decide +kernel
set_option maxRecDepth 100000 in
set_option maxHeartbeats 4000000 in
theorem fl_el : ∀ i, i < 15 → ∀ j, j < lenS.getD i 0 → flN[nth (([[65, 66, 67, 68, 69], [74, 75, 76, 77, 78], [84, 85, 86], [93, 94, 95, 96, 97, 98], [106, 107, 108, 109, 110, 111, 112, 113, 114], [123, 124, 125, 126, 127], [137, 138, 139, 140, 141, 142, 143], [154, 155, 156, 157], [169, 170, 171, 172], [185, 186, 187, 188], [202, 203, 204, 205], [220, 221, 222, 223], [239, 240, 241, 242, 243], [260, 261, 262, 263], [281, 282, 283]] : List (List Nat)).getD i []) j]? = some (Cond.eq (.elem (.field (tmS i) "java/lang/String" "value" "[B") (.int (Int32.ofNat j))) (.int ((bytS.getD i []).getD j 0))) := by decide +kernel
set_option maxRecDepth 100000 in
set_option maxHeartbeats 4000000 in
theorem fl_ne : ∀ i, i < 15 → ∀ j, j < 15 → i < j → flN[nth (([[0, 79, 87, 99, 115, 128, 144, 158, 173, 189, 206, 224, 244, 264, 284], [0, 0, 88, 100, 116, 129, 145, 159, 174, 190, 207, 225, 245, 265, 285], [0, 0, 0, 101, 117, 130, 146, 160, 175, 191, 208, 226, 246, 266, 286], [0, 0, 0, 0, 118, 131, 147, 161, 176, 192, 209, 227, 247, 267, 287], [0, 0, 0, 0, 0, 132, 148, 162, 177, 193, 210, 228, 248, 268, 288], [0, 0, 0, 0, 0, 0, 149, 163, 178, 194, 211, 229, 249, 269, 289], [0, 0, 0, 0, 0, 0, 0, 164, 179, 195, 212, 230, 250, 270, 290], [0, 0, 0, 0, 0, 0, 0, 0, 180, 196, 213, 231, 251, 271, 291], [0, 0, 0, 0, 0, 0, 0, 0, 0, 197, 214, 232, 252, 272, 292], [0, 0, 0, 0, 0, 0, 0, 0, 0, 0, 215, 233, 253, 273, 293], [0, 0, 0, 0, 0, 0, 0, 0, 0, 0, 0, 234, 254, 274, 294], [0, 0, 0, 0, 0, 0, 0, 0, 0, 0, 0, 0, 255, 275, 295], [0, 0, 0, 0, 0, 0, 0, 0, 0, 0, 0, 0, 0, 276, 296], [0, 0, 0, 0, 0, 0, 0, 0, 0, 0, 0, 0, 0, 0, 297], [0, 0, 0, 0, 0, 0, 0, 0, 0, 0, 0, 0, 0, 0, 0]] : List (List Nat)).getD i []) j]? = some (Cond.not (Cond.eq (tmS i) (tmS j))) := by decide +kernel
set_option maxRecDepth 100000 in
set_option maxHeartbeats 4000000 in
theorem fa_ar0 : flN[5]? = some (Cond.arrayOf (.static RX4 "SETTING_FIRST" "[I") .int) := by decide +kernel
set_option maxRecDepth 100000 in
set_option maxHeartbeats 4000000 in
theorem fa_le0 : flN[6]? = some (Cond.eq (.length (.static RX4 "SETTING_FIRST" "[I")) (.int (Int32.ofNat 3))) := by decide +kernel
set_option maxRecDepth 100000 in
set_option maxHeartbeats 4000000 in
theorem fa_el0 : ∀ j, j < 3 → flN[nth [7, 8, 9] j]? = some (Cond.eq (.elem (.static RX4 "SETTING_FIRST" "[I") (.int (Int32.ofNat j))) (.int (kSF j))) := by decide +kernel
set_option maxRecDepth 100000 in
set_option maxHeartbeats 4000000 in
theorem fa_ar1 : flN[11]? = some (Cond.arrayOf (.static RX4 "SETTING_MOST" "[I") .int) := by decide +kernel
set_option maxRecDepth 100000 in
set_option maxHeartbeats 4000000 in
theorem fa_le1 : flN[12]? = some (Cond.eq (.length (.static RX4 "SETTING_MOST" "[I")) (.int (Int32.ofNat 3))) := by decide +kernel
set_option maxRecDepth 100000 in
set_option maxHeartbeats 4000000 in
theorem fa_el1 : ∀ j, j < 3 → flN[nth [13, 14, 15] j]? = some (Cond.eq (.elem (.static RX4 "SETTING_MOST" "[I") (.int (Int32.ofNat j))) (.int (kSM j))) := by decide +kernel
set_option maxRecDepth 100000 in
set_option maxHeartbeats 4000000 in
theorem fa_ar2 : flN[52]? = some (Cond.arrayOf (.static RX4 "KIND_ABOVE" "[I") .int) := by decide +kernel
set_option maxRecDepth 100000 in
set_option maxHeartbeats 4000000 in
theorem fa_le2 : flN[53]? = some (Cond.eq (.length (.static RX4 "KIND_ABOVE" "[I")) (.int (Int32.ofNat 7))) := by decide +kernel
set_option maxRecDepth 100000 in
set_option maxHeartbeats 4000000 in
theorem fa_el2 : ∀ j, j < 7 → flN[nth [54, 55, 56, 57, 58, 59, 60] j]? = some (Cond.eq (.elem (.static RX4 "KIND_ABOVE" "[I") (.int (Int32.ofNat j))) (.int (kKA j))) := by decide +kernel
set_option maxRecDepth 100000 in
set_option maxHeartbeats 4000000 in
theorem fa_ar3 : flN[17]? = some (Cond.arrayOf (.static RX4 "TRAIT_FIRST" "[I") .int) := by decide +kernel
set_option maxRecDepth 100000 in
set_option maxHeartbeats 4000000 in
theorem fa_le3 : flN[18]? = some (Cond.eq (.length (.static RX4 "TRAIT_FIRST" "[I")) (.int (Int32.ofNat 7))) := by decide +kernel
set_option maxRecDepth 100000 in
set_option maxHeartbeats 4000000 in
theorem fa_el3 : ∀ j, j < 7 → flN[nth [19, 20, 21, 22, 23, 24, 25] j]? = some (Cond.eq (.elem (.static RX4 "TRAIT_FIRST" "[I") (.int (Int32.ofNat j))) (.int (kTF j))) := by decide +kernel
set_option maxRecDepth 100000 in
set_option maxHeartbeats 4000000 in
theorem fa_ar4 : flN[27]? = some (Cond.arrayOf (.static RX4 "TRAIT_LEAST" "[I") .int) := by decide +kernel
set_option maxRecDepth 100000 in
set_option maxHeartbeats 4000000 in
theorem fa_le4 : flN[28]? = some (Cond.eq (.length (.static RX4 "TRAIT_LEAST" "[I")) (.int (Int32.ofNat 7))) := by decide +kernel
set_option maxRecDepth 100000 in
set_option maxHeartbeats 4000000 in
theorem fa_el4 : ∀ j, j < 7 → flN[nth [29, 30, 31, 32, 33, 34, 35] j]? = some (Cond.eq (.elem (.static RX4 "TRAIT_LEAST" "[I") (.int (Int32.ofNat j))) (.int (kTL j))) := by decide +kernel
set_option maxRecDepth 100000 in
set_option maxHeartbeats 4000000 in
theorem fa_ar5 : flN[37]? = some (Cond.arrayOf (.static RX4 "TRAIT_MOST" "[I") .int) := by decide +kernel
set_option maxRecDepth 100000 in
set_option maxHeartbeats 4000000 in
theorem fa_le5 : flN[38]? = some (Cond.eq (.length (.static RX4 "TRAIT_MOST" "[I")) (.int (Int32.ofNat 7))) := by decide +kernel
set_option maxRecDepth 100000 in
set_option maxHeartbeats 4000000 in
theorem fa_el5 : ∀ j, j < 7 → flN[nth [39, 40, 41, 42, 43, 44, 45] j]? = some (Cond.eq (.elem (.static RX4 "TRAIT_MOST" "[I") (.int (Int32.ofNat j))) (.int (kTM j))) := by decide +kernel
set_option maxRecDepth 100000 in
set_option maxHeartbeats 4000000 in
theorem fl_cs : flN[46]? = some (Cond.eq (.static "java/lang/String" "COMPACT_STRINGS" "Z") (.int 1)) := by decide +kernel
set_option maxRecDepth 100000 in
set_option maxHeartbeats 4000000 in
theorem fl_si : flN[47]? = some (Cond.isRef (.static "jdk/internal/util/Preconditions" "SIOOBE_FORMATTER" "Ljava/util/function/BiFunction;")) := by decide +kernel
theorem gt {w : Cond} (h : w ∈ lw_g) : w ∈ lw_tbl := (List.mem_filter.mp h).1
theorem sz_of {args : Array Value} {s : State} {A : Nat → Prop} (hgv : (Jvm.Cond.and given_1 narrow_1).before args s = true) (hts : ∀ w ∈ lw_tbl, w.before args s = true) (hA : ∀ a : Nat, a < s.heap.size → ¬ A a) {nm : String} {N i1 i2 : Nat} {ix : Nat → Nat} {f : Nat → Int32} (hN : N < 2 ^ 31) (hlay : Cond.laysStatic RX4 nm "[I" ∈ lw_tbl) (ha : flN[i1]? = some (Cond.arrayOf (.static RX4 nm "[I") .int)) (hl : flN[i2]? = some (Cond.eq (.length (.static RX4 nm "[I")) (.int (Int32.ofNat N)))) (he : ∀ j, j < N → flN[ix j]? = some (Cond.eq (.elem (.static RX4 nm "[I") (.int (Int32.ofNat j))) (.int (f j)))) : ∃ t : Nat, SZ nm t N f A s s.heap := by
  obtain ⟨t, h1, h2⟩ := va_Tof (A := A) (f := fun j => .int (f j)) hN (flN_ok hgv ha) (va_eqt (flN_ok hgv hl)) (fun j hj => va_eqt (flN_ok hgv (he j hj))) hA
  exact ⟨t, va_Zref (hts _ hlay) (hts _ (gt q49)) h1 hA, h2⟩

set_option maxRecDepth 100000 in
set_option maxHeartbeats 4000000 in
theorem xc_of {args : Array Value} {s : State} {A : Nat → Prop} (hgv : (Jvm.Cond.and given_1 narrow_1).before args s = true) (hts : ∀ w ∈ lw_tbl, w.before args s = true) (hA : ∀ a : Nat, a < s.heap.size → ¬ A a) : ∃ ta adK adV : Nat → Nat, XC ta adK adV A s s.heap := by
  obtain ⟨t0, z0⟩ := sz_of hgv hts hA (N := 3) (f := kSF) (by decide) q79 fa_ar0 fa_le0 fa_el0
  obtain ⟨t1, z1⟩ := sz_of hgv hts hA (N := 3) (f := kSM) (by decide) q238 fa_ar1 fa_le1 fa_el1
  obtain ⟨t2, z2⟩ := sz_of hgv hts hA (N := 7) (f := kKA) (by decide) q644 fa_ar2 fa_le2 fa_el2
  obtain ⟨t3, z3⟩ := sz_of hgv hts hA (N := 7) (f := kTF) (by decide) q253 fa_ar3 fa_le3 fa_el3
  obtain ⟨t4, z4⟩ := sz_of hgv hts hA (N := 7) (f := kTL) (by decide) q291 fa_ar4 fa_le4 fa_el4
  obtain ⟨t5, z5⟩ := sz_of hgv hts hA (N := 7) (f := kTM) (by decide) q293 fa_ar5 fa_le5 fa_el5
  obtain ⟨adK, adV, hS, hev⟩ := vk_Sof (args := args) (s := s) (N := 15) (tm := tmS) (len := lenS) (byt := bytS) (A := A) (by decide) (fun i hi => flN_ok hgv (fl_ex i hi)) (fun i hi => flN_ok hgv (fl_co i hi)) (fun i hi => flN_ok hgv (fl_ar i hi)) (fun i hi => flN_ok hgv (fl_le i hi)) (fun i hi j hj => flN_ok hgv (fl_el i hi j hj))
    (fun i j hi hj hne => by
      rcases Nat.lt_or_gt_of_ne hne with h | h
      · exact Or.inl (flN_ok hgv (fl_ne i hi j hj h))
      · exact Or.inr (flN_ok hgv (fl_ne j hj i hi h))) hA
  have hN : XN s := ⟨va_Nw.of rfl (hts _ q78), va_Nw.of rfl (hts _ q252), va_Nw.of rfl (hts _ q307), va_Nw.of rfl (hts _ q313), va_Nw.of rfl (hts _ q602), va_Nw.of rfl (hts _ q609), va_Nw.of rfl (hts _ q610), va_Nw.of rfl (hts _ q629), va_Nw.of rfl (hts _ q115), va_Nw.of rfl (hts _ q121), va_Nw.of rfl (hts _ q156), va_Nw.of rfl (hts _ q232), va_Nw.of rfl (hts _ q615)⟩
  have hR : XR adK s := ⟨vk_R.of (hts _ q538) (hev 0 (by decide)), vk_R.of (hts _ q539) (hev 1 (by decide)), vk_R.of (hts _ q540) (hev 2 (by decide)), vk_R.of (hts _ q541) (hev 3 (by decide)), vk_R.of (hts _ q542) (hev 4 (by decide)), vk_R.of (hts _ q543) (hev 5 (by decide)), vk_R.of (hts _ q544) (hev 6 (by decide)), vk_R.of (hts _ q604) (hev 7 (by decide)), vk_R.of (hts _ q616) (hev 8 (by decide)), vk_R.of (hts _ q617) (hev 9 (by decide)), vk_R.of (hts _ q618) (hev 10 (by decide)), vk_R.of (hts _ q619) (hev 11 (by decide)), vk_R.of (hts _ q624) (hev 12 (by decide)), vk_R.of (hts _ q630) (hev 13 (by decide)), vk_R.of (hts _ q631) (hev 14 (by decide))⟩
  have hJ : XJ adK adV A s s.heap := ⟨va_Zof (hts _ q558) (hts _ (gt q58)) (va_eqi (flN_ok hgv fl_cs)) hA, va_Zqof (hts _ q574) (hts _ (gt q60)) (flN_ok hgv fl_si) hA, hS⟩
  exact ⟨fun k => match k with | 0 => t0 | 1 => t1 | 2 => t2 | 3 => t3 | 4 => t4 | _ => t5, adK, adV, ⟨⟨z0, z1, z2, z3, z4, z5⟩, hN, hR, hJ⟩, va_AO.of (hts _ q154), (show va_AOA .int s from hts _ q77)⟩
/-- the classes of the arrays that the worlds hold -/
theorem ar_of {args : Array Value} {s : State} {t : FieldType} (h : (Cond.arrayClass t).before args s = true) (ht : ∀ C, t ≠ .object C) : ∃ cA : ClassId, ArrOfT s cA t ∧ va_RA s cA t := by
  obtain ⟨cA, kA, comp, h1, h2, h3⟩ := Cond.arrayClass_spec h
  refine ⟨cA, fun n z => ⟨fun k h => (by cases h), kA, h2, comp, h3⟩, ?_⟩
  cases t with
  | object C => exact absurd rfl (ht C)
  | _ => exact h1
theorem ao_of {s : State} {C : String} (h : va_AO C s) : ∃ cA : ClassId, ArrOfT s cA (.object C) ∧ va_RA s cA (.object C) := by
  obtain ⟨comp, c, k, h1, h2, h3, h4, h5⟩ := Cond.arrayOver_spec h
  exact ⟨c, fun n z => ⟨fun k h => (by cases h), k, h3, comp, h4⟩, k, comp, h3, h4, h1, h5⟩
theorem aoa_of {s : State} {t : FieldType} (h : va_AOA t s) : ∃ cA : ClassId, ArrOfT s cA (.array t) ∧ va_RA s cA (.array t) := by
  obtain ⟨comp, c, k, h1, h3, h4, h5⟩ := Cond.arrayOver_specA h
  exact ⟨c, fun n z => ⟨fun k h => (by cases h), k, h3, comp, h4⟩, h5⟩
