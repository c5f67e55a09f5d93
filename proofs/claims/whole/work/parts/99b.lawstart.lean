/-! the law from its entry -/
theorem pit0 : PitOK x0 (fun _ => 5) kSF (fun _ _ => 0) (fun _ => -1) 0 0 1 := by
  have h0 : ∀ k, k < 56 → x0 (22 + k) = 0 := by decide +kernel
  have h1 : ∀ c, c < 16 → x0 (6 + c) = 5 := by decide +kernel
  have h2 : ∀ i, i < 3 → x0 (3 + i) = kSF i := by decide +kernel
  have h3 : ∀ k, k < 10 → x0 (78 + k) = -1 := by decide +kernel
  refine ⟨0, rfl, ⟨h1, h2, fun t v ht hv => ?_, h3, by decide +kernel, by decide +kernel, by decide +kernel⟩, ⟨fun c _ => (show Bt 5 0 30 from ⟨by decide +kernel, by decide +kernel⟩), ⟨by decide +kernel, by decide +kernel⟩, ⟨by decide +kernel, by decide +kernel⟩, ⟨by decide +kernel, by decide +kernel⟩, by decide, ⟨by decide +kernel, by decide +kernel⟩, fun v hv => absurd hv (Nat.not_lt_zero v)⟩, fun k _ => Or.inl rfl⟩
  rw [Nat.add_assoc]
  exact h0 (7 * v + t) (by omega)
set_option maxHeartbeats 4000000 in
set_option maxRecDepth 100000 in
/-- the classes of the objects that the worlds hold -/
theorem kn_of {args : Array Value} {s : State} (hg : ∀ w ∈ lw_g, w.before args s = true) : ∃ D : va_G, ∀ (k : Nat) (q : vw_C), cls6[k]? = some q → u_Kn s q.1 q.2.1 q.2.2 (D.1 k) (D.2 k) := by
  obtain ⟨c0, j0, k0⟩ := u_known (C := RX0) (T := TX0) (N := 7) (n := 7) hg i_X0 (hg _ q71)
  obtain ⟨c1, j1, k1⟩ := u_known (C := RX1) (T := TX1) (N := 3) (n := 3) hg i_X1 (hg _ q155)
  obtain ⟨c2, j2, k2⟩ := u_known (C := RX2) (T := TX2) (N := 2) (n := 2) hg i_X2 (hg _ q120)
  obtain ⟨c3, j3, k3⟩ := u_known (C := RX3) (T := TX3) (N := 5) (n := 5) hg i_X3 (hg _ q114)
  obtain ⟨c4, j4, k4⟩ := u_known (C := RX4) (T := TX4) (N := 8) (n := 8) hg i_X4 (hg _ q63)
  obtain ⟨c5, j5, k5⟩ := u_known (C := RX5) (T := TX5) (N := 20) (n := 20) hg i_X5 (hg _ q708)
  refine ⟨(fun k => match k with | 0 => c0 | 1 => c1 | 2 => c2 | 3 => c3 | 4 => c4 | _ => c5, fun k => match k with | 0 => j0 | 1 => j1 | 2 => j2 | 3 => j3 | 4 => j4 | _ => j5), ?_⟩
  intro k q hq
  match k, hq with
  | 0, hq => cases hq; exact k0
  | 1, hq => cases hq; exact k1
  | 2, hq => cases hq; exact k2
  | 3, hq => cases hq; exact k3
  | 4, hq => cases hq; exact k4
  | 5, hq => cases hq; exact k5
  | k + 6, hq => simp [cls6] at hq
set_option maxHeartbeats 4000000 in
set_option maxRecDepth 100000 in
theorem whole_start {p : Program} {e : Env} {s : State} {m : MethodId} {below : List Frame} {meth : Method} {c : Code} (l : Launch) (hflags : l.flags = flags0) {b L : Nat} {xs : Nat → Int32} (hL : L ≤ 3072) (C0 : lw_At p s m meth c b L xs) : W p l e room_1 s m #[Value.ref b] below meth c s.heap [] 0 0 (lw_Z below #[Value.ref b] s) (entryFrame m ([Value.ref b] : List Value).toArray 4) := by
  obtain ⟨hx, hb, hr, hml, hown, hts, hX, hbl, hlocks, hgv⟩ := id C0
  have hA0 : ∀ a : Nat, a < s.heap.size → ¬ (fun q : Nat => s.heap.size ≤ q) a := fun a h => Nat.not_le.mpr h
  obtain ⟨ta, adK, adV, hXC⟩ := xc_of (A := fun q : Nat => s.heap.size ≤ q) hgv hts hA0
  have hg : ∀ w ∈ lw_g, w.before #[Value.ref b] s = true := fun w h => hts w (gt h)
  have C1 : CX (XC ta adK adV) p s m #[Value.ref b] meth c code 4 ret RL (fun q : Nat => s.heap.size ≤ q) := ⟨hx, hb, hr, hml, hown, hg, hlocks, fun _ h => h, XC_ok⟩
  obtain ⟨D, hKc⟩ := kn_of hg
  obtain ⟨cI, aI⟩ := ar_of (hg _ q112) (fun C h => by cases h)
  obtain ⟨cB, aB⟩ := ar_of (hg _ q135) (fun C h => by cases h)
  obtain ⟨cC, aC⟩ := ar_of (hg _ q774) (fun C h => by cases h)
  obtain ⟨cS, aS⟩ := ao_of hXC.2.1
  obtain ⟨cG, aG⟩ := aoa_of hXC.2.2
  have hK : va_K D cls6 (tyL cI cB cG cS cC) s := ⟨hKc, fun k q hq => by
    match k, hq with
    | 0, hq => cases hq; exact aI
    | 1, hq => cases hq; exact aB
    | 2, hq => cases hq; exact aG
    | 3, hq => cases hq; exact aS
    | 4, hq => cases hq; exact aC
    | k + 5, hq => simp [tyL] at hq⟩
  have G : GX (XC ta adK adV) D (tyL cI cB cG cS cC) (fun q : Nat => s.heap.size ≤ q) s [] s.heap [] := ⟨hK, fun k q h => by simp at h, ⟨fun i j p q h => by simp at h, fun k q h => by simp at h⟩, va_S.rf, hXC⟩
  have hl := lv_entry ([.ref b]) (n := 4) (Nat.le_of_ble_eq_true rfl)
  rw [lg_entry_eq]
  generalize (lg_sl ([.ref b]) ++ List.replicate (4 - (lg_sl ([.ref b])).length) Slot.unset).toArray = ls at hl ⊢
  have hl : lv_has ls 4 [(0, .ref b)] := hl
  refine t_new (ci := 4) (fs := [.null, .null, .null, .null, .null, .null, .null, .int 0]) (C := RX4) (T := TX4) (N := 8) C1 G i_X4 tyX4 tyX4_ok q62 q63 q49 rfl (fun j hj => by rcases (show j = 0 ∨ j = 1 ∨ j = 2 ∨ j = 3 ∨ j = 4 ∨ j = 5 ∨ j = 6 ∨ j = 7 by omega) with rfl | rfl | rfl | rfl | rfl | rfl | rfl | rfl <;> rfl) (Nat.le_of_ble_eq_true rfl) (Nat.le_of_ble_eq_true rfl) dL_law_0 (fun h4 H G => ?_)
  refine W.widen (k := 1) (n := 8) (Nat.le_of_ble_eq_true rfl) (Nat.le_of_ble_eq_true rfl) ?_
  have G : GX (XC ta adK adV) D (tyL cI cB cG cS cC) (fun q : Nat => s.heap.size ≤ q) s (w4i h4) H [] := G
  refine lv_dup hx hb dL_law_3 rfl ?_
  have hs : Sub (w4i h4) (w4i h4) [] [0] [] := ⟨rfl, rfl, rfl, rfl, by decide⟩
  refine l_goc (f := w4f cI cB cG cS h4) C1 G hs (l_runI (tys' := tyC cI cB cG cS) (As := []) (rest := [.ref h4]) (n := 0) C1 G hs (fun _ _ _ h => h) XC_ok [0, 1, 2, 3] rfl c4_init q66 q49 q64 q65 rfl o4_init ⟨rfl, rfl⟩ ⟨Nat.le_of_ble_eq_true rfl, Nat.le_of_ble_eq_true rfl⟩ rfl hl.1 rfl (Nat.le_of_ble_eq_true rfl) dL_law_4 ⟨Nat.le_of_ble_eq_true rfl, Nat.le_of_ble_eq_true rfl⟩) (fun u4 H locs G => ?_)
  refine W.widen (k := 50) (n := 615) (Nat.le_of_ble_eq_true rfl) (Nat.le_of_ble_eq_true rfl) ?_
  have G : GX (XC ta adK adV) D (tyL cI cB cG cS cC) (fun q : Nat => s.heap.size ≤ q) s (w4f cI cB cG cS h4 u4) H locs := G
  refine lv_astore_n (lv' := [(1, .ref h4), (0, .ref b)]) hx hb dL_law_7 rfl hl (by decide) rfl (fun ls hl => ?_)
  refine t_new (ci := 5) (fs := [.null, .null, .null, .int 0, .null, .int 0, .null, .null, .int 0, .int 0, .int 0, .int 0, .long 0, .null, .null, .null, .null, .null, .null, .null]) (C := RX5) (T := TX5) (N := 20) C1 G i_X5 tyX5 tyX5_ok q707 q708 q54 rfl (fun j hj => by rcases (show j = 0 ∨ j = 1 ∨ j = 2 ∨ j = 3 ∨ j = 4 ∨ j = 5 ∨ j = 6 ∨ j = 7 ∨ j = 8 ∨ j = 9 ∨ j = 10 ∨ j = 11 ∨ j = 12 ∨ j = 13 ∨ j = 14 ∨ j = 15 ∨ j = 16 ∨ j = 17 ∨ j = 18 ∨ j = 19 by omega) with rfl | rfl | rfl | rfl | rfl | rfl | rfl | rfl | rfl | rfl | rfl | rfl | rfl | rfl | rfl | rfl | rfl | rfl | rfl | rfl <;> rfl) (Nat.le_of_ble_eq_true rfl) (Nat.le_of_ble_eq_true rfl) dL_law_8 (fun h5 H G => ?_)
  refine W.widen (k := 51) (n := 635) (Nat.le_of_ble_eq_true rfl) (Nat.le_of_ble_eq_true rfl) ?_
  have G : GX (XC ta adK adV) D (tyL cI cB cG cS cC) (fun q : Nat => s.heap.size ≤ q) s (w4f cI cB cG cS h4 u4 ++ w5i h5) H locs := G
  refine lv_dup hx hb dL_law_11 rfl ?_
  have hs : Sub (w4f cI cB cG cS h4 u4 ++ w5i h5) (w5i h5) (w4f cI cB cG cS h4 u4) [50] [0, 1, 2, 3, 4, 5, 6, 7, 8, 9, 10, 11, 12, 13, 14, 15, 16, 17, 18, 19, 20, 21, 22, 23, 24, 25, 26, 27, 28, 29, 30, 31, 32, 33, 34, 35, 36, 37, 38, 39, 40, 41, 42, 43, 44, 45, 46, 47, 48, 49] := ⟨rfl, rfl, rfl, rfl, by decide⟩
  refine l_goc (f := w5f cI cC h5) C1 G hs (l_runI (tys' := tyM cI cC) (As := []) (rest := [.ref h5]) (n := 0) C1 G hs x_x0 X0_ok [0, 4] rfl (c5_init X0_ok) q711 q54 q709 q710 rfl o5_init ⟨rfl, rfl⟩ ⟨Nat.le_of_ble_eq_true rfl, Nat.le_of_ble_eq_true rfl⟩ rfl hl.1 rfl (Nat.le_of_ble_eq_true rfl) dL_law_12 ⟨Nat.le_of_ble_eq_true rfl, Nat.le_of_ble_eq_true rfl⟩) (fun u5 H locs G => ?_)
  refine W.widen (k := 600000) (n := 7302250) (Nat.le_of_ble_eq_true rfl) (Nat.le_of_ble_eq_true rfl) ?_
  refine lv_astore_n (lv' := [(2, .ref h5), (1, .ref h4), (0, .ref b)]) hx hb dL_law_15 rfl hl (by decide) rfl (fun ls hl => ?_)
  refine lv_iconst (v := nI 0) hx hb dL_law_16 (by decide) ?_
  refine lv_istore_n (lv' := [(3, .int (nI 0)), (2, .ref h5), (1, .ref h4), (0, .ref b)]) hx hb dL_law_17 rfl hl (by decide) rfl (fun ls hl => ?_)
  have hW : LW (XC ta adK adV) D cI cB cG cS cC (fun k => if k = 0 then h4 else u4 k) (fun k => if k = 0 then h5 else u5 k) (fun q : Nat => s.heap.size ≤ q) s H locs := ⟨(fun _ => 5), kSF, (fun _ _ => 0), (fun _ => -1), 0, 0, 1, (fun _ => 5), kSF, (fun _ _ => 0), (fun _ => -1), 0, 0, 1, (fun _ => 5), kSF, (fun _ _ => 0), (fun _ => -1), 0, 0, 1, (fun _ => 0), 0, 0, 0, 0, 0, (fun _ _ => 0), (fun _ => 0), (fun _ => 0), (fun _ => 0), 0, x0, (fun _ => 0), (fun _ => 0), 0, (fun _ => 0), 0, (fun _ => 0), (fun _ => 0), 0, 0, 0, 0, 0, (fun _ => 0), (fun _ => 0), (fun _ => 0), (fun _ => 0), ⟨pit0, ⟨rfl, Or.inl rfl⟩, fun _ _ => rfl, rfl, ⟨0, by decide, rfl, rfl, fun k h => absurd h (Nat.not_lt_zero k)⟩, ⟨fun _ _ => rfl, fun _ _ => ⟨0, by decide, rfl, rfl⟩, fun _ _ _ _ => rfl⟩⟩, G⟩
  exact law_loop C1 hX hbl hL (L + 1) 0 H locs ls (by omega) (Nat.zero_le L) hW hl
