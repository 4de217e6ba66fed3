theorem INV_0 : INV 0 0 (fun _ => c00) := ⟨Nat.zero_le _, Nat.zero_le _, fun i hi => absurd hi (Nat.not_lt_zero _), fun _ _ => rfl, fun i j _ hj => absurd hj (Nat.not_lt_zero _)⟩
set_option maxHeartbeats 4000000 in
set_option maxRecDepth 100000 in
theorem whole_start {p : Program} {e : Env} {s : State} {m : MethodId} {below : List Frame} {meth : Method} {c : Code} (l : Launch) {b L : Nat} {xs : Nat → Int32} (hL : L ≤ 3072) (C0 : lw_At p s m meth c b L xs) : W p l e room_1 s m #[Value.ref b] below meth c s.heap [] 0 0 (lw_Z below #[Value.ref b] s) (entryFrame m ([Value.ref b] : List Value).toArray 4) := by
  obtain ⟨hx, hb, hr, hml, hown, hts0, hX, hbl, hlocks, hgv⟩ := id C0
  have hb : c.code = cL_law := hb
  have hown : s.vm.findClass RL = some m.cls := hown
  have hts : ∀ w ∈ wsL_law, w.before #[Value.ref b] s = true := fun w h => hts0 w (wsL_law_in w h)
  have hA : ∀ q : Nat, s.heap.size ≤ q → (fun q : Nat => s.heap.size ≤ q) q := fun _ h => h
  have hbA : ¬ (fun q : Nat => s.heap.size ≤ q) b := Nat.not_le.mpr hbl
  obtain ⟨c0, iS0, hKn0⟩ := u_known (C := RX0) (T := TX0) (N := 8) (n := 8) hts inlX0 (hts _ (List.mem_of_getElem? (i := 32) rfl))
  obtain ⟨c1, iS1, hKn1⟩ := u_known (C := RX1) (T := TX1) (N := 7) (n := 7) hts inlX1 (hts _ (List.mem_of_getElem? (i := 21) rfl))
  obtain ⟨c2, iS2, hKn2⟩ := u_known (C := RX2) (T := TX2) (N := 4) (n := 4) hts inlX2 (hts _ (List.mem_of_getElem? (i := 25) rfl))
  obtain ⟨c3, iS3, hKn3⟩ := u_known (C := RX3) (T := TX3) (N := 1) (n := 1) hts inlX3 (hts _ (List.mem_of_getElem? (i := 17) rfl))
  obtain ⟨c4, iS4, hKn4⟩ := u_known (C := RX4) (T := TX4) (N := 9) (n := 9) hts inlX4 (hts _ (List.mem_of_getElem? (i := 1) rfl))
  obtain ⟨c5, iS5, hKn5⟩ := u_known (C := RX5) (T := TX5) (N := 20) (n := 20) hts inlX5 (hts _ (List.mem_of_getElem? (i := 4) rfl))
  obtain ⟨dC, dI, hKc⟩ : ∃ (dC : Nat → ClassId) (dI : Nat → Nat → Nat), ∀ (k : Nat) (q : vw_C), vwCl[k]? = some q → u_Kn s q.1 q.2.1 q.2.2 (dC k) (dI k) := by
    refine ⟨fun k => [c0, c1, c2, c3, c4, c5].getD k c0, fun k => [iS0, iS1, iS2, iS3, iS4, iS5].getD k iS0, ?_⟩
    intro k q hq
    match k, hq with
    | 0, hq => cases hq; exact hKn0
    | 1, hq => cases hq; exact hKn1
    | 2, hq => cases hq; exact hKn2
    | 3, hq => cases hq; exact hKn3
    | 4, hq => cases hq; exact hKn4
    | 5, hq => cases hq; exact hKn5
    | k + 6, hq => simp [vwCl] at hq
  generalize hDe : ((dC, dI) : va_G) = D
  have hKc : ∀ (k : Nat) (q : vw_C), vwCl[k]? = some q → u_Kn s q.1 q.2.1 q.2.2 (D.1 k) (D.2 k) := by rw [← hDe]; exact hKc
  have hS : va_S (fun q : Nat => s.heap.size ≤ q) s.heap s.heap [] := va_S.rf
  have hK : va_K D vwCl [] s := ⟨hKc, fun k q h => by simp at h⟩
  have hP : va_P D vwCl [] s.heap := fun k q h => by simp at h
  have hD : va_D (fun q : Nat => s.heap.size ≤ q) [] := ⟨fun i j p q h => by simp at h, fun k q h => by simp at h⟩
  have hN : NW s := ⟨va_Nw.of rfl (hts0 _ (List.mem_of_getElem? (i := 234) rfl)), va_Nw.of rfl (hts0 _ (List.mem_of_getElem? (i := 221) rfl)), va_Nw.of rfl (hts0 _ (List.mem_of_getElem? (i := 227) rfl)), va_Nw.of rfl (hts0 _ (List.mem_of_getElem? (i := 312) rfl)), va_Nw.of rfl (hts0 _ (List.mem_of_getElem? (i := 44) rfl)), va_Nw.of rfl (hts0 _ (List.mem_of_getElem? (i := 56) rfl)), va_Nw.of rfl (hts0 _ (List.mem_of_getElem? (i := 121) rfl))⟩
  have hAO : va_AO "CaskBook$Cask" s := va_AO.of (hts0 _ (List.mem_of_getElem? (i := 41) rfl))
  have hsg := flat_of_before _ hgv
  have hle : ∀ a : Nat, a < s.heap.size → ¬ (fun q : Nat => s.heap.size ≤ q) a := fun a h => Nat.not_le.mpr h
  have z1 : (Cond.arrayOf (.static "CaskBook" "TRACE_MARKS" "[I") .int).before #[Value.ref b] s = true := hsg _ (by decide +kernel)
  have z2 : (Cond.eq (.length (.static "CaskBook" "TRACE_MARKS" "[I")) (.int 3)).before #[Value.ref b] s = true := hsg _ (by decide +kernel)
  have y0 : (Cond.eq (.elem (.static "CaskBook" "TRACE_MARKS" "[I") (.int 0)) (.int 1)).before #[Value.ref b] s = true := hsg _ (by decide +kernel)
  have y1 : (Cond.eq (.elem (.static "CaskBook" "TRACE_MARKS" "[I") (.int 1)) (.int 11)).before #[Value.ref b] s = true := hsg _ (by decide +kernel)
  have y2 : (Cond.eq (.elem (.static "CaskBook" "TRACE_MARKS" "[I") (.int 2)) (.int 111)).before #[Value.ref b] s = true := hsg _ (by decide +kernel)
  have hZ0 : trE (fun q : Nat => s.heap.size ≤ q) s := by
    obtain ⟨t9, a1, a2⟩ := va_Tof (args := #[Value.ref b]) (s := s) (tm := (.static "CaskBook" "TRACE_MARKS" "[I")) (ty := .int) (N := 3) (f := mkV) (A := (fun q : Nat => s.heap.size ≤ q)) (by decide) z1 (va_eqt z2) (fun j hj => by rcases (show j = 0 ∨ j = 1 ∨ j = 2 by omega) with rfl | rfl | rfl; exact va_eqt y0; exact va_eqt y1; exact va_eqt y2) hle
    exact ⟨t9, va_Zref (hts0 _ (List.mem_of_getElem? (i := 244) rfl)) (hts0 _ (List.mem_of_getElem? (i := 25) rfl)) a1 hle, a2⟩
  have F : CallFix p m c cL_law 4 s #[Value.ref b] wsL_law RL := ⟨hx, hb, hml, hown, hts⟩
  have hl := lv_entry ([.ref b]) (n := 4) (Nat.le_of_ble_eq_true rfl)
  rw [lg_entry_eq]
  generalize (lg_sl ([.ref b]) ++ List.replicate (4 - (lg_sl ([.ref b])).length) Slot.unset).toArray = ls at hl ⊢
  have hl : lv_has ls 4 [(0, .ref b)] := hl
  refine va_new (ci := 4) (fs := [.null, .null, .null, .null, .null, .int 0, .int 0, .int 0, .long 0]) (C := RX4) (T := TX4) (N := 9) hx hb hts inlX4 tyX4 tyX4_ok hown (hts _ (List.mem_of_getElem? (i := 0) rfl)) (hts _ (List.mem_of_getElem? (i := 1) rfl)) (hts _ (List.mem_of_getElem? (i := 2) rfl)) hK hP hD hS hA rfl (fun j hj => by rcases (show j = 0 ∨ j = 1 ∨ j = 2 ∨ j = 3 ∨ j = 4 ∨ j = 5 ∨ j = 6 ∨ j = 7 ∨ j = 8 by omega) with rfl | rfl | rfl | rfl | rfl | rfl | rfl | rfl | rfl <;> rfl) (Nat.le_of_ble_eq_true rfl) (Nat.le_of_ble_eq_true rfl) dL_law_0 (fun q0 H hP hD hS => ?_)
  have hP : va_P D vwCl [(q0, .inr (4, [.null, .null, .null, .null, .null, .int 0, .int 0, .int 0, .long 0]))] H := hP
  have hD : va_D (fun q : Nat => s.heap.size ≤ q) [(q0, .inr (4, [.null, .null, .null, .null, .null, .int 0, .int 0, .int 0, .long 0]))] := hD
  refine W.widen (k := 1) (n := 9) (by omega) (by omega) ?_
  refine lv_dup hx hb dL_law_3 rfl ?_
  have hP : va_P D vwCl ([] ++ [(q0, .inr (4, [.null, .null, .null, .null, .null, .int 0, .int 0, .int 0, .long 0]))] ++ []) H := hP
  have hD : va_D (fun q : Nat => s.heap.size ≤ q) ([] ++ [(q0, .inr (4, [.null, .null, .null, .null, .null, .int 0, .int 0, .int 0, .long 0]))] ++ []) := hD
  refine mk_v (X := []) (Y := [(q0, .inr (4, [.null, .null, .null, .null, .null, .int 0, .int 0, .int 0, .long 0]))]) (Z := []) (va_runI (As := []) (rest := [.ref q0]) F (kX4_init l D q0 _) (cwI 0 hts gL_law_X4_init rfl rfl rfl (hts _ (List.mem_of_getElem? (i := 2) rfl)) (hts _ (List.mem_of_getElem? (i := 6) rfl)) (hts _ (List.mem_of_getElem? (i := 7) rfl)) rfl hdX4_init ⟨(Nat.le_of_ble_eq_true rfl), (Nat.le_of_ble_eq_true rfl)⟩) ⟨(muB_blind (fun U _ _ _ h => va_AO.moved (u := U) (Vm.Alike.refl U.vm) h)), muB_pre (X := []) (Y := [(q0, .inr (4, [.null, .null, .null, .null, .null, .int 0, .int 0, .int 0, .long 0]))]) (Z := []) hP hK hN hD (fun U _ hW => va_AO.moved hW.alike hAO)⟩ rfl rfl hl.1 rfl (lv_room (Nat.le_of_ble_eq_true rfl)) dL_law_4 ⟨(Nat.le_of_ble_eq_true rfl), (Nat.le_of_ble_eq_true rfl)⟩) hP hD hS hA (fun u H4 locs4 hw hP4 hK4 hD4 hS4 => ?_)
  obtain ⟨qx, yx⟩ := u
  have hw : qx 0 = q0 := hw
  subst hw
  have hKx : va_K D vwCl (xT yx) s := hK4
  have hP : va_P D vwCl (xW yx qx 0 0 28 0 (fun _ => c00) (fun _ => 0) w00 (0, 0, 0, 0, 0, 0, 0) 0 (-9) (rG (fun _ => 0) 16) (rH (fun _ => 0) 16)) H4 := by have h9 := hP4; rw [List.append_nil] at h9; exact h9
  have hD : va_D (fun q : Nat => s.heap.size ≤ q) (xW yx qx 0 0 28 0 (fun _ => c00) (fun _ => 0) w00 (0, 0, 0, 0, 0, 0, 0) 0 (-9) (rG (fun _ => 0) 16) (rH (fun _ => 0) 16)) := by have h9 := hD4; rw [List.append_nil] at h9; exact h9
  have hS : va_S (fun q : Nat => s.heap.size ≤ q) s.heap H4 locs4 := hS4
  refine W.widen (k := 21) (n := 181) (by omega) (by omega) ?_
  refine lv_astore_n (lv' := [(1, .ref (qx 0)), (0, .ref b)]) hx hb dL_law_7 rfl hl (by decide) rfl (fun ls hl => ?_)
  refine va_new (ci := 5) (fs := [.int 0, .int 0, .null, .null, .null, .null, .null, .null, .null, .null, .null, .int 0, .int 0, .null, .null, .null, .long 0, .null, .null, .null]) (C := RX5) (T := TX5) (N := 20) hx hb hts inlX5 tyX5 tyX5_ok hown (hts _ (List.mem_of_getElem? (i := 3) rfl)) (hts _ (List.mem_of_getElem? (i := 4) rfl)) (hts _ (List.mem_of_getElem? (i := 5) rfl)) hK hP hD hS hA rfl (fun j hj => by rcases (show j = 0 ∨ j = 1 ∨ j = 2 ∨ j = 3 ∨ j = 4 ∨ j = 5 ∨ j = 6 ∨ j = 7 ∨ j = 8 ∨ j = 9 ∨ j = 10 ∨ j = 11 ∨ j = 12 ∨ j = 13 ∨ j = 14 ∨ j = 15 ∨ j = 16 ∨ j = 17 ∨ j = 18 ∨ j = 19 by omega) with rfl | rfl | rfl | rfl | rfl | rfl | rfl | rfl | rfl | rfl | rfl | rfl | rfl | rfl | rfl | rfl | rfl | rfl | rfl | rfl <;> rfl) (Nat.le_of_ble_eq_true rfl) (Nat.le_of_ble_eq_true rfl) dL_law_8 (fun q8 H hP hD hS => ?_)
  refine W.widen (k := 22) (n := 201) (by omega) (by omega) ?_
  refine lv_dup hx hb dL_law_11 rfl ?_
  have hP : va_P D vwCl ((xW yx qx 0 0 28 0 (fun _ => c00) (fun _ => 0) w00 (0, 0, 0, 0, 0, 0, 0) 0 (-9) (rG (fun _ => 0) 16) (rH (fun _ => 0) 16)) ++ [(q8, .inr (5, [.int 0, .int 0, .null, .null, .null, .null, .null, .null, .null, .null, .null, .int 0, .int 0, .null, .null, .null, .long 0, .null, .null, .null]))] ++ []) H := by rw [List.append_nil]; exact hP
  have hD : va_D (fun q : Nat => s.heap.size ≤ q) ((xW yx qx 0 0 28 0 (fun _ => c00) (fun _ => 0) w00 (0, 0, 0, 0, 0, 0, 0) 0 (-9) (rG (fun _ => 0) 16) (rH (fun _ => 0) 16)) ++ [(q8, .inr (5, [.int 0, .int 0, .null, .null, .null, .null, .null, .null, .null, .null, .null, .int 0, .int 0, .null, .null, .null, .long 0, .null, .null, .null]))] ++ []) := by rw [List.append_nil]; exact hD
  refine mk_v (X := (xW yx qx 0 0 28 0 (fun _ => c00) (fun _ => 0) w00 (0, 0, 0, 0, 0, 0, 0) 0 (-9) (rG (fun _ => 0) 16) (rH (fun _ => 0) 16))) (Y := [(q8, .inr (5, [.int 0, .int 0, .null, .null, .null, .null, .null, .null, .null, .null, .null, .int 0, .int 0, .null, .null, .null, .long 0, .null, .null, .null]))]) (Z := []) (va_runI (As := []) (rest := [.ref q8]) F (kX5_init l D q8 _) (cwI 0 hts gL_law_X5_init rfl rfl rfl (hts _ (List.mem_of_getElem? (i := 5) rfl)) (hts _ (List.mem_of_getElem? (i := 56) rfl)) (hts _ (List.mem_of_getElem? (i := 57) rfl)) rfl hdX5_init ⟨(Nat.le_of_ble_eq_true rfl), (Nat.le_of_ble_eq_true rfl)⟩) ⟨(muB_blind (fun _ _ _ _ _ => trivial)), muB_pre (X := (xW yx qx 0 0 28 0 (fun _ => c00) (fun _ => 0) w00 (0, 0, 0, 0, 0, 0, 0) 0 (-9) (rG (fun _ => 0) 16) (rH (fun _ => 0) 16))) (Y := [(q8, .inr (5, [.int 0, .int 0, .null, .null, .null, .null, .null, .null, .null, .null, .null, .int 0, .int 0, .null, .null, .null, .long 0, .null, .null, .null]))]) (Z := []) hP hK hN hD (fun _ _ _ => trivial)⟩ rfl rfl hl.1 rfl (lv_room (Nat.le_of_ble_eq_true rfl)) dL_law_12 ⟨(Nat.le_of_ble_eq_true rfl), (Nat.le_of_ble_eq_true rfl)⟩) hP hD hS hA (fun u H12 locs12 hw hP12 hK12 hD12 hS12 => ?_)
  obtain ⟨qm, ym⟩ := u
  have hw : qm 0 = q8 := hw
  subst hw
  have hKm : va_K D vwCl (mTy ym) s := hK12
  have hP : va_P D vwCl ((xW yx qx 0 0 28 0 (fun _ => c00) (fun _ => 0) w00 (0, 0, 0, 0, 0, 0, 0) 0 (-9) (rG (fun _ => 0) 16) (rH (fun _ => 0) 16)) ++ (mWC ym qm 0 0 (fun _ => c00) w00 28 0 (fun _ => 0) (fun _ => 0) (fun _ => 0) 0 (fun _ => 0) (fun _ => 0) (fun _ => 0))) H12 := by have h9 := hP12; rw [List.append_nil] at h9; exact h9
  have hD : va_D (fun q : Nat => s.heap.size ≤ q) ((xW yx qx 0 0 28 0 (fun _ => c00) (fun _ => 0) w00 (0, 0, 0, 0, 0, 0, 0) 0 (-9) (rG (fun _ => 0) 16) (rH (fun _ => 0) 16)) ++ (mWC ym qm 0 0 (fun _ => c00) w00 28 0 (fun _ => 0) (fun _ => 0) (fun _ => 0) 0 (fun _ => 0) (fun _ => 0) (fun _ => 0))) := by have h9 := hD12; rw [List.append_nil] at h9; exact h9
  have hS : va_S (fun q : Nat => s.heap.size ≤ q) s.heap H12 locs12 := hS12
  refine W.widen (k := 37) (n := 439) (by omega) (by omega) ?_
  refine lv_astore_n (lv' := [(2, .ref (qm 0)), (1, .ref (qx 0)), (0, .ref b)]) hx hb dL_law_15 rfl hl (by decide) rfl (fun ls hl => ?_)
  refine lv_iconst (v := 0) hx hb dL_law_16 (by decide) ?_
  refine lv_istore_n (lv' := [(3, .int 0), (2, .ref (qm 0)), (1, .ref (qx 0)), (0, .ref b)]) hx hb dL_law_17 rfl hl (by decide) rfl (fun ls hl => ?_)
  exact law_loop hx hb hml hown hts hX hbl hKx hKm hN hZ0 hL hr hlocks (L + 1) 0 (Nat.zero_le _) (by omega) 0 0 0 (fun _ => c00) w00 28 0 (fun _ => 0) (0, 0, 0, 0, 0, 0, 0) (rG (fun _ => 0) 16) (rH (fun _ => 0) 16) (-9) (fun _ => 0) (fun _ => 0) (fun _ => 0) (fun _ => 0) (fun _ => 0) (fun _ => 0) H12 locs12 INV_0 (NS_clear _ _ _ _ _) hP hD hS ls (lv_sub hl [3, 2, 1, 0] rfl)
