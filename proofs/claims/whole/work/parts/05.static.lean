theorem inR_lo {v a b : Int32} (h : v < a) : 0 = zI (inR v a b) := by
  have : inR v a b = false := by unfold inR; rw [decide_eq_false (Int32.not_le.mpr h)]; rfl
  rw [this]; rfl
theorem inR_hi {v a b : Int32} (h : b < v) : 0 = zI (inR v a b) := by
  have : inR v a b = false := by unfold inR; rw [decide_eq_false (p := v ≤ b) (Int32.not_le.mpr h)]; exact Bool.and_false _
  rw [this]; rfl
theorem inR_ok {v a b : Int32} (h1 : ¬ v < a) (h2 : ¬ b < v) : 1 = zI (inR v a b) := by
  have : inR v a b = true := by unfold inR; rw [decide_eq_true (Int32.not_lt.mp h1), decide_eq_true (Int32.not_lt.mp h2)]; rfl
  rw [this]; rfl

set_option maxHeartbeats 4000000 in
set_option maxRecDepth 100000 in
theorem kX4_isWithin (l : Launch) (v0 : Int32) (a0 : Int32) (b0 : Int32) : Met l yX4_isWithin wsX4_isWithin ({ frames := 0, cells := 0, slots := 0, locals := 0 }) (va_Pc [.int v0, .int a0, .int b0] (fun _ => True)) (vp_Si (fun x => x = (zI (inR v0 a0 b0)))) 0 0 nF := by
  refine ro_start (cc := cX4_isWithin) (maxL := 3) (ret := (some .boolean)) (by decide) rfl (Nat.le_of_ble_eq_true rfl) ?_
  intro p e s m below meth c ls hx hb hr hml hown hlocks hts hnm hB hl
  have hown : s.vm.findClass RX4 = some m.cls := hown
  have F : CallFix p m c cX4_isWithin 3 s [.int v0, .int a0, .int b0].toArray wsX4_isWithin RX4 := ⟨hx, hb, hml, hown, hts⟩
  have hl : lv_has ls 3 [(0, .int v0), (1, .int a0), (2, .int b0)] := hl
  refine lv_iload_n hx hb dX4_isWithin_0 rfl (lv_at hl 0 rfl) ?_
  refine lv_iload_n hx hb dX4_isWithin_1 rfl (lv_at hl 1 rfl) ?_
  refine lv_icmp_lt (tgt := 14) hx hb dX4_isWithin_2 (by decide) (fun c_1 => ?_) (fun c_1 => ?_)
  · skip
    refine lv_iconst (v := 0) hx hb dX4_isWithin_14 (by decide) ?_
    exact ro_zret hx hb hr hlocks rfl dX4_isWithin_15 (inR_lo c_1)
  · skip
    refine lv_iload_n hx hb dX4_isWithin_5 rfl (lv_at hl 0 rfl) ?_
    refine lv_iload_n hx hb dX4_isWithin_6 rfl (lv_at hl 2 rfl) ?_
    refine lv_icmp_gt (tgt := 14) hx hb dX4_isWithin_7 (by decide) (fun c_2 => ?_) (fun c_2 => ?_)
    · skip
      refine lv_iconst (v := 0) hx hb dX4_isWithin_14 (by decide) ?_
      exact ro_zret hx hb hr hlocks rfl dX4_isWithin_15 (inR_hi c_2)
    · skip
      refine lv_iconst (v := 1) hx hb dX4_isWithin_10 (by decide) ?_
      refine lv_goto (tgt := 15) hx hb dX4_isWithin_11 (by decide) ?_
      exact ro_zret hx hb hr hlocks rfl dX4_isWithin_15 (inR_ok c_1 c_2)

set_option maxHeartbeats 4000000 in
set_option maxRecDepth 100000 in
theorem kX5_in (l : Launch) (v0 : Int32) (a0 : Int32) (b0 : Int32) : Met l yX5_in wsX5_in ({ frames := 0, cells := 0, slots := 0, locals := 0 }) (va_Pc [.int v0, .int a0, .int b0] (fun _ => True)) (vp_Si (fun x => x = (zI (inR v0 a0 b0)))) 0 0 nF := by
  refine ro_start (cc := cX5_in) (maxL := 3) (ret := (some .boolean)) (by decide) rfl (Nat.le_of_ble_eq_true rfl) ?_
  intro p e s m below meth c ls hx hb hr hml hown hlocks hts hnm hB hl
  have hown : s.vm.findClass RX5 = some m.cls := hown
  have F : CallFix p m c cX5_in 3 s [.int v0, .int a0, .int b0].toArray wsX5_in RX5 := ⟨hx, hb, hml, hown, hts⟩
  have hl : lv_has ls 3 [(0, .int v0), (1, .int a0), (2, .int b0)] := hl
  refine lv_iload_n hx hb dX5_in_0 rfl (lv_at hl 0 rfl) ?_
  refine lv_iload_n hx hb dX5_in_1 rfl (lv_at hl 1 rfl) ?_
  refine lv_icmp_lt (tgt := 14) hx hb dX5_in_2 (by decide) (fun c_1 => ?_) (fun c_1 => ?_)
  · skip
    refine lv_iconst (v := 0) hx hb dX5_in_14 (by decide) ?_
    exact ro_zret hx hb hr hlocks rfl dX5_in_15 (inR_lo c_1)
  · skip
    refine lv_iload_n hx hb dX5_in_5 rfl (lv_at hl 0 rfl) ?_
    refine lv_iload_n hx hb dX5_in_6 rfl (lv_at hl 2 rfl) ?_
    refine lv_icmp_gt (tgt := 14) hx hb dX5_in_7 (by decide) (fun c_2 => ?_) (fun c_2 => ?_)
    · skip
      refine lv_iconst (v := 0) hx hb dX5_in_14 (by decide) ?_
      exact ro_zret hx hb hr hlocks rfl dX5_in_15 (inR_hi c_2)
    · skip
      refine lv_iconst (v := 1) hx hb dX5_in_10 (by decide) ?_
      refine lv_goto (tgt := 15) hx hb dX5_in_11 (by decide) ?_
      exact ro_zret hx hb hr hlocks rfl dX5_in_15 (inR_ok c_1 c_2)

set_option maxHeartbeats 4000000 in
set_option maxRecDepth 100000 in
theorem kX4_holds (l : Launch) (s0 : Int32) (i0 : Int32) : Met l yX4_holds wsX4_holds ({ frames := 0, cells := 0, slots := 0, locals := 0 }) (va_Pc [.int s0, .int i0] (fun _ => True)) (vp_Si (fun x => x = (zI (hasB s0 i0)))) 0 0 nF := by
  refine ro_start (cc := cX4_holds) (maxL := 2) (ret := (some .boolean)) (by decide) rfl (Nat.le_of_ble_eq_true rfl) ?_
  intro p e s m below meth c ls hx hb hr hml hown hlocks hts hnm hB hl
  have hown : s.vm.findClass RX4 = some m.cls := hown
  have F : CallFix p m c cX4_holds 2 s [.int s0, .int i0].toArray wsX4_holds RX4 := ⟨hx, hb, hml, hown, hts⟩
  have hl : lv_has ls 2 [(0, .int s0), (1, .int i0)] := hl
  refine lv_iload_n hx hb dX4_holds_0 rfl (lv_at hl 0 rfl) ?_
  refine lv_iload_n hx hb dX4_holds_1 rfl (lv_at hl 1 rfl) ?_
  refine lv_ishr hx hb dX4_holds_2 ?_
  refine lv_iconst (v := 1) hx hb dX4_holds_3 (by decide) ?_
  refine lv_iand hx hb dX4_holds_4 ?_
  refine lv_iconst (v := 1) hx hb dX4_holds_5 (by decide) ?_
  refine lv_icmp_ne (tgt := 13) hx hb dX4_holds_6 (by decide) (fun c_1 => ?_) (fun c_1 => ?_)
  · skip
    refine lv_iconst (v := 0) hx hb dX4_holds_13 (by decide) ?_
    exact ro_zret hx hb hr hlocks rfl dX4_holds_14 (by simp [hasB, zI, c_1])
  · skip
    refine lv_iconst (v := 1) hx hb dX4_holds_9 (by decide) ?_
    refine lv_goto (tgt := 14) hx hb dX4_holds_10 (by decide) ?_
    exact ro_zret hx hb hr hlocks rfl dX4_holds_14 (by simp [hasB, zI, c_1])

set_option maxHeartbeats 4000000 in
set_option maxRecDepth 100000 in
theorem kX5_has (l : Launch) (s0 : Int32) (i0 : Int32) : Met l yX5_has wsX5_has ({ frames := 0, cells := 0, slots := 0, locals := 0 }) (va_Pc [.int s0, .int i0] (fun _ => True)) (vp_Si (fun x => x = (zI (hasB s0 i0)))) 0 0 nF := by
  refine ro_start (cc := cX5_has) (maxL := 2) (ret := (some .boolean)) (by decide) rfl (Nat.le_of_ble_eq_true rfl) ?_
  intro p e s m below meth c ls hx hb hr hml hown hlocks hts hnm hB hl
  have hown : s.vm.findClass RX5 = some m.cls := hown
  have F : CallFix p m c cX5_has 2 s [.int s0, .int i0].toArray wsX5_has RX5 := ⟨hx, hb, hml, hown, hts⟩
  have hl : lv_has ls 2 [(0, .int s0), (1, .int i0)] := hl
  refine lv_iload_n hx hb dX5_has_0 rfl (lv_at hl 0 rfl) ?_
  refine lv_iload_n hx hb dX5_has_1 rfl (lv_at hl 1 rfl) ?_
  refine lv_ishr hx hb dX5_has_2 ?_
  refine lv_iconst (v := 1) hx hb dX5_has_3 (by decide) ?_
  refine lv_iand hx hb dX5_has_4 ?_
  refine lv_iconst (v := 1) hx hb dX5_has_5 (by decide) ?_
  refine lv_icmp_ne (tgt := 13) hx hb dX5_has_6 (by decide) (fun c_1 => ?_) (fun c_1 => ?_)
  · skip
    refine lv_iconst (v := 0) hx hb dX5_has_13 (by decide) ?_
    exact ro_zret hx hb hr hlocks rfl dX5_has_14 (by simp [hasB, zI, c_1])
  · skip
    refine lv_iconst (v := 1) hx hb dX5_has_9 (by decide) ?_
    refine lv_goto (tgt := 14) hx hb dX5_has_10 (by decide) ?_
    exact ro_zret hx hb hr hlocks rfl dX5_has_14 (by simp [hasB, zI, c_1])

set_option maxHeartbeats 4000000 in
set_option maxRecDepth 100000 in
theorem kX4_isNose (l : Launch) (v0 : Int32) : Met l yX4_isNose wsX4_isNose ({ frames := 1, cells := 0, slots := 0, locals := 22 }) (va_Pc [.int v0] (fun _ => True)) (vp_Si (fun x => x = (zI (inR v0 0 5)))) 0 0 nF := by
  refine ro_start (cc := cX4_isNose) (maxL := 1) (ret := (some .boolean)) (by decide) rfl (Nat.le_of_ble_eq_true rfl) ?_
  intro p e s m below meth c ls hx hb hr hml hown hlocks hts hnm hB hl
  have hown : s.vm.findClass RX4 = some m.cls := hown
  have F : CallFix p m c cX4_isNose 1 s [.int v0].toArray wsX4_isNose RX4 := ⟨hx, hb, hml, hown, hts⟩
  have hl : lv_has ls 1 [(0, .int v0)] := hl
  refine lv_iload_n hx hb dX4_isNose_0 rfl (lv_at hl 0 rfl) ?_
  refine lv_iconst (v := 0) hx hb dX4_isNose_1 (by decide) ?_
  refine lv_iconst (v := 5) hx hb dX4_isNose_2 (by decide) ?_
  refine ro_i (va_runS (As := [.int v0, .int 0, .int 5]) (rest := []) F (kX4_isWithin l v0 0 5) (va_cwS 3 hts gX4_isNose_X4_isWithin rfl rfl rfl hdX4_isWithin ⟨(Nat.le_of_ble_eq_true rfl), (Nat.le_of_ble_eq_true rfl)⟩) ⟨tr_blind, tr_pre⟩ rfl rfl hl.1 rfl (lv_room (Nat.le_of_ble_eq_true rfl)) dX4_isNose_3 ⟨Nat.zero_le _, Nat.zero_le _⟩) ?_
  exact ro_zret hx hb hr hlocks (zI_nar _) dX4_isNose_6 rfl

set_option maxHeartbeats 4000000 in
set_option maxRecDepth 100000 in
theorem kX4_isTriangle (l : Launch) (n0 : Int32) (c0 : Int32) : Met l yX4_isTriangle wsX4_isTriangle ({ frames := 1, cells := 0, slots := 0, locals := 22 }) (va_Pc [.int n0, .int c0] (fun _ => True)) (vp_Si (fun x => x = (zI (inR n0 1 20 && inR c0 0 n0)))) 0 0 nF := by
  refine ro_start (cc := cX4_isTriangle) (maxL := 2) (ret := (some .boolean)) (by decide) rfl (Nat.le_of_ble_eq_true rfl) ?_
  intro p e s m below meth c ls hx hb hr hml hown hlocks hts hnm hB hl
  have hown : s.vm.findClass RX4 = some m.cls := hown
  have F : CallFix p m c cX4_isTriangle 2 s [.int n0, .int c0].toArray wsX4_isTriangle RX4 := ⟨hx, hb, hml, hown, hts⟩
  have hl : lv_has ls 2 [(0, .int n0), (1, .int c0)] := hl
  refine lv_iload_n hx hb dX4_isTriangle_0 rfl (lv_at hl 0 rfl) ?_
  refine lv_iconst (v := 1) hx hb dX4_isTriangle_1 (by decide) ?_
  refine lv_bipush (v := 20) hx hb dX4_isTriangle_2 (by decide) ?_
  refine ro_i (va_runS (As := [.int n0, .int 1, .int 20]) (rest := []) F (kX4_isWithin l n0 1 20) (va_cwS 3 hts gX4_isTriangle_X4_isWithin rfl rfl rfl hdX4_isWithin ⟨(Nat.le_of_ble_eq_true rfl), (Nat.le_of_ble_eq_true rfl)⟩) ⟨tr_blind, tr_pre⟩ rfl rfl hl.1 rfl (lv_room (Nat.le_of_ble_eq_true rfl)) dX4_isTriangle_4 ⟨Nat.zero_le _, Nat.zero_le _⟩) ?_
  refine lv_if_eq (tgt := 23) hx hb dX4_isTriangle_7 (by decide) (fun c_1 => ?_) (fun c_1 => ?_)
  · skip
    have c_1 := zI_0 c_1
    refine lv_iconst (v := 0) hx hb dX4_isTriangle_23 (by decide) ?_
    exact ro_zret hx hb hr hlocks rfl dX4_isTriangle_24 (by simp [zI, c_1])
  · skip
    have c_1 := zI_1 c_1
    refine lv_iload_n hx hb dX4_isTriangle_10 rfl (lv_at hl 1 rfl) ?_
    refine lv_iconst (v := 0) hx hb dX4_isTriangle_11 (by decide) ?_
    refine lv_iload_n hx hb dX4_isTriangle_12 rfl (lv_at hl 0 rfl) ?_
    refine ro_i (va_runS (As := [.int c0, .int 0, .int n0]) (rest := []) F (kX4_isWithin l c0 0 n0) (va_cwS 3 hts gX4_isTriangle_X4_isWithin rfl rfl rfl hdX4_isWithin ⟨(Nat.le_of_ble_eq_true rfl), (Nat.le_of_ble_eq_true rfl)⟩) ⟨tr_blind, tr_pre⟩ rfl rfl hl.1 rfl (lv_room (Nat.le_of_ble_eq_true rfl)) dX4_isTriangle_13 ⟨Nat.zero_le _, Nat.zero_le _⟩) ?_
    refine lv_if_eq (tgt := 23) hx hb dX4_isTriangle_16 (by decide) (fun c_2 => ?_) (fun c_2 => ?_)
    · skip
      have c_2 := zI_0 c_2
      refine lv_iconst (v := 0) hx hb dX4_isTriangle_23 (by decide) ?_
      exact ro_zret hx hb hr hlocks rfl dX4_isTriangle_24 (by simp [zI, c_1, c_2])
    · skip
      have c_2 := zI_1 c_2
      refine lv_iconst (v := 1) hx hb dX4_isTriangle_19 (by decide) ?_
      refine lv_goto (tgt := 24) hx hb dX4_isTriangle_20 (by decide) ?_
      exact ro_zret hx hb hr hlocks rfl dX4_isTriangle_24 (by simp [zI, c_1, c_2])

set_option maxHeartbeats 4000000 in
set_option maxRecDepth 100000 in
theorem kX4_dividedUp (l : Launch) (a0 : Int32) (b0 : Int32) : Met l yX4_dividedUp wsX4_dividedUp ({ frames := 0, cells := 0, slots := 0, locals := 0 }) (va_Pc [.int a0, .int b0] (fun _ => True)) (vp_Si (fun x => x = (dUp a0 b0))) 0 0 nF := by
  refine ro_start (cc := cX4_dividedUp) (maxL := 2) (ret := (some .int)) (by decide) rfl (Nat.le_of_ble_eq_true rfl) ?_
  intro p e s m below meth c ls hx hb hr hml hown hlocks hts hnm hB hl
  have hown : s.vm.findClass RX4 = some m.cls := hown
  have F : CallFix p m c cX4_dividedUp 2 s [.int a0, .int b0].toArray wsX4_dividedUp RX4 := ⟨hx, hb, hml, hown, hts⟩
  have hl : lv_has ls 2 [(0, .int a0), (1, .int b0)] := hl
  refine lv_iload_n hx hb dX4_dividedUp_0 rfl (lv_at hl 1 rfl) ?_
  refine lv_iconst (v := 1) hx hb dX4_dividedUp_1 (by decide) ?_
  refine lv_icmp_ge (tgt := 9) hx hb dX4_dividedUp_2 (by decide) (fun c_1 => ?_) (fun c_1 => ?_)
  · skip
    refine lv_iload_n hx hb dX4_dividedUp_9 rfl (lv_at hl 0 rfl) ?_
    refine lv_iload_n hx hb dX4_dividedUp_10 rfl (lv_at hl 1 rfl) ?_
    refine lv_iadd hx hb dX4_dividedUp_11 ?_
    refine lv_iconst (v := 1) hx hb dX4_dividedUp_12 (by decide) ?_
    refine lv_isub hx hb dX4_dividedUp_13 ?_
    refine lv_iload_n hx hb dX4_dividedUp_14 rfl (lv_at hl 1 rfl) ?_
    refine lv_idiv hx hb dX4_dividedUp_15 (fun h => by rw [h] at c_1; exact absurd c_1 (by decide)) ?_
    exact ro_iret hx hb hr hlocks dX4_dividedUp_16 (by unfold dUp; rw [if_neg (Int32.not_lt.mpr c_1)])
  · skip
    refine lv_iconst (v := 0) hx hb dX4_dividedUp_5 (by decide) ?_
    refine lv_goto (tgt := 16) hx hb dX4_dividedUp_6 (by decide) ?_
    exact ro_iret hx hb hr hlocks dX4_dividedUp_16 (by unfold dUp; rw [if_pos (Int32.not_le.mp c_1)])

set_option maxHeartbeats 4000000 in
set_option maxRecDepth 100000 in
theorem kX4_lossBy (l : Launch) (k0 : Int32) (f0 : Int32) (y0 : Int32) : Met l yX4_lossBy wsX4_lossBy ({ frames := 1, cells := 0, slots := 0, locals := 21 }) (va_Pc [.int k0, .int f0, .int y0] (fun _ => True)) (vp_Si (fun x => x = (lossX k0 f0 y0))) 0 0 nF := by
  refine ro_start (cc := cX4_lossBy) (maxL := 5) (ret := (some .int)) (by decide) rfl (Nat.le_of_ble_eq_true rfl) ?_
  intro p e s m below meth c ls hx hb hr hml hown hlocks hts hnm hB hl
  have hown : s.vm.findClass RX4 = some m.cls := hown
  have F : CallFix p m c cX4_lossBy 5 s [.int k0, .int f0, .int y0].toArray wsX4_lossBy RX4 := ⟨hx, hb, hml, hown, hts⟩
  have hl : lv_has ls 5 [(0, .int k0), (1, .int f0), (2, .int y0)] := hl
  refine lv_bipush (v := 15) hx hb dX4_lossBy_0 (by decide) ?_
  refine lv_iconst (v := 5) hx hb dX4_lossBy_2 (by decide) ?_
  refine lv_iload_n hx hb dX4_lossBy_3 rfl (lv_at hl 1 rfl) ?_
  refine lv_imul hx hb dX4_lossBy_4 ?_
  refine lv_iadd hx hb dX4_lossBy_5 ?_
  refine lv_iconst (v := 0) hx hb dX4_lossBy_6 (by decide) ?_
  refine lv_bipush (v := 20) hx hb dX4_lossBy_7 (by decide) ?_
  refine lv_iconst (v := 2) hx hb dX4_lossBy_9 (by decide) ?_
  refine lv_iload_n hx hb dX4_lossBy_10 rfl (lv_at hl 2 rfl) ?_
  refine lv_imul hx hb dX4_lossBy_11 ?_
  refine lv_isub hx hb dX4_lossBy_12 ?_
  refine wm_max hx hb (hml.trans hl.1.symm) hown (hts _ (List.mem_of_getElem? (i := 1) rfl)) (hts _ (List.mem_of_getElem? (i := 2) rfl)) (hts _ (List.mem_of_getElem? (i := 3) rfl)) (hts _ (List.mem_of_getElem? (i := 4) rfl)) (Nat.le_of_ble_eq_true rfl) (Nat.le_of_ble_eq_true rfl) (Nat.zero_le _) (Nat.zero_le _) dX4_lossBy_13 ?_
  refine lv_iadd hx hb dX4_lossBy_16 ?_
  refine lv_istore_n (lv' := [(3, .int ((15 + (5 * f0)) + (mxI 0 (20 - (2 * y0))))), (0, .int k0), (1, .int f0), (2, .int y0)]) hx hb dX4_lossBy_17 rfl hl (by decide) rfl (fun ls hl => ?_)
  refine lv_iload_n hx hb dX4_lossBy_18 rfl (lv_at hl 1 rfl) ?_
  refine lv_if_ne (tgt := 24) hx hb dX4_lossBy_19 (by decide) (fun c_1 => ?_) (fun c_1 => ?_)
  · skip
    refine lv_iload_n hx hb dX4_lossBy_24 rfl (lv_at hl 0 rfl) ?_
    refine lv_iconst (v := 3) hx hb dX4_lossBy_25 (by decide) ?_
    refine lv_imul hx hb dX4_lossBy_26 ?_
    refine lv_iconst (v := 4) hx hb dX4_lossBy_27 (by decide) ?_
    refine lv_idiv hx hb dX4_lossBy_28 (by decide) ?_
    refine lv_istore (lv' := [(4, .int ((((15 + (5 * f0)) + (mxI 0 (20 - (2 * y0)))) * 3) / 4)), (3, .int ((15 + (5 * f0)) + (mxI 0 (20 - (2 * y0))))), (0, .int k0), (1, .int f0), (2, .int y0)]) hx hb dX4_lossBy_29 hl (by decide) rfl (fun ls hl => ?_)
    refine lv_iload_n hx hb dX4_lossBy_31 rfl (lv_at hl 2 rfl) ?_
    refine lv_iconst (v := 1) hx hb dX4_lossBy_32 (by decide) ?_
    refine lv_icmp_ne (tgt := 41) hx hb dX4_lossBy_33 (by decide) (fun c_2 => ?_) (fun c_2 => ?_)
    · skip
      refine lv_iconst (v := 1) hx hb dX4_lossBy_41 (by decide) ?_
      refine lv_iload hx hb dX4_lossBy_42 (lv_at hl 0 rfl) ?_
      refine lv_iconst (v := 4) hx hb dX4_lossBy_44 (by decide) ?_
      refine lv_isub hx hb dX4_lossBy_45 ?_
      refine wm_max hx hb (hml.trans hl.1.symm) hown (hts _ (List.mem_of_getElem? (i := 1) rfl)) (hts _ (List.mem_of_getElem? (i := 2) rfl)) (hts _ (List.mem_of_getElem? (i := 3) rfl)) (hts _ (List.mem_of_getElem? (i := 4) rfl)) (Nat.le_of_ble_eq_true rfl) (Nat.le_of_ble_eq_true rfl) (Nat.zero_le _) (Nat.zero_le _) dX4_lossBy_46 ?_
      exact ro_iret hx hb hr hlocks dX4_lossBy_49 (by simp [lossX, c_1, c_2])
    · skip
      refine lv_iload hx hb dX4_lossBy_36 (lv_at hl 0 rfl) ?_
      refine lv_goto (tgt := 49) hx hb dX4_lossBy_38 (by decide) ?_
      exact ro_iret hx hb hr hlocks dX4_lossBy_49 (by simp [lossX, c_1, c_2])
  · skip
    refine lv_iload_n hx hb dX4_lossBy_22 rfl (lv_at hl 0 rfl) ?_
    exact ro_iret hx hb hr hlocks dX4_lossBy_23 (by simp [lossX, c_1])

set_option maxHeartbeats 4000000 in
set_option maxRecDepth 100000 in
theorem kX4_lostOf (l : Launch) (d0 : Int32) (s0 : Int32) : Met l yX4_lostOf wsX4_lostOf ({ frames := 1, cells := 0, slots := 0, locals := 21 }) (va_Pc [.int d0, .int s0] (fun _ => True)) (vp_Si (fun x => x = (lostX d0 s0))) 0 0 nF := by
  refine ro_start (cc := cX4_lostOf) (maxL := 2) (ret := (some .int)) (by decide) rfl (Nat.le_of_ble_eq_true rfl) ?_
  intro p e s m below meth c ls hx hb hr hml hown hlocks hts hnm hB hl
  have hown : s.vm.findClass RX4 = some m.cls := hown
  have F : CallFix p m c cX4_lostOf 2 s [.int d0, .int s0].toArray wsX4_lostOf RX4 := ⟨hx, hb, hml, hown, hts⟩
  have hl : lv_has ls 2 [(0, .int d0), (1, .int s0)] := hl
  refine lv_iload_n hx hb dX4_lostOf_0 rfl (lv_at hl 0 rfl) ?_
  refine lv_iload_n hx hb dX4_lostOf_1 rfl (lv_at hl 1 rfl) ?_
  refine lv_imul hx hb dX4_lostOf_2 ?_
  refine lv_sipush (v := 1000) hx hb dX4_lostOf_3 (by decide) ?_
  refine ro_i (va_runS (As := [.int (d0 * s0), .int 1000]) (rest := []) F (kX4_dividedUp l (d0 * s0) 1000) (va_cwS 2 hts gX4_lostOf_X4_dividedUp rfl rfl rfl hdX4_dividedUp ⟨(Nat.le_of_ble_eq_true rfl), (Nat.le_of_ble_eq_true rfl)⟩) ⟨tr_blind, tr_pre⟩ rfl rfl hl.1 rfl (lv_room (Nat.le_of_ble_eq_true rfl)) dX4_lostOf_6 ⟨Nat.zero_le _, Nat.zero_le _⟩) ?_
  exact ro_iret hx hb hr hlocks dX4_lostOf_9 rfl

set_option maxHeartbeats 4000000 in
set_option maxRecDepth 100000 in
theorem kX5_lostOf (l : Launch) (d0 : Int32) (s0 : Int32) : Met l yX5_lostOf wsX5_lostOf ({ frames := 0, cells := 0, slots := 0, locals := 0 }) (va_Pc [.int d0, .int s0] (fun _ => True)) (vp_Si (fun x => x = ((d0 * s0 + 999) / 1000))) 0 0 nF := by
  refine ro_start (cc := cX5_lostOf) (maxL := 2) (ret := (some .int)) (by decide) rfl (Nat.le_of_ble_eq_true rfl) ?_
  intro p e s m below meth c ls hx hb hr hml hown hlocks hts hnm hB hl
  have hown : s.vm.findClass RX5 = some m.cls := hown
  have F : CallFix p m c cX5_lostOf 2 s [.int d0, .int s0].toArray wsX5_lostOf RX5 := ⟨hx, hb, hml, hown, hts⟩
  have hl : lv_has ls 2 [(0, .int d0), (1, .int s0)] := hl
  refine lv_iload_n hx hb dX5_lostOf_0 rfl (lv_at hl 0 rfl) ?_
  refine lv_iload_n hx hb dX5_lostOf_1 rfl (lv_at hl 1 rfl) ?_
  refine lv_imul hx hb dX5_lostOf_2 ?_
  refine lv_sipush (v := 999) hx hb dX5_lostOf_3 (by decide) ?_
  refine lv_iadd hx hb dX5_lostOf_6 ?_
  refine lv_sipush (v := 1000) hx hb dX5_lostOf_7 (by decide) ?_
  refine lv_idiv hx hb dX5_lostOf_10 (by decide) ?_
  exact ro_iret hx hb hr hlocks dX5_lostOf_11 rfl

set_option maxHeartbeats 4000000 in
set_option maxRecDepth 100000 in
theorem kX3_most (l : Launch) (w0 : Int32) : Met l yX3_most wsX3_most ({ frames := 0, cells := 0, slots := 0, locals := 0 }) (va_Pc [.int w0] (fun _ => True)) (vp_Si (fun x => x = (if w0 = 0 then 99999 else if w0 = 1 then 60 else 9999))) 0 0 nF := by
  refine ro_start (cc := cX3_most) (maxL := 1) (ret := (some .int)) (by decide) rfl (Nat.le_of_ble_eq_true rfl) ?_
  intro p e s m below meth c ls hx hb hr hml hown hlocks hts hnm hB hl
  have hown : s.vm.findClass RX3 = some m.cls := hown
  have F : CallFix p m c cX3_most 1 s [.int w0].toArray wsX3_most RX3 := ⟨hx, hb, hml, hown, hts⟩
  have hl : lv_has ls 1 [(0, .int w0)] := hl
  refine lv_iload_n hx hb dX3_most_0 rfl (lv_at hl 0 rfl) ?_
  refine lv_if_ne (tgt := 7) hx hb dX3_most_1 (by decide) (fun c_1 => ?_) (fun c_1 => ?_)
  · skip
    refine lv_iload_n hx hb dX3_most_7 rfl (lv_at hl 0 rfl) ?_
    refine lv_iconst (v := 1) hx hb dX3_most_8 (by decide) ?_
    refine lv_icmp_ne (tgt := 17) hx hb dX3_most_9 (by decide) (fun c_2 => ?_) (fun c_2 => ?_)
    · skip
      refine lv_sipush (v := 9999) hx hb dX3_most_17 (by decide) ?_
      exact ro_iret hx hb hr hlocks dX3_most_20 (by simp [c_1, c_2])
    · skip
      refine lv_bipush (v := 60) hx hb dX3_most_12 (by decide) ?_
      refine lv_goto (tgt := 20) hx hb dX3_most_14 (by decide) ?_
      exact ro_iret hx hb hr hlocks dX3_most_20 (by simp [c_1, c_2])
  · skip
    refine lv_ldc (v := 99999) hx hb hown (hts _ (List.mem_of_getElem? (i := 1) rfl)) dX3_most_4 ?_
    exact ro_iret hx hb hr hlocks dX3_most_6 (by simp [c_1])
