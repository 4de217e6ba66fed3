theorem lossM_c {t : Nat} {c : CT} (h : okC t c) {k y : Nat} (hk : k ≤ 2) (hy : y ≤ 90) : lossM (nI k) (c_fl c) (nI y) = lossX (nI k) (c_fl c) (nI y) := by
  obtain ⟨kd, dr, sg, fl, ok, sm, sw, la, rfl, g1, g2, g3, g4, g5, g6, g7, g8, g9⟩ := h
  exact loss_eq k (by omega) fl (by omega) y (by omega)
theorem cut_0 : ∀ y, y < 701 → 300 ≤ y → dUp 0 (nI y) = 0 ∧ ¬ nI y < 1 ∧ ¬ nI y = 0 := by decide +kernel
theorem cut_lo {d x : Int32} {y : Nat} (h1 : 300 ≤ y) (h2 : y ≤ 700) (h : ¬ 0 < x) : dUp (d * mxI 0 x) (nI y) = 0 := by
  unfold mxI; rw [if_neg h, Int32.mul_zero]; exact (cut_0 y (by omega) h1).1
theorem cut_hi {d x : Int32} {y : Nat} (h1 : 300 ≤ y) (h2 : y ≤ 700) (h : 0 < x) : dUp (d * mxI 0 x) (nI y) = (d * x + nI y - 1) / nI y := by
  unfold mxI dUp; rw [if_pos h, if_neg (cut_0 y (by omega) h1).2.1]
def readM (r : Nat) (no sa to : Nat → Int32) (a b v : Int32) : Int32 × Int32 × (Nat → Int32) × (Nat → Int32) × (Nat → Int32) := if inR a 0 5 = true ∧ inR b 0 9 = true ∧ inR v 0 99 = true then (if r < 30 then (nI r + 1, nI r + 1, upd no r a, upd sa r b, upd to r v) else (-3, nI r, no, sa, to)) else (-1, nI r, no, sa, to)
def wmf (a k i : Nat) (v : Int64) : Int64 := v * (nI a - nI k + nI (i + 1)).toInt64 / (nI (i + 1)).toInt64
def wmS (a b j : Nat) : Int64 := fN (fun j s => s + (fN (wmf a (b + j)) (b + j) 1) <<< ((nI a - nI (b + j)).toInt64 &&& 63)) j 0
def waysM (a b : Nat) : Int64 := wmS a b (a + 1 - b)
set_option maxRecDepth 20000 in
theorem ways_eq : ∀ a, a < 21 → ∀ b, b < 21 → b ≤ a → waysM a b = waysX a b := by decide +kernel
theorem year_m {t : Nat} {c : CT} (h : okC t c) (ht : t ≤ 60) : (c_kd c, c_dr c - (c_dr c * lossC c (nI t) + 999) / 1000, (if 403 < c_sg c then c_sg c - 3 else 400), c_fl c, c_ok c + (if 10 < lossC c (nI t) then lossC c (nI t) - 10 else 0), c_sm c - (c_sm c + 9) / 10, c_sw c + (6 - 2 * c_kd c), c_la c) = yearC c (nI t) := by
  obtain ⟨-, l, hl, hl1, hl2⟩ := lossC_eq h (Nat.le_refl t) (by omega)
  have hs : (if 403 < c_sg c then c_sg c - 3 else 400) = mxI 400 (c_sg c - 3) := by
    obtain ⟨kd, dr, sg, fl, ok, sm, sw, la, rfl, g1, g2, g3, g4, g5, g6, g7, g8, g9⟩ := h
    exact (str_eq sg (by omega) g3).1
  unfold yearC
  rw [lost_eq, dUp10, hs, hl, (oak_eq l (by omega)).1]

set_option maxHeartbeats 4000000 in
set_option maxRecDepth 100000 in
theorem kX5_isCask (l : Launch) (D : va_G) (y : Nat → ClassId) (q : Nat → Nat) (t n : Nat) (C : Nat → CT) (w : Nat → Int32) (rt : Int32) (r0 : Nat) (no sa to : Nat → Int32) (tr : Int64) (st im va : Nat → Int32) (c0 : Int32) : Met l yX5_isCask wsX5_isCask ({ frames := 1, cells := 0, slots := 0, locals := 22 }) (va_Pc [.ref (q 0), .int c0] (rdB D (mTy y) (mWC y q (nI t) (nI n) C w rt (nI r0) no sa to tr st im va))) (vp_Si (fun x => x = (zI (isC n c0)))) 0 0 nF := by
  refine ro_start (cc := cX5_isCask) (maxL := 2) (ret := (some .boolean)) (by decide) rfl (Nat.le_of_ble_eq_true rfl) ?_
  intro p e s m below meth c ls hx hb hr hml hown hlocks hts hnm hB hl
  obtain ⟨hP, hK, hN⟩ := hB
  have hown : s.vm.findClass RX5 = some m.cls := hown
  have F : CallFix p m c cX5_isCask 2 s [.ref (q 0), .int c0].toArray wsX5_isCask RX5 := ⟨hx, hb, hml, hown, hts⟩
  have hl : lv_has ls 2 [(0, .ref (q 0)), (1, .int c0)] := hl
  have iX5 : ∀ w ∈ u_ws RX5 TX5 20, w ∈ wsX5_isCask := mem_pl [6, 7, 8, 9, 10, 11, 12, 13, 14, 15, 16, 17, 18, 19, 20, 21, 22, 23, 24, 25] rfl
  refine lv_iload_n hx hb dX5_isCask_0 rfl (lv_at hl 1 rfl) ?_
  refine lv_iconst (v := 0) hx hb dX5_isCask_1 (by decide) ?_
  refine lv_aload_n hx hb dX5_isCask_2 rfl (lv_at hl 0 rfl) ?_
  refine va_get (D := D) (ci := 5) (v := .int (nI n)) (C := RX5) (T := TX5) (N := 20) hx hb hts iX5 hown hK hP 0 rfl rfl 1 (by decide) (hts _ (List.mem_of_getElem? (i := 1) rfl)) (fun _ h9 => h9) rfl dX5_isCask_3 ?_
  refine lv_iconst (v := 1) hx hb dX5_isCask_6 (by decide) ?_
  refine lv_isub hx hb dX5_isCask_7 ?_
  refine ro_i (va_runS (As := [.int c0, .int 0, .int ((nI n) - 1)]) (rest := []) F (kX5_in l c0 0 ((nI n) - 1)) (va_cwS 3 hts gX5_isCask_X5_in rfl rfl rfl hdX5_in ⟨(Nat.le_of_ble_eq_true rfl), (Nat.le_of_ble_eq_true rfl)⟩) ⟨tr_blind, tr_pre⟩ rfl rfl hl.1 rfl (lv_room (Nat.le_of_ble_eq_true rfl)) dX5_isCask_8 ⟨Nat.zero_le _, Nat.zero_le _⟩) ?_
  exact ro_zret hx hb hr hlocks (zI_nar _) dX5_isCask_11 rfl

set_option maxHeartbeats 4000000 in
set_option maxRecDepth 100000 in
theorem kX5_lossOf (l : Launch) (D : va_G) (y : Nat → ClassId) (q : Nat → Nat) (t n : Nat) (C : Nat → CT) (w : Nat → Int32) (rt : Int32) (r0 : Nat) (no sa to : Nat → Int32) (tr : Int64) (st im va : Nat → Int32) (a : Nat) (k0 : Int32) (y0 : Int32) (ha : a < 12) : Met l yX5_lossOf wsX5_lossOf ({ frames := 0, cells := 0, slots := 0, locals := 0 }) (va_Pc [.ref (q 0), .int (nI a), .int k0, .int y0] (rdB D (mTy y) (mWC y q (nI t) (nI n) C w rt (nI r0) no sa to tr st im va))) (vp_Si (fun x => x = (lossM k0 (c_fl (C a)) y0))) 0 0 nF := by
  refine ro_start (cc := cX5_lossOf) (maxL := 5) (ret := (some .int)) (by decide) rfl (Nat.le_of_ble_eq_true rfl) ?_
  intro p e s m below meth c ls hx hb hr hml hown hlocks hts hnm hB hl
  obtain ⟨hP, hK, hN⟩ := hB
  have hown : s.vm.findClass RX5 = some m.cls := hown
  have F : CallFix p m c cX5_lossOf 5 s [.ref (q 0), .int (nI a), .int k0, .int y0].toArray wsX5_lossOf RX5 := ⟨hx, hb, hml, hown, hts⟩
  have hl : lv_has ls 5 [(0, .ref (q 0)), (1, .int (nI a)), (2, .int k0), (3, .int y0)] := hl
  have iX5 : ∀ w ∈ u_ws RX5 TX5 20, w ∈ wsX5_lossOf := mem_pl [2, 3, 4, 5, 6, 7, 8, 9, 10, 11, 12, 13, 14, 15, 16, 17, 18, 19, 20, 21] rfl
  refine lv_bipush (v := 15) hx hb dX5_lossOf_0 (by decide) ?_
  refine lv_iconst (v := 5) hx hb dX5_lossOf_2 (by decide) ?_
  refine lv_aload_n hx hb dX5_lossOf_3 rfl (lv_at hl 0 rfl) ?_
  refine va_get (D := D) (ci := 5) (v := .ref (q 4)) (C := RX5) (T := TX5) (N := 20) hx hb hts iX5 hown hK hP 0 rfl rfl 5 (by decide) (hts _ (List.mem_of_getElem? (i := 1) rfl)) (fun _ h9 => h9) rfl dX5_lossOf_4 ?_
  refine lv_iload_n hx hb dX5_lossOf_7 rfl (lv_at hl 1 rfl) ?_
  refine wa_iald hx hb hK hP 4 3 rfl rfl a rfl (by omega) (by decide) dX5_lossOf_8 ?_
  refine lv_imul hx hb dX5_lossOf_9 ?_
  refine lv_iadd hx hb dX5_lossOf_10 ?_
  refine lv_iload_n hx hb dX5_lossOf_11 rfl (lv_at hl 3 rfl) ?_
  refine lv_bipush (v := 10) hx hb dX5_lossOf_12 (by decide) ?_
  refine lv_icmp_ge (tgt := 26) hx hb dX5_lossOf_14 (by decide) (fun c_1 => ?_) (fun c_1 => ?_)
  · skip
    have c_1 := Int32.not_lt.mpr c_1
    refine lv_iconst (v := 0) hx hb dX5_lossOf_26 (by decide) ?_
    refine lv_iadd hx hb dX5_lossOf_27 ?_
    refine lv_istore (lv' := [(4, .int ((15 + (5 * (c_fl (C a)))) + 0)), (0, .ref (q 0)), (1, .int (nI a)), (2, .int k0), (3, .int y0)]) hx hb dX5_lossOf_28 hl (by decide) rfl (fun ls hl => ?_)
    refine lv_iload_n hx hb dX5_lossOf_30 rfl (lv_at hl 3 rfl) ?_
    refine lv_if_le (tgt := 43) hx hb dX5_lossOf_31 (by decide) (fun c_2 => ?_) (fun c_2 => ?_)
    · skip
      have c_2 := Int32.not_lt.mpr c_2
      refine lv_iload hx hb dX5_lossOf_43 (lv_at hl 0 rfl) ?_
      refine lv_istore (lv' := [(4, .int ((15 + (5 * (c_fl (C a)))) + 0)), (0, .ref (q 0)), (1, .int (nI a)), (2, .int k0), (3, .int y0)]) hx hb dX5_lossOf_45 hl (by decide) rfl (fun ls hl => ?_)
      refine lv_iload_n hx hb dX5_lossOf_47 rfl (lv_at hl 3 rfl) ?_
      refine lv_iconst (v := 2) hx hb dX5_lossOf_48 (by decide) ?_
      refine lv_icmp_ge (tgt := 57) hx hb dX5_lossOf_49 (by decide) (fun c_3 => ?_) (fun c_3 => ?_)
      · skip
        have c_3 := Int32.not_lt.mpr c_3
        refine lv_iload hx hb dX5_lossOf_57 (lv_at hl 0 rfl) ?_
        refine lv_iconst (v := 5) hx hb dX5_lossOf_59 (by decide) ?_
        refine lv_icmp_le (tgt := 70) hx hb dX5_lossOf_60 (by decide) (fun c_4 => ?_) (fun c_4 => ?_)
        · skip
          have c_4 := Int32.not_lt.mpr c_4
          refine lv_iconst (v := 1) hx hb dX5_lossOf_70 (by decide) ?_
          exact ro_iret hx hb hr hlocks dX5_lossOf_71 (by simp only [lossM, c_1, c_2, c_3, c_4, if_true, if_false])
        · skip
          have c_4 := Int32.not_le.mp c_4
          refine lv_iload hx hb dX5_lossOf_63 (lv_at hl 0 rfl) ?_
          refine lv_iconst (v := 4) hx hb dX5_lossOf_65 (by decide) ?_
          refine lv_isub hx hb dX5_lossOf_66 ?_
          refine lv_goto (tgt := 71) hx hb dX5_lossOf_67 (by decide) ?_
          exact ro_iret hx hb hr hlocks dX5_lossOf_71 (by simp only [lossM, c_1, c_2, c_3, c_4, if_true, if_false])
      · skip
        have c_3 := Int32.not_le.mp c_3
        refine lv_iload hx hb dX5_lossOf_52 (lv_at hl 0 rfl) ?_
        refine lv_goto (tgt := 71) hx hb dX5_lossOf_54 (by decide) ?_
        exact ro_iret hx hb hr hlocks dX5_lossOf_71 (by simp only [lossM, c_1, c_2, c_3, if_true, if_false])
    · skip
      have c_2 := Int32.not_le.mp c_2
      refine lv_iconst (v := 3) hx hb dX5_lossOf_34 (by decide) ?_
      refine lv_iload hx hb dX5_lossOf_35 (lv_at hl 0 rfl) ?_
      refine lv_imul hx hb dX5_lossOf_37 ?_
      refine lv_iconst (v := 4) hx hb dX5_lossOf_38 (by decide) ?_
      refine lv_idiv hx hb dX5_lossOf_39 (by decide) ?_
      refine lv_goto (tgt := 45) hx hb dX5_lossOf_40 (by decide) ?_
      refine lv_istore (lv' := [(4, .int ((3 * ((15 + (5 * (c_fl (C a)))) + 0)) / 4)), (0, .ref (q 0)), (1, .int (nI a)), (2, .int k0), (3, .int y0)]) hx hb dX5_lossOf_45 hl (by decide) rfl (fun ls hl => ?_)
      refine lv_iload_n hx hb dX5_lossOf_47 rfl (lv_at hl 3 rfl) ?_
      refine lv_iconst (v := 2) hx hb dX5_lossOf_48 (by decide) ?_
      refine lv_icmp_ge (tgt := 57) hx hb dX5_lossOf_49 (by decide) (fun c_5 => ?_) (fun c_5 => ?_)
      · skip
        have c_5 := Int32.not_lt.mpr c_5
        refine lv_iload hx hb dX5_lossOf_57 (lv_at hl 0 rfl) ?_
        refine lv_iconst (v := 5) hx hb dX5_lossOf_59 (by decide) ?_
        refine lv_icmp_le (tgt := 70) hx hb dX5_lossOf_60 (by decide) (fun c_6 => ?_) (fun c_6 => ?_)
        · skip
          have c_6 := Int32.not_lt.mpr c_6
          refine lv_iconst (v := 1) hx hb dX5_lossOf_70 (by decide) ?_
          exact ro_iret hx hb hr hlocks dX5_lossOf_71 (by simp only [lossM, c_1, c_2, c_5, c_6, if_true, if_false])
        · skip
          have c_6 := Int32.not_le.mp c_6
          refine lv_iload hx hb dX5_lossOf_63 (lv_at hl 0 rfl) ?_
          refine lv_iconst (v := 4) hx hb dX5_lossOf_65 (by decide) ?_
          refine lv_isub hx hb dX5_lossOf_66 ?_
          refine lv_goto (tgt := 71) hx hb dX5_lossOf_67 (by decide) ?_
          exact ro_iret hx hb hr hlocks dX5_lossOf_71 (by simp only [lossM, c_1, c_2, c_5, c_6, if_true, if_false])
      · skip
        have c_5 := Int32.not_le.mp c_5
        refine lv_iload hx hb dX5_lossOf_52 (lv_at hl 0 rfl) ?_
        refine lv_goto (tgt := 71) hx hb dX5_lossOf_54 (by decide) ?_
        exact ro_iret hx hb hr hlocks dX5_lossOf_71 (by simp only [lossM, c_1, c_2, c_5, if_true, if_false])
  · skip
    have c_1 := Int32.not_le.mp c_1
    refine lv_bipush (v := 20) hx hb dX5_lossOf_17 (by decide) ?_
    refine lv_iconst (v := 2) hx hb dX5_lossOf_19 (by decide) ?_
    refine lv_iload_n hx hb dX5_lossOf_20 rfl (lv_at hl 3 rfl) ?_
    refine lv_imul hx hb dX5_lossOf_21 ?_
    refine lv_isub hx hb dX5_lossOf_22 ?_
    refine lv_goto (tgt := 27) hx hb dX5_lossOf_23 (by decide) ?_
    refine lv_iadd hx hb dX5_lossOf_27 ?_
    refine lv_istore (lv' := [(4, .int ((15 + (5 * (c_fl (C a)))) + (20 - (2 * y0)))), (0, .ref (q 0)), (1, .int (nI a)), (2, .int k0), (3, .int y0)]) hx hb dX5_lossOf_28 hl (by decide) rfl (fun ls hl => ?_)
    refine lv_iload_n hx hb dX5_lossOf_30 rfl (lv_at hl 3 rfl) ?_
    refine lv_if_le (tgt := 43) hx hb dX5_lossOf_31 (by decide) (fun c_7 => ?_) (fun c_7 => ?_)
    · skip
      have c_7 := Int32.not_lt.mpr c_7
      refine lv_iload hx hb dX5_lossOf_43 (lv_at hl 0 rfl) ?_
      refine lv_istore (lv' := [(4, .int ((15 + (5 * (c_fl (C a)))) + (20 - (2 * y0)))), (0, .ref (q 0)), (1, .int (nI a)), (2, .int k0), (3, .int y0)]) hx hb dX5_lossOf_45 hl (by decide) rfl (fun ls hl => ?_)
      refine lv_iload_n hx hb dX5_lossOf_47 rfl (lv_at hl 3 rfl) ?_
      refine lv_iconst (v := 2) hx hb dX5_lossOf_48 (by decide) ?_
      refine lv_icmp_ge (tgt := 57) hx hb dX5_lossOf_49 (by decide) (fun c_8 => ?_) (fun c_8 => ?_)
      · skip
        have c_8 := Int32.not_lt.mpr c_8
        refine lv_iload hx hb dX5_lossOf_57 (lv_at hl 0 rfl) ?_
        refine lv_iconst (v := 5) hx hb dX5_lossOf_59 (by decide) ?_
        refine lv_icmp_le (tgt := 70) hx hb dX5_lossOf_60 (by decide) (fun c_9 => ?_) (fun c_9 => ?_)
        · skip
          have c_9 := Int32.not_lt.mpr c_9
          refine lv_iconst (v := 1) hx hb dX5_lossOf_70 (by decide) ?_
          exact ro_iret hx hb hr hlocks dX5_lossOf_71 (by simp only [lossM, c_1, c_7, c_8, c_9, if_true, if_false])
        · skip
          have c_9 := Int32.not_le.mp c_9
          refine lv_iload hx hb dX5_lossOf_63 (lv_at hl 0 rfl) ?_
          refine lv_iconst (v := 4) hx hb dX5_lossOf_65 (by decide) ?_
          refine lv_isub hx hb dX5_lossOf_66 ?_
          refine lv_goto (tgt := 71) hx hb dX5_lossOf_67 (by decide) ?_
          exact ro_iret hx hb hr hlocks dX5_lossOf_71 (by simp only [lossM, c_1, c_7, c_8, c_9, if_true, if_false])
      · skip
        have c_8 := Int32.not_le.mp c_8
        refine lv_iload hx hb dX5_lossOf_52 (lv_at hl 0 rfl) ?_
        refine lv_goto (tgt := 71) hx hb dX5_lossOf_54 (by decide) ?_
        exact ro_iret hx hb hr hlocks dX5_lossOf_71 (by simp only [lossM, c_1, c_7, c_8, if_true, if_false])
    · skip
      have c_7 := Int32.not_le.mp c_7
      refine lv_iconst (v := 3) hx hb dX5_lossOf_34 (by decide) ?_
      refine lv_iload hx hb dX5_lossOf_35 (lv_at hl 0 rfl) ?_
      refine lv_imul hx hb dX5_lossOf_37 ?_
      refine lv_iconst (v := 4) hx hb dX5_lossOf_38 (by decide) ?_
      refine lv_idiv hx hb dX5_lossOf_39 (by decide) ?_
      refine lv_goto (tgt := 45) hx hb dX5_lossOf_40 (by decide) ?_
      refine lv_istore (lv' := [(4, .int ((3 * ((15 + (5 * (c_fl (C a)))) + (20 - (2 * y0)))) / 4)), (0, .ref (q 0)), (1, .int (nI a)), (2, .int k0), (3, .int y0)]) hx hb dX5_lossOf_45 hl (by decide) rfl (fun ls hl => ?_)
      refine lv_iload_n hx hb dX5_lossOf_47 rfl (lv_at hl 3 rfl) ?_
      refine lv_iconst (v := 2) hx hb dX5_lossOf_48 (by decide) ?_
      refine lv_icmp_ge (tgt := 57) hx hb dX5_lossOf_49 (by decide) (fun c_10 => ?_) (fun c_10 => ?_)
      · skip
        have c_10 := Int32.not_lt.mpr c_10
        refine lv_iload hx hb dX5_lossOf_57 (lv_at hl 0 rfl) ?_
        refine lv_iconst (v := 5) hx hb dX5_lossOf_59 (by decide) ?_
        refine lv_icmp_le (tgt := 70) hx hb dX5_lossOf_60 (by decide) (fun c_11 => ?_) (fun c_11 => ?_)
        · skip
          have c_11 := Int32.not_lt.mpr c_11
          refine lv_iconst (v := 1) hx hb dX5_lossOf_70 (by decide) ?_
          exact ro_iret hx hb hr hlocks dX5_lossOf_71 (by simp only [lossM, c_1, c_7, c_10, c_11, if_true, if_false])
        · skip
          have c_11 := Int32.not_le.mp c_11
          refine lv_iload hx hb dX5_lossOf_63 (lv_at hl 0 rfl) ?_
          refine lv_iconst (v := 4) hx hb dX5_lossOf_65 (by decide) ?_
          refine lv_isub hx hb dX5_lossOf_66 ?_
          refine lv_goto (tgt := 71) hx hb dX5_lossOf_67 (by decide) ?_
          exact ro_iret hx hb hr hlocks dX5_lossOf_71 (by simp only [lossM, c_1, c_7, c_10, c_11, if_true, if_false])
      · skip
        have c_10 := Int32.not_le.mp c_10
        refine lv_iload hx hb dX5_lossOf_52 (lv_at hl 0 rfl) ?_
        refine lv_goto (tgt := 71) hx hb dX5_lossOf_54 (by decide) ?_
        exact ro_iret hx hb hr hlocks dX5_lossOf_71 (by simp only [lossM, c_1, c_7, c_10, if_true, if_false])

set_option maxHeartbeats 4000000 in
set_option maxRecDepth 100000 in
theorem kX5_ageOf (l : Launch) (D : va_G) (y : Nat → ClassId) (q : Nat → Nat) (t n : Nat) (C : Nat → CT) (w : Nat → Int32) (rt : Int32) (r0 : Nat) (no sa to : Nat → Int32) (tr : Int64) (st im va : Nat → Int32) (a : Nat) (ha : a < 12) : Met l yX5_ageOf wsX5_ageOf ({ frames := 0, cells := 0, slots := 0, locals := 0 }) (va_Pc [.ref (q 0), .int (nI a)] (rdB D (mTy y) (mWC y q (nI t) (nI n) C w rt (nI r0) no sa to tr st im va))) (vp_Si (fun x => x = (nI t - c_la (C a)))) 0 0 nF := by
  refine ro_start (cc := cX5_ageOf) (maxL := 2) (ret := (some .int)) (by decide) rfl (Nat.le_of_ble_eq_true rfl) ?_
  intro p e s m below meth c ls hx hb hr hml hown hlocks hts hnm hB hl
  obtain ⟨hP, hK, hN⟩ := hB
  have hown : s.vm.findClass RX5 = some m.cls := hown
  have F : CallFix p m c cX5_ageOf 2 s [.ref (q 0), .int (nI a)].toArray wsX5_ageOf RX5 := ⟨hx, hb, hml, hown, hts⟩
  have hl : lv_has ls 2 [(0, .ref (q 0)), (1, .int (nI a))] := hl
  have iX5 : ∀ w ∈ u_ws RX5 TX5 20, w ∈ wsX5_ageOf := mem_pl [3, 4, 5, 6, 7, 8, 9, 10, 11, 12, 13, 14, 15, 16, 17, 18, 19, 20, 21, 22] rfl
  refine lv_aload_n hx hb dX5_ageOf_0 rfl (lv_at hl 0 rfl) ?_
  refine va_get (D := D) (ci := 5) (v := .int (nI t)) (C := RX5) (T := TX5) (N := 20) hx hb hts iX5 hown hK hP 0 rfl rfl 0 (by decide) (hts _ (List.mem_of_getElem? (i := 1) rfl)) (fun _ h9 => h9) rfl dX5_ageOf_1 ?_
  refine lv_aload_n hx hb dX5_ageOf_4 rfl (lv_at hl 0 rfl) ?_
  refine va_get (D := D) (ci := 5) (v := .ref (q 5)) (C := RX5) (T := TX5) (N := 20) hx hb hts iX5 hown hK hP 0 rfl rfl 6 (by decide) (hts _ (List.mem_of_getElem? (i := 2) rfl)) (fun _ h9 => h9) rfl dX5_ageOf_5 ?_
  refine lv_iload_n hx hb dX5_ageOf_8 rfl (lv_at hl 1 rfl) ?_
  refine wa_iald hx hb hK hP 5 4 rfl rfl a rfl (by omega) (by decide) dX5_ageOf_9 ?_
  refine lv_isub hx hb dX5_ageOf_10 ?_
  exact ro_iret hx hb hr hlocks dX5_ageOf_11 rfl

set_option maxHeartbeats 4000000 in
set_option maxRecDepth 100000 in
theorem kX5_costOf (l : Launch) (D : va_G) (y : Nat → ClassId) (q : Nat → Nat) (t n : Nat) (C : Nat → CT) (w : Nat → Int32) (rt : Int32) (r0 : Nat) (no sa to : Nat → Int32) (tr : Int64) (st im va : Nat → Int32) (a : Nat) (ha : a < 12) : Met l yX5_costOf wsX5_costOf ({ frames := 1, cells := 0, slots := 0, locals := 21 }) (va_Pc [.ref (q 0), .int (nI a)] (rdB D (mTy y) (mWC y q (nI t) (nI n) C w rt (nI r0) no sa to tr st im va))) (vp_Si (fun x => x = (costX (C a) (nI t)))) 0 0 nF := by
  refine ro_start (cc := cX5_costOf) (maxL := 2) (ret := (some .int)) (by decide) rfl (Nat.le_of_ble_eq_true rfl) ?_
  intro p e s m below meth c ls hx hb hr hml hown hlocks hts hnm hB hl
  obtain ⟨hP, hK, hN⟩ := hB
  have hown : s.vm.findClass RX5 = some m.cls := hown
  have F : CallFix p m c cX5_costOf 2 s [.ref (q 0), .int (nI a)].toArray wsX5_costOf RX5 := ⟨hx, hb, hml, hown, hts⟩
  have hl : lv_has ls 2 [(0, .ref (q 0)), (1, .int (nI a))] := hl
  have iX5 : ∀ w ∈ u_ws RX5 TX5 20, w ∈ wsX5_costOf := mem_pl [9, 10, 11, 12, 13, 14, 15, 16, 17, 18, 19, 20, 21, 22, 23, 24, 25, 26, 27, 28] rfl
  refine lv_aload_n hx hb dX5_costOf_0 rfl (lv_at hl 0 rfl) ?_
  refine va_get (D := D) (ci := 5) (v := .ref (q 2)) (C := RX5) (T := TX5) (N := 20) hx hb hts iX5 hown hK hP 0 rfl rfl 3 (by decide) (hts _ (List.mem_of_getElem? (i := 1) rfl)) (fun _ h9 => h9) rfl dX5_costOf_1 ?_
  refine lv_iload_n hx hb dX5_costOf_4 rfl (lv_at hl 1 rfl) ?_
  refine wa_iald hx hb hK hP 2 1 rfl rfl a rfl (by omega) (by decide) dX5_costOf_5 ?_
  refine lv_bipush (v := 20) hx hb dX5_costOf_6 (by decide) ?_
  refine lv_iconst (v := 3) hx hb dX5_costOf_8 (by decide) ?_
  refine lv_aload_n hx hb dX5_costOf_9 rfl (lv_at hl 0 rfl) ?_
  refine lv_iload_n hx hb dX5_costOf_10 rfl (lv_at hl 1 rfl) ?_
  refine ro_i (va_runV (As := [.int (nI a)]) (rest := [.int 3, .int 20, .int (c_dr (C a))]) F (kX5_ageOf l D y q t n C w rt r0 no sa to tr st im va a (by omega)) (cwV 1 hts gX5_costOf_X5_ageOf rfl rfl rfl ⟨rfl, hdX5_ageOf⟩ ⟨(Nat.le_of_ble_eq_true rfl), (Nat.le_of_ble_eq_true rfl)⟩) ⟨rdB_blind, va_recv hK hP (ci := 5) (q0 := 0) rfl rfl, rdB_pre hP hK hN⟩ rfl rfl hl.1 rfl (lv_room (Nat.le_of_ble_eq_true rfl)) dX5_costOf_11 ⟨Nat.zero_le _, Nat.zero_le _⟩) ?_
  refine lv_imul hx hb dX5_costOf_14 ?_
  refine lv_iadd hx hb dX5_costOf_15 ?_
  refine lv_imul hx hb dX5_costOf_16 ?_
  refine lv_bipush (v := 99) hx hb dX5_costOf_17 (by decide) ?_
  refine lv_iadd hx hb dX5_costOf_19 ?_
  refine lv_bipush (v := 100) hx hb dX5_costOf_20 (by decide) ?_
  refine lv_idiv hx hb dX5_costOf_22 (by decide) ?_
  exact ro_iret hx hb hr hlocks dX5_costOf_23 (cost_eq _ _).symm

set_option maxHeartbeats 4000000 in
set_option maxRecDepth 100000 in
theorem kX5_about (l : Launch) (D : va_G) (y : Nat → ClassId) (q : Nat → Nat) (t n : Nat) (C : Nat → CT) (w : Nat → Int32) (rt : Int32) (r0 : Nat) (no sa to : Nat → Int32) (tr : Int64) (st im va : Nat → Int32) (c0 : Int32) (w0 : Int32) (hn : n ≤ 12) : Met l yX5_about wsX5_about ({ frames := 2, cells := 0, slots := 0, locals := 43 }) (va_Pc [.ref (q 0), .int c0, .int w0] (rdB D (mTy y) (mWC y q (nI t) (nI n) C w rt (nI r0) no sa to tr st im va))) (vp_Si (fun x => x = (aboutF n C (nI t) c0 w0))) 0 0 nF := by
  refine ro_start (cc := cX5_about) (maxL := 3) (ret := (some .int)) (by decide) rfl (Nat.le_of_ble_eq_true rfl) ?_
  intro p e s m below meth c ls hx hb hr hml hown hlocks hts hnm hB hl
  obtain ⟨hP, hK, hN⟩ := hB
  have hown : s.vm.findClass RX5 = some m.cls := hown
  have F : CallFix p m c cX5_about 3 s [.ref (q 0), .int c0, .int w0].toArray wsX5_about RX5 := ⟨hx, hb, hml, hown, hts⟩
  have hl : lv_has ls 3 [(0, .ref (q 0)), (1, .int c0), (2, .int w0)] := hl
  have iX5 : ∀ w ∈ u_ws RX5 TX5 20, w ∈ wsX5_about := mem_pl [27, 28, 29, 30, 31, 32, 33, 34, 35, 36, 37, 38, 39, 40, 41, 42, 43, 44, 45, 46] rfl
  refine lv_aload_n hx hb dX5_about_0 rfl (lv_at hl 0 rfl) ?_
  refine lv_iload_n hx hb dX5_about_1 rfl (lv_at hl 1 rfl) ?_
  refine ro_i (va_runV (As := [.int c0]) (rest := []) F (kX5_isCask l D y q t n C w rt r0 no sa to tr st im va c0) (cwV 1 hts gX5_about_X5_isCask rfl rfl rfl ⟨rfl, hdX5_isCask⟩ ⟨(Nat.le_of_ble_eq_true rfl), (Nat.le_of_ble_eq_true rfl)⟩) ⟨rdB_blind, va_recv hK hP (ci := 5) (q0 := 0) rfl rfl, rdB_pre hP hK hN⟩ rfl rfl hl.1 rfl (lv_room (Nat.le_of_ble_eq_true rfl)) dX5_about_2 ⟨Nat.zero_le _, Nat.zero_le _⟩) ?_
  refine lv_if_ne (tgt := 10) hx hb dX5_about_5 (by decide) (fun c_1 => ?_) (fun c_1 => ?_)
  · skip
    have c_1 := zI_1 c_1
    obtain ⟨j, hzj, rfl⟩ := isC_of hn c_1
    have ej : (nI j).toNatClampNeg = j := nI_clamp (by omega)
    refine lv_iload_n hx hb dX5_about_10 rfl (lv_at hl 2 rfl) ?_
    by_cases t_2 : w0 = 0
    · skip
      subst t_2
      refine lv_tableIn (off := 49) (tgt := 60) hx hb dX5_about_11 (by decide) (by decide) rfl (by decide) ?_
      refine lv_aload_n hx hb dX5_about_60 rfl (lv_at hl 0 rfl) ?_
      refine va_get (D := D) (ci := 5) (v := .ref (q 2)) (C := RX5) (T := TX5) (N := 20) hx hb hts iX5 hown hK hP 0 rfl rfl 3 (by decide) (hts _ (List.mem_of_getElem? (i := 1) rfl)) (fun _ h9 => h9) rfl dX5_about_61 ?_
      refine lv_iload_n hx hb dX5_about_64 rfl (lv_at hl 1 rfl) ?_
      refine wa_iald hx hb hK hP 2 1 rfl rfl j rfl (by omega) (by decide) dX5_about_65 ?_
      exact ro_iret hx hb hr hlocks dX5_about_66 (by simp [aboutF, aboutX, c_1, ej])
    by_cases t_3 : w0 = 1
    · skip
      subst t_3
      refine lv_tableIn (off := 56) (tgt := 67) hx hb dX5_about_11 (by decide) (by decide) rfl (by decide) ?_
      refine lv_aload_n hx hb dX5_about_67 rfl (lv_at hl 0 rfl) ?_
      refine va_get (D := D) (ci := 5) (v := .ref (q 3)) (C := RX5) (T := TX5) (N := 20) hx hb hts iX5 hown hK hP 0 rfl rfl 4 (by decide) (hts _ (List.mem_of_getElem? (i := 2) rfl)) (fun _ h9 => h9) rfl dX5_about_68 ?_
      refine lv_iload_n hx hb dX5_about_71 rfl (lv_at hl 1 rfl) ?_
      refine wa_iald hx hb hK hP 3 2 rfl rfl j rfl (by omega) (by decide) dX5_about_72 ?_
      exact ro_iret hx hb hr hlocks dX5_about_73 (by simp [aboutF, aboutX, c_1, ej])
    by_cases t_4 : w0 = 2
    · skip
      subst t_4
      refine lv_tableIn (off := 63) (tgt := 74) hx hb dX5_about_11 (by decide) (by decide) rfl (by decide) ?_
      refine lv_aload_n hx hb dX5_about_74 rfl (lv_at hl 0 rfl) ?_
      refine lv_iload_n hx hb dX5_about_75 rfl (lv_at hl 1 rfl) ?_
      refine ro_i (va_runV (As := [.int (nI j)]) (rest := []) F (kX5_ageOf l D y q t n C w rt r0 no sa to tr st im va j (by omega)) (cwV 1 hts gX5_about_X5_ageOf rfl rfl rfl ⟨rfl, hdX5_ageOf⟩ ⟨(Nat.le_of_ble_eq_true rfl), (Nat.le_of_ble_eq_true rfl)⟩) ⟨rdB_blind, va_recv hK hP (ci := 5) (q0 := 0) rfl rfl, rdB_pre hP hK hN⟩ rfl rfl hl.1 rfl (lv_room (Nat.le_of_ble_eq_true rfl)) dX5_about_76 ⟨Nat.zero_le _, Nat.zero_le _⟩) ?_
      exact ro_iret hx hb hr hlocks dX5_about_79 (by simp [aboutF, aboutX, c_1, ej])
    by_cases t_5 : w0 = 3
    · skip
      subst t_5
      refine lv_tableIn (off := 69) (tgt := 80) hx hb dX5_about_11 (by decide) (by decide) rfl (by decide) ?_
      refine lv_aload_n hx hb dX5_about_80 rfl (lv_at hl 0 rfl) ?_
      refine va_get (D := D) (ci := 5) (v := .ref (q 6)) (C := RX5) (T := TX5) (N := 20) hx hb hts iX5 hown hK hP 0 rfl rfl 7 (by decide) (hts _ (List.mem_of_getElem? (i := 3) rfl)) (fun _ h9 => h9) rfl dX5_about_81 ?_
      refine lv_iload_n hx hb dX5_about_84 rfl (lv_at hl 1 rfl) ?_
      refine wa_iald hx hb hK hP 6 5 rfl rfl j rfl (by omega) (by decide) dX5_about_85 ?_
      exact ro_iret hx hb hr hlocks dX5_about_86 (by simp [aboutF, aboutX, c_1, ej])
    by_cases t_6 : w0 = 4
    · skip
      subst t_6
      refine lv_tableIn (off := 76) (tgt := 87) hx hb dX5_about_11 (by decide) (by decide) rfl (by decide) ?_
      refine lv_aload_n hx hb dX5_about_87 rfl (lv_at hl 0 rfl) ?_
      refine va_get (D := D) (ci := 5) (v := .ref (q 7)) (C := RX5) (T := TX5) (N := 20) hx hb hts iX5 hown hK hP 0 rfl rfl 8 (by decide) (hts _ (List.mem_of_getElem? (i := 4) rfl)) (fun _ h9 => h9) rfl dX5_about_88 ?_
      refine lv_iload_n hx hb dX5_about_91 rfl (lv_at hl 1 rfl) ?_
      refine wa_iald hx hb hK hP 7 6 rfl rfl j rfl (by omega) (by decide) dX5_about_92 ?_
      exact ro_iret hx hb hr hlocks dX5_about_93 (by simp [aboutF, aboutX, c_1, ej])
    by_cases t_7 : w0 = 5
    · skip
      subst t_7
      refine lv_tableIn (off := 83) (tgt := 94) hx hb dX5_about_11 (by decide) (by decide) rfl (by decide) ?_
      refine lv_aload_n hx hb dX5_about_94 rfl (lv_at hl 0 rfl) ?_
      refine va_get (D := D) (ci := 5) (v := .ref (q 8)) (C := RX5) (T := TX5) (N := 20) hx hb hts iX5 hown hK hP 0 rfl rfl 9 (by decide) (hts _ (List.mem_of_getElem? (i := 5) rfl)) (fun _ h9 => h9) rfl dX5_about_95 ?_
      refine lv_iload_n hx hb dX5_about_98 rfl (lv_at hl 1 rfl) ?_
      refine wa_iald hx hb hK hP 8 7 rfl rfl j rfl (by omega) (by decide) dX5_about_99 ?_
      exact ro_iret hx hb hr hlocks dX5_about_100 (by simp [aboutF, aboutX, c_1, ej])
    by_cases t_8 : w0 = 6
    · skip
      subst t_8
      refine lv_tableIn (off := 90) (tgt := 101) hx hb dX5_about_11 (by decide) (by decide) rfl (by decide) ?_
      refine lv_aload_n hx hb dX5_about_101 rfl (lv_at hl 0 rfl) ?_
      refine va_get (D := D) (ci := 5) (v := .ref (q 1)) (C := RX5) (T := TX5) (N := 20) hx hb hts iX5 hown hK hP 0 rfl rfl 2 (by decide) (hts _ (List.mem_of_getElem? (i := 6) rfl)) (fun _ h9 => h9) rfl dX5_about_102 ?_
      refine lv_iload_n hx hb dX5_about_105 rfl (lv_at hl 1 rfl) ?_
      refine wa_iald hx hb hK hP 1 0 rfl rfl j rfl (by omega) (by decide) dX5_about_106 ?_
      exact ro_iret hx hb hr hlocks dX5_about_107 (by simp [aboutF, aboutX, c_1, ej])
    by_cases t_9 : w0 = 7
    · skip
      subst t_9
      refine lv_tableIn (off := 97) (tgt := 108) hx hb dX5_about_11 (by decide) (by decide) rfl (by decide) ?_
      refine lv_aload_n hx hb dX5_about_108 rfl (lv_at hl 0 rfl) ?_
      refine va_get (D := D) (ci := 5) (v := .ref (q 4)) (C := RX5) (T := TX5) (N := 20) hx hb hts iX5 hown hK hP 0 rfl rfl 5 (by decide) (hts _ (List.mem_of_getElem? (i := 7) rfl)) (fun _ h9 => h9) rfl dX5_about_109 ?_
      refine lv_iload_n hx hb dX5_about_112 rfl (lv_at hl 1 rfl) ?_
      refine wa_iald hx hb hK hP 4 3 rfl rfl j rfl (by omega) (by decide) dX5_about_113 ?_
      exact ro_iret hx hb hr hlocks dX5_about_114 (by simp [aboutF, aboutX, c_1, ej])
    by_cases t_10 : w0 = 8
    · skip
      subst t_10
      refine lv_tableIn (off := 104) (tgt := 115) hx hb dX5_about_11 (by decide) (by decide) rfl (by decide) ?_
      refine lv_aload_n hx hb dX5_about_115 rfl (lv_at hl 0 rfl) ?_
      refine lv_iload_n hx hb dX5_about_116 rfl (lv_at hl 1 rfl) ?_
      refine ro_i (va_runV (As := [.int (nI j)]) (rest := []) F (kX5_costOf l D y q t n C w rt r0 no sa to tr st im va j (by omega)) (cwV 1 hts gX5_about_X5_costOf rfl rfl rfl ⟨rfl, hdX5_costOf⟩ ⟨(Nat.le_of_ble_eq_true rfl), (Nat.le_of_ble_eq_true rfl)⟩) ⟨rdB_blind, va_recv hK hP (ci := 5) (q0 := 0) rfl rfl, rdB_pre hP hK hN⟩ rfl rfl hl.1 rfl (lv_room (Nat.le_of_ble_eq_true rfl)) dX5_about_117 ⟨Nat.zero_le _, Nat.zero_le _⟩) ?_
      exact ro_iret hx hb hr hlocks dX5_about_120 (by simp [aboutF, aboutX, c_1, ej])
    have u_2 : ¬ (w0).toInt = 0 := fun h => t_2 (Int32.toInt_inj.mp h)
    have u_3 : ¬ (w0).toInt = 1 := fun h => t_3 (Int32.toInt_inj.mp h)
    have u_4 : ¬ (w0).toInt = 2 := fun h => t_4 (Int32.toInt_inj.mp h)
    have u_5 : ¬ (w0).toInt = 3 := fun h => t_5 (Int32.toInt_inj.mp h)
    have u_6 : ¬ (w0).toInt = 4 := fun h => t_6 (Int32.toInt_inj.mp h)
    have u_7 : ¬ (w0).toInt = 5 := fun h => t_7 (Int32.toInt_inj.mp h)
    have u_8 : ¬ (w0).toInt = 6 := fun h => t_8 (Int32.toInt_inj.mp h)
    have u_9 : ¬ (w0).toInt = 7 := fun h => t_9 (Int32.toInt_inj.mp h)
    have u_10 : ¬ (w0).toInt = 8 := fun h => t_10 (Int32.toInt_inj.mp h)
    refine lv_tableOut (tgt := 121) hx hb dX5_about_11 (by omega) (by decide) ?_
    refine lv_iconst (v := (-1)) hx hb dX5_about_121 (by decide) ?_
    exact ro_iret hx hb hr hlocks dX5_about_122 (by simp [aboutF, aboutX, c_1, ej, t_2, t_3, t_4, t_5, t_6, t_7, t_8, t_9, t_10])
  · skip
    have c_1 := zI_0 c_1
    refine lv_iconst (v := (-1)) hx hb dX5_about_8 (by decide) ?_
    exact ro_iret hx hb hr hlocks dX5_about_9 (by simp [aboutF, aboutX, c_1])

set_option maxHeartbeats 4000000 in
set_option maxRecDepth 100000 in
theorem kX5_lay (l : Launch) (D : va_G) (y : Nat → ClassId) (q : Nat → Nat) (t n : Nat) (C : Nat → CT) (w : Nat → Int32) (rt : Int32) (r0 : Nat) (no sa to : Nat → Int32) (tr : Int64) (st im va : Nat → Int32) (k0 : Int32) (d0 : Int32) (s0 : Int32) (f0 : Int32) (m0 : Int32) (sz : Nat) (hn : n ≤ 12) (hI : INV n t C) : Met l yX5_lay wsX5_lay ({ frames := 1, cells := 0, slots := 0, locals := 22 }) (va_Pc [.ref (q 0), .int k0, .int d0, .int s0, .int f0, .int m0] (muB D (mTy y) (mWC y q (nI t) (nI n) C w rt (nI r0) no sa to tr st im va) sz eT)) (QI (σ := Int32 × (Nat → CT)) D (fun r u => (r, u) = layF n (nI t) C k0 d0 s0 f0 m0) (fun u => (mWC y q (nI t) u.1 u.2 w rt (nI r0) no sa to tr st im va)) (va_A (mWC y q (nI t) (nI n) C w rt (nI r0) no sa to tr st im va) sz)) 0 0 (va_A (mWC y q (nI t) (nI n) C w rt (nI r0) no sa to tr st im va) sz) := by
  refine mu_start (Qc := QI (σ := Int32 × (Nat → CT)) D (fun r u => (r, u) = layF n (nI t) C k0 d0 s0 f0 m0) (fun u => (mWC y q (nI t) u.1 u.2 w rt (nI r0) no sa to tr st im va))) (cc := cX5_lay) (maxL := 6) (ret := (some .int)) (by decide) rfl (Nat.le_of_ble_eq_true rfl) ?_
  intro p e s m below meth c ls A hx hb hr hml hown hlocks hts hnm hA hP hK hN hD hE hAA hsz hl
  have hS : va_S A s.heap s.heap [] := va_S.rf
  have hown : s.vm.findClass RX5 = some m.cls := hown
  have F : CallFix p m c cX5_lay 6 s [.ref (q 0), .int k0, .int d0, .int s0, .int f0, .int m0].toArray wsX5_lay RX5 := ⟨hx, hb, hml, hown, hts⟩
  have hl : lv_has ls 6 [(0, .ref (q 0)), (1, .int k0), (2, .int d0), (3, .int s0), (4, .int f0), (5, .int m0)] := hl
  have iX5 : ∀ w ∈ u_ws RX5 TX5 20, w ∈ wsX5_lay := mem_pl [15, 16, 17, 18, 19, 20, 21, 22, 23, 24, 25, 26, 27, 28, 29, 30, 31, 32, 33, 34] rfl
  refine lv_iload_n hx hb dX5_lay_0 rfl (lv_at hl 1 rfl) ?_
  refine lv_iconst (v := 0) hx hb dX5_lay_1 (by decide) ?_
  refine lv_iconst (v := 2) hx hb dX5_lay_2 (by decide) ?_
  refine ro_i (va_runS (As := [.int k0, .int 0, .int 2]) (rest := []) F (kX5_in l k0 0 2) (va_cwS 3 hts gX5_lay_X5_in rfl rfl rfl hdX5_in ⟨(Nat.le_of_ble_eq_true rfl), (Nat.le_of_ble_eq_true rfl)⟩) ⟨tr_blind, tr_pre⟩ rfl rfl hl.1 rfl (lv_room (Nat.le_of_ble_eq_true rfl)) dX5_lay_3 ⟨Nat.zero_le _, Nat.zero_le _⟩) ?_
  refine lv_if_eq (tgt := 55) hx hb dX5_lay_6 (by decide) (fun c_1 => ?_) (fun c_1 => ?_)
  · skip
    have c_1 := zI_0 c_1
    refine lv_iconst (v := (-1)) hx hb dX5_lay_55 (by decide) ?_
    exact mu_iret (nI n, C) hx hb hr hlocks hP hD hS dX5_lay_56 (by simp [layF, c_1])
  · skip
    have c_1 := zI_1 c_1
    refine lv_iload_n hx hb dX5_lay_9 rfl (lv_at hl 2 rfl) ?_
    refine lv_iconst (v := 1) hx hb dX5_lay_10 (by decide) ?_
    refine lv_sipush (v := 9000) hx hb dX5_lay_11 (by decide) ?_
    refine ro_i (va_runS (As := [.int d0, .int 1, .int 9000]) (rest := []) F (kX5_in l d0 1 9000) (va_cwS 3 hts gX5_lay_X5_in rfl rfl rfl hdX5_in ⟨(Nat.le_of_ble_eq_true rfl), (Nat.le_of_ble_eq_true rfl)⟩) ⟨tr_blind, tr_pre⟩ rfl rfl hl.1 rfl (lv_room (Nat.le_of_ble_eq_true rfl)) dX5_lay_14 ⟨Nat.zero_le _, Nat.zero_le _⟩) ?_
    refine lv_if_eq (tgt := 55) hx hb dX5_lay_17 (by decide) (fun c_2 => ?_) (fun c_2 => ?_)
    · skip
      have c_2 := zI_0 c_2
      refine lv_iconst (v := (-1)) hx hb dX5_lay_55 (by decide) ?_
      exact mu_iret (nI n, C) hx hb hr hlocks hP hD hS dX5_lay_56 (by simp [layF, c_1, c_2])
    · skip
      have c_2 := zI_1 c_2
      refine lv_iload_n hx hb dX5_lay_20 rfl (lv_at hl 3 rfl) ?_
      refine lv_sipush (v := 400) hx hb dX5_lay_21 (by decide) ?_
      refine lv_sipush (v := 700) hx hb dX5_lay_24 (by decide) ?_
      refine ro_i (va_runS (As := [.int s0, .int 400, .int 700]) (rest := []) F (kX5_in l s0 400 700) (va_cwS 3 hts gX5_lay_X5_in rfl rfl rfl hdX5_in ⟨(Nat.le_of_ble_eq_true rfl), (Nat.le_of_ble_eq_true rfl)⟩) ⟨tr_blind, tr_pre⟩ rfl rfl hl.1 rfl (lv_room (Nat.le_of_ble_eq_true rfl)) dX5_lay_27 ⟨Nat.zero_le _, Nat.zero_le _⟩) ?_
      refine lv_if_eq (tgt := 55) hx hb dX5_lay_30 (by decide) (fun c_3 => ?_) (fun c_3 => ?_)
      · skip
        have c_3 := zI_0 c_3
        refine lv_iconst (v := (-1)) hx hb dX5_lay_55 (by decide) ?_
        exact mu_iret (nI n, C) hx hb hr hlocks hP hD hS dX5_lay_56 (by simp [layF, c_1, c_2, c_3])
      · skip
        have c_3 := zI_1 c_3
        refine lv_iload hx hb dX5_lay_33 (lv_at hl 4 rfl) ?_
        refine lv_iconst (v := 0) hx hb dX5_lay_35 (by decide) ?_
        refine lv_iconst (v := 3) hx hb dX5_lay_36 (by decide) ?_
        refine ro_i (va_runS (As := [.int f0, .int 0, .int 3]) (rest := []) F (kX5_in l f0 0 3) (va_cwS 3 hts gX5_lay_X5_in rfl rfl rfl hdX5_in ⟨(Nat.le_of_ble_eq_true rfl), (Nat.le_of_ble_eq_true rfl)⟩) ⟨tr_blind, tr_pre⟩ rfl rfl hl.1 rfl (lv_room (Nat.le_of_ble_eq_true rfl)) dX5_lay_37 ⟨Nat.zero_le _, Nat.zero_le _⟩) ?_
        refine lv_if_eq (tgt := 55) hx hb dX5_lay_40 (by decide) (fun c_4 => ?_) (fun c_4 => ?_)
        · skip
          have c_4 := zI_0 c_4
          refine lv_iconst (v := (-1)) hx hb dX5_lay_55 (by decide) ?_
          exact mu_iret (nI n, C) hx hb hr hlocks hP hD hS dX5_lay_56 (by simp [layF, c_1, c_2, c_3, c_4])
        · skip
          have c_4 := zI_1 c_4
          refine lv_iload hx hb dX5_lay_43 (lv_at hl 5 rfl) ?_
          refine lv_iconst (v := 0) hx hb dX5_lay_45 (by decide) ?_
          refine lv_sipush (v := 500) hx hb dX5_lay_46 (by decide) ?_
          refine ro_i (va_runS (As := [.int m0, .int 0, .int 500]) (rest := []) F (kX5_in l m0 0 500) (va_cwS 3 hts gX5_lay_X5_in rfl rfl rfl hdX5_in ⟨(Nat.le_of_ble_eq_true rfl), (Nat.le_of_ble_eq_true rfl)⟩) ⟨tr_blind, tr_pre⟩ rfl rfl hl.1 rfl (lv_room (Nat.le_of_ble_eq_true rfl)) dX5_lay_49 ⟨Nat.zero_le _, Nat.zero_le _⟩) ?_
          refine lv_if_ne (tgt := 57) hx hb dX5_lay_52 (by decide) (fun c_5 => ?_) (fun c_5 => ?_)
          · skip
            have c_5 := zI_1 c_5
            refine lv_aload_n hx hb dX5_lay_57 rfl (lv_at hl 0 rfl) ?_
            refine va_get (D := D) (ci := 5) (v := .int (nI n)) (C := RX5) (T := TX5) (N := 20) hx hb hts iX5 hown hK hP 0 rfl rfl 1 (by decide) (hts _ (List.mem_of_getElem? (i := 1) rfl)) (fun _ h9 => h9) rfl dX5_lay_58 ?_
            refine lv_bipush (v := 12) hx hb dX5_lay_61 (by decide) ?_
            refine lv_icmp_ne (tgt := 69) hx hb dX5_lay_63 (by decide) (fun c_6 => ?_) (fun c_6 => ?_)
            · skip
              have c_6 : ¬ n = 12 := fun h => c_6 ((nI_eq (a := n) (b := 12) (by omega) (by omega)).mpr h)
              have hlt : n < 12 := by omega
              have hC : C n = c00 := hI.2.2.2.1 n (Nat.le_refl n)
              refine lv_aload_n hx hb dX5_lay_69 rfl (lv_at hl 0 rfl) ?_
              refine va_get (D := D) (ci := 5) (v := .ref (q 1)) (C := RX5) (T := TX5) (N := 20) hx hb hts iX5 hown hK hP 0 rfl rfl 2 (by decide) (hts _ (List.mem_of_getElem? (i := 2) rfl)) (fun _ h9 => h9) rfl dX5_lay_70 ?_
              refine lv_aload_n hx hb dX5_lay_73 rfl (lv_at hl 0 rfl) ?_
              refine va_get (D := D) (ci := 5) (v := .int (nI n)) (C := RX5) (T := TX5) (N := 20) hx hb hts iX5 hown hK hP 0 rfl rfl 1 (by decide) (hts _ (List.mem_of_getElem? (i := 1) rfl)) (fun _ h9 => h9) rfl dX5_lay_74 ?_
              refine lv_iload_n hx hb dX5_lay_77 rfl (lv_at hl 1 rfl) ?_
              refine wa_iast (v := k0) hx hb hK hP hD hS 1 0 rfl rfl n rfl (by omega) (by decide) dX5_lay_78 (fun H locs hP hD hS => ?_)
              have hP : va_P D vwCl (mWC y q (nI t) (nI n) (va_up C n (k0, c_dr (C n), c_sg (C n), c_fl (C n), c_ok (C n), c_sm (C n), c_sw (C n), c_la (C n))) w rt (nI r0) no sa to tr st im va) H := mcP_kd hP
              have hD : va_D A (mWC y q (nI t) (nI n) (va_up C n (k0, c_dr (C n), c_sg (C n), c_fl (C n), c_ok (C n), c_sm (C n), c_sw (C n), c_la (C n))) w rt (nI r0) no sa to tr st im va) := mcD_kd hD
              refine lv_aload_n hx hb dX5_lay_79 rfl (lv_at hl 0 rfl) ?_
              refine va_get (D := D) (ci := 5) (v := .ref (q 2)) (C := RX5) (T := TX5) (N := 20) hx hb hts iX5 hown hK hP 0 rfl rfl 3 (by decide) (hts _ (List.mem_of_getElem? (i := 3) rfl)) (fun _ h9 => h9) rfl dX5_lay_80 ?_
              refine lv_aload_n hx hb dX5_lay_83 rfl (lv_at hl 0 rfl) ?_
              refine va_get (D := D) (ci := 5) (v := .int (nI n)) (C := RX5) (T := TX5) (N := 20) hx hb hts iX5 hown hK hP 0 rfl rfl 1 (by decide) (hts _ (List.mem_of_getElem? (i := 1) rfl)) (fun _ h9 => h9) rfl dX5_lay_84 ?_
              refine lv_iload_n hx hb dX5_lay_87 rfl (lv_at hl 2 rfl) ?_
              refine wa_iast (v := d0) hx hb hK hP hD hS 2 1 rfl rfl n rfl (by omega) (by decide) dX5_lay_88 (fun H locs hP hD hS => ?_)
              have hP : va_P D vwCl (mWC y q (nI t) (nI n) (va_up C n (k0, d0, c_sg (C n), c_fl (C n), c_ok (C n), c_sm (C n), c_sw (C n), c_la (C n))) w rt (nI r0) no sa to tr st im va) H := mcPF_dr (c0 := (k0, c_dr (C n), c_sg (C n), c_fl (C n), c_ok (C n), c_sm (C n), c_sw (C n), c_la (C n))) hP
              have hD : va_D A (mWC y q (nI t) (nI n) (va_up C n (k0, d0, c_sg (C n), c_fl (C n), c_ok (C n), c_sm (C n), c_sw (C n), c_la (C n))) w rt (nI r0) no sa to tr st im va) := mcDF_dr (c0 := (k0, c_dr (C n), c_sg (C n), c_fl (C n), c_ok (C n), c_sm (C n), c_sw (C n), c_la (C n))) hD
              refine lv_aload_n hx hb dX5_lay_89 rfl (lv_at hl 0 rfl) ?_
              refine va_get (D := D) (ci := 5) (v := .ref (q 3)) (C := RX5) (T := TX5) (N := 20) hx hb hts iX5 hown hK hP 0 rfl rfl 4 (by decide) (hts _ (List.mem_of_getElem? (i := 4) rfl)) (fun _ h9 => h9) rfl dX5_lay_90 ?_
              refine lv_aload_n hx hb dX5_lay_93 rfl (lv_at hl 0 rfl) ?_
              refine va_get (D := D) (ci := 5) (v := .int (nI n)) (C := RX5) (T := TX5) (N := 20) hx hb hts iX5 hown hK hP 0 rfl rfl 1 (by decide) (hts _ (List.mem_of_getElem? (i := 1) rfl)) (fun _ h9 => h9) rfl dX5_lay_94 ?_
              refine lv_iload_n hx hb dX5_lay_97 rfl (lv_at hl 3 rfl) ?_
              refine wa_iast (v := s0) hx hb hK hP hD hS 3 2 rfl rfl n rfl (by omega) (by decide) dX5_lay_98 (fun H locs hP hD hS => ?_)
              have hP : va_P D vwCl (mWC y q (nI t) (nI n) (va_up C n (k0, d0, s0, c_fl (C n), c_ok (C n), c_sm (C n), c_sw (C n), c_la (C n))) w rt (nI r0) no sa to tr st im va) H := mcPF_sg (c0 := (k0, d0, c_sg (C n), c_fl (C n), c_ok (C n), c_sm (C n), c_sw (C n), c_la (C n))) hP
              have hD : va_D A (mWC y q (nI t) (nI n) (va_up C n (k0, d0, s0, c_fl (C n), c_ok (C n), c_sm (C n), c_sw (C n), c_la (C n))) w rt (nI r0) no sa to tr st im va) := mcDF_sg (c0 := (k0, d0, c_sg (C n), c_fl (C n), c_ok (C n), c_sm (C n), c_sw (C n), c_la (C n))) hD
              refine lv_aload_n hx hb dX5_lay_99 rfl (lv_at hl 0 rfl) ?_
              refine va_get (D := D) (ci := 5) (v := .ref (q 4)) (C := RX5) (T := TX5) (N := 20) hx hb hts iX5 hown hK hP 0 rfl rfl 5 (by decide) (hts _ (List.mem_of_getElem? (i := 5) rfl)) (fun _ h9 => h9) rfl dX5_lay_100 ?_
              refine lv_aload_n hx hb dX5_lay_103 rfl (lv_at hl 0 rfl) ?_
              refine va_get (D := D) (ci := 5) (v := .int (nI n)) (C := RX5) (T := TX5) (N := 20) hx hb hts iX5 hown hK hP 0 rfl rfl 1 (by decide) (hts _ (List.mem_of_getElem? (i := 1) rfl)) (fun _ h9 => h9) rfl dX5_lay_104 ?_
              refine lv_iload hx hb dX5_lay_107 (lv_at hl 4 rfl) ?_
              refine wa_iast (v := f0) hx hb hK hP hD hS 4 3 rfl rfl n rfl (by omega) (by decide) dX5_lay_109 (fun H locs hP hD hS => ?_)
              have hP : va_P D vwCl (mWC y q (nI t) (nI n) (va_up C n (k0, d0, s0, f0, c_ok (C n), c_sm (C n), c_sw (C n), c_la (C n))) w rt (nI r0) no sa to tr st im va) H := mcPF_fl (c0 := (k0, d0, s0, c_fl (C n), c_ok (C n), c_sm (C n), c_sw (C n), c_la (C n))) hP
              have hD : va_D A (mWC y q (nI t) (nI n) (va_up C n (k0, d0, s0, f0, c_ok (C n), c_sm (C n), c_sw (C n), c_la (C n))) w rt (nI r0) no sa to tr st im va) := mcDF_fl (c0 := (k0, d0, s0, c_fl (C n), c_ok (C n), c_sm (C n), c_sw (C n), c_la (C n))) hD
              refine lv_aload_n hx hb dX5_lay_110 rfl (lv_at hl 0 rfl) ?_
              refine va_get (D := D) (ci := 5) (v := .ref (q 5)) (C := RX5) (T := TX5) (N := 20) hx hb hts iX5 hown hK hP 0 rfl rfl 6 (by decide) (hts _ (List.mem_of_getElem? (i := 6) rfl)) (fun _ h9 => h9) rfl dX5_lay_111 ?_
              refine lv_aload_n hx hb dX5_lay_114 rfl (lv_at hl 0 rfl) ?_
              refine va_get (D := D) (ci := 5) (v := .int (nI n)) (C := RX5) (T := TX5) (N := 20) hx hb hts iX5 hown hK hP 0 rfl rfl 1 (by decide) (hts _ (List.mem_of_getElem? (i := 1) rfl)) (fun _ h9 => h9) rfl dX5_lay_115 ?_
              refine lv_aload_n hx hb dX5_lay_118 rfl (lv_at hl 0 rfl) ?_
              refine va_get (D := D) (ci := 5) (v := .int (nI t)) (C := RX5) (T := TX5) (N := 20) hx hb hts iX5 hown hK hP 0 rfl rfl 0 (by decide) (hts _ (List.mem_of_getElem? (i := 7) rfl)) (fun _ h9 => h9) rfl dX5_lay_119 ?_
              refine wa_iast (v := nI t) hx hb hK hP hD hS 5 4 rfl rfl n rfl (by omega) (by decide) dX5_lay_122 (fun H locs hP hD hS => ?_)
              have hP : va_P D vwCl (mWC y q (nI t) (nI n) (va_up C n (k0, d0, s0, f0, c_ok (C n), c_sm (C n), c_sw (C n), nI t)) w rt (nI r0) no sa to tr st im va) H := mcPF_la (c0 := (k0, d0, s0, f0, c_ok (C n), c_sm (C n), c_sw (C n), c_la (C n))) hP
              have hD : va_D A (mWC y q (nI t) (nI n) (va_up C n (k0, d0, s0, f0, c_ok (C n), c_sm (C n), c_sw (C n), nI t)) w rt (nI r0) no sa to tr st im va) := mcDF_la (c0 := (k0, d0, s0, f0, c_ok (C n), c_sm (C n), c_sw (C n), c_la (C n))) hD
              refine lv_aload_n hx hb dX5_lay_123 rfl (lv_at hl 0 rfl) ?_
              refine va_get (D := D) (ci := 5) (v := .ref (q 6)) (C := RX5) (T := TX5) (N := 20) hx hb hts iX5 hown hK hP 0 rfl rfl 7 (by decide) (hts _ (List.mem_of_getElem? (i := 8) rfl)) (fun _ h9 => h9) rfl dX5_lay_124 ?_
              refine lv_aload_n hx hb dX5_lay_127 rfl (lv_at hl 0 rfl) ?_
              refine va_get (D := D) (ci := 5) (v := .int (nI n)) (C := RX5) (T := TX5) (N := 20) hx hb hts iX5 hown hK hP 0 rfl rfl 1 (by decide) (hts _ (List.mem_of_getElem? (i := 1) rfl)) (fun _ h9 => h9) rfl dX5_lay_128 ?_
              refine lv_iconst (v := 0) hx hb dX5_lay_131 (by decide) ?_
              refine wa_iast (v := 0) hx hb hK hP hD hS 6 5 rfl rfl n rfl (by omega) (by decide) dX5_lay_132 (fun H locs hP hD hS => ?_)
              have hP : va_P D vwCl (mWC y q (nI t) (nI n) (va_up C n (k0, d0, s0, f0, 0, c_sm (C n), c_sw (C n), nI t)) w rt (nI r0) no sa to tr st im va) H := mcPF_ok (c0 := (k0, d0, s0, f0, c_ok (C n), c_sm (C n), c_sw (C n), nI t)) hP
              have hD : va_D A (mWC y q (nI t) (nI n) (va_up C n (k0, d0, s0, f0, 0, c_sm (C n), c_sw (C n), nI t)) w rt (nI r0) no sa to tr st im va) := mcDF_ok (c0 := (k0, d0, s0, f0, c_ok (C n), c_sm (C n), c_sw (C n), nI t)) hD
              refine lv_aload_n hx hb dX5_lay_133 rfl (lv_at hl 0 rfl) ?_
              refine va_get (D := D) (ci := 5) (v := .ref (q 7)) (C := RX5) (T := TX5) (N := 20) hx hb hts iX5 hown hK hP 0 rfl rfl 8 (by decide) (hts _ (List.mem_of_getElem? (i := 9) rfl)) (fun _ h9 => h9) rfl dX5_lay_134 ?_
              refine lv_aload_n hx hb dX5_lay_137 rfl (lv_at hl 0 rfl) ?_
              refine va_get (D := D) (ci := 5) (v := .int (nI n)) (C := RX5) (T := TX5) (N := 20) hx hb hts iX5 hown hK hP 0 rfl rfl 1 (by decide) (hts _ (List.mem_of_getElem? (i := 1) rfl)) (fun _ h9 => h9) rfl dX5_lay_138 ?_
              refine lv_iload hx hb dX5_lay_141 (lv_at hl 5 rfl) ?_
              refine wa_iast (v := m0) hx hb hK hP hD hS 7 6 rfl rfl n rfl (by omega) (by decide) dX5_lay_143 (fun H locs hP hD hS => ?_)
              have hP : va_P D vwCl (mWC y q (nI t) (nI n) (va_up C n (k0, d0, s0, f0, 0, m0, c_sw (C n), nI t)) w rt (nI r0) no sa to tr st im va) H := mcPF_sm (c0 := (k0, d0, s0, f0, 0, c_sm (C n), c_sw (C n), nI t)) hP
              have hD : va_D A (mWC y q (nI t) (nI n) (va_up C n (k0, d0, s0, f0, 0, m0, c_sw (C n), nI t)) w rt (nI r0) no sa to tr st im va) := mcDF_sm (c0 := (k0, d0, s0, f0, 0, c_sm (C n), c_sw (C n), nI t)) hD
              refine lv_aload_n hx hb dX5_lay_144 rfl (lv_at hl 0 rfl) ?_
              refine va_get (D := D) (ci := 5) (v := .ref (q 8)) (C := RX5) (T := TX5) (N := 20) hx hb hts iX5 hown hK hP 0 rfl rfl 9 (by decide) (hts _ (List.mem_of_getElem? (i := 10) rfl)) (fun _ h9 => h9) rfl dX5_lay_145 ?_
              refine lv_aload_n hx hb dX5_lay_148 rfl (lv_at hl 0 rfl) ?_
              refine va_get (D := D) (ci := 5) (v := .int (nI n)) (C := RX5) (T := TX5) (N := 20) hx hb hts iX5 hown hK hP 0 rfl rfl 1 (by decide) (hts _ (List.mem_of_getElem? (i := 1) rfl)) (fun _ h9 => h9) rfl dX5_lay_149 ?_
              refine lv_iconst (v := 0) hx hb dX5_lay_152 (by decide) ?_
              refine wa_iast (v := 0) hx hb hK hP hD hS 8 7 rfl rfl n rfl (by omega) (by decide) dX5_lay_153 (fun H locs hP hD hS => ?_)
              have hP : va_P D vwCl (mWC y q (nI t) (nI n) (va_up C n (k0, d0, s0, f0, 0, m0, 0, nI t)) w rt (nI r0) no sa to tr st im va) H := mcPF_sw (c0 := (k0, d0, s0, f0, 0, m0, c_sw (C n), nI t)) hP
              have hD : va_D A (mWC y q (nI t) (nI n) (va_up C n (k0, d0, s0, f0, 0, m0, 0, nI t)) w rt (nI r0) no sa to tr st im va) := mcDF_sw (c0 := (k0, d0, s0, f0, 0, m0, c_sw (C n), nI t)) hD
              refine lv_aload_n hx hb dX5_lay_154 rfl (lv_at hl 0 rfl) ?_
              refine lv_dup hx hb dX5_lay_155 rfl ?_
              refine va_get (D := D) (ci := 5) (v := .int (nI n)) (C := RX5) (T := TX5) (N := 20) hx hb hts iX5 hown hK hP 0 rfl rfl 1 (by decide) (hts _ (List.mem_of_getElem? (i := 1) rfl)) (fun _ h9 => h9) rfl dX5_lay_156 ?_
              refine lv_iconst (v := 1) hx hb dX5_lay_159 (by decide) ?_
              refine lv_iadd hx hb dX5_lay_160 ?_
              refine va_put (D := D) (ci := 5) (v := .int ((nI n) + 1)) (ty := .int) (C := RX5) (T := TX5) (N := 20) hx hb hts iX5 tyX5 tyX5_ok nmX5 hown hK hP hD hS 0 rfl rfl 1 (by decide) (hts _ (List.mem_of_getElem? (i := 1) rfl)) (fun _ h9 => h9) rfl (by decide +kernel) rfl rfl (Nat.le_of_ble_eq_true rfl) dX5_lay_161 (fun H locs hP hD hS => ?_)
              have hP : va_P D vwCl (mWC y q (nI t) ((nI n) + 1) (va_up C n (k0, d0, s0, f0, 0, m0, 0, nI t)) w rt (nI r0) no sa to tr st im va) H := hP
              have hD : va_D A (mWC y q (nI t) ((nI n) + 1) (va_up C n (k0, d0, s0, f0, 0, m0, 0, nI t)) w rt (nI r0) no sa to tr st im va) := hD
              refine lv_aload_n hx hb dX5_lay_164 rfl (lv_at hl 0 rfl) ?_
              refine va_get (D := D) (ci := 5) (v := .int ((nI n) + 1)) (C := RX5) (T := TX5) (N := 20) hx hb hts iX5 hown hK hP 0 rfl rfl 1 (by decide) (hts _ (List.mem_of_getElem? (i := 1) rfl)) (fun _ h9 => h9) rfl dX5_lay_165 ?_
              refine lv_iconst (v := 1) hx hb dX5_lay_168 (by decide) ?_
              refine lv_isub hx hb dX5_lay_169 ?_
              exact mu_iret (((nI n) + 1), (va_up C n (k0, d0, s0, f0, 0, m0, 0, nI t))) hx hb hr hlocks hP hD hS dX5_lay_170 (by simp [layF, c_1, c_2, c_3, c_4, c_5, hlt, hC])
            · skip
              have c_6 : n = 12 := (nI_eq (a := n) (b := 12) (by omega) (by omega)).mp c_6
              have hlt : ¬ n < 12 := by omega
              refine lv_bipush (v := (-3)) hx hb dX5_lay_66 (by decide) ?_
              exact mu_iret (nI n, C) hx hb hr hlocks hP hD hS dX5_lay_68 (by simp [layF, c_1, c_2, c_3, c_4, c_5, hlt])
          · skip
            have c_5 := zI_0 c_5
            refine lv_iconst (v := (-1)) hx hb dX5_lay_55 (by decide) ?_
            exact mu_iret (nI n, C) hx hb hr hlocks hP hD hS dX5_lay_56 (by simp [layF, c_1, c_2, c_3, c_4, c_5])

set_option maxHeartbeats 4000000 in
set_option maxRecDepth 100000 in
theorem kX5_oneYear (l : Launch) (D : va_G) (y : Nat → ClassId) (q : Nat → Nat) (t n : Nat) (C : Nat → CT) (w : Nat → Int32) (rt : Int32) (r0 : Nat) (no sa to : Nat → Int32) (tr : Int64) (st im va : Nat → Int32) (sz : Nat) (hn : n ≤ 12) (hI : INV n t C) (ht : t ≤ 60) : Met l yX5_oneYear wsX5_oneYear ({ frames := 1, cells := 0, slots := 0, locals := 24 }) (va_Pc [.ref (q 0)] (muB D (mTy y) (mWC y q (nI t) (nI n) C w rt (nI r0) no sa to tr st im va) sz eT)) (QV (σ := Unit) D (fun u => True) (fun u => (mWC y q (nI t + 1) (nI n) (yrC C (nI t) n) w rt (nI r0) no sa to tr st im va)) (va_A (mWC y q (nI t) (nI n) C w rt (nI r0) no sa to tr st im va) sz)) 0 0 (va_A (mWC y q (nI t) (nI n) C w rt (nI r0) no sa to tr st im va) sz) := by
  refine mu_start (Qc := QV (σ := Unit) D (fun u => True) (fun u => (mWC y q (nI t + 1) (nI n) (yrC C (nI t) n) w rt (nI r0) no sa to tr st im va))) (cc := cX5_oneYear) (maxL := 3) (ret := none) (by decide) rfl (Nat.le_of_ble_eq_true rfl) ?_
  intro p e s m below meth c ls A hx hb hr hml hown hlocks hts hnm hA hP hK hN hD hE hAA hsz hl
  have hS : va_S A s.heap s.heap [] := va_S.rf
  have hown : s.vm.findClass RX5 = some m.cls := hown
  have F : CallFix p m c cX5_oneYear 3 s [.ref (q 0)].toArray wsX5_oneYear RX5 := ⟨hx, hb, hml, hown, hts⟩
  have hl : lv_has ls 3 [(0, .ref (q 0))] := hl
  have iX5 : ∀ w ∈ u_ws RX5 TX5 20, w ∈ wsX5_oneYear := mem_pl [19, 20, 21, 22, 23, 24, 25, 26, 27, 28, 29, 30, 31, 32, 33, 34, 35, 36, 37, 38] rfl
  refine lv_iconst (v := 0) hx hb dX5_oneYear_0 (by decide) ?_
  refine lv_istore_n (lv' := [(1, .int 0), (0, .ref (q 0))]) hx hb dX5_oneYear_1 rfl hl (by decide) rfl (fun ls hl => ?_)
  refine W.lpW (pc := 2) (τ := Nat) (D := D) (A := A) (H0 := s.heap) (cl := vwCl) (fun i => i ≤ n) (fun i => (mWC y q (nI t) (nI n) (yrC C (nI t) i) w rt (nI r0) no sa to tr st im va)) (fun i ls => lv_has ls 3 [(0, .ref (q 0)), (1, .int (nI i))]) (fun i => n - i) ?_ 0 ls (Nat.zero_le _) (lv_sub hl [1, 0] rfl) (by show va_P D vwCl (mWC y q (nI t) (nI n) (yrC C (nI t) 0) w rt (nI r0) no sa to tr st im va) _; rw [yrC_0]; exact hP) (by show va_D A (mWC y q (nI t) (nI n) (yrC C (nI t) 0) w rt (nI r0) no sa to tr st im va); rw [yrC_0]; exact hD) hS
  intro i ls H locs hi hl hP hD hS ihi
  have hi : i ≤ n := hi
  have hl : lv_has ls 3 [(0, .ref (q 0)), (1, .int (nI i))] := hl
  have hP : va_P D vwCl (mWC y q (nI t) (nI n) (yrC C (nI t) i) w rt (nI r0) no sa to tr st im va) H := hP
  have hD : va_D A (mWC y q (nI t) (nI n) (yrC C (nI t) i) w rt (nI r0) no sa to tr st im va) := hD
  refine lv_iload_n hx hb dX5_oneYear_2 rfl (lv_at hl 1 rfl) ?_
  refine lv_aload_n hx hb dX5_oneYear_3 rfl (lv_at hl 0 rfl) ?_
  refine va_get (D := D) (ci := 5) (v := .int (nI n)) (C := RX5) (T := TX5) (N := 20) hx hb hts iX5 hown hK hP 0 rfl rfl 1 (by decide) (hts _ (List.mem_of_getElem? (i := 1) rfl)) (fun _ h9 => h9) rfl dX5_oneYear_4 ?_
  refine lv_icmp_ge (tgt := 163) hx hb dX5_oneYear_7 (by decide) (fun c_1 => ?_) (fun c_1 => ?_)
  · skip
    have c_1 : n ≤ i := (nI_leI (a := n) (b := i) (by omega) (by omega)).mp c_1
    have hin : i = n := Nat.le_antisymm hi c_1
    rw [hin] at hP hD
    refine lv_aload_n hx hb dX5_oneYear_163 rfl (lv_at hl 0 rfl) ?_
    refine lv_dup hx hb dX5_oneYear_164 rfl ?_
    refine va_get (D := D) (ci := 5) (v := .int (nI t)) (C := RX5) (T := TX5) (N := 20) hx hb hts iX5 hown hK hP 0 rfl rfl 0 (by decide) (hts _ (List.mem_of_getElem? (i := 4) rfl)) (fun _ h9 => h9) rfl dX5_oneYear_165 ?_
    refine lv_iconst (v := 1) hx hb dX5_oneYear_168 (by decide) ?_
    refine lv_iadd hx hb dX5_oneYear_169 ?_
    refine va_put (D := D) (ci := 5) (v := .int ((nI t) + 1)) (ty := .int) (C := RX5) (T := TX5) (N := 20) hx hb hts iX5 tyX5 tyX5_ok nmX5 hown hK hP hD hS 0 rfl rfl 0 (by decide) (hts _ (List.mem_of_getElem? (i := 4) rfl)) (fun _ h9 => h9) rfl (by decide +kernel) rfl rfl (Nat.le_of_ble_eq_true rfl) dX5_oneYear_170 (fun H locs hP hD hS => ?_)
    have hP : va_P D vwCl (mWC y q ((nI t) + 1) (nI n) (yrC C (nI t) n) w rt (nI r0) no sa to tr st im va) H := hP
    have hD : va_D A (mWC y q ((nI t) + 1) (nI n) (yrC C (nI t) n) w rt (nI r0) no sa to tr st im va) := hD
    exact mu_vret () hx hb hr hlocks hP hD hS dX5_oneYear_173 trivial
  · skip
    have c_1 : ¬ n ≤ i := fun h => c_1 ((nI_leI (a := n) (b := i) (by omega) (by omega)).mpr h)
    refine lv_aload_n hx hb dX5_oneYear_10 rfl (lv_at hl 0 rfl) ?_
    refine va_get (D := D) (ci := 5) (v := .ref (q 2)) (C := RX5) (T := TX5) (N := 20) hx hb hts iX5 hown hK hP 0 rfl rfl 3 (by decide) (hts _ (List.mem_of_getElem? (i := 2) rfl)) (fun _ h9 => h9) rfl dX5_oneYear_11 ?_
    refine lv_iload_n hx hb dX5_oneYear_14 rfl (lv_at hl 1 rfl) ?_
    refine wa_iald hx hb hK hP 2 1 rfl rfl i rfl (by omega) (by decide) dX5_oneYear_15 ?_
    refine lv_if_le (tgt := 157) hx hb dX5_oneYear_16 (by decide) (fun c_2 => ?_) (fun c_2 => ?_)
    · skip
      refine lv_iinc (v := (nI i + 1)) (lv' := [(1, .int (nI i + 1)), (0, .ref (q 0))]) hx hb dX5_oneYear_157 hl (k := 1) rfl rfl (by decide) rfl (fun ls hl => ?_)
      refine lv_goto (tgt := 2) hx hb dX5_oneYear_160 (by decide) ?_
      rw [yrC_i] at c_2
      rw [yrC_n c_2] at hP hD
      have hP : va_P D vwCl (mWC y q (nI t) (nI n) (yrC C (nI t) (i + 1)) w rt (nI r0) no sa to tr st im va) H := hP
      have hD : va_D A (mWC y q (nI t) (nI n) (yrC C (nI t) (i + 1)) w rt (nI r0) no sa to tr st im va) := hD
      exact ihi (i + 1) ls H locs (by show n - (i + 1) < n - i; omega) (by show i + 1 ≤ n; omega) (lv_sub hl [1, 0] (by
        show ([(0, .ref (q 0)), (1, .int (nI i + 1))] : List (Nat × Value)) = [(0, .ref (q 0)), (1, .int (nI (i + 1)))]
        rw [← nI_1])) hP hD hS
    · skip
      refine lv_aload_n hx hb dX5_oneYear_19 rfl (lv_at hl 0 rfl) ?_
      refine lv_iload_n hx hb dX5_oneYear_20 rfl (lv_at hl 1 rfl) ?_
      refine lv_aload_n hx hb dX5_oneYear_21 rfl (lv_at hl 0 rfl) ?_
      refine va_get (D := D) (ci := 5) (v := .ref (q 1)) (C := RX5) (T := TX5) (N := 20) hx hb hts iX5 hown hK hP 0 rfl rfl 2 (by decide) (hts _ (List.mem_of_getElem? (i := 3) rfl)) (fun _ h9 => h9) rfl dX5_oneYear_22 ?_
      refine lv_iload_n hx hb dX5_oneYear_25 rfl (lv_at hl 1 rfl) ?_
      refine wa_iald hx hb hK hP 1 0 rfl rfl i rfl (by omega) (by decide) dX5_oneYear_26 ?_
      refine lv_aload_n hx hb dX5_oneYear_27 rfl (lv_at hl 0 rfl) ?_
      refine va_get (D := D) (ci := 5) (v := .int (nI t)) (C := RX5) (T := TX5) (N := 20) hx hb hts iX5 hown hK hP 0 rfl rfl 0 (by decide) (hts _ (List.mem_of_getElem? (i := 4) rfl)) (fun _ h9 => h9) rfl dX5_oneYear_28 ?_
      refine lv_aload_n hx hb dX5_oneYear_31 rfl (lv_at hl 0 rfl) ?_
      refine va_get (D := D) (ci := 5) (v := .ref (q 5)) (C := RX5) (T := TX5) (N := 20) hx hb hts iX5 hown hK hP 0 rfl rfl 6 (by decide) (hts _ (List.mem_of_getElem? (i := 5) rfl)) (fun _ h9 => h9) rfl dX5_oneYear_32 ?_
      refine lv_iload_n hx hb dX5_oneYear_35 rfl (lv_at hl 1 rfl) ?_
      refine wa_iald hx hb hK hP 5 4 rfl rfl i rfl (by omega) (by decide) dX5_oneYear_36 ?_
      refine lv_isub hx hb dX5_oneYear_37 ?_
      refine ro_i (va_runV (As := [.int (nI i), .int (c_kd ((yrC C (nI t) i) i)), .int ((nI t) - (c_la ((yrC C (nI t) i) i)))]) (rest := []) F (kX5_lossOf l D y q t n (yrC C (nI t) i) w rt r0 no sa to tr st im va i (c_kd ((yrC C (nI t) i) i)) ((nI t) - (c_la ((yrC C (nI t) i) i))) (by omega)) (cwV 3 hts gX5_oneYear_X5_lossOf rfl rfl rfl ⟨rfl, hdX5_lossOf⟩ ⟨(Nat.le_of_ble_eq_true rfl), (Nat.le_of_ble_eq_true rfl)⟩) ⟨rdB_blind, va_recv hK hP (ci := 5) (q0 := 0) rfl rfl, rdB_pre hP hK hN⟩ rfl rfl hl.1 rfl (lv_room (Nat.le_of_ble_eq_true rfl)) dX5_oneYear_38 ⟨Nat.zero_le _, Nat.zero_le _⟩) ?_
      have hk : okC t ((yrC C (nI t) i) i) := by rw [yrC_i]; exact hI.2.2.1 i (by omega)
      refine lv_cst (v := lossC ((yrC C (nI t) i) i) (nI t)) (lossC_eq hk (Nat.le_refl t) (by omega)).1 ?_
      refine lv_istore_n (lv' := [(2, .int (lossC ((yrC C (nI t) i) i) (nI t))), (0, .ref (q 0)), (1, .int (nI i))]) hx hb dX5_oneYear_41 rfl hl (by decide) rfl (fun ls hl => ?_)
      refine lv_aload_n hx hb dX5_oneYear_42 rfl (lv_at hl 1 rfl) ?_
      refine va_get (D := D) (ci := 5) (v := .ref (q 2)) (C := RX5) (T := TX5) (N := 20) hx hb hts iX5 hown hK hP 0 rfl rfl 3 (by decide) (hts _ (List.mem_of_getElem? (i := 2) rfl)) (fun _ h9 => h9) rfl dX5_oneYear_43 ?_
      refine lv_iload_n hx hb dX5_oneYear_46 rfl (lv_at hl 2 rfl) ?_
      refine lv_dup2_11 hx hb dX5_oneYear_47 rfl rfl ?_
      refine wa_iald hx hb hK hP 2 1 rfl rfl i rfl (by omega) (by decide) dX5_oneYear_48 ?_
      refine lv_aload_n hx hb dX5_oneYear_49 rfl (lv_at hl 1 rfl) ?_
      refine va_get (D := D) (ci := 5) (v := .ref (q 2)) (C := RX5) (T := TX5) (N := 20) hx hb hts iX5 hown hK hP 0 rfl rfl 3 (by decide) (hts _ (List.mem_of_getElem? (i := 2) rfl)) (fun _ h9 => h9) rfl dX5_oneYear_50 ?_
      refine lv_iload_n hx hb dX5_oneYear_53 rfl (lv_at hl 2 rfl) ?_
      refine wa_iald hx hb hK hP 2 1 rfl rfl i rfl (by omega) (by decide) dX5_oneYear_54 ?_
      refine lv_iload_n hx hb dX5_oneYear_55 rfl (lv_at hl 0 rfl) ?_
      refine ro_i (va_runS (As := [.int (c_dr ((yrC C (nI t) i) i)), .int (lossC ((yrC C (nI t) i) i) (nI t))]) (rest := [.int (c_dr ((yrC C (nI t) i) i)), .int (nI i), .ref (q 2)]) F (kX5_lostOf l (c_dr ((yrC C (nI t) i) i)) (lossC ((yrC C (nI t) i) i) (nI t))) (va_cwS 2 hts gX5_oneYear_X5_lostOf rfl rfl rfl hdX5_lostOf ⟨(Nat.le_of_ble_eq_true rfl), (Nat.le_of_ble_eq_true rfl)⟩) ⟨tr_blind, tr_pre⟩ rfl rfl hl.1 rfl (lv_room (Nat.le_of_ble_eq_true rfl)) dX5_oneYear_56 ⟨Nat.zero_le _, Nat.zero_le _⟩) ?_
      refine lv_isub hx hb dX5_oneYear_59 ?_
      refine wa_iast (v := ((c_dr ((yrC C (nI t) i) i)) - (((c_dr ((yrC C (nI t) i) i)) * (lossC ((yrC C (nI t) i) i) (nI t)) + 999) / 1000))) hx hb hK hP hD hS 2 1 rfl rfl i rfl (by omega) (by decide) dX5_oneYear_60 (fun H locs hP hD hS => ?_)
      have hP : va_P D vwCl (mWC y q (nI t) (nI n) (va_up (yrC C (nI t) i) i (c_kd ((yrC C (nI t) i) i), ((c_dr ((yrC C (nI t) i) i)) - (((c_dr ((yrC C (nI t) i) i)) * (lossC ((yrC C (nI t) i) i) (nI t)) + 999) / 1000)), c_sg ((yrC C (nI t) i) i), c_fl ((yrC C (nI t) i) i), c_ok ((yrC C (nI t) i) i), c_sm ((yrC C (nI t) i) i), c_sw ((yrC C (nI t) i) i), c_la ((yrC C (nI t) i) i))) w rt (nI r0) no sa to tr st im va) H := mcP_dr hP
      have hD : va_D A (mWC y q (nI t) (nI n) (va_up (yrC C (nI t) i) i (c_kd ((yrC C (nI t) i) i), ((c_dr ((yrC C (nI t) i) i)) - (((c_dr ((yrC C (nI t) i) i)) * (lossC ((yrC C (nI t) i) i) (nI t)) + 999) / 1000)), c_sg ((yrC C (nI t) i) i), c_fl ((yrC C (nI t) i) i), c_ok ((yrC C (nI t) i) i), c_sm ((yrC C (nI t) i) i), c_sw ((yrC C (nI t) i) i), c_la ((yrC C (nI t) i) i))) w rt (nI r0) no sa to tr st im va) := mcD_dr hD
      refine lv_aload_n hx hb dX5_oneYear_61 rfl (lv_at hl 1 rfl) ?_
      refine va_get (D := D) (ci := 5) (v := .ref (q 6)) (C := RX5) (T := TX5) (N := 20) hx hb hts iX5 hown hK hP 0 rfl rfl 7 (by decide) (hts _ (List.mem_of_getElem? (i := 6) rfl)) (fun _ h9 => h9) rfl dX5_oneYear_62 ?_
      refine lv_iload_n hx hb dX5_oneYear_65 rfl (lv_at hl 2 rfl) ?_
      refine lv_dup2_11 hx hb dX5_oneYear_66 rfl rfl ?_
      refine wa_iald hx hb hK hP 6 5 rfl rfl i rfl (by omega) (by decide) dX5_oneYear_67 ?_
      rw [va_up_self]
      refine lv_iload_n hx hb dX5_oneYear_68 rfl (lv_at hl 0 rfl) ?_
      refine lv_bipush (v := 10) hx hb dX5_oneYear_69 (by decide) ?_
      refine lv_icmp_le (tgt := 81) hx hb dX5_oneYear_71 (by decide) (fun c_3 => ?_) (fun c_3 => ?_)
      · skip
        refine lv_iconst (v := 0) hx hb dX5_oneYear_81 (by decide) ?_
        refine lv_cst (v := (if 10 < lossC ((yrC C (nI t) i) i) (nI t) then lossC ((yrC C (nI t) i) i) (nI t) - 10 else 0)) (if_neg (Int32.not_lt.mpr c_3)).symm ?_
        refine lv_iadd hx hb dX5_oneYear_82 ?_
        refine wa_iast (v := ((c_ok ((yrC C (nI t) i) i)) + (if 10 < lossC ((yrC C (nI t) i) i) (nI t) then lossC ((yrC C (nI t) i) i) (nI t) - 10 else 0))) hx hb hK hP hD hS 6 5 rfl rfl i rfl (by omega) (by decide) dX5_oneYear_83 (fun H locs hP hD hS => ?_)
        have hP : va_P D vwCl (mWC y q (nI t) (nI n) (va_up (yrC C (nI t) i) i (c_kd ((yrC C (nI t) i) i), ((c_dr ((yrC C (nI t) i) i)) - (((c_dr ((yrC C (nI t) i) i)) * (lossC ((yrC C (nI t) i) i) (nI t)) + 999) / 1000)), c_sg ((yrC C (nI t) i) i), c_fl ((yrC C (nI t) i) i), ((c_ok ((yrC C (nI t) i) i)) + (if 10 < lossC ((yrC C (nI t) i) i) (nI t) then lossC ((yrC C (nI t) i) i) (nI t) - 10 else 0)), c_sm ((yrC C (nI t) i) i), c_sw ((yrC C (nI t) i) i), c_la ((yrC C (nI t) i) i))) w rt (nI r0) no sa to tr st im va) H := mcPF_ok (c0 := (c_kd ((yrC C (nI t) i) i), ((c_dr ((yrC C (nI t) i) i)) - (((c_dr ((yrC C (nI t) i) i)) * (lossC ((yrC C (nI t) i) i) (nI t)) + 999) / 1000)), c_sg ((yrC C (nI t) i) i), c_fl ((yrC C (nI t) i) i), c_ok ((yrC C (nI t) i) i), c_sm ((yrC C (nI t) i) i), c_sw ((yrC C (nI t) i) i), c_la ((yrC C (nI t) i) i))) hP
        have hD : va_D A (mWC y q (nI t) (nI n) (va_up (yrC C (nI t) i) i (c_kd ((yrC C (nI t) i) i), ((c_dr ((yrC C (nI t) i) i)) - (((c_dr ((yrC C (nI t) i) i)) * (lossC ((yrC C (nI t) i) i) (nI t)) + 999) / 1000)), c_sg ((yrC C (nI t) i) i), c_fl ((yrC C (nI t) i) i), ((c_ok ((yrC C (nI t) i) i)) + (if 10 < lossC ((yrC C (nI t) i) i) (nI t) then lossC ((yrC C (nI t) i) i) (nI t) - 10 else 0)), c_sm ((yrC C (nI t) i) i), c_sw ((yrC C (nI t) i) i), c_la ((yrC C (nI t) i) i))) w rt (nI r0) no sa to tr st im va) := mcDF_ok (c0 := (c_kd ((yrC C (nI t) i) i), ((c_dr ((yrC C (nI t) i) i)) - (((c_dr ((yrC C (nI t) i) i)) * (lossC ((yrC C (nI t) i) i) (nI t)) + 999) / 1000)), c_sg ((yrC C (nI t) i) i), c_fl ((yrC C (nI t) i) i), c_ok ((yrC C (nI t) i) i), c_sm ((yrC C (nI t) i) i), c_sw ((yrC C (nI t) i) i), c_la ((yrC C (nI t) i) i))) hD
        refine lv_aload_n hx hb dX5_oneYear_84 rfl (lv_at hl 1 rfl) ?_
        refine va_get (D := D) (ci := 5) (v := .ref (q 7)) (C := RX5) (T := TX5) (N := 20) hx hb hts iX5 hown hK hP 0 rfl rfl 8 (by decide) (hts _ (List.mem_of_getElem? (i := 7) rfl)) (fun _ h9 => h9) rfl dX5_oneYear_85 ?_
        refine lv_iload_n hx hb dX5_oneYear_88 rfl (lv_at hl 2 rfl) ?_
        refine lv_dup2_11 hx hb dX5_oneYear_89 rfl rfl ?_
        refine wa_iald hx hb hK hP 7 6 rfl rfl i rfl (by omega) (by decide) dX5_oneYear_90 ?_
        rw [va_up_self]
        refine lv_aload_n hx hb dX5_oneYear_91 rfl (lv_at hl 1 rfl) ?_
        refine va_get (D := D) (ci := 5) (v := .ref (q 7)) (C := RX5) (T := TX5) (N := 20) hx hb hts iX5 hown hK hP 0 rfl rfl 8 (by decide) (hts _ (List.mem_of_getElem? (i := 7) rfl)) (fun _ h9 => h9) rfl dX5_oneYear_92 ?_
        refine lv_iload_n hx hb dX5_oneYear_95 rfl (lv_at hl 2 rfl) ?_
        refine wa_iald hx hb hK hP 7 6 rfl rfl i rfl (by omega) (by decide) dX5_oneYear_96 ?_
        rw [va_up_self]
        refine lv_bipush (v := 9) hx hb dX5_oneYear_97 (by decide) ?_
        refine lv_iadd hx hb dX5_oneYear_99 ?_
        refine lv_bipush (v := 10) hx hb dX5_oneYear_100 (by decide) ?_
        refine lv_idiv hx hb dX5_oneYear_102 (by decide) ?_
        refine lv_isub hx hb dX5_oneYear_103 ?_
        refine wa_iast (v := ((c_sm ((yrC C (nI t) i) i)) - (((c_sm ((yrC C (nI t) i) i)) + 9) / 10))) hx hb hK hP hD hS 7 6 rfl rfl i rfl (by omega) (by decide) dX5_oneYear_104 (fun H locs hP hD hS => ?_)
        have hP : va_P D vwCl (mWC y q (nI t) (nI n) (va_up (yrC C (nI t) i) i (c_kd ((yrC C (nI t) i) i), ((c_dr ((yrC C (nI t) i) i)) - (((c_dr ((yrC C (nI t) i) i)) * (lossC ((yrC C (nI t) i) i) (nI t)) + 999) / 1000)), c_sg ((yrC C (nI t) i) i), c_fl ((yrC C (nI t) i) i), ((c_ok ((yrC C (nI t) i) i)) + (if 10 < lossC ((yrC C (nI t) i) i) (nI t) then lossC ((yrC C (nI t) i) i) (nI t) - 10 else 0)), ((c_sm ((yrC C (nI t) i) i)) - (((c_sm ((yrC C (nI t) i) i)) + 9) / 10)), c_sw ((yrC C (nI t) i) i), c_la ((yrC C (nI t) i) i))) w rt (nI r0) no sa to tr st im va) H := mcPF_sm (c0 := (c_kd ((yrC C (nI t) i) i), ((c_dr ((yrC C (nI t) i) i)) - (((c_dr ((yrC C (nI t) i) i)) * (lossC ((yrC C (nI t) i) i) (nI t)) + 999) / 1000)), c_sg ((yrC C (nI t) i) i), c_fl ((yrC C (nI t) i) i), ((c_ok ((yrC C (nI t) i) i)) + (if 10 < lossC ((yrC C (nI t) i) i) (nI t) then lossC ((yrC C (nI t) i) i) (nI t) - 10 else 0)), c_sm ((yrC C (nI t) i) i), c_sw ((yrC C (nI t) i) i), c_la ((yrC C (nI t) i) i))) hP
        have hD : va_D A (mWC y q (nI t) (nI n) (va_up (yrC C (nI t) i) i (c_kd ((yrC C (nI t) i) i), ((c_dr ((yrC C (nI t) i) i)) - (((c_dr ((yrC C (nI t) i) i)) * (lossC ((yrC C (nI t) i) i) (nI t)) + 999) / 1000)), c_sg ((yrC C (nI t) i) i), c_fl ((yrC C (nI t) i) i), ((c_ok ((yrC C (nI t) i) i)) + (if 10 < lossC ((yrC C (nI t) i) i) (nI t) then lossC ((yrC C (nI t) i) i) (nI t) - 10 else 0)), ((c_sm ((yrC C (nI t) i) i)) - (((c_sm ((yrC C (nI t) i) i)) + 9) / 10)), c_sw ((yrC C (nI t) i) i), c_la ((yrC C (nI t) i) i))) w rt (nI r0) no sa to tr st im va) := mcDF_sm (c0 := (c_kd ((yrC C (nI t) i) i), ((c_dr ((yrC C (nI t) i) i)) - (((c_dr ((yrC C (nI t) i) i)) * (lossC ((yrC C (nI t) i) i) (nI t)) + 999) / 1000)), c_sg ((yrC C (nI t) i) i), c_fl ((yrC C (nI t) i) i), ((c_ok ((yrC C (nI t) i) i)) + (if 10 < lossC ((yrC C (nI t) i) i) (nI t) then lossC ((yrC C (nI t) i) i) (nI t) - 10 else 0)), c_sm ((yrC C (nI t) i) i), c_sw ((yrC C (nI t) i) i), c_la ((yrC C (nI t) i) i))) hD
        refine lv_aload_n hx hb dX5_oneYear_105 rfl (lv_at hl 1 rfl) ?_
        refine va_get (D := D) (ci := 5) (v := .ref (q 8)) (C := RX5) (T := TX5) (N := 20) hx hb hts iX5 hown hK hP 0 rfl rfl 9 (by decide) (hts _ (List.mem_of_getElem? (i := 8) rfl)) (fun _ h9 => h9) rfl dX5_oneYear_106 ?_
        refine lv_iload_n hx hb dX5_oneYear_109 rfl (lv_at hl 2 rfl) ?_
        refine lv_dup2_11 hx hb dX5_oneYear_110 rfl rfl ?_
        refine wa_iald hx hb hK hP 8 7 rfl rfl i rfl (by omega) (by decide) dX5_oneYear_111 ?_
        rw [va_up_self]
        refine lv_bipush (v := 6) hx hb dX5_oneYear_112 (by decide) ?_
        refine lv_iconst (v := 2) hx hb dX5_oneYear_114 (by decide) ?_
        refine lv_aload_n hx hb dX5_oneYear_115 rfl (lv_at hl 1 rfl) ?_
        refine va_get (D := D) (ci := 5) (v := .ref (q 1)) (C := RX5) (T := TX5) (N := 20) hx hb hts iX5 hown hK hP 0 rfl rfl 2 (by decide) (hts _ (List.mem_of_getElem? (i := 3) rfl)) (fun _ h9 => h9) rfl dX5_oneYear_116 ?_
        refine lv_iload_n hx hb dX5_oneYear_119 rfl (lv_at hl 2 rfl) ?_
        refine wa_iald hx hb hK hP 1 0 rfl rfl i rfl (by omega) (by decide) dX5_oneYear_120 ?_
        rw [va_up_self]
        refine lv_imul hx hb dX5_oneYear_121 ?_
        refine lv_isub hx hb dX5_oneYear_122 ?_
        refine lv_iadd hx hb dX5_oneYear_123 ?_
        refine wa_iast (v := ((c_sw ((yrC C (nI t) i) i)) + (6 - (2 * (c_kd ((yrC C (nI t) i) i)))))) hx hb hK hP hD hS 8 7 rfl rfl i rfl (by omega) (by decide) dX5_oneYear_124 (fun H locs hP hD hS => ?_)
        have hP : va_P D vwCl (mWC y q (nI t) (nI n) (va_up (yrC C (nI t) i) i (c_kd ((yrC C (nI t) i) i), ((c_dr ((yrC C (nI t) i) i)) - (((c_dr ((yrC C (nI t) i) i)) * (lossC ((yrC C (nI t) i) i) (nI t)) + 999) / 1000)), c_sg ((yrC C (nI t) i) i), c_fl ((yrC C (nI t) i) i), ((c_ok ((yrC C (nI t) i) i)) + (if 10 < lossC ((yrC C (nI t) i) i) (nI t) then lossC ((yrC C (nI t) i) i) (nI t) - 10 else 0)), ((c_sm ((yrC C (nI t) i) i)) - (((c_sm ((yrC C (nI t) i) i)) + 9) / 10)), ((c_sw ((yrC C (nI t) i) i)) + (6 - (2 * (c_kd ((yrC C (nI t) i) i))))), c_la ((yrC C (nI t) i) i))) w rt (nI r0) no sa to tr st im va) H := mcPF_sw (c0 := (c_kd ((yrC C (nI t) i) i), ((c_dr ((yrC C (nI t) i) i)) - (((c_dr ((yrC C (nI t) i) i)) * (lossC ((yrC C (nI t) i) i) (nI t)) + 999) / 1000)), c_sg ((yrC C (nI t) i) i), c_fl ((yrC C (nI t) i) i), ((c_ok ((yrC C (nI t) i) i)) + (if 10 < lossC ((yrC C (nI t) i) i) (nI t) then lossC ((yrC C (nI t) i) i) (nI t) - 10 else 0)), ((c_sm ((yrC C (nI t) i) i)) - (((c_sm ((yrC C (nI t) i) i)) + 9) / 10)), c_sw ((yrC C (nI t) i) i), c_la ((yrC C (nI t) i) i))) hP
        have hD : va_D A (mWC y q (nI t) (nI n) (va_up (yrC C (nI t) i) i (c_kd ((yrC C (nI t) i) i), ((c_dr ((yrC C (nI t) i) i)) - (((c_dr ((yrC C (nI t) i) i)) * (lossC ((yrC C (nI t) i) i) (nI t)) + 999) / 1000)), c_sg ((yrC C (nI t) i) i), c_fl ((yrC C (nI t) i) i), ((c_ok ((yrC C (nI t) i) i)) + (if 10 < lossC ((yrC C (nI t) i) i) (nI t) then lossC ((yrC C (nI t) i) i) (nI t) - 10 else 0)), ((c_sm ((yrC C (nI t) i) i)) - (((c_sm ((yrC C (nI t) i) i)) + 9) / 10)), ((c_sw ((yrC C (nI t) i) i)) + (6 - (2 * (c_kd ((yrC C (nI t) i) i))))), c_la ((yrC C (nI t) i) i))) w rt (nI r0) no sa to tr st im va) := mcDF_sw (c0 := (c_kd ((yrC C (nI t) i) i), ((c_dr ((yrC C (nI t) i) i)) - (((c_dr ((yrC C (nI t) i) i)) * (lossC ((yrC C (nI t) i) i) (nI t)) + 999) / 1000)), c_sg ((yrC C (nI t) i) i), c_fl ((yrC C (nI t) i) i), ((c_ok ((yrC C (nI t) i) i)) + (if 10 < lossC ((yrC C (nI t) i) i) (nI t) then lossC ((yrC C (nI t) i) i) (nI t) - 10 else 0)), ((c_sm ((yrC C (nI t) i) i)) - (((c_sm ((yrC C (nI t) i) i)) + 9) / 10)), c_sw ((yrC C (nI t) i) i), c_la ((yrC C (nI t) i) i))) hD
        refine lv_aload_n hx hb dX5_oneYear_125 rfl (lv_at hl 1 rfl) ?_
        refine va_get (D := D) (ci := 5) (v := .ref (q 3)) (C := RX5) (T := TX5) (N := 20) hx hb hts iX5 hown hK hP 0 rfl rfl 4 (by decide) (hts _ (List.mem_of_getElem? (i := 9) rfl)) (fun _ h9 => h9) rfl dX5_oneYear_126 ?_
        refine lv_iload_n hx hb dX5_oneYear_129 rfl (lv_at hl 2 rfl) ?_
        refine lv_aload_n hx hb dX5_oneYear_130 rfl (lv_at hl 1 rfl) ?_
        refine va_get (D := D) (ci := 5) (v := .ref (q 3)) (C := RX5) (T := TX5) (N := 20) hx hb hts iX5 hown hK hP 0 rfl rfl 4 (by decide) (hts _ (List.mem_of_getElem? (i := 9) rfl)) (fun _ h9 => h9) rfl dX5_oneYear_131 ?_
        refine lv_iload_n hx hb dX5_oneYear_134 rfl (lv_at hl 2 rfl) ?_
        refine wa_iald hx hb hK hP 3 2 rfl rfl i rfl (by omega) (by decide) dX5_oneYear_135 ?_
        rw [va_up_self]
        refine lv_sipush (v := 403) hx hb dX5_oneYear_136 (by decide) ?_
        refine lv_icmp_le (tgt := 153) hx hb dX5_oneYear_139 (by decide) (fun c_4 => ?_) (fun c_4 => ?_)
        · skip
          refine lv_sipush (v := 400) hx hb dX5_oneYear_153 (by decide) ?_
          refine lv_cst (v := (if 403 < c_sg ((yrC C (nI t) i) i) then c_sg ((yrC C (nI t) i) i) - 3 else 400)) (if_neg (Int32.not_lt.mpr c_4)).symm ?_
          refine wa_iast (v := (if 403 < c_sg ((yrC C (nI t) i) i) then c_sg ((yrC C (nI t) i) i) - 3 else 400)) hx hb hK hP hD hS 3 2 rfl rfl i rfl (by omega) (by decide) dX5_oneYear_156 (fun H locs hP hD hS => ?_)
          have hP : va_P D vwCl (mWC y q (nI t) (nI n) (va_up (yrC C (nI t) i) i (c_kd ((yrC C (nI t) i) i), ((c_dr ((yrC C (nI t) i) i)) - (((c_dr ((yrC C (nI t) i) i)) * (lossC ((yrC C (nI t) i) i) (nI t)) + 999) / 1000)), (if 403 < c_sg ((yrC C (nI t) i) i) then c_sg ((yrC C (nI t) i) i) - 3 else 400), c_fl ((yrC C (nI t) i) i), ((c_ok ((yrC C (nI t) i) i)) + (if 10 < lossC ((yrC C (nI t) i) i) (nI t) then lossC ((yrC C (nI t) i) i) (nI t) - 10 else 0)), ((c_sm ((yrC C (nI t) i) i)) - (((c_sm ((yrC C (nI t) i) i)) + 9) / 10)), ((c_sw ((yrC C (nI t) i) i)) + (6 - (2 * (c_kd ((yrC C (nI t) i) i))))), c_la ((yrC C (nI t) i) i))) w rt (nI r0) no sa to tr st im va) H := mcPF_sg (c0 := (c_kd ((yrC C (nI t) i) i), ((c_dr ((yrC C (nI t) i) i)) - (((c_dr ((yrC C (nI t) i) i)) * (lossC ((yrC C (nI t) i) i) (nI t)) + 999) / 1000)), c_sg ((yrC C (nI t) i) i), c_fl ((yrC C (nI t) i) i), ((c_ok ((yrC C (nI t) i) i)) + (if 10 < lossC ((yrC C (nI t) i) i) (nI t) then lossC ((yrC C (nI t) i) i) (nI t) - 10 else 0)), ((c_sm ((yrC C (nI t) i) i)) - (((c_sm ((yrC C (nI t) i) i)) + 9) / 10)), ((c_sw ((yrC C (nI t) i) i)) + (6 - (2 * (c_kd ((yrC C (nI t) i) i))))), c_la ((yrC C (nI t) i) i))) hP
          have hD : va_D A (mWC y q (nI t) (nI n) (va_up (yrC C (nI t) i) i (c_kd ((yrC C (nI t) i) i), ((c_dr ((yrC C (nI t) i) i)) - (((c_dr ((yrC C (nI t) i) i)) * (lossC ((yrC C (nI t) i) i) (nI t)) + 999) / 1000)), (if 403 < c_sg ((yrC C (nI t) i) i) then c_sg ((yrC C (nI t) i) i) - 3 else 400), c_fl ((yrC C (nI t) i) i), ((c_ok ((yrC C (nI t) i) i)) + (if 10 < lossC ((yrC C (nI t) i) i) (nI t) then lossC ((yrC C (nI t) i) i) (nI t) - 10 else 0)), ((c_sm ((yrC C (nI t) i) i)) - (((c_sm ((yrC C (nI t) i) i)) + 9) / 10)), ((c_sw ((yrC C (nI t) i) i)) + (6 - (2 * (c_kd ((yrC C (nI t) i) i))))), c_la ((yrC C (nI t) i) i))) w rt (nI r0) no sa to tr st im va) := mcDF_sg (c0 := (c_kd ((yrC C (nI t) i) i), ((c_dr ((yrC C (nI t) i) i)) - (((c_dr ((yrC C (nI t) i) i)) * (lossC ((yrC C (nI t) i) i) (nI t)) + 999) / 1000)), c_sg ((yrC C (nI t) i) i), c_fl ((yrC C (nI t) i) i), ((c_ok ((yrC C (nI t) i) i)) + (if 10 < lossC ((yrC C (nI t) i) i) (nI t) then lossC ((yrC C (nI t) i) i) (nI t) - 10 else 0)), ((c_sm ((yrC C (nI t) i) i)) - (((c_sm ((yrC C (nI t) i) i)) + 9) / 10)), ((c_sw ((yrC C (nI t) i) i)) + (6 - (2 * (c_kd ((yrC C (nI t) i) i))))), c_la ((yrC C (nI t) i) i))) hD
          refine lv_iinc (v := (nI i + 1)) (lv' := [(1, .int (nI i + 1)), (2, .int (lossC ((yrC C (nI t) i) i) (nI t))), (0, .ref (q 0))]) hx hb dX5_oneYear_157 hl (k := 2) rfl rfl (by decide) rfl (fun ls hl => ?_)
          refine lv_goto (tgt := 2) hx hb dX5_oneYear_160 (by decide) ?_
          rw [yrC_i] at c_2
          rw [year_m hk (by omega), yrC_t c_2] at hP hD
          have hP : va_P D vwCl (mWC y q (nI t) (nI n) (yrC C (nI t) (i + 1)) w rt (nI r0) no sa to tr st im va) H := hP
          have hD : va_D A (mWC y q (nI t) (nI n) (yrC C (nI t) (i + 1)) w rt (nI r0) no sa to tr st im va) := hD
          exact ihi (i + 1) ls H locs (by show n - (i + 1) < n - i; omega) (by show i + 1 ≤ n; omega) (lv_sub hl [2, 0] (by
            show ([(0, .ref (q 0)), (1, .int (nI i + 1))] : List (Nat × Value)) = [(0, .ref (q 0)), (1, .int (nI (i + 1)))]
            rw [← nI_1])) hP hD hS
        · skip
          refine lv_aload_n hx hb dX5_oneYear_142 rfl (lv_at hl 1 rfl) ?_
          refine va_get (D := D) (ci := 5) (v := .ref (q 3)) (C := RX5) (T := TX5) (N := 20) hx hb hts iX5 hown hK hP 0 rfl rfl 4 (by decide) (hts _ (List.mem_of_getElem? (i := 9) rfl)) (fun _ h9 => h9) rfl dX5_oneYear_143 ?_
          refine lv_iload_n hx hb dX5_oneYear_146 rfl (lv_at hl 2 rfl) ?_
          refine wa_iald hx hb hK hP 3 2 rfl rfl i rfl (by omega) (by decide) dX5_oneYear_147 ?_
          rw [va_up_self]
          refine lv_iconst (v := 3) hx hb dX5_oneYear_148 (by decide) ?_
          refine lv_isub hx hb dX5_oneYear_149 ?_
          refine lv_goto (tgt := 156) hx hb dX5_oneYear_150 (by decide) ?_
          refine lv_cst (v := (if 403 < c_sg ((yrC C (nI t) i) i) then c_sg ((yrC C (nI t) i) i) - 3 else 400)) (if_pos (Int32.not_le.mp c_4)).symm ?_
          refine wa_iast (v := (if 403 < c_sg ((yrC C (nI t) i) i) then c_sg ((yrC C (nI t) i) i) - 3 else 400)) hx hb hK hP hD hS 3 2 rfl rfl i rfl (by omega) (by decide) dX5_oneYear_156 (fun H locs hP hD hS => ?_)
          have hP : va_P D vwCl (mWC y q (nI t) (nI n) (va_up (yrC C (nI t) i) i (c_kd ((yrC C (nI t) i) i), ((c_dr ((yrC C (nI t) i) i)) - (((c_dr ((yrC C (nI t) i) i)) * (lossC ((yrC C (nI t) i) i) (nI t)) + 999) / 1000)), (if 403 < c_sg ((yrC C (nI t) i) i) then c_sg ((yrC C (nI t) i) i) - 3 else 400), c_fl ((yrC C (nI t) i) i), ((c_ok ((yrC C (nI t) i) i)) + (if 10 < lossC ((yrC C (nI t) i) i) (nI t) then lossC ((yrC C (nI t) i) i) (nI t) - 10 else 0)), ((c_sm ((yrC C (nI t) i) i)) - (((c_sm ((yrC C (nI t) i) i)) + 9) / 10)), ((c_sw ((yrC C (nI t) i) i)) + (6 - (2 * (c_kd ((yrC C (nI t) i) i))))), c_la ((yrC C (nI t) i) i))) w rt (nI r0) no sa to tr st im va) H := mcPF_sg (c0 := (c_kd ((yrC C (nI t) i) i), ((c_dr ((yrC C (nI t) i) i)) - (((c_dr ((yrC C (nI t) i) i)) * (lossC ((yrC C (nI t) i) i) (nI t)) + 999) / 1000)), c_sg ((yrC C (nI t) i) i), c_fl ((yrC C (nI t) i) i), ((c_ok ((yrC C (nI t) i) i)) + (if 10 < lossC ((yrC C (nI t) i) i) (nI t) then lossC ((yrC C (nI t) i) i) (nI t) - 10 else 0)), ((c_sm ((yrC C (nI t) i) i)) - (((c_sm ((yrC C (nI t) i) i)) + 9) / 10)), ((c_sw ((yrC C (nI t) i) i)) + (6 - (2 * (c_kd ((yrC C (nI t) i) i))))), c_la ((yrC C (nI t) i) i))) hP
          have hD : va_D A (mWC y q (nI t) (nI n) (va_up (yrC C (nI t) i) i (c_kd ((yrC C (nI t) i) i), ((c_dr ((yrC C (nI t) i) i)) - (((c_dr ((yrC C (nI t) i) i)) * (lossC ((yrC C (nI t) i) i) (nI t)) + 999) / 1000)), (if 403 < c_sg ((yrC C (nI t) i) i) then c_sg ((yrC C (nI t) i) i) - 3 else 400), c_fl ((yrC C (nI t) i) i), ((c_ok ((yrC C (nI t) i) i)) + (if 10 < lossC ((yrC C (nI t) i) i) (nI t) then lossC ((yrC C (nI t) i) i) (nI t) - 10 else 0)), ((c_sm ((yrC C (nI t) i) i)) - (((c_sm ((yrC C (nI t) i) i)) + 9) / 10)), ((c_sw ((yrC C (nI t) i) i)) + (6 - (2 * (c_kd ((yrC C (nI t) i) i))))), c_la ((yrC C (nI t) i) i))) w rt (nI r0) no sa to tr st im va) := mcDF_sg (c0 := (c_kd ((yrC C (nI t) i) i), ((c_dr ((yrC C (nI t) i) i)) - (((c_dr ((yrC C (nI t) i) i)) * (lossC ((yrC C (nI t) i) i) (nI t)) + 999) / 1000)), c_sg ((yrC C (nI t) i) i), c_fl ((yrC C (nI t) i) i), ((c_ok ((yrC C (nI t) i) i)) + (if 10 < lossC ((yrC C (nI t) i) i) (nI t) then lossC ((yrC C (nI t) i) i) (nI t) - 10 else 0)), ((c_sm ((yrC C (nI t) i) i)) - (((c_sm ((yrC C (nI t) i) i)) + 9) / 10)), ((c_sw ((yrC C (nI t) i) i)) + (6 - (2 * (c_kd ((yrC C (nI t) i) i))))), c_la ((yrC C (nI t) i) i))) hD
          refine lv_iinc (v := (nI i + 1)) (lv' := [(1, .int (nI i + 1)), (2, .int (lossC ((yrC C (nI t) i) i) (nI t))), (0, .ref (q 0))]) hx hb dX5_oneYear_157 hl (k := 2) rfl rfl (by decide) rfl (fun ls hl => ?_)
          refine lv_goto (tgt := 2) hx hb dX5_oneYear_160 (by decide) ?_
          rw [yrC_i] at c_2
          rw [year_m hk (by omega), yrC_t c_2] at hP hD
          have hP : va_P D vwCl (mWC y q (nI t) (nI n) (yrC C (nI t) (i + 1)) w rt (nI r0) no sa to tr st im va) H := hP
          have hD : va_D A (mWC y q (nI t) (nI n) (yrC C (nI t) (i + 1)) w rt (nI r0) no sa to tr st im va) := hD
          exact ihi (i + 1) ls H locs (by show n - (i + 1) < n - i; omega) (by show i + 1 ≤ n; omega) (lv_sub hl [2, 0] (by
            show ([(0, .ref (q 0)), (1, .int (nI i + 1))] : List (Nat × Value)) = [(0, .ref (q 0)), (1, .int (nI (i + 1)))]
            rw [← nI_1])) hP hD hS
      · skip
        refine lv_iload_n hx hb dX5_oneYear_74 rfl (lv_at hl 0 rfl) ?_
        refine lv_bipush (v := 10) hx hb dX5_oneYear_75 (by decide) ?_
        refine lv_isub hx hb dX5_oneYear_77 ?_
        refine lv_goto (tgt := 82) hx hb dX5_oneYear_78 (by decide) ?_
        refine lv_cst (v := (if 10 < lossC ((yrC C (nI t) i) i) (nI t) then lossC ((yrC C (nI t) i) i) (nI t) - 10 else 0)) (if_pos (Int32.not_le.mp c_3)).symm ?_
        refine lv_iadd hx hb dX5_oneYear_82 ?_
        refine wa_iast (v := ((c_ok ((yrC C (nI t) i) i)) + (if 10 < lossC ((yrC C (nI t) i) i) (nI t) then lossC ((yrC C (nI t) i) i) (nI t) - 10 else 0))) hx hb hK hP hD hS 6 5 rfl rfl i rfl (by omega) (by decide) dX5_oneYear_83 (fun H locs hP hD hS => ?_)
        have hP : va_P D vwCl (mWC y q (nI t) (nI n) (va_up (yrC C (nI t) i) i (c_kd ((yrC C (nI t) i) i), ((c_dr ((yrC C (nI t) i) i)) - (((c_dr ((yrC C (nI t) i) i)) * (lossC ((yrC C (nI t) i) i) (nI t)) + 999) / 1000)), c_sg ((yrC C (nI t) i) i), c_fl ((yrC C (nI t) i) i), ((c_ok ((yrC C (nI t) i) i)) + (if 10 < lossC ((yrC C (nI t) i) i) (nI t) then lossC ((yrC C (nI t) i) i) (nI t) - 10 else 0)), c_sm ((yrC C (nI t) i) i), c_sw ((yrC C (nI t) i) i), c_la ((yrC C (nI t) i) i))) w rt (nI r0) no sa to tr st im va) H := mcPF_ok (c0 := (c_kd ((yrC C (nI t) i) i), ((c_dr ((yrC C (nI t) i) i)) - (((c_dr ((yrC C (nI t) i) i)) * (lossC ((yrC C (nI t) i) i) (nI t)) + 999) / 1000)), c_sg ((yrC C (nI t) i) i), c_fl ((yrC C (nI t) i) i), c_ok ((yrC C (nI t) i) i), c_sm ((yrC C (nI t) i) i), c_sw ((yrC C (nI t) i) i), c_la ((yrC C (nI t) i) i))) hP
        have hD : va_D A (mWC y q (nI t) (nI n) (va_up (yrC C (nI t) i) i (c_kd ((yrC C (nI t) i) i), ((c_dr ((yrC C (nI t) i) i)) - (((c_dr ((yrC C (nI t) i) i)) * (lossC ((yrC C (nI t) i) i) (nI t)) + 999) / 1000)), c_sg ((yrC C (nI t) i) i), c_fl ((yrC C (nI t) i) i), ((c_ok ((yrC C (nI t) i) i)) + (if 10 < lossC ((yrC C (nI t) i) i) (nI t) then lossC ((yrC C (nI t) i) i) (nI t) - 10 else 0)), c_sm ((yrC C (nI t) i) i), c_sw ((yrC C (nI t) i) i), c_la ((yrC C (nI t) i) i))) w rt (nI r0) no sa to tr st im va) := mcDF_ok (c0 := (c_kd ((yrC C (nI t) i) i), ((c_dr ((yrC C (nI t) i) i)) - (((c_dr ((yrC C (nI t) i) i)) * (lossC ((yrC C (nI t) i) i) (nI t)) + 999) / 1000)), c_sg ((yrC C (nI t) i) i), c_fl ((yrC C (nI t) i) i), c_ok ((yrC C (nI t) i) i), c_sm ((yrC C (nI t) i) i), c_sw ((yrC C (nI t) i) i), c_la ((yrC C (nI t) i) i))) hD
        refine lv_aload_n hx hb dX5_oneYear_84 rfl (lv_at hl 1 rfl) ?_
        refine va_get (D := D) (ci := 5) (v := .ref (q 7)) (C := RX5) (T := TX5) (N := 20) hx hb hts iX5 hown hK hP 0 rfl rfl 8 (by decide) (hts _ (List.mem_of_getElem? (i := 7) rfl)) (fun _ h9 => h9) rfl dX5_oneYear_85 ?_
        refine lv_iload_n hx hb dX5_oneYear_88 rfl (lv_at hl 2 rfl) ?_
        refine lv_dup2_11 hx hb dX5_oneYear_89 rfl rfl ?_
        refine wa_iald hx hb hK hP 7 6 rfl rfl i rfl (by omega) (by decide) dX5_oneYear_90 ?_
        rw [va_up_self]
        refine lv_aload_n hx hb dX5_oneYear_91 rfl (lv_at hl 1 rfl) ?_
        refine va_get (D := D) (ci := 5) (v := .ref (q 7)) (C := RX5) (T := TX5) (N := 20) hx hb hts iX5 hown hK hP 0 rfl rfl 8 (by decide) (hts _ (List.mem_of_getElem? (i := 7) rfl)) (fun _ h9 => h9) rfl dX5_oneYear_92 ?_
        refine lv_iload_n hx hb dX5_oneYear_95 rfl (lv_at hl 2 rfl) ?_
        refine wa_iald hx hb hK hP 7 6 rfl rfl i rfl (by omega) (by decide) dX5_oneYear_96 ?_
        rw [va_up_self]
        refine lv_bipush (v := 9) hx hb dX5_oneYear_97 (by decide) ?_
        refine lv_iadd hx hb dX5_oneYear_99 ?_
        refine lv_bipush (v := 10) hx hb dX5_oneYear_100 (by decide) ?_
        refine lv_idiv hx hb dX5_oneYear_102 (by decide) ?_
        refine lv_isub hx hb dX5_oneYear_103 ?_
        refine wa_iast (v := ((c_sm ((yrC C (nI t) i) i)) - (((c_sm ((yrC C (nI t) i) i)) + 9) / 10))) hx hb hK hP hD hS 7 6 rfl rfl i rfl (by omega) (by decide) dX5_oneYear_104 (fun H locs hP hD hS => ?_)
        have hP : va_P D vwCl (mWC y q (nI t) (nI n) (va_up (yrC C (nI t) i) i (c_kd ((yrC C (nI t) i) i), ((c_dr ((yrC C (nI t) i) i)) - (((c_dr ((yrC C (nI t) i) i)) * (lossC ((yrC C (nI t) i) i) (nI t)) + 999) / 1000)), c_sg ((yrC C (nI t) i) i), c_fl ((yrC C (nI t) i) i), ((c_ok ((yrC C (nI t) i) i)) + (if 10 < lossC ((yrC C (nI t) i) i) (nI t) then lossC ((yrC C (nI t) i) i) (nI t) - 10 else 0)), ((c_sm ((yrC C (nI t) i) i)) - (((c_sm ((yrC C (nI t) i) i)) + 9) / 10)), c_sw ((yrC C (nI t) i) i), c_la ((yrC C (nI t) i) i))) w rt (nI r0) no sa to tr st im va) H := mcPF_sm (c0 := (c_kd ((yrC C (nI t) i) i), ((c_dr ((yrC C (nI t) i) i)) - (((c_dr ((yrC C (nI t) i) i)) * (lossC ((yrC C (nI t) i) i) (nI t)) + 999) / 1000)), c_sg ((yrC C (nI t) i) i), c_fl ((yrC C (nI t) i) i), ((c_ok ((yrC C (nI t) i) i)) + (if 10 < lossC ((yrC C (nI t) i) i) (nI t) then lossC ((yrC C (nI t) i) i) (nI t) - 10 else 0)), c_sm ((yrC C (nI t) i) i), c_sw ((yrC C (nI t) i) i), c_la ((yrC C (nI t) i) i))) hP
        have hD : va_D A (mWC y q (nI t) (nI n) (va_up (yrC C (nI t) i) i (c_kd ((yrC C (nI t) i) i), ((c_dr ((yrC C (nI t) i) i)) - (((c_dr ((yrC C (nI t) i) i)) * (lossC ((yrC C (nI t) i) i) (nI t)) + 999) / 1000)), c_sg ((yrC C (nI t) i) i), c_fl ((yrC C (nI t) i) i), ((c_ok ((yrC C (nI t) i) i)) + (if 10 < lossC ((yrC C (nI t) i) i) (nI t) then lossC ((yrC C (nI t) i) i) (nI t) - 10 else 0)), ((c_sm ((yrC C (nI t) i) i)) - (((c_sm ((yrC C (nI t) i) i)) + 9) / 10)), c_sw ((yrC C (nI t) i) i), c_la ((yrC C (nI t) i) i))) w rt (nI r0) no sa to tr st im va) := mcDF_sm (c0 := (c_kd ((yrC C (nI t) i) i), ((c_dr ((yrC C (nI t) i) i)) - (((c_dr ((yrC C (nI t) i) i)) * (lossC ((yrC C (nI t) i) i) (nI t)) + 999) / 1000)), c_sg ((yrC C (nI t) i) i), c_fl ((yrC C (nI t) i) i), ((c_ok ((yrC C (nI t) i) i)) + (if 10 < lossC ((yrC C (nI t) i) i) (nI t) then lossC ((yrC C (nI t) i) i) (nI t) - 10 else 0)), c_sm ((yrC C (nI t) i) i), c_sw ((yrC C (nI t) i) i), c_la ((yrC C (nI t) i) i))) hD
        refine lv_aload_n hx hb dX5_oneYear_105 rfl (lv_at hl 1 rfl) ?_
        refine va_get (D := D) (ci := 5) (v := .ref (q 8)) (C := RX5) (T := TX5) (N := 20) hx hb hts iX5 hown hK hP 0 rfl rfl 9 (by decide) (hts _ (List.mem_of_getElem? (i := 8) rfl)) (fun _ h9 => h9) rfl dX5_oneYear_106 ?_
        refine lv_iload_n hx hb dX5_oneYear_109 rfl (lv_at hl 2 rfl) ?_
        refine lv_dup2_11 hx hb dX5_oneYear_110 rfl rfl ?_
        refine wa_iald hx hb hK hP 8 7 rfl rfl i rfl (by omega) (by decide) dX5_oneYear_111 ?_
        rw [va_up_self]
        refine lv_bipush (v := 6) hx hb dX5_oneYear_112 (by decide) ?_
        refine lv_iconst (v := 2) hx hb dX5_oneYear_114 (by decide) ?_
        refine lv_aload_n hx hb dX5_oneYear_115 rfl (lv_at hl 1 rfl) ?_
        refine va_get (D := D) (ci := 5) (v := .ref (q 1)) (C := RX5) (T := TX5) (N := 20) hx hb hts iX5 hown hK hP 0 rfl rfl 2 (by decide) (hts _ (List.mem_of_getElem? (i := 3) rfl)) (fun _ h9 => h9) rfl dX5_oneYear_116 ?_
        refine lv_iload_n hx hb dX5_oneYear_119 rfl (lv_at hl 2 rfl) ?_
        refine wa_iald hx hb hK hP 1 0 rfl rfl i rfl (by omega) (by decide) dX5_oneYear_120 ?_
        rw [va_up_self]
        refine lv_imul hx hb dX5_oneYear_121 ?_
        refine lv_isub hx hb dX5_oneYear_122 ?_
        refine lv_iadd hx hb dX5_oneYear_123 ?_
        refine wa_iast (v := ((c_sw ((yrC C (nI t) i) i)) + (6 - (2 * (c_kd ((yrC C (nI t) i) i)))))) hx hb hK hP hD hS 8 7 rfl rfl i rfl (by omega) (by decide) dX5_oneYear_124 (fun H locs hP hD hS => ?_)
        have hP : va_P D vwCl (mWC y q (nI t) (nI n) (va_up (yrC C (nI t) i) i (c_kd ((yrC C (nI t) i) i), ((c_dr ((yrC C (nI t) i) i)) - (((c_dr ((yrC C (nI t) i) i)) * (lossC ((yrC C (nI t) i) i) (nI t)) + 999) / 1000)), c_sg ((yrC C (nI t) i) i), c_fl ((yrC C (nI t) i) i), ((c_ok ((yrC C (nI t) i) i)) + (if 10 < lossC ((yrC C (nI t) i) i) (nI t) then lossC ((yrC C (nI t) i) i) (nI t) - 10 else 0)), ((c_sm ((yrC C (nI t) i) i)) - (((c_sm ((yrC C (nI t) i) i)) + 9) / 10)), ((c_sw ((yrC C (nI t) i) i)) + (6 - (2 * (c_kd ((yrC C (nI t) i) i))))), c_la ((yrC C (nI t) i) i))) w rt (nI r0) no sa to tr st im va) H := mcPF_sw (c0 := (c_kd ((yrC C (nI t) i) i), ((c_dr ((yrC C (nI t) i) i)) - (((c_dr ((yrC C (nI t) i) i)) * (lossC ((yrC C (nI t) i) i) (nI t)) + 999) / 1000)), c_sg ((yrC C (nI t) i) i), c_fl ((yrC C (nI t) i) i), ((c_ok ((yrC C (nI t) i) i)) + (if 10 < lossC ((yrC C (nI t) i) i) (nI t) then lossC ((yrC C (nI t) i) i) (nI t) - 10 else 0)), ((c_sm ((yrC C (nI t) i) i)) - (((c_sm ((yrC C (nI t) i) i)) + 9) / 10)), c_sw ((yrC C (nI t) i) i), c_la ((yrC C (nI t) i) i))) hP
        have hD : va_D A (mWC y q (nI t) (nI n) (va_up (yrC C (nI t) i) i (c_kd ((yrC C (nI t) i) i), ((c_dr ((yrC C (nI t) i) i)) - (((c_dr ((yrC C (nI t) i) i)) * (lossC ((yrC C (nI t) i) i) (nI t)) + 999) / 1000)), c_sg ((yrC C (nI t) i) i), c_fl ((yrC C (nI t) i) i), ((c_ok ((yrC C (nI t) i) i)) + (if 10 < lossC ((yrC C (nI t) i) i) (nI t) then lossC ((yrC C (nI t) i) i) (nI t) - 10 else 0)), ((c_sm ((yrC C (nI t) i) i)) - (((c_sm ((yrC C (nI t) i) i)) + 9) / 10)), ((c_sw ((yrC C (nI t) i) i)) + (6 - (2 * (c_kd ((yrC C (nI t) i) i))))), c_la ((yrC C (nI t) i) i))) w rt (nI r0) no sa to tr st im va) := mcDF_sw (c0 := (c_kd ((yrC C (nI t) i) i), ((c_dr ((yrC C (nI t) i) i)) - (((c_dr ((yrC C (nI t) i) i)) * (lossC ((yrC C (nI t) i) i) (nI t)) + 999) / 1000)), c_sg ((yrC C (nI t) i) i), c_fl ((yrC C (nI t) i) i), ((c_ok ((yrC C (nI t) i) i)) + (if 10 < lossC ((yrC C (nI t) i) i) (nI t) then lossC ((yrC C (nI t) i) i) (nI t) - 10 else 0)), ((c_sm ((yrC C (nI t) i) i)) - (((c_sm ((yrC C (nI t) i) i)) + 9) / 10)), c_sw ((yrC C (nI t) i) i), c_la ((yrC C (nI t) i) i))) hD
        refine lv_aload_n hx hb dX5_oneYear_125 rfl (lv_at hl 1 rfl) ?_
        refine va_get (D := D) (ci := 5) (v := .ref (q 3)) (C := RX5) (T := TX5) (N := 20) hx hb hts iX5 hown hK hP 0 rfl rfl 4 (by decide) (hts _ (List.mem_of_getElem? (i := 9) rfl)) (fun _ h9 => h9) rfl dX5_oneYear_126 ?_
        refine lv_iload_n hx hb dX5_oneYear_129 rfl (lv_at hl 2 rfl) ?_
        refine lv_aload_n hx hb dX5_oneYear_130 rfl (lv_at hl 1 rfl) ?_
        refine va_get (D := D) (ci := 5) (v := .ref (q 3)) (C := RX5) (T := TX5) (N := 20) hx hb hts iX5 hown hK hP 0 rfl rfl 4 (by decide) (hts _ (List.mem_of_getElem? (i := 9) rfl)) (fun _ h9 => h9) rfl dX5_oneYear_131 ?_
        refine lv_iload_n hx hb dX5_oneYear_134 rfl (lv_at hl 2 rfl) ?_
        refine wa_iald hx hb hK hP 3 2 rfl rfl i rfl (by omega) (by decide) dX5_oneYear_135 ?_
        rw [va_up_self]
        refine lv_sipush (v := 403) hx hb dX5_oneYear_136 (by decide) ?_
        refine lv_icmp_le (tgt := 153) hx hb dX5_oneYear_139 (by decide) (fun c_5 => ?_) (fun c_5 => ?_)
        · skip
          refine lv_sipush (v := 400) hx hb dX5_oneYear_153 (by decide) ?_
          refine lv_cst (v := (if 403 < c_sg ((yrC C (nI t) i) i) then c_sg ((yrC C (nI t) i) i) - 3 else 400)) (if_neg (Int32.not_lt.mpr c_5)).symm ?_
          refine wa_iast (v := (if 403 < c_sg ((yrC C (nI t) i) i) then c_sg ((yrC C (nI t) i) i) - 3 else 400)) hx hb hK hP hD hS 3 2 rfl rfl i rfl (by omega) (by decide) dX5_oneYear_156 (fun H locs hP hD hS => ?_)
          have hP : va_P D vwCl (mWC y q (nI t) (nI n) (va_up (yrC C (nI t) i) i (c_kd ((yrC C (nI t) i) i), ((c_dr ((yrC C (nI t) i) i)) - (((c_dr ((yrC C (nI t) i) i)) * (lossC ((yrC C (nI t) i) i) (nI t)) + 999) / 1000)), (if 403 < c_sg ((yrC C (nI t) i) i) then c_sg ((yrC C (nI t) i) i) - 3 else 400), c_fl ((yrC C (nI t) i) i), ((c_ok ((yrC C (nI t) i) i)) + (if 10 < lossC ((yrC C (nI t) i) i) (nI t) then lossC ((yrC C (nI t) i) i) (nI t) - 10 else 0)), ((c_sm ((yrC C (nI t) i) i)) - (((c_sm ((yrC C (nI t) i) i)) + 9) / 10)), ((c_sw ((yrC C (nI t) i) i)) + (6 - (2 * (c_kd ((yrC C (nI t) i) i))))), c_la ((yrC C (nI t) i) i))) w rt (nI r0) no sa to tr st im va) H := mcPF_sg (c0 := (c_kd ((yrC C (nI t) i) i), ((c_dr ((yrC C (nI t) i) i)) - (((c_dr ((yrC C (nI t) i) i)) * (lossC ((yrC C (nI t) i) i) (nI t)) + 999) / 1000)), c_sg ((yrC C (nI t) i) i), c_fl ((yrC C (nI t) i) i), ((c_ok ((yrC C (nI t) i) i)) + (if 10 < lossC ((yrC C (nI t) i) i) (nI t) then lossC ((yrC C (nI t) i) i) (nI t) - 10 else 0)), ((c_sm ((yrC C (nI t) i) i)) - (((c_sm ((yrC C (nI t) i) i)) + 9) / 10)), ((c_sw ((yrC C (nI t) i) i)) + (6 - (2 * (c_kd ((yrC C (nI t) i) i))))), c_la ((yrC C (nI t) i) i))) hP
          have hD : va_D A (mWC y q (nI t) (nI n) (va_up (yrC C (nI t) i) i (c_kd ((yrC C (nI t) i) i), ((c_dr ((yrC C (nI t) i) i)) - (((c_dr ((yrC C (nI t) i) i)) * (lossC ((yrC C (nI t) i) i) (nI t)) + 999) / 1000)), (if 403 < c_sg ((yrC C (nI t) i) i) then c_sg ((yrC C (nI t) i) i) - 3 else 400), c_fl ((yrC C (nI t) i) i), ((c_ok ((yrC C (nI t) i) i)) + (if 10 < lossC ((yrC C (nI t) i) i) (nI t) then lossC ((yrC C (nI t) i) i) (nI t) - 10 else 0)), ((c_sm ((yrC C (nI t) i) i)) - (((c_sm ((yrC C (nI t) i) i)) + 9) / 10)), ((c_sw ((yrC C (nI t) i) i)) + (6 - (2 * (c_kd ((yrC C (nI t) i) i))))), c_la ((yrC C (nI t) i) i))) w rt (nI r0) no sa to tr st im va) := mcDF_sg (c0 := (c_kd ((yrC C (nI t) i) i), ((c_dr ((yrC C (nI t) i) i)) - (((c_dr ((yrC C (nI t) i) i)) * (lossC ((yrC C (nI t) i) i) (nI t)) + 999) / 1000)), c_sg ((yrC C (nI t) i) i), c_fl ((yrC C (nI t) i) i), ((c_ok ((yrC C (nI t) i) i)) + (if 10 < lossC ((yrC C (nI t) i) i) (nI t) then lossC ((yrC C (nI t) i) i) (nI t) - 10 else 0)), ((c_sm ((yrC C (nI t) i) i)) - (((c_sm ((yrC C (nI t) i) i)) + 9) / 10)), ((c_sw ((yrC C (nI t) i) i)) + (6 - (2 * (c_kd ((yrC C (nI t) i) i))))), c_la ((yrC C (nI t) i) i))) hD
          refine lv_iinc (v := (nI i + 1)) (lv' := [(1, .int (nI i + 1)), (2, .int (lossC ((yrC C (nI t) i) i) (nI t))), (0, .ref (q 0))]) hx hb dX5_oneYear_157 hl (k := 2) rfl rfl (by decide) rfl (fun ls hl => ?_)
          refine lv_goto (tgt := 2) hx hb dX5_oneYear_160 (by decide) ?_
          rw [yrC_i] at c_2
          rw [year_m hk (by omega), yrC_t c_2] at hP hD
          have hP : va_P D vwCl (mWC y q (nI t) (nI n) (yrC C (nI t) (i + 1)) w rt (nI r0) no sa to tr st im va) H := hP
          have hD : va_D A (mWC y q (nI t) (nI n) (yrC C (nI t) (i + 1)) w rt (nI r0) no sa to tr st im va) := hD
          exact ihi (i + 1) ls H locs (by show n - (i + 1) < n - i; omega) (by show i + 1 ≤ n; omega) (lv_sub hl [2, 0] (by
            show ([(0, .ref (q 0)), (1, .int (nI i + 1))] : List (Nat × Value)) = [(0, .ref (q 0)), (1, .int (nI (i + 1)))]
            rw [← nI_1])) hP hD hS
        · skip
          refine lv_aload_n hx hb dX5_oneYear_142 rfl (lv_at hl 1 rfl) ?_
          refine va_get (D := D) (ci := 5) (v := .ref (q 3)) (C := RX5) (T := TX5) (N := 20) hx hb hts iX5 hown hK hP 0 rfl rfl 4 (by decide) (hts _ (List.mem_of_getElem? (i := 9) rfl)) (fun _ h9 => h9) rfl dX5_oneYear_143 ?_
          refine lv_iload_n hx hb dX5_oneYear_146 rfl (lv_at hl 2 rfl) ?_
          refine wa_iald hx hb hK hP 3 2 rfl rfl i rfl (by omega) (by decide) dX5_oneYear_147 ?_
          rw [va_up_self]
          refine lv_iconst (v := 3) hx hb dX5_oneYear_148 (by decide) ?_
          refine lv_isub hx hb dX5_oneYear_149 ?_
          refine lv_goto (tgt := 156) hx hb dX5_oneYear_150 (by decide) ?_
          refine lv_cst (v := (if 403 < c_sg ((yrC C (nI t) i) i) then c_sg ((yrC C (nI t) i) i) - 3 else 400)) (if_pos (Int32.not_le.mp c_5)).symm ?_
          refine wa_iast (v := (if 403 < c_sg ((yrC C (nI t) i) i) then c_sg ((yrC C (nI t) i) i) - 3 else 400)) hx hb hK hP hD hS 3 2 rfl rfl i rfl (by omega) (by decide) dX5_oneYear_156 (fun H locs hP hD hS => ?_)
          have hP : va_P D vwCl (mWC y q (nI t) (nI n) (va_up (yrC C (nI t) i) i (c_kd ((yrC C (nI t) i) i), ((c_dr ((yrC C (nI t) i) i)) - (((c_dr ((yrC C (nI t) i) i)) * (lossC ((yrC C (nI t) i) i) (nI t)) + 999) / 1000)), (if 403 < c_sg ((yrC C (nI t) i) i) then c_sg ((yrC C (nI t) i) i) - 3 else 400), c_fl ((yrC C (nI t) i) i), ((c_ok ((yrC C (nI t) i) i)) + (if 10 < lossC ((yrC C (nI t) i) i) (nI t) then lossC ((yrC C (nI t) i) i) (nI t) - 10 else 0)), ((c_sm ((yrC C (nI t) i) i)) - (((c_sm ((yrC C (nI t) i) i)) + 9) / 10)), ((c_sw ((yrC C (nI t) i) i)) + (6 - (2 * (c_kd ((yrC C (nI t) i) i))))), c_la ((yrC C (nI t) i) i))) w rt (nI r0) no sa to tr st im va) H := mcPF_sg (c0 := (c_kd ((yrC C (nI t) i) i), ((c_dr ((yrC C (nI t) i) i)) - (((c_dr ((yrC C (nI t) i) i)) * (lossC ((yrC C (nI t) i) i) (nI t)) + 999) / 1000)), c_sg ((yrC C (nI t) i) i), c_fl ((yrC C (nI t) i) i), ((c_ok ((yrC C (nI t) i) i)) + (if 10 < lossC ((yrC C (nI t) i) i) (nI t) then lossC ((yrC C (nI t) i) i) (nI t) - 10 else 0)), ((c_sm ((yrC C (nI t) i) i)) - (((c_sm ((yrC C (nI t) i) i)) + 9) / 10)), ((c_sw ((yrC C (nI t) i) i)) + (6 - (2 * (c_kd ((yrC C (nI t) i) i))))), c_la ((yrC C (nI t) i) i))) hP
          have hD : va_D A (mWC y q (nI t) (nI n) (va_up (yrC C (nI t) i) i (c_kd ((yrC C (nI t) i) i), ((c_dr ((yrC C (nI t) i) i)) - (((c_dr ((yrC C (nI t) i) i)) * (lossC ((yrC C (nI t) i) i) (nI t)) + 999) / 1000)), (if 403 < c_sg ((yrC C (nI t) i) i) then c_sg ((yrC C (nI t) i) i) - 3 else 400), c_fl ((yrC C (nI t) i) i), ((c_ok ((yrC C (nI t) i) i)) + (if 10 < lossC ((yrC C (nI t) i) i) (nI t) then lossC ((yrC C (nI t) i) i) (nI t) - 10 else 0)), ((c_sm ((yrC C (nI t) i) i)) - (((c_sm ((yrC C (nI t) i) i)) + 9) / 10)), ((c_sw ((yrC C (nI t) i) i)) + (6 - (2 * (c_kd ((yrC C (nI t) i) i))))), c_la ((yrC C (nI t) i) i))) w rt (nI r0) no sa to tr st im va) := mcDF_sg (c0 := (c_kd ((yrC C (nI t) i) i), ((c_dr ((yrC C (nI t) i) i)) - (((c_dr ((yrC C (nI t) i) i)) * (lossC ((yrC C (nI t) i) i) (nI t)) + 999) / 1000)), c_sg ((yrC C (nI t) i) i), c_fl ((yrC C (nI t) i) i), ((c_ok ((yrC C (nI t) i) i)) + (if 10 < lossC ((yrC C (nI t) i) i) (nI t) then lossC ((yrC C (nI t) i) i) (nI t) - 10 else 0)), ((c_sm ((yrC C (nI t) i) i)) - (((c_sm ((yrC C (nI t) i) i)) + 9) / 10)), ((c_sw ((yrC C (nI t) i) i)) + (6 - (2 * (c_kd ((yrC C (nI t) i) i))))), c_la ((yrC C (nI t) i) i))) hD
          refine lv_iinc (v := (nI i + 1)) (lv' := [(1, .int (nI i + 1)), (2, .int (lossC ((yrC C (nI t) i) i) (nI t))), (0, .ref (q 0))]) hx hb dX5_oneYear_157 hl (k := 2) rfl rfl (by decide) rfl (fun ls hl => ?_)
          refine lv_goto (tgt := 2) hx hb dX5_oneYear_160 (by decide) ?_
          rw [yrC_i] at c_2
          rw [year_m hk (by omega), yrC_t c_2] at hP hD
          have hP : va_P D vwCl (mWC y q (nI t) (nI n) (yrC C (nI t) (i + 1)) w rt (nI r0) no sa to tr st im va) H := hP
          have hD : va_D A (mWC y q (nI t) (nI n) (yrC C (nI t) (i + 1)) w rt (nI r0) no sa to tr st im va) := hD
          exact ihi (i + 1) ls H locs (by show n - (i + 1) < n - i; omega) (by show i + 1 ≤ n; omega) (lv_sub hl [2, 0] (by
            show ([(0, .ref (q 0)), (1, .int (nI i + 1))] : List (Nat × Value)) = [(0, .ref (q 0)), (1, .int (nI (i + 1)))]
            rw [← nI_1])) hP hD hS

set_option maxHeartbeats 4000000 in
set_option maxRecDepth 100000 in
theorem kX5_years (l : Launch) (D : va_G) (y : Nat → ClassId) (q : Nat → Nat) (t n : Nat) (C : Nat → CT) (w : Nat → Int32) (rt : Int32) (r0 : Nat) (no sa to : Nat → Int32) (tr : Int64) (st im va : Nat → Int32) (k0 : Int32) (sz : Nat) (hn : n ≤ 12) (hI : INV n t C) (ht : t ≤ 60) : Met l yX5_years wsX5_years ({ frames := 2, cells := 0, slots := 0, locals := 46 }) (va_Pc [.ref (q 0), .int k0] (muB D (mTy y) (mWC y q (nI t) (nI n) C w rt (nI r0) no sa to tr st im va) sz eT)) (QI (σ := Int32 × (Nat → CT)) D (fun r u => (r, u) = yearsF n (nI t) C k0) (fun u => (mWC y q u.1 (nI n) u.2 w rt (nI r0) no sa to tr st im va)) (va_A (mWC y q (nI t) (nI n) C w rt (nI r0) no sa to tr st im va) sz)) 0 0 (va_A (mWC y q (nI t) (nI n) C w rt (nI r0) no sa to tr st im va) sz) := by
  refine mu_start (Qc := QI (σ := Int32 × (Nat → CT)) D (fun r u => (r, u) = yearsF n (nI t) C k0) (fun u => (mWC y q u.1 (nI n) u.2 w rt (nI r0) no sa to tr st im va))) (cc := cX5_years) (maxL := 3) (ret := (some .int)) (by decide) rfl (Nat.le_of_ble_eq_true rfl) ?_
  intro p e s m below meth c ls A hx hb hr hml hown hlocks hts hnm hA hP hK hN hD hE hAA hsz hl
  have hS : va_S A s.heap s.heap [] := va_S.rf
  have hown : s.vm.findClass RX5 = some m.cls := hown
  have F : CallFix p m c cX5_years 3 s [.ref (q 0), .int k0].toArray wsX5_years RX5 := ⟨hx, hb, hml, hown, hts⟩
  have hl : lv_has ls 3 [(0, .ref (q 0)), (1, .int k0)] := hl
  have iX5 : ∀ w ∈ u_ws RX5 TX5 20, w ∈ wsX5_years := mem_pl [26, 27, 28, 29, 30, 31, 32, 33, 34, 35, 36, 37, 38, 39, 40, 41, 42, 43, 44, 45] rfl
  refine lv_iload_n hx hb dX5_years_0 rfl (lv_at hl 1 rfl) ?_
  refine lv_iconst (v := 1) hx hb dX5_years_1 (by decide) ?_
  refine lv_bipush (v := 30) hx hb dX5_years_2 (by decide) ?_
  refine ro_i (va_runS (As := [.int k0, .int 1, .int 30]) (rest := []) F (kX5_in l k0 1 30) (va_cwS 3 hts gX5_years_X5_in rfl rfl rfl hdX5_in ⟨(Nat.le_of_ble_eq_true rfl), (Nat.le_of_ble_eq_true rfl)⟩) ⟨tr_blind, tr_pre⟩ rfl rfl hl.1 rfl (lv_room (Nat.le_of_ble_eq_true rfl)) dX5_years_4 ⟨Nat.zero_le _, Nat.zero_le _⟩) ?_
  refine lv_if_ne (tgt := 12) hx hb dX5_years_7 (by decide) (fun c_1 => ?_) (fun c_1 => ?_)
  · skip
    have c_1 := zI_1 c_1
    obtain ⟨k, hk, rfl⟩ := in1_of c_1
    have ek : (nI k).toNatClampNeg = k := nI_clamp (by omega)
    refine lv_aload_n hx hb dX5_years_12 rfl (lv_at hl 0 rfl) ?_
    refine va_get (D := D) (ci := 5) (v := .int (nI t)) (C := RX5) (T := TX5) (N := 20) hx hb hts iX5 hown hK hP 0 rfl rfl 0 (by decide) (hts _ (List.mem_of_getElem? (i := 1) rfl)) (fun _ h9 => h9) rfl dX5_years_13 ?_
    refine lv_iload_n hx hb dX5_years_16 rfl (lv_at hl 1 rfl) ?_
    refine lv_iadd hx hb dX5_years_17 ?_
    refine lv_bipush (v := 60) hx hb dX5_years_18 (by decide) ?_
    refine lv_icmp_le (tgt := 26) hx hb dX5_years_20 (by decide) (fun c_2 => ?_) (fun c_2 => ?_)
    · skip
      have hle : t + k ≤ 60 := by have h9 := c_2; rw [nI_add] at h9; exact (nI_leI (a := t + k) (b := 60) (by omega) (by omega)).mp h9
      refine lv_iconst (v := 0) hx hb dX5_years_26 (by decide) ?_
      refine lv_istore_n (lv' := [(2, .int 0), (0, .ref (q 0)), (1, .int (nI k))]) hx hb dX5_years_27 rfl hl (by decide) rfl (fun ls hl => ?_)
      refine W.lpW (pc := 28) (τ := Nat) (D := D) (A := A) (H0 := s.heap) (cl := vwCl) (fun i => i ≤ k) (fun i => (mWC y q (nI (t + i)) (nI n) ((yrs n (nI t) C i).2) w rt (nI r0) no sa to tr st im va)) (fun i ls => lv_has ls 3 [(0, .ref (q 0)), (1, .int (nI k)), (2, .int (nI i))]) (fun i => k - i) ?_ 0 ls (Nat.zero_le _) (lv_sub hl [1, 2, 0] rfl) hP hD hS
      intro i ls H locs hi hl hP hD hS ihi
      have hi : i ≤ k := hi
      have hl : lv_has ls 3 [(0, .ref (q 0)), (1, .int (nI k)), (2, .int (nI i))] := hl
      have hP : va_P D vwCl (mWC y q (nI (t + i)) (nI n) ((yrs n (nI t) C i).2) w rt (nI r0) no sa to tr st im va) H := hP
      have hD : va_D A (mWC y q (nI (t + i)) (nI n) ((yrs n (nI t) C i).2) w rt (nI r0) no sa to tr st im va) := hD
      refine lv_iload_n hx hb dX5_years_28 rfl (lv_at hl 2 rfl) ?_
      refine lv_iload_n hx hb dX5_years_29 rfl (lv_at hl 1 rfl) ?_
      refine lv_icmp_ge (tgt := 43) hx hb dX5_years_30 (by decide) (fun c_3 => ?_) (fun c_3 => ?_)
      · skip
        have c_3 : k ≤ i := (nI_leI (a := k) (b := i) (by omega) (by omega)).mp c_3
        have hin : i = k := Nat.le_antisymm hi c_3
        rw [hin] at hP hD
        have hP : va_P D vwCl (mWC y q ((yrs n (nI t) C k).1) (nI n) ((yrs n (nI t) C k).2) w rt (nI r0) no sa to tr st im va) H := by rw [(INV_yrs hI k hle).1]; exact hP
        have hD : va_D A (mWC y q ((yrs n (nI t) C k).1) (nI n) ((yrs n (nI t) C k).2) w rt (nI r0) no sa to tr st im va) := by rw [(INV_yrs hI k hle).1]; exact hD
        refine lv_aload_n hx hb dX5_years_43 rfl (lv_at hl 0 rfl) ?_
        refine va_get (D := D) (ci := 5) (v := .int ((yrs n (nI t) C k).1)) (C := RX5) (T := TX5) (N := 20) hx hb hts iX5 hown hK hP 0 rfl rfl 0 (by decide) (hts _ (List.mem_of_getElem? (i := 1) rfl)) (fun _ h9 => h9) rfl dX5_years_44 ?_
        exact mu_iret (yrs n (nI t) C k) hx hb hr hlocks hP hD hS dX5_years_47 (by unfold yearsF; rw [if_pos c_1, if_pos c_2, ek])
      · skip
        have c_3 : ¬ k ≤ i := fun h => c_3 ((nI_leI (a := k) (b := i) (by omega) (by omega)).mpr h)
        have hIi := (INV_yrs hI i (by omega)).2
        refine lv_aload_n hx hb dX5_years_33 rfl (lv_at hl 0 rfl) ?_
        refine muF_v (va_runV (As := []) (rest := []) F (kX5_oneYear l D y q (t + i) n ((yrs n (nI t) C i).2) w rt r0 no sa to tr st im va _ hn hIi (by omega)) (cwV 0 hts gX5_years_X5_oneYear rfl rfl rfl ⟨rfl, hdX5_oneYear⟩ ⟨(Nat.le_of_ble_eq_true rfl), (Nat.le_of_ble_eq_true rfl)⟩) ⟨(muB_blind (fun _ _ _ _ _ => trivial)), va_recv hK hP (ci := 5) (q0 := 0) rfl rfl, muF_pre hP hK hN hD (fun _ _ _ => trivial)⟩ rfl rfl hl.1 rfl (lv_room (Nat.le_of_ble_eq_true rfl)) dX5_years_34 ⟨Nat.zero_le _, Nat.zero_le _⟩) hP hD hS hA (fun u_5 H locs w_6 hP hD hS => ?_)
        have hP : va_P D vwCl (mWC y q (nI (t + i) + 1) (nI n) (yrC ((yrs n (nI t) C i).2) (nI (t + i)) n) w rt (nI r0) no sa to tr st im va) H := hP
        have hD : va_D A (mWC y q (nI (t + i) + 1) (nI n) (yrC ((yrs n (nI t) C i).2) (nI (t + i)) n) w rt (nI r0) no sa to tr st im va) := hD
        refine lv_iinc (v := (nI i + 1)) (lv' := [(2, .int (nI i + 1)), (0, .ref (q 0)), (1, .int (nI k))]) hx hb dX5_years_37 hl (k := 2) rfl rfl (by decide) rfl (fun ls hl => ?_)
        refine lv_goto (tgt := 28) hx hb dX5_years_40 (by decide) ?_
        have ey := (INV_yrs hI (i + 1) (by omega)).1
        have ez := (INV_yrs hI i (by omega)).1
        have hP : va_P D vwCl (mWC y q (nI (t + (i + 1))) (nI n) ((yrs n (nI t) C (i + 1)).2) w rt (nI r0) no sa to tr st im va) H := by rw [yrs_s, ez]; exact (nI_1 (t + i)) ▸ hP
        have hD : va_D A (mWC y q (nI (t + (i + 1))) (nI n) ((yrs n (nI t) C (i + 1)).2) w rt (nI r0) no sa to tr st im va) := by rw [yrs_s, ez]; exact (nI_1 (t + i)) ▸ hD
        have hP : va_P D vwCl (mWC y q (nI (t + (i + 1))) (nI n) ((yrs n (nI t) C (i + 1)).2) w rt (nI r0) no sa to tr st im va) H := hP
        have hD : va_D A (mWC y q (nI (t + (i + 1))) (nI n) ((yrs n (nI t) C (i + 1)).2) w rt (nI r0) no sa to tr st im va) := hD
        exact ihi (i + 1) ls H locs (by show k - (i + 1) < k - i; omega) (by show i + 1 ≤ k; omega) (lv_sub hl [1, 2, 0] (by
          show ([(0, .ref (q 0)), (1, .int (nI k)), (2, .int (nI i + 1))] : List (Nat × Value)) = [(0, .ref (q 0)), (1, .int (nI k)), (2, .int (nI (i + 1)))]
          rw [← nI_1])) hP hD hS
    · skip
      refine lv_bipush (v := (-2)) hx hb dX5_years_23 (by decide) ?_
      exact mu_iret (nI t, C) hx hb hr hlocks hP hD hS dX5_years_25 (by simp [yearsF, c_1, ek, c_2])
  · skip
    have c_1 := zI_0 c_1
    refine lv_iconst (v := (-1)) hx hb dX5_years_10 (by decide) ?_
    exact mu_iret (nI t, C) hx hb hr hlocks hP hD hS dX5_years_11 (by simp [yearsF, c_1])

set_option maxHeartbeats 4000000 in
set_option maxRecDepth 100000 in
theorem kX5_move (l : Launch) (D : va_G) (y : Nat → ClassId) (q : Nat → Nat) (t n : Nat) (C : Nat → CT) (w : Nat → Int32) (rt : Int32) (r0 : Nat) (no sa to : Nat → Int32) (tr : Int64) (st im va : Nat → Int32) (c0 : Int32) (f0 : Int32) (sz : Nat) (hn : n ≤ 12) : Met l yX5_move wsX5_move ({ frames := 2, cells := 0, slots := 0, locals := 43 }) (va_Pc [.ref (q 0), .int c0, .int f0] (muB D (mTy y) (mWC y q (nI t) (nI n) C w rt (nI r0) no sa to tr st im va) sz eT)) (QI (σ := Nat → CT) D (fun r u => (r, u) = moveF n C c0 f0) (fun u => (mWC y q (nI t) (nI n) u w rt (nI r0) no sa to tr st im va)) (va_A (mWC y q (nI t) (nI n) C w rt (nI r0) no sa to tr st im va) sz)) 0 0 (va_A (mWC y q (nI t) (nI n) C w rt (nI r0) no sa to tr st im va) sz) := by
  refine mu_start (Qc := QI (σ := Nat → CT) D (fun r u => (r, u) = moveF n C c0 f0) (fun u => (mWC y q (nI t) (nI n) u w rt (nI r0) no sa to tr st im va))) (cc := cX5_move) (maxL := 4) (ret := (some .int)) (by decide) rfl (Nat.le_of_ble_eq_true rfl) ?_
  intro p e s m below meth c ls A hx hb hr hml hown hlocks hts hnm hA hP hK hN hD hE hAA hsz hl
  have hS : va_S A s.heap s.heap [] := va_S.rf
  have hown : s.vm.findClass RX5 = some m.cls := hown
  have F : CallFix p m c cX5_move 4 s [.ref (q 0), .int c0, .int f0].toArray wsX5_move RX5 := ⟨hx, hb, hml, hown, hts⟩
  have hl : lv_has ls 4 [(0, .ref (q 0)), (1, .int c0), (2, .int f0)] := hl
  have iX5 : ∀ w ∈ u_ws RX5 TX5 20, w ∈ wsX5_move := mem_pl [11, 12, 13, 14, 15, 16, 17, 18, 19, 20, 21, 22, 23, 24, 25, 26, 27, 28, 29, 30] rfl
  refine lv_aload_n hx hb dX5_move_0 rfl (lv_at hl 0 rfl) ?_
  refine lv_iload_n hx hb dX5_move_1 rfl (lv_at hl 1 rfl) ?_
  refine ro_i (va_runV (As := [.int c0]) (rest := []) F (kX5_isCask l D y q t n C w rt r0 no sa to tr st im va c0) (cwV 1 hts gX5_move_X5_isCask rfl rfl rfl ⟨rfl, hdX5_isCask⟩ ⟨(Nat.le_of_ble_eq_true rfl), (Nat.le_of_ble_eq_true rfl)⟩) ⟨rdB_blind, va_recv hK hP (ci := 5) (q0 := 0) rfl rfl, rdB_pre hP hK hN⟩ rfl rfl hl.1 rfl (lv_room (Nat.le_of_ble_eq_true rfl)) dX5_move_2 ⟨Nat.zero_le _, Nat.zero_le _⟩) ?_
  refine lv_if_eq (tgt := 17) hx hb dX5_move_5 (by decide) (fun c_1 => ?_) (fun c_1 => ?_)
  · skip
    have c_1 := zI_0 c_1
    refine lv_iconst (v := (-1)) hx hb dX5_move_17 (by decide) ?_
    exact mu_iret C hx hb hr hlocks hP hD hS dX5_move_18 (by simp [moveF, setF, c_1])
  · skip
    have c_1 := zI_1 c_1
    obtain ⟨j, hzj, rfl⟩ := isC_of hn c_1
    have ej : (nI j).toNatClampNeg = j := nI_clamp (by omega)
    refine lv_iload_n hx hb dX5_move_8 rfl (lv_at hl 2 rfl) ?_
    refine lv_iconst (v := 0) hx hb dX5_move_9 (by decide) ?_
    refine lv_iconst (v := 3) hx hb dX5_move_10 (by decide) ?_
    refine ro_i (va_runS (As := [.int f0, .int 0, .int 3]) (rest := []) F (kX5_in l f0 0 3) (va_cwS 3 hts gX5_move_X5_in rfl rfl rfl hdX5_in ⟨(Nat.le_of_ble_eq_true rfl), (Nat.le_of_ble_eq_true rfl)⟩) ⟨tr_blind, tr_pre⟩ rfl rfl hl.1 rfl (lv_room (Nat.le_of_ble_eq_true rfl)) dX5_move_11 ⟨Nat.zero_le _, Nat.zero_le _⟩) ?_
    refine lv_if_ne (tgt := 19) hx hb dX5_move_14 (by decide) (fun c_2 => ?_) (fun c_2 => ?_)
    · skip
      have c_2 := zI_1 c_2
      refine lv_aload_n hx hb dX5_move_19 rfl (lv_at hl 0 rfl) ?_
      refine va_get (D := D) (ci := 5) (v := .ref (q 4)) (C := RX5) (T := TX5) (N := 20) hx hb hts iX5 hown hK hP 0 rfl rfl 5 (by decide) (hts _ (List.mem_of_getElem? (i := 1) rfl)) (fun _ h9 => h9) rfl dX5_move_20 ?_
      refine lv_iload_n hx hb dX5_move_23 rfl (lv_at hl 1 rfl) ?_
      refine wa_iald hx hb hK hP 4 3 rfl rfl j rfl (by omega) (by decide) dX5_move_24 ?_
      refine lv_istore_n (lv' := [(3, .int (c_fl (C j))), (0, .ref (q 0)), (1, .int (nI j)), (2, .int f0)]) hx hb dX5_move_25 rfl hl (by decide) rfl (fun ls hl => ?_)
      refine lv_aload_n hx hb dX5_move_26 rfl (lv_at hl 1 rfl) ?_
      refine va_get (D := D) (ci := 5) (v := .ref (q 4)) (C := RX5) (T := TX5) (N := 20) hx hb hts iX5 hown hK hP 0 rfl rfl 5 (by decide) (hts _ (List.mem_of_getElem? (i := 1) rfl)) (fun _ h9 => h9) rfl dX5_move_27 ?_
      refine lv_iload_n hx hb dX5_move_30 rfl (lv_at hl 2 rfl) ?_
      refine lv_iload_n hx hb dX5_move_31 rfl (lv_at hl 3 rfl) ?_
      refine wa_iast (v := f0) hx hb hK hP hD hS 4 3 rfl rfl j rfl (by omega) (by decide) dX5_move_32 (fun H locs hP hD hS => ?_)
      have hP : va_P D vwCl (mWC y q (nI t) (nI n) (va_up C j (c_kd (C j), c_dr (C j), c_sg (C j), f0, c_ok (C j), c_sm (C j), c_sw (C j), c_la (C j))) w rt (nI r0) no sa to tr st im va) H := mcP_fl hP
      have hD : va_D A (mWC y q (nI t) (nI n) (va_up C j (c_kd (C j), c_dr (C j), c_sg (C j), f0, c_ok (C j), c_sm (C j), c_sw (C j), c_la (C j))) w rt (nI r0) no sa to tr st im va) := mcD_fl hD
      refine lv_iload_n hx hb dX5_move_33 rfl (lv_at hl 0 rfl) ?_
      exact mu_iret (va_up C j (c_kd (C j), c_dr (C j), c_sg (C j), f0, c_ok (C j), c_sm (C j), c_sw (C j), c_la (C j))) hx hb hr hlocks hP hD hS dX5_move_34 (by simp [moveF, setF, c_1, ej, c_2])
    · skip
      have c_2 := zI_0 c_2
      refine lv_iconst (v := (-1)) hx hb dX5_move_17 (by decide) ?_
      exact mu_iret C hx hb hr hlocks hP hD hS dX5_move_18 (by simp [moveF, setF, c_1, ej, c_2])

set_option maxHeartbeats 4000000 in
set_option maxRecDepth 100000 in
theorem kX5_draw (l : Launch) (D : va_G) (y : Nat → ClassId) (q : Nat → Nat) (t n : Nat) (C : Nat → CT) (w : Nat → Int32) (rt : Int32) (r0 : Nat) (no sa to : Nat → Int32) (tr : Int64) (st im va : Nat → Int32) (c0 : Int32) (v0 : Int32) (sz : Nat) (hn : n ≤ 12) : Met l yX5_draw wsX5_draw ({ frames := 2, cells := 0, slots := 0, locals := 43 }) (va_Pc [.ref (q 0), .int c0, .int v0] (muB D (mTy y) (mWC y q (nI t) (nI n) C w rt (nI r0) no sa to tr st im va) sz eT)) (QI (σ := Nat → CT) D (fun r u => (r, u) = drawF n C c0 v0) (fun u => (mWC y q (nI t) (nI n) u w rt (nI r0) no sa to tr st im va)) (va_A (mWC y q (nI t) (nI n) C w rt (nI r0) no sa to tr st im va) sz)) 0 0 (va_A (mWC y q (nI t) (nI n) C w rt (nI r0) no sa to tr st im va) sz) := by
  refine mu_start (Qc := QI (σ := Nat → CT) D (fun r u => (r, u) = drawF n C c0 v0) (fun u => (mWC y q (nI t) (nI n) u w rt (nI r0) no sa to tr st im va))) (cc := cX5_draw) (maxL := 3) (ret := (some .int)) (by decide) rfl (Nat.le_of_ble_eq_true rfl) ?_
  intro p e s m below meth c ls A hx hb hr hml hown hlocks hts hnm hA hP hK hN hD hE hAA hsz hl
  have hS : va_S A s.heap s.heap [] := va_S.rf
  have hown : s.vm.findClass RX5 = some m.cls := hown
  have F : CallFix p m c cX5_draw 3 s [.ref (q 0), .int c0, .int v0].toArray wsX5_draw RX5 := ⟨hx, hb, hml, hown, hts⟩
  have hl : lv_has ls 3 [(0, .ref (q 0)), (1, .int c0), (2, .int v0)] := hl
  have iX5 : ∀ w ∈ u_ws RX5 TX5 20, w ∈ wsX5_draw := mem_pl [11, 12, 13, 14, 15, 16, 17, 18, 19, 20, 21, 22, 23, 24, 25, 26, 27, 28, 29, 30] rfl
  refine lv_aload_n hx hb dX5_draw_0 rfl (lv_at hl 0 rfl) ?_
  refine lv_iload_n hx hb dX5_draw_1 rfl (lv_at hl 1 rfl) ?_
  refine ro_i (va_runV (As := [.int c0]) (rest := []) F (kX5_isCask l D y q t n C w rt r0 no sa to tr st im va c0) (cwV 1 hts gX5_draw_X5_isCask rfl rfl rfl ⟨rfl, hdX5_isCask⟩ ⟨(Nat.le_of_ble_eq_true rfl), (Nat.le_of_ble_eq_true rfl)⟩) ⟨rdB_blind, va_recv hK hP (ci := 5) (q0 := 0) rfl rfl, rdB_pre hP hK hN⟩ rfl rfl hl.1 rfl (lv_room (Nat.le_of_ble_eq_true rfl)) dX5_draw_2 ⟨Nat.zero_le _, Nat.zero_le _⟩) ?_
  refine lv_if_eq (tgt := 22) hx hb dX5_draw_5 (by decide) (fun c_1 => ?_) (fun c_1 => ?_)
  · skip
    have c_1 := zI_0 c_1
    refine lv_iconst (v := (-1)) hx hb dX5_draw_22 (by decide) ?_
    exact mu_iret C hx hb hr hlocks hP hD hS dX5_draw_23 (by simp [drawF, setD, c_1])
  · skip
    have c_1 := zI_1 c_1
    obtain ⟨j, hzj, rfl⟩ := isC_of hn c_1
    have ej : (nI j).toNatClampNeg = j := nI_clamp (by omega)
    refine lv_iload_n hx hb dX5_draw_8 rfl (lv_at hl 2 rfl) ?_
    refine lv_iconst (v := 0) hx hb dX5_draw_9 (by decide) ?_
    refine lv_aload_n hx hb dX5_draw_10 rfl (lv_at hl 0 rfl) ?_
    refine va_get (D := D) (ci := 5) (v := .ref (q 2)) (C := RX5) (T := TX5) (N := 20) hx hb hts iX5 hown hK hP 0 rfl rfl 3 (by decide) (hts _ (List.mem_of_getElem? (i := 1) rfl)) (fun _ h9 => h9) rfl dX5_draw_11 ?_
    refine lv_iload_n hx hb dX5_draw_14 rfl (lv_at hl 1 rfl) ?_
    refine wa_iald hx hb hK hP 2 1 rfl rfl j rfl (by omega) (by decide) dX5_draw_15 ?_
    refine ro_i (va_runS (As := [.int v0, .int 0, .int (c_dr (C j))]) (rest := []) F (kX5_in l v0 0 (c_dr (C j))) (va_cwS 3 hts gX5_draw_X5_in rfl rfl rfl hdX5_in ⟨(Nat.le_of_ble_eq_true rfl), (Nat.le_of_ble_eq_true rfl)⟩) ⟨tr_blind, tr_pre⟩ rfl rfl hl.1 rfl (lv_room (Nat.le_of_ble_eq_true rfl)) dX5_draw_16 ⟨Nat.zero_le _, Nat.zero_le _⟩) ?_
    refine lv_if_ne (tgt := 24) hx hb dX5_draw_19 (by decide) (fun c_2 => ?_) (fun c_2 => ?_)
    · skip
      have c_2 := zI_1 c_2
      refine lv_aload_n hx hb dX5_draw_24 rfl (lv_at hl 0 rfl) ?_
      refine va_get (D := D) (ci := 5) (v := .ref (q 2)) (C := RX5) (T := TX5) (N := 20) hx hb hts iX5 hown hK hP 0 rfl rfl 3 (by decide) (hts _ (List.mem_of_getElem? (i := 1) rfl)) (fun _ h9 => h9) rfl dX5_draw_25 ?_
      refine lv_iload_n hx hb dX5_draw_28 rfl (lv_at hl 1 rfl) ?_
      refine lv_dup2_11 hx hb dX5_draw_29 rfl rfl ?_
      refine wa_iald hx hb hK hP 2 1 rfl rfl j rfl (by omega) (by decide) dX5_draw_30 ?_
      refine lv_iload_n hx hb dX5_draw_31 rfl (lv_at hl 2 rfl) ?_
      refine lv_isub hx hb dX5_draw_32 ?_
      refine wa_iast (v := ((c_dr (C j)) - v0)) hx hb hK hP hD hS 2 1 rfl rfl j rfl (by omega) (by decide) dX5_draw_33 (fun H locs hP hD hS => ?_)
      have hP : va_P D vwCl (mWC y q (nI t) (nI n) (va_up C j (c_kd (C j), ((c_dr (C j)) - v0), c_sg (C j), c_fl (C j), c_ok (C j), c_sm (C j), c_sw (C j), c_la (C j))) w rt (nI r0) no sa to tr st im va) H := mcP_dr hP
      have hD : va_D A (mWC y q (nI t) (nI n) (va_up C j (c_kd (C j), ((c_dr (C j)) - v0), c_sg (C j), c_fl (C j), c_ok (C j), c_sm (C j), c_sw (C j), c_la (C j))) w rt (nI r0) no sa to tr st im va) := mcD_dr hD
      refine lv_aload_n hx hb dX5_draw_34 rfl (lv_at hl 0 rfl) ?_
      refine va_get (D := D) (ci := 5) (v := .ref (q 2)) (C := RX5) (T := TX5) (N := 20) hx hb hts iX5 hown hK hP 0 rfl rfl 3 (by decide) (hts _ (List.mem_of_getElem? (i := 1) rfl)) (fun _ h9 => h9) rfl dX5_draw_35 ?_
      refine lv_iload_n hx hb dX5_draw_38 rfl (lv_at hl 1 rfl) ?_
      refine wa_iald hx hb hK hP 2 1 rfl rfl j rfl (by omega) (by decide) dX5_draw_39 ?_
      rw [va_up_self]
      exact mu_iret (va_up C j (c_kd (C j), ((c_dr (C j)) - v0), c_sg (C j), c_fl (C j), c_ok (C j), c_sm (C j), c_sw (C j), c_la (C j))) hx hb hr hlocks hP hD hS dX5_draw_40 (by simp [drawF, setD, c_1, ej, c_2])
    · skip
      have c_2 := zI_0 c_2
      refine lv_iconst (v := (-1)) hx hb dX5_draw_22 (by decide) ?_
      exact mu_iret C hx hb hr hlocks hP hD hS dX5_draw_23 (by simp [drawF, setD, c_1, ej, c_2])

set_option maxHeartbeats 4000000 in
set_option maxRecDepth 100000 in
theorem kX5_want (l : Launch) (D : va_G) (y : Nat → ClassId) (q : Nat → Nat) (t n : Nat) (C : Nat → CT) (w : Nat → Int32) (rt : Int32) (r0 : Nat) (no sa to : Nat → Int32) (tr : Int64) (st im va : Nat → Int32) (k0 : Int32) (v0 : Int32) (sz : Nat) : Met l yX5_want wsX5_want ({ frames := 1, cells := 0, slots := 0, locals := 22 }) (va_Pc [.ref (q 0), .int k0, .int v0] (muB D (mTy y) (mWC y q (nI t) (nI n) C w rt (nI r0) no sa to tr st im va) sz eT)) (QI (σ := Nat → Int32) D (fun r u => (r, u) = wantF w k0 v0) (fun u => (mWC y q (nI t) (nI n) C u rt (nI r0) no sa to tr st im va)) (va_A (mWC y q (nI t) (nI n) C w rt (nI r0) no sa to tr st im va) sz)) 0 0 (va_A (mWC y q (nI t) (nI n) C w rt (nI r0) no sa to tr st im va) sz) := by
  refine mu_start (Qc := QI (σ := Nat → Int32) D (fun r u => (r, u) = wantF w k0 v0) (fun u => (mWC y q (nI t) (nI n) C u rt (nI r0) no sa to tr st im va))) (cc := cX5_want) (maxL := 5) (ret := (some .int)) (by decide) rfl (Nat.le_of_ble_eq_true rfl) ?_
  intro p e s m below meth c ls A hx hb hr hml hown hlocks hts hnm hA hP hK hN hD hE hAA hsz hl
  have hS : va_S A s.heap s.heap [] := va_S.rf
  have hown : s.vm.findClass RX5 = some m.cls := hown
  have F : CallFix p m c cX5_want 5 s [.ref (q 0), .int k0, .int v0].toArray wsX5_want RX5 := ⟨hx, hb, hml, hown, hts⟩
  have hl : lv_has ls 5 [(0, .ref (q 0)), (1, .int k0), (2, .int v0)] := hl
  have iX5 : ∀ w ∈ u_ws RX5 TX5 20, w ∈ wsX5_want := mem_pl [7, 8, 9, 10, 11, 12, 13, 14, 15, 16, 17, 18, 19, 20, 21, 22, 23, 24, 25, 26] rfl
  refine lv_iload_n hx hb dX5_want_0 rfl (lv_at hl 1 rfl) ?_
  refine lv_if_ne (tgt := 9) hx hb dX5_want_1 (by decide) (fun c_1 => ?_) (fun c_1 => ?_)
  · skip
    refine lv_iload_n hx hb dX5_want_9 rfl (lv_at hl 1 rfl) ?_
    refine lv_iconst (v := 1) hx hb dX5_want_10 (by decide) ?_
    refine lv_icmp_ne (tgt := 19) hx hb dX5_want_11 (by decide) (fun c_2 => ?_) (fun c_2 => ?_)
    · skip
      refine lv_sipush (v := 9999) hx hb dX5_want_19 (by decide) ?_
      refine lv_istore_n (lv' := [(3, .int 9999), (0, .ref (q 0)), (1, .int k0), (2, .int v0)]) hx hb dX5_want_22 rfl hl (by decide) rfl (fun ls hl => ?_)
      refine lv_iload_n hx hb dX5_want_23 rfl (lv_at hl 2 rfl) ?_
      refine lv_iconst (v := 0) hx hb dX5_want_24 (by decide) ?_
      refine lv_bipush (v := 7) hx hb dX5_want_25 (by decide) ?_
      refine ro_i (va_runS (As := [.int k0, .int 0, .int 7]) (rest := []) F (kX5_in l k0 0 7) (va_cwS 3 hts gX5_want_X5_in rfl rfl rfl hdX5_in ⟨(Nat.le_of_ble_eq_true rfl), (Nat.le_of_ble_eq_true rfl)⟩) ⟨tr_blind, tr_pre⟩ rfl rfl hl.1 rfl (lv_room (Nat.le_of_ble_eq_true rfl)) dX5_want_27 ⟨Nat.zero_le _, Nat.zero_le _⟩) ?_
      refine lv_if_eq (tgt := 42) hx hb dX5_want_30 (by decide) (fun c_3 => ?_) (fun c_3 => ?_)
      · skip
        have c_3 := zI_0 c_3
        refine lv_iconst (v := (-1)) hx hb dX5_want_42 (by decide) ?_
        exact mu_iret w hx hb hr hlocks hP hD hS dX5_want_43 (by simp_all [wantF, mostW])
      · skip
        have c_3 := zI_1 c_3
        obtain ⟨k, hzk, rfl⟩ := inR_of (k := 7) (by decide) (by decide) c_3
        have ek : (nI k).toNatClampNeg = k := nI_clamp (by omega)
        refine lv_iload_n hx hb dX5_want_33 rfl (lv_at hl 3 rfl) ?_
        refine lv_iconst (v := 0) hx hb dX5_want_34 (by decide) ?_
        refine lv_iload_n hx hb dX5_want_35 rfl (lv_at hl 0 rfl) ?_
        refine ro_i (va_runS (As := [.int v0, .int 0, .int 9999]) (rest := []) F (kX5_in l v0 0 9999) (va_cwS 3 hts gX5_want_X5_in rfl rfl rfl hdX5_in ⟨(Nat.le_of_ble_eq_true rfl), (Nat.le_of_ble_eq_true rfl)⟩) ⟨tr_blind, tr_pre⟩ rfl rfl hl.1 rfl (lv_room (Nat.le_of_ble_eq_true rfl)) dX5_want_36 ⟨Nat.zero_le _, Nat.zero_le _⟩) ?_
        refine lv_if_ne (tgt := 44) hx hb dX5_want_39 (by decide) (fun c_4 => ?_) (fun c_4 => ?_)
        · skip
          have c_4 := zI_1 c_4
          refine lv_aload_n hx hb dX5_want_44 rfl (lv_at hl 1 rfl) ?_
          refine va_get (D := D) (ci := 5) (v := .ref (q 9)) (C := RX5) (T := TX5) (N := 20) hx hb hts iX5 hown hK hP 0 rfl rfl 10 (by decide) (hts _ (List.mem_of_getElem? (i := 2) rfl)) (fun _ h9 => h9) rfl dX5_want_45 ?_
          refine lv_iload_n hx hb dX5_want_48 rfl (lv_at hl 2 rfl) ?_
          refine wa_iald hx hb hK hP 9 8 rfl rfl k rfl (by omega) (by decide) dX5_want_49 ?_
          refine lv_istore (lv' := [(4, .int (w k)), (3, .int 9999), (0, .ref (q 0)), (1, .int (nI k)), (2, .int v0)]) hx hb dX5_want_50 hl (by decide) rfl (fun ls hl => ?_)
          refine lv_aload_n hx hb dX5_want_52 rfl (lv_at hl 2 rfl) ?_
          refine va_get (D := D) (ci := 5) (v := .ref (q 9)) (C := RX5) (T := TX5) (N := 20) hx hb hts iX5 hown hK hP 0 rfl rfl 10 (by decide) (hts _ (List.mem_of_getElem? (i := 2) rfl)) (fun _ h9 => h9) rfl dX5_want_53 ?_
          refine lv_iload_n hx hb dX5_want_56 rfl (lv_at hl 3 rfl) ?_
          refine lv_iload_n hx hb dX5_want_57 rfl (lv_at hl 4 rfl) ?_
          refine wa_iast (v := v0) hx hb hK hP hD hS 9 8 rfl rfl k rfl (by omega) (by decide) dX5_want_58 (fun H locs hP hD hS => ?_)
          have hP : va_P D vwCl (mWC y q (nI t) (nI n) C (upd w k v0) rt (nI r0) no sa to tr st im va) H := hP
          have hD : va_D A (mWC y q (nI t) (nI n) C (upd w k v0) rt (nI r0) no sa to tr st im va) := hD
          refine lv_iload hx hb dX5_want_59 (lv_at hl 0 rfl) ?_
          exact mu_iret (upd w k v0) hx hb hr hlocks hP hD hS dX5_want_61 (by simp_all [wantF, mostW])
        · skip
          have c_4 := zI_0 c_4
          refine lv_iconst (v := (-1)) hx hb dX5_want_42 (by decide) ?_
          exact mu_iret w hx hb hr hlocks hP hD hS dX5_want_43 (by simp_all [wantF, mostW])
    · skip
      refine lv_bipush (v := 60) hx hb dX5_want_14 (by decide) ?_
      refine lv_goto (tgt := 22) hx hb dX5_want_16 (by decide) ?_
      refine lv_istore_n (lv' := [(3, .int 60), (0, .ref (q 0)), (1, .int k0), (2, .int v0)]) hx hb dX5_want_22 rfl hl (by decide) rfl (fun ls hl => ?_)
      refine lv_iload_n hx hb dX5_want_23 rfl (lv_at hl 2 rfl) ?_
      refine lv_iconst (v := 0) hx hb dX5_want_24 (by decide) ?_
      refine lv_bipush (v := 7) hx hb dX5_want_25 (by decide) ?_
      refine ro_i (va_runS (As := [.int k0, .int 0, .int 7]) (rest := []) F (kX5_in l k0 0 7) (va_cwS 3 hts gX5_want_X5_in rfl rfl rfl hdX5_in ⟨(Nat.le_of_ble_eq_true rfl), (Nat.le_of_ble_eq_true rfl)⟩) ⟨tr_blind, tr_pre⟩ rfl rfl hl.1 rfl (lv_room (Nat.le_of_ble_eq_true rfl)) dX5_want_27 ⟨Nat.zero_le _, Nat.zero_le _⟩) ?_
      refine lv_if_eq (tgt := 42) hx hb dX5_want_30 (by decide) (fun c_5 => ?_) (fun c_5 => ?_)
      · skip
        have c_5 := zI_0 c_5
        refine lv_iconst (v := (-1)) hx hb dX5_want_42 (by decide) ?_
        exact mu_iret w hx hb hr hlocks hP hD hS dX5_want_43 (by simp_all [wantF, mostW])
      · skip
        have c_5 := zI_1 c_5
        obtain ⟨k, hzk, rfl⟩ := inR_of (k := 7) (by decide) (by decide) c_5
        have ek : (nI k).toNatClampNeg = k := nI_clamp (by omega)
        refine lv_iload_n hx hb dX5_want_33 rfl (lv_at hl 3 rfl) ?_
        refine lv_iconst (v := 0) hx hb dX5_want_34 (by decide) ?_
        refine lv_iload_n hx hb dX5_want_35 rfl (lv_at hl 0 rfl) ?_
        refine ro_i (va_runS (As := [.int v0, .int 0, .int 60]) (rest := []) F (kX5_in l v0 0 60) (va_cwS 3 hts gX5_want_X5_in rfl rfl rfl hdX5_in ⟨(Nat.le_of_ble_eq_true rfl), (Nat.le_of_ble_eq_true rfl)⟩) ⟨tr_blind, tr_pre⟩ rfl rfl hl.1 rfl (lv_room (Nat.le_of_ble_eq_true rfl)) dX5_want_36 ⟨Nat.zero_le _, Nat.zero_le _⟩) ?_
        refine lv_if_ne (tgt := 44) hx hb dX5_want_39 (by decide) (fun c_6 => ?_) (fun c_6 => ?_)
        · skip
          have c_6 := zI_1 c_6
          refine lv_aload_n hx hb dX5_want_44 rfl (lv_at hl 1 rfl) ?_
          refine va_get (D := D) (ci := 5) (v := .ref (q 9)) (C := RX5) (T := TX5) (N := 20) hx hb hts iX5 hown hK hP 0 rfl rfl 10 (by decide) (hts _ (List.mem_of_getElem? (i := 2) rfl)) (fun _ h9 => h9) rfl dX5_want_45 ?_
          refine lv_iload_n hx hb dX5_want_48 rfl (lv_at hl 2 rfl) ?_
          refine wa_iald hx hb hK hP 9 8 rfl rfl k rfl (by omega) (by decide) dX5_want_49 ?_
          refine lv_istore (lv' := [(4, .int (w k)), (3, .int 60), (0, .ref (q 0)), (1, .int (nI k)), (2, .int v0)]) hx hb dX5_want_50 hl (by decide) rfl (fun ls hl => ?_)
          refine lv_aload_n hx hb dX5_want_52 rfl (lv_at hl 2 rfl) ?_
          refine va_get (D := D) (ci := 5) (v := .ref (q 9)) (C := RX5) (T := TX5) (N := 20) hx hb hts iX5 hown hK hP 0 rfl rfl 10 (by decide) (hts _ (List.mem_of_getElem? (i := 2) rfl)) (fun _ h9 => h9) rfl dX5_want_53 ?_
          refine lv_iload_n hx hb dX5_want_56 rfl (lv_at hl 3 rfl) ?_
          refine lv_iload_n hx hb dX5_want_57 rfl (lv_at hl 4 rfl) ?_
          refine wa_iast (v := v0) hx hb hK hP hD hS 9 8 rfl rfl k rfl (by omega) (by decide) dX5_want_58 (fun H locs hP hD hS => ?_)
          have hP : va_P D vwCl (mWC y q (nI t) (nI n) C (upd w k v0) rt (nI r0) no sa to tr st im va) H := hP
          have hD : va_D A (mWC y q (nI t) (nI n) C (upd w k v0) rt (nI r0) no sa to tr st im va) := hD
          refine lv_iload hx hb dX5_want_59 (lv_at hl 0 rfl) ?_
          exact mu_iret (upd w k v0) hx hb hr hlocks hP hD hS dX5_want_61 (by simp_all [wantF, mostW])
        · skip
          have c_6 := zI_0 c_6
          refine lv_iconst (v := (-1)) hx hb dX5_want_42 (by decide) ?_
          exact mu_iret w hx hb hr hlocks hP hD hS dX5_want_43 (by simp_all [wantF, mostW])
  · skip
    refine lv_ldc (v := 99999) hx hb hown (hts _ (List.mem_of_getElem? (i := 1) rfl)) dX5_want_4 ?_
    refine lv_goto (tgt := 22) hx hb dX5_want_6 (by decide) ?_
    refine lv_istore_n (lv' := [(3, .int 99999), (0, .ref (q 0)), (1, .int k0), (2, .int v0)]) hx hb dX5_want_22 rfl hl (by decide) rfl (fun ls hl => ?_)
    refine lv_iload_n hx hb dX5_want_23 rfl (lv_at hl 2 rfl) ?_
    refine lv_iconst (v := 0) hx hb dX5_want_24 (by decide) ?_
    refine lv_bipush (v := 7) hx hb dX5_want_25 (by decide) ?_
    refine ro_i (va_runS (As := [.int k0, .int 0, .int 7]) (rest := []) F (kX5_in l k0 0 7) (va_cwS 3 hts gX5_want_X5_in rfl rfl rfl hdX5_in ⟨(Nat.le_of_ble_eq_true rfl), (Nat.le_of_ble_eq_true rfl)⟩) ⟨tr_blind, tr_pre⟩ rfl rfl hl.1 rfl (lv_room (Nat.le_of_ble_eq_true rfl)) dX5_want_27 ⟨Nat.zero_le _, Nat.zero_le _⟩) ?_
    refine lv_if_eq (tgt := 42) hx hb dX5_want_30 (by decide) (fun c_7 => ?_) (fun c_7 => ?_)
    · skip
      have c_7 := zI_0 c_7
      refine lv_iconst (v := (-1)) hx hb dX5_want_42 (by decide) ?_
      exact mu_iret w hx hb hr hlocks hP hD hS dX5_want_43 (by simp_all [wantF, mostW])
    · skip
      have c_7 := zI_1 c_7
      obtain ⟨k, hzk, rfl⟩ := inR_of (k := 7) (by decide) (by decide) c_7
      have ek : (nI k).toNatClampNeg = k := nI_clamp (by omega)
      refine lv_iload_n hx hb dX5_want_33 rfl (lv_at hl 3 rfl) ?_
      refine lv_iconst (v := 0) hx hb dX5_want_34 (by decide) ?_
      refine lv_iload_n hx hb dX5_want_35 rfl (lv_at hl 0 rfl) ?_
      refine ro_i (va_runS (As := [.int v0, .int 0, .int 99999]) (rest := []) F (kX5_in l v0 0 99999) (va_cwS 3 hts gX5_want_X5_in rfl rfl rfl hdX5_in ⟨(Nat.le_of_ble_eq_true rfl), (Nat.le_of_ble_eq_true rfl)⟩) ⟨tr_blind, tr_pre⟩ rfl rfl hl.1 rfl (lv_room (Nat.le_of_ble_eq_true rfl)) dX5_want_36 ⟨Nat.zero_le _, Nat.zero_le _⟩) ?_
      refine lv_if_ne (tgt := 44) hx hb dX5_want_39 (by decide) (fun c_8 => ?_) (fun c_8 => ?_)
      · skip
        have c_8 := zI_1 c_8
        refine lv_aload_n hx hb dX5_want_44 rfl (lv_at hl 1 rfl) ?_
        refine va_get (D := D) (ci := 5) (v := .ref (q 9)) (C := RX5) (T := TX5) (N := 20) hx hb hts iX5 hown hK hP 0 rfl rfl 10 (by decide) (hts _ (List.mem_of_getElem? (i := 2) rfl)) (fun _ h9 => h9) rfl dX5_want_45 ?_
        refine lv_iload_n hx hb dX5_want_48 rfl (lv_at hl 2 rfl) ?_
        refine wa_iald hx hb hK hP 9 8 rfl rfl k rfl (by omega) (by decide) dX5_want_49 ?_
        refine lv_istore (lv' := [(4, .int (w k)), (3, .int 99999), (0, .ref (q 0)), (1, .int (nI k)), (2, .int v0)]) hx hb dX5_want_50 hl (by decide) rfl (fun ls hl => ?_)
        refine lv_aload_n hx hb dX5_want_52 rfl (lv_at hl 2 rfl) ?_
        refine va_get (D := D) (ci := 5) (v := .ref (q 9)) (C := RX5) (T := TX5) (N := 20) hx hb hts iX5 hown hK hP 0 rfl rfl 10 (by decide) (hts _ (List.mem_of_getElem? (i := 2) rfl)) (fun _ h9 => h9) rfl dX5_want_53 ?_
        refine lv_iload_n hx hb dX5_want_56 rfl (lv_at hl 3 rfl) ?_
        refine lv_iload_n hx hb dX5_want_57 rfl (lv_at hl 4 rfl) ?_
        refine wa_iast (v := v0) hx hb hK hP hD hS 9 8 rfl rfl k rfl (by omega) (by decide) dX5_want_58 (fun H locs hP hD hS => ?_)
        have hP : va_P D vwCl (mWC y q (nI t) (nI n) C (upd w k v0) rt (nI r0) no sa to tr st im va) H := hP
        have hD : va_D A (mWC y q (nI t) (nI n) C (upd w k v0) rt (nI r0) no sa to tr st im va) := hD
        refine lv_iload hx hb dX5_want_59 (lv_at hl 0 rfl) ?_
        exact mu_iret (upd w k v0) hx hb hr hlocks hP hD hS dX5_want_61 (by simp_all [wantF, mostW])
      · skip
        have c_8 := zI_0 c_8
        refine lv_iconst (v := (-1)) hx hb dX5_want_42 (by decide) ?_
        exact mu_iret w hx hb hr hlocks hP hD hS dX5_want_43 (by simp_all [wantF, mostW])

set_option maxHeartbeats 4000000 in
set_option maxRecDepth 100000 in
theorem kX5_rate (l : Launch) (D : va_G) (y : Nat → ClassId) (q : Nat → Nat) (t n : Nat) (C : Nat → CT) (w : Nat → Int32) (rt : Int32) (r0 : Nat) (no sa to : Nat → Int32) (tr : Int64) (st im va : Nat → Int32) (v0 : Int32) (sz : Nat) : Met l yX5_rate wsX5_rate ({ frames := 1, cells := 0, slots := 0, locals := 22 }) (va_Pc [.ref (q 0), .int v0] (muB D (mTy y) (mWC y q (nI t) (nI n) C w rt (nI r0) no sa to tr st im va) sz eT)) (QI (σ := Int32) D (fun r u => (r, u) = rateF rt v0) (fun u => (mWC y q (nI t) (nI n) C w u (nI r0) no sa to tr st im va)) (va_A (mWC y q (nI t) (nI n) C w rt (nI r0) no sa to tr st im va) sz)) 0 0 (va_A (mWC y q (nI t) (nI n) C w rt (nI r0) no sa to tr st im va) sz) := by
  refine mu_start (Qc := QI (σ := Int32) D (fun r u => (r, u) = rateF rt v0) (fun u => (mWC y q (nI t) (nI n) C w u (nI r0) no sa to tr st im va))) (cc := cX5_rate) (maxL := 3) (ret := (some .int)) (by decide) rfl (Nat.le_of_ble_eq_true rfl) ?_
  intro p e s m below meth c ls A hx hb hr hml hown hlocks hts hnm hA hP hK hN hD hE hAA hsz hl
  have hS : va_S A s.heap s.heap [] := va_S.rf
  have hown : s.vm.findClass RX5 = some m.cls := hown
  have F : CallFix p m c cX5_rate 3 s [.ref (q 0), .int v0].toArray wsX5_rate RX5 := ⟨hx, hb, hml, hown, hts⟩
  have hl : lv_has ls 3 [(0, .ref (q 0)), (1, .int v0)] := hl
  have iX5 : ∀ w ∈ u_ws RX5 TX5 20, w ∈ wsX5_rate := mem_pl [6, 7, 8, 9, 10, 11, 12, 13, 14, 15, 16, 17, 18, 19, 20, 21, 22, 23, 24, 25] rfl
  refine lv_iload_n hx hb dX5_rate_0 rfl (lv_at hl 1 rfl) ?_
  refine lv_iconst (v := 0) hx hb dX5_rate_1 (by decide) ?_
  refine lv_bipush (v := 100) hx hb dX5_rate_2 (by decide) ?_
  refine ro_i (va_runS (As := [.int v0, .int 0, .int 100]) (rest := []) F (kX5_in l v0 0 100) (va_cwS 3 hts gX5_rate_X5_in rfl rfl rfl hdX5_in ⟨(Nat.le_of_ble_eq_true rfl), (Nat.le_of_ble_eq_true rfl)⟩) ⟨tr_blind, tr_pre⟩ rfl rfl hl.1 rfl (lv_room (Nat.le_of_ble_eq_true rfl)) dX5_rate_4 ⟨Nat.zero_le _, Nat.zero_le _⟩) ?_
  refine lv_if_ne (tgt := 12) hx hb dX5_rate_7 (by decide) (fun c_1 => ?_) (fun c_1 => ?_)
  · skip
    have c_1 := zI_1 c_1
    refine lv_aload_n hx hb dX5_rate_12 rfl (lv_at hl 0 rfl) ?_
    refine va_get (D := D) (ci := 5) (v := .int rt) (C := RX5) (T := TX5) (N := 20) hx hb hts iX5 hown hK hP 0 rfl rfl 11 (by decide) (hts _ (List.mem_of_getElem? (i := 1) rfl)) (fun _ h9 => h9) rfl dX5_rate_13 ?_
    refine lv_istore_n (lv' := [(2, .int rt), (0, .ref (q 0)), (1, .int v0)]) hx hb dX5_rate_16 rfl hl (by decide) rfl (fun ls hl => ?_)
    refine lv_aload_n hx hb dX5_rate_17 rfl (lv_at hl 1 rfl) ?_
    refine lv_iload_n hx hb dX5_rate_18 rfl (lv_at hl 2 rfl) ?_
    refine va_put (D := D) (ci := 5) (v := .int v0) (ty := .int) (C := RX5) (T := TX5) (N := 20) hx hb hts iX5 tyX5 tyX5_ok nmX5 hown hK hP hD hS 0 rfl rfl 11 (by decide) (hts _ (List.mem_of_getElem? (i := 1) rfl)) (fun _ h9 => h9) rfl (by decide +kernel) rfl rfl (Nat.le_of_ble_eq_true rfl) dX5_rate_19 (fun H locs hP hD hS => ?_)
    have hP : va_P D vwCl (mWC y q (nI t) (nI n) C w v0 (nI r0) no sa to tr st im va) H := hP
    have hD : va_D A (mWC y q (nI t) (nI n) C w v0 (nI r0) no sa to tr st im va) := hD
    refine lv_iload_n hx hb dX5_rate_22 rfl (lv_at hl 0 rfl) ?_
    exact mu_iret v0 hx hb hr hlocks hP hD hS dX5_rate_23 (by simp [rateF, c_1])
  · skip
    have c_1 := zI_0 c_1
    refine lv_iconst (v := (-1)) hx hb dX5_rate_10 (by decide) ?_
    exact mu_iret rt hx hb hr hlocks hP hD hS dX5_rate_11 (by simp [rateF, c_1])

set_option maxHeartbeats 4000000 in
set_option maxRecDepth 100000 in
theorem kX5_cut (l : Launch) (D : va_G) (y : Nat → ClassId) (q : Nat → Nat) (t n : Nat) (C : Nat → CT) (w : Nat → Int32) (rt : Int32) (r0 : Nat) (no sa to : Nat → Int32) (tr : Int64) (st im va : Nat → Int32) (c0 : Int32) (t0 : Int32) (hn : n ≤ 12) : Met l yX5_cut wsX5_cut ({ frames := 2, cells := 0, slots := 0, locals := 43 }) (va_Pc [.ref (q 0), .int c0, .int t0] (rdB D (mTy y) (mWC y q (nI t) (nI n) C w rt (nI r0) no sa to tr st im va))) (vp_Si (fun x => x = (cutF n C c0 t0))) 0 0 nF := by
  refine ro_start (cc := cX5_cut) (maxL := 4) (ret := (some .int)) (by decide) rfl (Nat.le_of_ble_eq_true rfl) ?_
  intro p e s m below meth c ls hx hb hr hml hown hlocks hts hnm hB hl
  obtain ⟨hP, hK, hN⟩ := hB
  have hown : s.vm.findClass RX5 = some m.cls := hown
  have F : CallFix p m c cX5_cut 4 s [.ref (q 0), .int c0, .int t0].toArray wsX5_cut RX5 := ⟨hx, hb, hml, hown, hts⟩
  have hl : lv_has ls 4 [(0, .ref (q 0)), (1, .int c0), (2, .int t0)] := hl
  have iX5 : ∀ w ∈ u_ws RX5 TX5 20, w ∈ wsX5_cut := mem_pl [12, 13, 14, 15, 16, 17, 18, 19, 20, 21, 22, 23, 24, 25, 26, 27, 28, 29, 30, 31] rfl
  refine lv_aload_n hx hb dX5_cut_0 rfl (lv_at hl 0 rfl) ?_
  refine lv_iload_n hx hb dX5_cut_1 rfl (lv_at hl 1 rfl) ?_
  refine ro_i (va_runV (As := [.int c0]) (rest := []) F (kX5_isCask l D y q t n C w rt r0 no sa to tr st im va c0) (cwV 1 hts gX5_cut_X5_isCask rfl rfl rfl ⟨rfl, hdX5_isCask⟩ ⟨(Nat.le_of_ble_eq_true rfl), (Nat.le_of_ble_eq_true rfl)⟩) ⟨rdB_blind, va_recv hK hP (ci := 5) (q0 := 0) rfl rfl, rdB_pre hP hK hN⟩ rfl rfl hl.1 rfl (lv_room (Nat.le_of_ble_eq_true rfl)) dX5_cut_2 ⟨Nat.zero_le _, Nat.zero_le _⟩) ?_
  refine lv_if_eq (tgt := 21) hx hb dX5_cut_5 (by decide) (fun c_1 => ?_) (fun c_1 => ?_)
  · skip
    have c_1 := zI_0 c_1
    refine lv_iconst (v := (-1)) hx hb dX5_cut_21 (by decide) ?_
    exact ro_iret hx hb hr hlocks dX5_cut_22 (by simp [cutF, c_1])
  · skip
    have c_1 := zI_1 c_1
    obtain ⟨j, hzj, rfl⟩ := isC_of hn c_1
    have ej : (nI j).toNatClampNeg = j := nI_clamp (by omega)
    refine lv_iload_n hx hb dX5_cut_8 rfl (lv_at hl 2 rfl) ?_
    refine lv_sipush (v := 300) hx hb dX5_cut_9 (by decide) ?_
    refine lv_sipush (v := 700) hx hb dX5_cut_12 (by decide) ?_
    refine ro_i (va_runS (As := [.int t0, .int 300, .int 700]) (rest := []) F (kX5_in l t0 300 700) (va_cwS 3 hts gX5_cut_X5_in rfl rfl rfl hdX5_in ⟨(Nat.le_of_ble_eq_true rfl), (Nat.le_of_ble_eq_true rfl)⟩) ⟨tr_blind, tr_pre⟩ rfl rfl hl.1 rfl (lv_room (Nat.le_of_ble_eq_true rfl)) dX5_cut_15 ⟨Nat.zero_le _, Nat.zero_le _⟩) ?_
    refine lv_if_ne (tgt := 23) hx hb dX5_cut_18 (by decide) (fun c_2 => ?_) (fun c_2 => ?_)
    · skip
      have c_2 := zI_1 c_2
      obtain ⟨y, hy1, hy2, rfl⟩ := in_nat (a := 300) (b := 700) (by decide) (by decide) c_2
      refine lv_aload_n hx hb dX5_cut_23 rfl (lv_at hl 0 rfl) ?_
      refine va_get (D := D) (ci := 5) (v := .ref (q 3)) (C := RX5) (T := TX5) (N := 20) hx hb hts iX5 hown hK hP 0 rfl rfl 4 (by decide) (hts _ (List.mem_of_getElem? (i := 1) rfl)) (fun _ h9 => h9) rfl dX5_cut_24 ?_
      refine lv_iload_n hx hb dX5_cut_27 rfl (lv_at hl 1 rfl) ?_
      refine wa_iald hx hb hK hP 3 2 rfl rfl j rfl (by omega) (by decide) dX5_cut_28 ?_
      refine lv_iload_n hx hb dX5_cut_29 rfl (lv_at hl 2 rfl) ?_
      refine lv_isub hx hb dX5_cut_30 ?_
      refine lv_istore_n (lv' := [(3, .int ((c_sg (C j)) - (nI y))), (0, .ref (q 0)), (1, .int (nI j)), (2, .int (nI y))]) hx hb dX5_cut_31 rfl hl (by decide) rfl (fun ls hl => ?_)
      refine lv_iload_n hx hb dX5_cut_32 rfl (lv_at hl 0 rfl) ?_
      refine lv_if_gt (tgt := 40) hx hb dX5_cut_33 (by decide) (fun c_3 => ?_) (fun c_3 => ?_)
      · skip
        refine lv_aload_n hx hb dX5_cut_40 rfl (lv_at hl 1 rfl) ?_
        refine va_get (D := D) (ci := 5) (v := .ref (q 2)) (C := RX5) (T := TX5) (N := 20) hx hb hts iX5 hown hK hP 0 rfl rfl 3 (by decide) (hts _ (List.mem_of_getElem? (i := 2) rfl)) (fun _ h9 => h9) rfl dX5_cut_41 ?_
        refine lv_iload_n hx hb dX5_cut_44 rfl (lv_at hl 2 rfl) ?_
        refine wa_iald hx hb hK hP 2 1 rfl rfl j rfl (by omega) (by decide) dX5_cut_45 ?_
        refine lv_iload_n hx hb dX5_cut_46 rfl (lv_at hl 0 rfl) ?_
        refine lv_imul hx hb dX5_cut_47 ?_
        refine lv_iload_n hx hb dX5_cut_48 rfl (lv_at hl 3 rfl) ?_
        refine lv_iadd hx hb dX5_cut_49 ?_
        refine lv_iconst (v := 1) hx hb dX5_cut_50 (by decide) ?_
        refine lv_isub hx hb dX5_cut_51 ?_
        refine lv_iload_n hx hb dX5_cut_52 rfl (lv_at hl 3 rfl) ?_
        refine lv_idiv hx hb dX5_cut_53 (cut_0 y (by omega) hy1).2.2 ?_
        exact ro_iret hx hb hr hlocks dX5_cut_54 (by unfold cutF; rw [if_pos ⟨c_1, c_2⟩, ej]; exact (cut_hi hy1 hy2 c_3).symm)
      · skip
        refine lv_iconst (v := 0) hx hb dX5_cut_36 (by decide) ?_
        refine lv_goto (tgt := 54) hx hb dX5_cut_37 (by decide) ?_
        exact ro_iret hx hb hr hlocks dX5_cut_54 (by unfold cutF; rw [if_pos ⟨c_1, c_2⟩, ej]; exact (cut_lo hy1 hy2 c_3).symm)
    · skip
      have c_2 := zI_0 c_2
      refine lv_iconst (v := (-1)) hx hb dX5_cut_21 (by decide) ?_
      exact ro_iret hx hb hr hlocks dX5_cut_22 (by simp [cutF, c_1, ej, c_2])

set_option maxHeartbeats 4000000 in
set_option maxRecDepth 100000 in
theorem kX5_duty (l : Launch) (D : va_G) (y : Nat → ClassId) (q : Nat → Nat) (t n : Nat) (C : Nat → CT) (w : Nat → Int32) (rt : Int32) (r0 : Nat) (no sa to : Nat → Int32) (tr : Int64) (st im va : Nat → Int32) (s0 : Int32) (hn : n ≤ 12) : Met l yX5_duty wsX5_duty ({ frames := 1, cells := 0, slots := 0, locals := 22 }) (va_Pc [.ref (q 0), .int s0] (rdB D (mTy y) (mWC y q (nI t) (nI n) C w rt (nI r0) no sa to tr st im va))) (vp_Si (fun x => x = (dutyF n C rt s0))) 0 0 nF := by
  refine ro_start (cc := cX5_duty) (maxL := 4) (ret := (some .int)) (by decide) rfl (Nat.le_of_ble_eq_true rfl) ?_
  intro p e s m below meth c ls hx hb hr hml hown hlocks hts hnm hB hl
  obtain ⟨hP, hK, hN⟩ := hB
  have hown : s.vm.findClass RX5 = some m.cls := hown
  have F : CallFix p m c cX5_duty 4 s [.ref (q 0), .int s0].toArray wsX5_duty RX5 := ⟨hx, hb, hml, hown, hts⟩
  have hl : lv_has ls 4 [(0, .ref (q 0)), (1, .int s0)] := hl
  have iX5 : ∀ w ∈ u_ws RX5 TX5 20, w ∈ wsX5_duty := mem_pl [12, 13, 14, 15, 16, 17, 18, 19, 20, 21, 22, 23, 24, 25, 26, 27, 28, 29, 30, 31] rfl
  refine lv_iload_n hx hb dX5_duty_0 rfl (lv_at hl 1 rfl) ?_
  refine lv_iconst (v := 0) hx hb dX5_duty_1 (by decide) ?_
  refine lv_iconst (v := 1) hx hb dX5_duty_2 (by decide) ?_
  refine lv_aload_n hx hb dX5_duty_3 rfl (lv_at hl 0 rfl) ?_
  refine va_get (D := D) (ci := 5) (v := .int (nI n)) (C := RX5) (T := TX5) (N := 20) hx hb hts iX5 hown hK hP 0 rfl rfl 1 (by decide) (hts _ (List.mem_of_getElem? (i := 1) rfl)) (fun _ h9 => h9) rfl dX5_duty_4 ?_
  refine lv_ishl hx hb dX5_duty_7 ?_
  refine lv_iconst (v := 1) hx hb dX5_duty_8 (by decide) ?_
  refine lv_isub hx hb dX5_duty_9 ?_
  refine ro_i (va_runS (As := [.int s0, .int 0, .int ((1 <<< ((nI n) &&& 31)) - 1)]) (rest := []) F (kX5_in l s0 0 ((1 <<< ((nI n) &&& 31)) - 1)) (va_cwS 3 hts gX5_duty_X5_in rfl rfl rfl hdX5_in ⟨(Nat.le_of_ble_eq_true rfl), (Nat.le_of_ble_eq_true rfl)⟩) ⟨tr_blind, tr_pre⟩ rfl rfl hl.1 rfl (lv_room (Nat.le_of_ble_eq_true rfl)) dX5_duty_10 ⟨Nat.zero_le _, Nat.zero_le _⟩) ?_
  refine lv_if_ne (tgt := 18) hx hb dX5_duty_13 (by decide) (fun c_1 => ?_) (fun c_1 => ?_)
  · skip
    have c_1 := zI_1 c_1
    refine lv_iconst (v := 0) hx hb dX5_duty_18 (by decide) ?_
    refine lv_istore_n (lv' := [(2, .int 0), (0, .ref (q 0)), (1, .int s0)]) hx hb dX5_duty_19 rfl hl (by decide) rfl (fun ls hl => ?_)
    refine lv_iconst (v := 0) hx hb dX5_duty_20 (by decide) ?_
    refine lv_istore_n (lv' := [(3, .int 0), (2, .int 0), (0, .ref (q 0)), (1, .int s0)]) hx hb dX5_duty_21 rfl hl (by decide) rfl (fun ls hl => ?_)
    refine W.lpR (pc := 22) (τ := Nat) (fun i => i ≤ n) (fun i ls => lv_has ls 4 [(0, .ref (q 0)), (1, .int s0), (2, .int (fN (dutf C rt s0) i 0)), (3, .int (nI i))]) (fun i => n - i) ?_ 0 ls (Nat.zero_le _) (lv_sub hl [2, 3, 1, 0] rfl)
    intro i ls hi hl ihi
    have hi : i ≤ n := hi
    have hl : lv_has ls 4 [(0, .ref (q 0)), (1, .int s0), (2, .int (fN (dutf C rt s0) i 0)), (3, .int (nI i))] := hl
    refine lv_iload_n hx hb dX5_duty_22 rfl (lv_at hl 3 rfl) ?_
    refine lv_aload_n hx hb dX5_duty_23 rfl (lv_at hl 0 rfl) ?_
    refine va_get (D := D) (ci := 5) (v := .int (nI n)) (C := RX5) (T := TX5) (N := 20) hx hb hts iX5 hown hK hP 0 rfl rfl 1 (by decide) (hts _ (List.mem_of_getElem? (i := 1) rfl)) (fun _ h9 => h9) rfl dX5_duty_24 ?_
    refine lv_icmp_ge (tgt := 73) hx hb dX5_duty_27 (by decide) (fun c_2 => ?_) (fun c_2 => ?_)
    · skip
      have c_2 : n ≤ i := (nI_leI (a := n) (b := i) (by omega) (by omega)).mp c_2
      refine lv_iload_n hx hb dX5_duty_73 rfl (lv_at hl 2 rfl) ?_
      exact ro_iret hx hb hr hlocks dX5_duty_74 (by unfold dutyF isS; rw [if_pos c_1, Nat.le_antisymm hi c_2])
    · skip
      have c_2 : ¬ n ≤ i := fun h => c_2 ((nI_leI (a := n) (b := i) (by omega) (by omega)).mpr h)
      refine lv_iload_n hx hb dX5_duty_30 rfl (lv_at hl 2 rfl) ?_
      refine lv_iload_n hx hb dX5_duty_31 rfl (lv_at hl 1 rfl) ?_
      refine lv_iload_n hx hb dX5_duty_32 rfl (lv_at hl 3 rfl) ?_
      refine ro_i (va_runS (As := [.int s0, .int (nI i)]) (rest := [.int (fN (dutf C rt s0) i 0)]) F (kX5_has l s0 (nI i)) (va_cwS 2 hts gX5_duty_X5_has rfl rfl rfl hdX5_has ⟨(Nat.le_of_ble_eq_true rfl), (Nat.le_of_ble_eq_true rfl)⟩) ⟨tr_blind, tr_pre⟩ rfl rfl hl.1 rfl (lv_room (Nat.le_of_ble_eq_true rfl)) dX5_duty_33 ⟨Nat.zero_le _, Nat.zero_le _⟩) ?_
      refine lv_if_eq (tgt := 64) hx hb dX5_duty_36 (by decide) (fun c_3 => ?_) (fun c_3 => ?_)
      · skip
        have c_3 := zI_0 c_3
        refine lv_iconst (v := 0) hx hb dX5_duty_64 (by decide) ?_
        refine lv_iadd hx hb dX5_duty_65 ?_
        refine lv_istore_n (lv' := [(2, .int ((fN (dutf C rt s0) i 0) + 0)), (0, .ref (q 0)), (1, .int s0), (3, .int (nI i))]) hx hb dX5_duty_66 rfl hl (by decide) rfl (fun ls hl => ?_)
        refine lv_iinc (v := (nI i + 1)) (lv' := [(3, .int (nI i + 1)), (2, .int ((fN (dutf C rt s0) i 0) + 0)), (0, .ref (q 0)), (1, .int s0)]) hx hb dX5_duty_67 hl (k := 3) rfl rfl (by decide) rfl (fun ls hl => ?_)
        refine lv_goto (tgt := 22) hx hb dX5_duty_70 (by decide) ?_
        exact ihi (i + 1) ls (by show n - (i + 1) < n - i; omega) (by show i + 1 ≤ n; omega) (lv_sub hl [2, 3, 1, 0] (by
          show ([(0, .ref (q 0)), (1, .int s0), (2, .int ((fN (dutf C rt s0) i 0) + 0)), (3, .int (nI i + 1))] : List (Nat × Value)) = [(0, .ref (q 0)), (1, .int s0), (2, .int (fN (dutf C rt s0) (i + 1) 0)), (3, .int (nI (i + 1)))]
          have e1 : fN (dutf C rt s0) (i + 1) 0 = ((fN (dutf C rt s0) i 0) + 0) := by rw [fN_s]; unfold dutf; simp [c_3]
          rw [e1]
          rw [← nI_1]))
      · skip
        have c_3 := zI_1 c_3
        refine lv_aload_n hx hb dX5_duty_39 rfl (lv_at hl 0 rfl) ?_
        refine va_get (D := D) (ci := 5) (v := .ref (q 2)) (C := RX5) (T := TX5) (N := 20) hx hb hts iX5 hown hK hP 0 rfl rfl 3 (by decide) (hts _ (List.mem_of_getElem? (i := 2) rfl)) (fun _ h9 => h9) rfl dX5_duty_40 ?_
        refine lv_iload_n hx hb dX5_duty_43 rfl (lv_at hl 3 rfl) ?_
        refine wa_iald hx hb hK hP 2 1 rfl rfl i rfl (by omega) (by decide) dX5_duty_44 ?_
        refine lv_aload_n hx hb dX5_duty_45 rfl (lv_at hl 0 rfl) ?_
        refine va_get (D := D) (ci := 5) (v := .ref (q 3)) (C := RX5) (T := TX5) (N := 20) hx hb hts iX5 hown hK hP 0 rfl rfl 4 (by decide) (hts _ (List.mem_of_getElem? (i := 3) rfl)) (fun _ h9 => h9) rfl dX5_duty_46 ?_
        refine lv_iload_n hx hb dX5_duty_49 rfl (lv_at hl 3 rfl) ?_
        refine wa_iald hx hb hK hP 3 2 rfl rfl i rfl (by omega) (by decide) dX5_duty_50 ?_
        refine lv_imul hx hb dX5_duty_51 ?_
        refine lv_sipush (v := 1000) hx hb dX5_duty_52 (by decide) ?_
        refine lv_idiv hx hb dX5_duty_55 (by decide) ?_
        refine lv_aload_n hx hb dX5_duty_56 rfl (lv_at hl 0 rfl) ?_
        refine va_get (D := D) (ci := 5) (v := .int rt) (C := RX5) (T := TX5) (N := 20) hx hb hts iX5 hown hK hP 0 rfl rfl 11 (by decide) (hts _ (List.mem_of_getElem? (i := 4) rfl)) (fun _ h9 => h9) rfl dX5_duty_57 ?_
        refine lv_imul hx hb dX5_duty_60 ?_
        refine lv_goto (tgt := 65) hx hb dX5_duty_61 (by decide) ?_
        refine lv_iadd hx hb dX5_duty_65 ?_
        refine lv_istore_n (lv' := [(2, .int ((fN (dutf C rt s0) i 0) + ((((c_dr (C i)) * (c_sg (C i))) / 1000) * rt))), (0, .ref (q 0)), (1, .int s0), (3, .int (nI i))]) hx hb dX5_duty_66 rfl hl (by decide) rfl (fun ls hl => ?_)
        refine lv_iinc (v := (nI i + 1)) (lv' := [(3, .int (nI i + 1)), (2, .int ((fN (dutf C rt s0) i 0) + ((((c_dr (C i)) * (c_sg (C i))) / 1000) * rt))), (0, .ref (q 0)), (1, .int s0)]) hx hb dX5_duty_67 hl (k := 3) rfl rfl (by decide) rfl (fun ls hl => ?_)
        refine lv_goto (tgt := 22) hx hb dX5_duty_70 (by decide) ?_
        exact ihi (i + 1) ls (by show n - (i + 1) < n - i; omega) (by show i + 1 ≤ n; omega) (lv_sub hl [2, 3, 1, 0] (by
          show ([(0, .ref (q 0)), (1, .int s0), (2, .int ((fN (dutf C rt s0) i 0) + ((((c_dr (C i)) * (c_sg (C i))) / 1000) * rt))), (3, .int (nI i + 1))] : List (Nat × Value)) = [(0, .ref (q 0)), (1, .int s0), (2, .int (fN (dutf C rt s0) (i + 1) 0)), (3, .int (nI (i + 1)))]
          have e1 : fN (dutf C rt s0) (i + 1) 0 = ((fN (dutf C rt s0) i 0) + ((((c_dr (C i)) * (c_sg (C i))) / 1000) * rt)) := by rw [fN_s]; unfold dutf; simp [c_3]
          rw [e1]
          rw [← nI_1]))
  · skip
    have c_1 := zI_0 c_1
    refine lv_iconst (v := (-1)) hx hb dX5_duty_16 (by decide) ?_
    exact ro_iret hx hb hr hlocks dX5_duty_17 (by unfold dutyF isS; rw [c_1]; rfl)

set_option maxHeartbeats 4000000 in
set_option maxRecDepth 100000 in
theorem kX5_count (l : Launch) (D : va_G) (y : Nat → ClassId) (q : Nat → Nat) (t n : Nat) (C : Nat → CT) (w : Nat → Int32) (rt : Int32) (r0 : Nat) (no sa to : Nat → Int32) (tr : Int64) (st im va : Nat → Int32) (w0 : Int32) (hn : n ≤ 12) : Met l yX5_count wsX5_count ({ frames := 0, cells := 0, slots := 0, locals := 0 }) (va_Pc [.ref (q 0), .int w0] (rdB D (mTy y) (mWC y q (nI t) (nI n) C w rt (nI r0) no sa to tr st im va))) (vp_Si (fun x => x = (countF n (nI t) (nI r0) rt C w0))) 0 0 nF := by
  refine ro_start (cc := cX5_count) (maxL := 4) (ret := (some .int)) (by decide) rfl (Nat.le_of_ble_eq_true rfl) ?_
  intro p e s m below meth c ls hx hb hr hml hown hlocks hts hnm hB hl
  obtain ⟨hP, hK, hN⟩ := hB
  have hown : s.vm.findClass RX5 = some m.cls := hown
  have F : CallFix p m c cX5_count 4 s [.ref (q 0), .int w0].toArray wsX5_count RX5 := ⟨hx, hb, hml, hown, hts⟩
  have hl : lv_has ls 4 [(0, .ref (q 0)), (1, .int w0)] := hl
  have iX5 : ∀ w ∈ u_ws RX5 TX5 20, w ∈ wsX5_count := mem_pl [6, 7, 8, 9, 10, 11, 12, 13, 14, 15, 16, 17, 18, 19, 20, 21, 22, 23, 24, 25] rfl
  refine lv_iconst (v := 0) hx hb dX5_count_0 (by decide) ?_
  refine lv_istore_n (lv' := [(2, .int 0), (0, .ref (q 0)), (1, .int w0)]) hx hb dX5_count_1 rfl hl (by decide) rfl (fun ls hl => ?_)
  refine lv_iload_n hx hb dX5_count_2 rfl (lv_at hl 2 rfl) ?_
  by_cases t_1 : w0 = 0
  · skip
    subst t_1
    refine lv_tableIn (off := 37) (tgt := 40) hx hb dX5_count_3 (by decide) (by decide) rfl (by decide) ?_
    refine lv_aload_n hx hb dX5_count_40 rfl (lv_at hl 1 rfl) ?_
    refine va_get (D := D) (ci := 5) (v := .int (nI t)) (C := RX5) (T := TX5) (N := 20) hx hb hts iX5 hown hK hP 0 rfl rfl 0 (by decide) (hts _ (List.mem_of_getElem? (i := 1) rfl)) (fun _ h9 => h9) rfl dX5_count_41 ?_
    exact ro_iret hx hb hr hlocks dX5_count_44 (by simp [countF])
  by_cases t_2 : w0 = 1
  · skip
    subst t_2
    refine lv_tableIn (off := 42) (tgt := 45) hx hb dX5_count_3 (by decide) (by decide) rfl (by decide) ?_
    refine lv_aload_n hx hb dX5_count_45 rfl (lv_at hl 1 rfl) ?_
    refine va_get (D := D) (ci := 5) (v := .int (nI n)) (C := RX5) (T := TX5) (N := 20) hx hb hts iX5 hown hK hP 0 rfl rfl 1 (by decide) (hts _ (List.mem_of_getElem? (i := 2) rfl)) (fun _ h9 => h9) rfl dX5_count_46 ?_
    exact ro_iret hx hb hr hlocks dX5_count_49 (by simp [countF])
  by_cases t_3 : w0 = 2
  · skip
    subst t_3
    refine lv_tableIn (off := 47) (tgt := 50) hx hb dX5_count_3 (by decide) (by decide) rfl (by decide) ?_
    refine lv_iconst (v := 0) hx hb dX5_count_50 (by decide) ?_
    refine lv_istore_n (lv' := [(3, .int 0), (2, .int 0), (0, .ref (q 0)), (1, .int 2)]) hx hb dX5_count_51 rfl hl (by decide) rfl (fun ls hl => ?_)
    refine W.lpR (pc := 52) (τ := Nat) (fun i => i ≤ n) (fun i ls => lv_has ls 4 [(0, .ref (q 0)), (1, .int 2), (2, .int (fN (nEf C) i 0)), (3, .int (nI i))]) (fun i => n - i) ?_ 0 ls (Nat.zero_le _) (lv_sub hl [2, 3, 1, 0] rfl)
    intro i ls hi hl ihi
    have hi : i ≤ n := hi
    have hl : lv_has ls 4 [(0, .ref (q 0)), (1, .int 2), (2, .int (fN (nEf C) i 0)), (3, .int (nI i))] := hl
    refine lv_iload_n hx hb dX5_count_52 rfl (lv_at hl 3 rfl) ?_
    refine lv_aload_n hx hb dX5_count_53 rfl (lv_at hl 0 rfl) ?_
    refine va_get (D := D) (ci := 5) (v := .int (nI n)) (C := RX5) (T := TX5) (N := 20) hx hb hts iX5 hown hK hP 0 rfl rfl 1 (by decide) (hts _ (List.mem_of_getElem? (i := 2) rfl)) (fun _ h9 => h9) rfl dX5_count_54 ?_
    refine lv_icmp_ge (tgt := 83) hx hb dX5_count_57 (by decide) (fun c_4 => ?_) (fun c_4 => ?_)
    · skip
      have c_4 : n ≤ i := (nI_leI (a := n) (b := i) (by omega) (by omega)).mp c_4
      refine lv_iload_n hx hb dX5_count_83 rfl (lv_at hl 2 rfl) ?_
      exact ro_iret hx hb hr hlocks dX5_count_84 (by simp [countF, Nat.le_antisymm hi c_4])
    · skip
      have c_4 : ¬ n ≤ i := fun h => c_4 ((nI_leI (a := n) (b := i) (by omega) (by omega)).mpr h)
      refine lv_iload_n hx hb dX5_count_60 rfl (lv_at hl 2 rfl) ?_
      refine lv_aload_n hx hb dX5_count_61 rfl (lv_at hl 0 rfl) ?_
      refine va_get (D := D) (ci := 5) (v := .ref (q 2)) (C := RX5) (T := TX5) (N := 20) hx hb hts iX5 hown hK hP 0 rfl rfl 3 (by decide) (hts _ (List.mem_of_getElem? (i := 3) rfl)) (fun _ h9 => h9) rfl dX5_count_62 ?_
      refine lv_iload_n hx hb dX5_count_65 rfl (lv_at hl 3 rfl) ?_
      refine wa_iald hx hb hK hP 2 1 rfl rfl i rfl (by omega) (by decide) dX5_count_66 ?_
      refine lv_if_le (tgt := 74) hx hb dX5_count_67 (by decide) (fun c_5 => ?_) (fun c_5 => ?_)
      · skip
        refine lv_iconst (v := 0) hx hb dX5_count_74 (by decide) ?_
        refine lv_iadd hx hb dX5_count_75 ?_
        refine lv_istore_n (lv' := [(2, .int ((fN (nEf C) i 0) + 0)), (0, .ref (q 0)), (1, .int 2), (3, .int (nI i))]) hx hb dX5_count_76 rfl hl (by decide) rfl (fun ls hl => ?_)
        refine lv_iinc (v := (nI i + 1)) (lv' := [(3, .int (nI i + 1)), (2, .int ((fN (nEf C) i 0) + 0)), (0, .ref (q 0)), (1, .int 2)]) hx hb dX5_count_77 hl (k := 3) rfl rfl (by decide) rfl (fun ls hl => ?_)
        refine lv_goto (tgt := 52) hx hb dX5_count_80 (by decide) ?_
        exact ihi (i + 1) ls (by show n - (i + 1) < n - i; omega) (by show i + 1 ≤ n; omega) (lv_sub hl [2, 3, 1, 0] (by
          show ([(0, .ref (q 0)), (1, .int 2), (2, .int ((fN (nEf C) i 0) + 0)), (3, .int (nI i + 1))] : List (Nat × Value)) = [(0, .ref (q 0)), (1, .int 2), (2, .int (fN (nEf C) (i + 1) 0)), (3, .int (nI (i + 1)))]
          have e1 : fN (nEf C) (i + 1) 0 = ((fN (nEf C) i 0) + 0) := by rw [fN_s]; unfold nEf; simp [c_5]
          rw [e1]
          rw [← nI_1]))
      · skip
        refine lv_iconst (v := 1) hx hb dX5_count_70 (by decide) ?_
        refine lv_goto (tgt := 75) hx hb dX5_count_71 (by decide) ?_
        refine lv_iadd hx hb dX5_count_75 ?_
        refine lv_istore_n (lv' := [(2, .int ((fN (nEf C) i 0) + 1)), (0, .ref (q 0)), (1, .int 2), (3, .int (nI i))]) hx hb dX5_count_76 rfl hl (by decide) rfl (fun ls hl => ?_)
        refine lv_iinc (v := (nI i + 1)) (lv' := [(3, .int (nI i + 1)), (2, .int ((fN (nEf C) i 0) + 1)), (0, .ref (q 0)), (1, .int 2)]) hx hb dX5_count_77 hl (k := 3) rfl rfl (by decide) rfl (fun ls hl => ?_)
        refine lv_goto (tgt := 52) hx hb dX5_count_80 (by decide) ?_
        exact ihi (i + 1) ls (by show n - (i + 1) < n - i; omega) (by show i + 1 ≤ n; omega) (lv_sub hl [2, 3, 1, 0] (by
          show ([(0, .ref (q 0)), (1, .int 2), (2, .int ((fN (nEf C) i 0) + 1)), (3, .int (nI i + 1))] : List (Nat × Value)) = [(0, .ref (q 0)), (1, .int 2), (2, .int (fN (nEf C) (i + 1) 0)), (3, .int (nI (i + 1)))]
          have e1 : fN (nEf C) (i + 1) 0 = ((fN (nEf C) i 0) + 1) := by rw [fN_s]; unfold nEf; simp [c_5]
          rw [e1]
          rw [← nI_1]))
  by_cases t_6 : w0 = 3
  · skip
    subst t_6
    refine lv_tableIn (off := 82) (tgt := 85) hx hb dX5_count_3 (by decide) (by decide) rfl (by decide) ?_
    refine lv_aload_n hx hb dX5_count_85 rfl (lv_at hl 1 rfl) ?_
    refine va_get (D := D) (ci := 5) (v := .int (nI r0)) (C := RX5) (T := TX5) (N := 20) hx hb hts iX5 hown hK hP 0 rfl rfl 12 (by decide) (hts _ (List.mem_of_getElem? (i := 4) rfl)) (fun _ h9 => h9) rfl dX5_count_86 ?_
    exact ro_iret hx hb hr hlocks dX5_count_89 (by simp [countF])
  by_cases t_7 : w0 = 4
  · skip
    subst t_7
    refine lv_tableIn (off := 87) (tgt := 90) hx hb dX5_count_3 (by decide) (by decide) rfl (by decide) ?_
    refine lv_aload_n hx hb dX5_count_90 rfl (lv_at hl 1 rfl) ?_
    refine va_get (D := D) (ci := 5) (v := .int rt) (C := RX5) (T := TX5) (N := 20) hx hb hts iX5 hown hK hP 0 rfl rfl 11 (by decide) (hts _ (List.mem_of_getElem? (i := 5) rfl)) (fun _ h9 => h9) rfl dX5_count_91 ?_
    exact ro_iret hx hb hr hlocks dX5_count_94 (by simp [countF])
  by_cases t_8 : w0 = 5
  · skip
    subst t_8
    refine lv_tableIn (off := 92) (tgt := 95) hx hb dX5_count_3 (by decide) (by decide) rfl (by decide) ?_
    refine lv_iconst (v := 0) hx hb dX5_count_95 (by decide) ?_
    refine lv_istore_n (lv' := [(3, .int 0), (2, .int 0), (0, .ref (q 0)), (1, .int 5)]) hx hb dX5_count_96 rfl hl (by decide) rfl (fun ls hl => ?_)
    refine W.lpR (pc := 97) (τ := Nat) (fun i => i ≤ n) (fun i ls => lv_has ls 4 [(0, .ref (q 0)), (1, .int 5), (2, .int (fN (allf C) i 0)), (3, .int (nI i))]) (fun i => n - i) ?_ 0 ls (Nat.zero_le _) (lv_sub hl [2, 3, 1, 0] rfl)
    intro i ls hi hl ihi
    have hi : i ≤ n := hi
    have hl : lv_has ls 4 [(0, .ref (q 0)), (1, .int 5), (2, .int (fN (allf C) i 0)), (3, .int (nI i))] := hl
    refine lv_iload_n hx hb dX5_count_97 rfl (lv_at hl 3 rfl) ?_
    refine lv_aload_n hx hb dX5_count_98 rfl (lv_at hl 0 rfl) ?_
    refine va_get (D := D) (ci := 5) (v := .int (nI n)) (C := RX5) (T := TX5) (N := 20) hx hb hts iX5 hown hK hP 0 rfl rfl 1 (by decide) (hts _ (List.mem_of_getElem? (i := 2) rfl)) (fun _ h9 => h9) rfl dX5_count_99 ?_
    refine lv_icmp_ge (tgt := 120) hx hb dX5_count_102 (by decide) (fun c_9 => ?_) (fun c_9 => ?_)
    · skip
      have c_9 : n ≤ i := (nI_leI (a := n) (b := i) (by omega) (by omega)).mp c_9
      refine lv_iload_n hx hb dX5_count_120 rfl (lv_at hl 2 rfl) ?_
      exact ro_iret hx hb hr hlocks dX5_count_121 (by simp [countF, Nat.le_antisymm hi c_9])
    · skip
      have c_9 : ¬ n ≤ i := fun h => c_9 ((nI_leI (a := n) (b := i) (by omega) (by omega)).mpr h)
      refine lv_iload_n hx hb dX5_count_105 rfl (lv_at hl 2 rfl) ?_
      refine lv_aload_n hx hb dX5_count_106 rfl (lv_at hl 0 rfl) ?_
      refine va_get (D := D) (ci := 5) (v := .ref (q 2)) (C := RX5) (T := TX5) (N := 20) hx hb hts iX5 hown hK hP 0 rfl rfl 3 (by decide) (hts _ (List.mem_of_getElem? (i := 3) rfl)) (fun _ h9 => h9) rfl dX5_count_107 ?_
      refine lv_iload_n hx hb dX5_count_110 rfl (lv_at hl 3 rfl) ?_
      refine wa_iald hx hb hK hP 2 1 rfl rfl i rfl (by omega) (by decide) dX5_count_111 ?_
      refine lv_iadd hx hb dX5_count_112 ?_
      refine lv_istore_n (lv' := [(2, .int ((fN (allf C) i 0) + (c_dr (C i)))), (0, .ref (q 0)), (1, .int 5), (3, .int (nI i))]) hx hb dX5_count_113 rfl hl (by decide) rfl (fun ls hl => ?_)
      refine lv_iinc (v := (nI i + 1)) (lv' := [(3, .int (nI i + 1)), (2, .int ((fN (allf C) i 0) + (c_dr (C i)))), (0, .ref (q 0)), (1, .int 5)]) hx hb dX5_count_114 hl (k := 3) rfl rfl (by decide) rfl (fun ls hl => ?_)
      refine lv_goto (tgt := 97) hx hb dX5_count_117 (by decide) ?_
      exact ihi (i + 1) ls (by show n - (i + 1) < n - i; omega) (by show i + 1 ≤ n; omega) (lv_sub hl [2, 3, 1, 0] (by
        show ([(0, .ref (q 0)), (1, .int 5), (2, .int ((fN (allf C) i 0) + (c_dr (C i)))), (3, .int (nI i + 1))] : List (Nat × Value)) = [(0, .ref (q 0)), (1, .int 5), (2, .int (fN (allf C) (i + 1) 0)), (3, .int (nI (i + 1)))]
        have e1 : fN (allf C) (i + 1) 0 = ((fN (allf C) i 0) + (c_dr (C i))) := rfl
        rw [e1]
        rw [← nI_1]))
  have u_1 : ¬ (w0).toInt = 0 := fun h => t_1 (Int32.toInt_inj.mp h)
  have u_2 : ¬ (w0).toInt = 1 := fun h => t_2 (Int32.toInt_inj.mp h)
  have u_3 : ¬ (w0).toInt = 2 := fun h => t_3 (Int32.toInt_inj.mp h)
  have u_6 : ¬ (w0).toInt = 3 := fun h => t_6 (Int32.toInt_inj.mp h)
  have u_7 : ¬ (w0).toInt = 4 := fun h => t_7 (Int32.toInt_inj.mp h)
  have u_8 : ¬ (w0).toInt = 5 := fun h => t_8 (Int32.toInt_inj.mp h)
  refine lv_tableOut (tgt := 122) hx hb dX5_count_3 (by omega) (by decide) ?_
  refine lv_iconst (v := (-1)) hx hb dX5_count_122 (by decide) ?_
  exact ro_iret hx hb hr hlocks dX5_count_123 (by simp [countF, t_1, t_2, t_3, t_6, t_7, t_8])

set_option maxHeartbeats 4000000 in
set_option maxRecDepth 100000 in
theorem kX5_trace (l : Launch) (D : va_G) (y : Nat → ClassId) (q : Nat → Nat) (t n : Nat) (C : Nat → CT) (w : Nat → Int32) (rt : Int32) (r0 : Nat) (no sa to : Nat → Int32) (tr : Int64) (st im va : Nat → Int32) : Met l yX5_trace wsX5_trace ({ frames := 0, cells := 0, slots := 0, locals := 0 }) (va_Pc [.ref (q 0)] (rdB D (mTy y) (mWC y q (nI t) (nI n) C w rt (nI r0) no sa to tr st im va))) (vp_Sl (fun x => x = tr)) 0 0 nF := by
  refine ro_start (cc := cX5_trace) (maxL := 1) (ret := (some .long)) (by decide) rfl (Nat.le_of_ble_eq_true rfl) ?_
  intro p e s m below meth c ls hx hb hr hml hown hlocks hts hnm hB hl
  obtain ⟨hP, hK, hN⟩ := hB
  have hown : s.vm.findClass RX5 = some m.cls := hown
  have F : CallFix p m c cX5_trace 1 s [.ref (q 0)].toArray wsX5_trace RX5 := ⟨hx, hb, hml, hown, hts⟩
  have hl : lv_has ls 1 [(0, .ref (q 0))] := hl
  have iX5 : ∀ w ∈ u_ws RX5 TX5 20, w ∈ wsX5_trace := mem_pl [2, 3, 4, 5, 6, 7, 8, 9, 10, 11, 12, 13, 14, 15, 16, 17, 18, 19, 20, 21] rfl
  refine lv_aload_n hx hb dX5_trace_0 rfl (lv_at hl 0 rfl) ?_
  refine va_get (D := D) (ci := 5) (v := .long tr) (C := RX5) (T := TX5) (N := 20) hx hb hts iX5 hown hK hP 0 rfl rfl 16 (by decide) (hts _ (List.mem_of_getElem? (i := 1) rfl)) (fun _ h9 => h9) rfl dX5_trace_1 ?_
  exact ro_lret hx hb hr hlocks dX5_trace_4 rfl

set_option maxHeartbeats 4000000 in
set_option maxRecDepth 100000 in
theorem kX5_read (l : Launch) (D : va_G) (y : Nat → ClassId) (q : Nat → Nat) (t n : Nat) (C : Nat → CT) (w : Nat → Int32) (rt : Int32) (r0 : Nat) (no sa to : Nat → Int32) (tr : Int64) (st im va : Nat → Int32) (a0 : Int32) (b0 : Int32) (v0 : Int32) (sz : Nat) (hr0 : r0 ≤ 30) : Met l yX5_read wsX5_read ({ frames := 1, cells := 0, slots := 0, locals := 22 }) (va_Pc [.ref (q 0), .int a0, .int b0, .int v0] (muB D (mTy y) (mWC y q (nI t) (nI n) C w rt (nI r0) no sa to tr st im va) sz eT)) (QI (σ := Int32 × (Nat → Int32) × (Nat → Int32) × (Nat → Int32)) D (fun r u => (r, u) = readM r0 no sa to a0 b0 v0) (fun u => (mWC y q (nI t) (nI n) C w rt u.1 u.2.1 u.2.2.1 u.2.2.2 tr st im va)) (va_A (mWC y q (nI t) (nI n) C w rt (nI r0) no sa to tr st im va) sz)) 0 0 (va_A (mWC y q (nI t) (nI n) C w rt (nI r0) no sa to tr st im va) sz) := by
  refine mu_start (Qc := QI (σ := Int32 × (Nat → Int32) × (Nat → Int32) × (Nat → Int32)) D (fun r u => (r, u) = readM r0 no sa to a0 b0 v0) (fun u => (mWC y q (nI t) (nI n) C w rt u.1 u.2.1 u.2.2.1 u.2.2.2 tr st im va))) (cc := cX5_read) (maxL := 4) (ret := (some .int)) (by decide) rfl (Nat.le_of_ble_eq_true rfl) ?_
  intro p e s m below meth c ls A hx hb hr hml hown hlocks hts hnm hA hP hK hN hD hE hAA hsz hl
  have hS : va_S A s.heap s.heap [] := va_S.rf
  have hown : s.vm.findClass RX5 = some m.cls := hown
  have F : CallFix p m c cX5_read 4 s [.ref (q 0), .int a0, .int b0, .int v0].toArray wsX5_read RX5 := ⟨hx, hb, hml, hown, hts⟩
  have hl : lv_has ls 4 [(0, .ref (q 0)), (1, .int a0), (2, .int b0), (3, .int v0)] := hl
  have iX5 : ∀ w ∈ u_ws RX5 TX5 20, w ∈ wsX5_read := mem_pl [9, 10, 11, 12, 13, 14, 15, 16, 17, 18, 19, 20, 21, 22, 23, 24, 25, 26, 27, 28] rfl
  refine lv_iload_n hx hb dX5_read_0 rfl (lv_at hl 1 rfl) ?_
  refine lv_iconst (v := 0) hx hb dX5_read_1 (by decide) ?_
  refine lv_iconst (v := 5) hx hb dX5_read_2 (by decide) ?_
  refine ro_i (va_runS (As := [.int a0, .int 0, .int 5]) (rest := []) F (kX5_in l a0 0 5) (va_cwS 3 hts gX5_read_X5_in rfl rfl rfl hdX5_in ⟨(Nat.le_of_ble_eq_true rfl), (Nat.le_of_ble_eq_true rfl)⟩) ⟨tr_blind, tr_pre⟩ rfl rfl hl.1 rfl (lv_room (Nat.le_of_ble_eq_true rfl)) dX5_read_3 ⟨Nat.zero_le _, Nat.zero_le _⟩) ?_
  refine lv_if_eq (tgt := 29) hx hb dX5_read_6 (by decide) (fun c_1 => ?_) (fun c_1 => ?_)
  · skip
    have c_1 := zI_0 c_1
    refine lv_iconst (v := (-1)) hx hb dX5_read_29 (by decide) ?_
    exact mu_iret (nI r0, no, sa, to) hx hb hr hlocks hP hD hS dX5_read_30 (by simp [readM, c_1])
  · skip
    have c_1 := zI_1 c_1
    refine lv_iload_n hx hb dX5_read_9 rfl (lv_at hl 2 rfl) ?_
    refine lv_iconst (v := 0) hx hb dX5_read_10 (by decide) ?_
    refine lv_bipush (v := 9) hx hb dX5_read_11 (by decide) ?_
    refine ro_i (va_runS (As := [.int b0, .int 0, .int 9]) (rest := []) F (kX5_in l b0 0 9) (va_cwS 3 hts gX5_read_X5_in rfl rfl rfl hdX5_in ⟨(Nat.le_of_ble_eq_true rfl), (Nat.le_of_ble_eq_true rfl)⟩) ⟨tr_blind, tr_pre⟩ rfl rfl hl.1 rfl (lv_room (Nat.le_of_ble_eq_true rfl)) dX5_read_13 ⟨Nat.zero_le _, Nat.zero_le _⟩) ?_
    refine lv_if_eq (tgt := 29) hx hb dX5_read_16 (by decide) (fun c_2 => ?_) (fun c_2 => ?_)
    · skip
      have c_2 := zI_0 c_2
      refine lv_iconst (v := (-1)) hx hb dX5_read_29 (by decide) ?_
      exact mu_iret (nI r0, no, sa, to) hx hb hr hlocks hP hD hS dX5_read_30 (by simp [readM, c_1, c_2])
    · skip
      have c_2 := zI_1 c_2
      refine lv_iload_n hx hb dX5_read_19 rfl (lv_at hl 3 rfl) ?_
      refine lv_iconst (v := 0) hx hb dX5_read_20 (by decide) ?_
      refine lv_bipush (v := 99) hx hb dX5_read_21 (by decide) ?_
      refine ro_i (va_runS (As := [.int v0, .int 0, .int 99]) (rest := []) F (kX5_in l v0 0 99) (va_cwS 3 hts gX5_read_X5_in rfl rfl rfl hdX5_in ⟨(Nat.le_of_ble_eq_true rfl), (Nat.le_of_ble_eq_true rfl)⟩) ⟨tr_blind, tr_pre⟩ rfl rfl hl.1 rfl (lv_room (Nat.le_of_ble_eq_true rfl)) dX5_read_23 ⟨Nat.zero_le _, Nat.zero_le _⟩) ?_
      refine lv_if_ne (tgt := 31) hx hb dX5_read_26 (by decide) (fun c_3 => ?_) (fun c_3 => ?_)
      · skip
        have c_3 := zI_1 c_3
        refine lv_aload_n hx hb dX5_read_31 rfl (lv_at hl 0 rfl) ?_
        refine va_get (D := D) (ci := 5) (v := .int (nI r0)) (C := RX5) (T := TX5) (N := 20) hx hb hts iX5 hown hK hP 0 rfl rfl 12 (by decide) (hts _ (List.mem_of_getElem? (i := 1) rfl)) (fun _ h9 => h9) rfl dX5_read_32 ?_
        refine lv_bipush (v := 30) hx hb dX5_read_35 (by decide) ?_
        refine lv_icmp_ne (tgt := 43) hx hb dX5_read_37 (by decide) (fun c_4 => ?_) (fun c_4 => ?_)
        · skip
          have c_4 : ¬ r0 = 30 := fun h => c_4 ((nI_eq (a := r0) (b := 30) (by omega) (by omega)).mpr h)
          have hlt : r0 < 30 := by omega
          refine lv_aload_n hx hb dX5_read_43 rfl (lv_at hl 0 rfl) ?_
          refine va_get (D := D) (ci := 5) (v := .ref (q 10)) (C := RX5) (T := TX5) (N := 20) hx hb hts iX5 hown hK hP 0 rfl rfl 13 (by decide) (hts _ (List.mem_of_getElem? (i := 2) rfl)) (fun _ h9 => h9) rfl dX5_read_44 ?_
          refine lv_aload_n hx hb dX5_read_47 rfl (lv_at hl 0 rfl) ?_
          refine va_get (D := D) (ci := 5) (v := .int (nI r0)) (C := RX5) (T := TX5) (N := 20) hx hb hts iX5 hown hK hP 0 rfl rfl 12 (by decide) (hts _ (List.mem_of_getElem? (i := 1) rfl)) (fun _ h9 => h9) rfl dX5_read_48 ?_
          refine lv_iload_n hx hb dX5_read_51 rfl (lv_at hl 1 rfl) ?_
          refine wa_iast (v := a0) hx hb hK hP hD hS 10 9 rfl rfl r0 rfl (by omega) (by decide) dX5_read_52 (fun H locs hP hD hS => ?_)
          have hP : va_P D vwCl (mWC y q (nI t) (nI n) C w rt (nI r0) (upd no r0 a0) sa to tr st im va) H := hP
          have hD : va_D A (mWC y q (nI t) (nI n) C w rt (nI r0) (upd no r0 a0) sa to tr st im va) := hD
          refine lv_aload_n hx hb dX5_read_53 rfl (lv_at hl 0 rfl) ?_
          refine va_get (D := D) (ci := 5) (v := .ref (q 11)) (C := RX5) (T := TX5) (N := 20) hx hb hts iX5 hown hK hP 0 rfl rfl 14 (by decide) (hts _ (List.mem_of_getElem? (i := 3) rfl)) (fun _ h9 => h9) rfl dX5_read_54 ?_
          refine lv_aload_n hx hb dX5_read_57 rfl (lv_at hl 0 rfl) ?_
          refine va_get (D := D) (ci := 5) (v := .int (nI r0)) (C := RX5) (T := TX5) (N := 20) hx hb hts iX5 hown hK hP 0 rfl rfl 12 (by decide) (hts _ (List.mem_of_getElem? (i := 1) rfl)) (fun _ h9 => h9) rfl dX5_read_58 ?_
          refine lv_iload_n hx hb dX5_read_61 rfl (lv_at hl 2 rfl) ?_
          refine wa_iast (v := b0) hx hb hK hP hD hS 11 10 rfl rfl r0 rfl (by omega) (by decide) dX5_read_62 (fun H locs hP hD hS => ?_)
          have hP : va_P D vwCl (mWC y q (nI t) (nI n) C w rt (nI r0) (upd no r0 a0) (upd sa r0 b0) to tr st im va) H := hP
          have hD : va_D A (mWC y q (nI t) (nI n) C w rt (nI r0) (upd no r0 a0) (upd sa r0 b0) to tr st im va) := hD
          refine lv_aload_n hx hb dX5_read_63 rfl (lv_at hl 0 rfl) ?_
          refine va_get (D := D) (ci := 5) (v := .ref (q 12)) (C := RX5) (T := TX5) (N := 20) hx hb hts iX5 hown hK hP 0 rfl rfl 15 (by decide) (hts _ (List.mem_of_getElem? (i := 4) rfl)) (fun _ h9 => h9) rfl dX5_read_64 ?_
          refine lv_aload_n hx hb dX5_read_67 rfl (lv_at hl 0 rfl) ?_
          refine va_get (D := D) (ci := 5) (v := .int (nI r0)) (C := RX5) (T := TX5) (N := 20) hx hb hts iX5 hown hK hP 0 rfl rfl 12 (by decide) (hts _ (List.mem_of_getElem? (i := 1) rfl)) (fun _ h9 => h9) rfl dX5_read_68 ?_
          refine lv_iload_n hx hb dX5_read_71 rfl (lv_at hl 3 rfl) ?_
          refine wa_iast (v := v0) hx hb hK hP hD hS 12 11 rfl rfl r0 rfl (by omega) (by decide) dX5_read_72 (fun H locs hP hD hS => ?_)
          have hP : va_P D vwCl (mWC y q (nI t) (nI n) C w rt (nI r0) (upd no r0 a0) (upd sa r0 b0) (upd to r0 v0) tr st im va) H := hP
          have hD : va_D A (mWC y q (nI t) (nI n) C w rt (nI r0) (upd no r0 a0) (upd sa r0 b0) (upd to r0 v0) tr st im va) := hD
          refine lv_aload_n hx hb dX5_read_73 rfl (lv_at hl 0 rfl) ?_
          refine lv_dup hx hb dX5_read_74 rfl ?_
          refine va_get (D := D) (ci := 5) (v := .int (nI r0)) (C := RX5) (T := TX5) (N := 20) hx hb hts iX5 hown hK hP 0 rfl rfl 12 (by decide) (hts _ (List.mem_of_getElem? (i := 1) rfl)) (fun _ h9 => h9) rfl dX5_read_75 ?_
          refine lv_iconst (v := 1) hx hb dX5_read_78 (by decide) ?_
          refine lv_iadd hx hb dX5_read_79 ?_
          refine va_put (D := D) (ci := 5) (v := .int ((nI r0) + 1)) (ty := .int) (C := RX5) (T := TX5) (N := 20) hx hb hts iX5 tyX5 tyX5_ok nmX5 hown hK hP hD hS 0 rfl rfl 12 (by decide) (hts _ (List.mem_of_getElem? (i := 1) rfl)) (fun _ h9 => h9) rfl (by decide +kernel) rfl rfl (Nat.le_of_ble_eq_true rfl) dX5_read_80 (fun H locs hP hD hS => ?_)
          have hP : va_P D vwCl (mWC y q (nI t) (nI n) C w rt ((nI r0) + 1) (upd no r0 a0) (upd sa r0 b0) (upd to r0 v0) tr st im va) H := hP
          have hD : va_D A (mWC y q (nI t) (nI n) C w rt ((nI r0) + 1) (upd no r0 a0) (upd sa r0 b0) (upd to r0 v0) tr st im va) := hD
          refine lv_aload_n hx hb dX5_read_83 rfl (lv_at hl 0 rfl) ?_
          refine va_get (D := D) (ci := 5) (v := .int ((nI r0) + 1)) (C := RX5) (T := TX5) (N := 20) hx hb hts iX5 hown hK hP 0 rfl rfl 12 (by decide) (hts _ (List.mem_of_getElem? (i := 1) rfl)) (fun _ h9 => h9) rfl dX5_read_84 ?_
          exact mu_iret (((nI r0) + 1), (upd no r0 a0), (upd sa r0 b0), (upd to r0 v0)) hx hb hr hlocks hP hD hS dX5_read_87 (by simp [readM, c_1, c_2, c_3, hlt])
        · skip
          have c_4 : r0 = 30 := (nI_eq (a := r0) (b := 30) (by omega) (by omega)).mp c_4
          have hlt : ¬ r0 < 30 := by omega
          refine lv_bipush (v := (-3)) hx hb dX5_read_40 (by decide) ?_
          exact mu_iret (nI r0, no, sa, to) hx hb hr hlocks hP hD hS dX5_read_42 (by simp [readM, c_1, c_2, c_3, hlt])
      · skip
        have c_3 := zI_0 c_3
        refine lv_iconst (v := (-1)) hx hb dX5_read_29 (by decide) ?_
        exact mu_iret (nI r0, no, sa, to) hx hb hr hlocks hP hD hS dX5_read_30 (by simp [readM, c_1, c_2, c_3])

set_option maxHeartbeats 4000000 in
set_option maxRecDepth 100000 in
theorem kX5_clear (l : Launch) (D : va_G) (y : Nat → ClassId) (q : Nat → Nat) (t n : Nat) (C : Nat → CT) (w : Nat → Int32) (rt : Int32) (r0 : Nat) (no sa to : Nat → Int32) (tr : Int64) (st im va : Nat → Int32) (sz : Nat) : Met l yX5_clear wsX5_clear ({ frames := 0, cells := 0, slots := 0, locals := 0 }) (va_Pc [.ref (q 0)] (muB D (mTy y) (mWC y q (nI t) (nI n) C w rt (nI r0) no sa to tr st im va) sz eT)) (QI (σ := Unit) D (fun r u => r = nI r0) (fun u => (mWC y q (nI t) (nI n) C w rt 0 no sa to tr st im va)) (va_A (mWC y q (nI t) (nI n) C w rt (nI r0) no sa to tr st im va) sz)) 0 0 (va_A (mWC y q (nI t) (nI n) C w rt (nI r0) no sa to tr st im va) sz) := by
  refine mu_start (Qc := QI (σ := Unit) D (fun r u => r = nI r0) (fun u => (mWC y q (nI t) (nI n) C w rt 0 no sa to tr st im va))) (cc := cX5_clear) (maxL := 2) (ret := (some .int)) (by decide) rfl (Nat.le_of_ble_eq_true rfl) ?_
  intro p e s m below meth c ls A hx hb hr hml hown hlocks hts hnm hA hP hK hN hD hE hAA hsz hl
  have hS : va_S A s.heap s.heap [] := va_S.rf
  have hown : s.vm.findClass RX5 = some m.cls := hown
  have F : CallFix p m c cX5_clear 2 s [.ref (q 0)].toArray wsX5_clear RX5 := ⟨hx, hb, hml, hown, hts⟩
  have hl : lv_has ls 2 [(0, .ref (q 0))] := hl
  have iX5 : ∀ w ∈ u_ws RX5 TX5 20, w ∈ wsX5_clear := mem_pl [2, 3, 4, 5, 6, 7, 8, 9, 10, 11, 12, 13, 14, 15, 16, 17, 18, 19, 20, 21] rfl
  refine lv_aload_n hx hb dX5_clear_0 rfl (lv_at hl 0 rfl) ?_
  refine va_get (D := D) (ci := 5) (v := .int (nI r0)) (C := RX5) (T := TX5) (N := 20) hx hb hts iX5 hown hK hP 0 rfl rfl 12 (by decide) (hts _ (List.mem_of_getElem? (i := 1) rfl)) (fun _ h9 => h9) rfl dX5_clear_1 ?_
  refine lv_istore_n (lv' := [(1, .int (nI r0)), (0, .ref (q 0))]) hx hb dX5_clear_4 rfl hl (by decide) rfl (fun ls hl => ?_)
  refine lv_aload_n hx hb dX5_clear_5 rfl (lv_at hl 1 rfl) ?_
  refine lv_iconst (v := 0) hx hb dX5_clear_6 (by decide) ?_
  refine va_put (D := D) (ci := 5) (v := .int 0) (ty := .int) (C := RX5) (T := TX5) (N := 20) hx hb hts iX5 tyX5 tyX5_ok nmX5 hown hK hP hD hS 0 rfl rfl 12 (by decide) (hts _ (List.mem_of_getElem? (i := 1) rfl)) (fun _ h9 => h9) rfl (by decide +kernel) rfl rfl (Nat.le_of_ble_eq_true rfl) dX5_clear_7 (fun H locs hP hD hS => ?_)
  have hP : va_P D vwCl (mWC y q (nI t) (nI n) C w rt 0 no sa to tr st im va) H := hP
  have hD : va_D A (mWC y q (nI t) (nI n) C w rt 0 no sa to tr st im va) := hD
  refine lv_iload_n hx hb dX5_clear_10 rfl (lv_at hl 0 rfl) ?_
  exact mu_iret () hx hb hr hlocks hP hD hS dX5_clear_11 rfl

set_option maxHeartbeats 4000000 in
set_option maxRecDepth 100000 in
theorem kX5_loss (l : Launch) (D : va_G) (y : Nat → ClassId) (q : Nat → Nat) (t n : Nat) (C : Nat → CT) (w : Nat → Int32) (rt : Int32) (r0 : Nat) (no sa to : Nat → Int32) (tr : Int64) (st im va : Nat → Int32) (c0 : Int32) (k0 : Int32) (y0 : Int32) (sz : Nat) (hn : n ≤ 12) (hI : INV n t C) : Met l yX5_loss wsX5_loss ({ frames := 2, cells := 0, slots := 0, locals := 43 }) (va_Pc [.ref (q 0), .int c0, .int k0, .int y0] (muB D (mTy y) (mWC y q (nI t) (nI n) C w rt (nI r0) no sa to tr st im va) sz eT)) (QI (σ := Int64) D (fun r u => (r, u) = lossF n C tr c0 k0 y0) (fun u => (mWC y q (nI t) (nI n) C w rt (nI r0) no sa to u st im va)) (va_A (mWC y q (nI t) (nI n) C w rt (nI r0) no sa to tr st im va) sz)) 0 0 (va_A (mWC y q (nI t) (nI n) C w rt (nI r0) no sa to tr st im va) sz) := by
  refine mu_start (Qc := QI (σ := Int64) D (fun r u => (r, u) = lossF n C tr c0 k0 y0) (fun u => (mWC y q (nI t) (nI n) C w rt (nI r0) no sa to u st im va))) (cc := cX5_loss) (maxL := 4) (ret := (some .int)) (by decide) rfl (Nat.le_of_ble_eq_true rfl) ?_
  intro p e s m below meth c ls A hx hb hr hml hown hlocks hts hnm hA hP hK hN hD hE hAA hsz hl
  have hS : va_S A s.heap s.heap [] := va_S.rf
  have hown : s.vm.findClass RX5 = some m.cls := hown
  have F : CallFix p m c cX5_loss 4 s [.ref (q 0), .int c0, .int k0, .int y0].toArray wsX5_loss RX5 := ⟨hx, hb, hml, hown, hts⟩
  have hl : lv_has ls 4 [(0, .ref (q 0)), (1, .int c0), (2, .int k0), (3, .int y0)] := hl
  have iX5 : ∀ w ∈ u_ws RX5 TX5 20, w ∈ wsX5_loss := mem_pl [18, 19, 20, 21, 22, 23, 24, 25, 26, 27, 28, 29, 30, 31, 32, 33, 34, 35, 36, 37] rfl
  refine lv_aload_n hx hb dX5_loss_0 rfl (lv_at hl 0 rfl) ?_
  refine lv_iload_n hx hb dX5_loss_1 rfl (lv_at hl 1 rfl) ?_
  refine ro_i (va_runV (As := [.int c0]) (rest := []) F (kX5_isCask l D y q t n C w rt r0 no sa to tr st im va c0) (cwV 1 hts gX5_loss_X5_isCask rfl rfl rfl ⟨rfl, hdX5_isCask⟩ ⟨(Nat.le_of_ble_eq_true rfl), (Nat.le_of_ble_eq_true rfl)⟩) ⟨rdB_blind, va_recv hK hP (ci := 5) (q0 := 0) rfl rfl, rdB_pre hP hK hN⟩ rfl rfl hl.1 rfl (lv_room (Nat.le_of_ble_eq_true rfl)) dX5_loss_2 ⟨Nat.zero_le _, Nat.zero_le _⟩) ?_
  refine lv_if_eq (tgt := 27) hx hb dX5_loss_5 (by decide) (fun c_1 => ?_) (fun c_1 => ?_)
  · skip
    have c_1 := zI_0 c_1
    refine lv_iconst (v := (-1)) hx hb dX5_loss_27 (by decide) ?_
    exact mu_iret tr hx hb hr hlocks hP hD hS dX5_loss_28 (by simp [lossF, mkI, c_1])
  · skip
    have c_1 := zI_1 c_1
    obtain ⟨j, hzj, rfl⟩ := isC_of hn c_1
    have ej : (nI j).toNatClampNeg = j := nI_clamp (by omega)
    refine lv_iload_n hx hb dX5_loss_8 rfl (lv_at hl 2 rfl) ?_
    refine lv_iconst (v := 0) hx hb dX5_loss_9 (by decide) ?_
    refine lv_iconst (v := 2) hx hb dX5_loss_10 (by decide) ?_
    refine ro_i (va_runS (As := [.int k0, .int 0, .int 2]) (rest := []) F (kX5_in l k0 0 2) (va_cwS 3 hts gX5_loss_X5_in rfl rfl rfl hdX5_in ⟨(Nat.le_of_ble_eq_true rfl), (Nat.le_of_ble_eq_true rfl)⟩) ⟨tr_blind, tr_pre⟩ rfl rfl hl.1 rfl (lv_room (Nat.le_of_ble_eq_true rfl)) dX5_loss_11 ⟨Nat.zero_le _, Nat.zero_le _⟩) ?_
    refine lv_if_eq (tgt := 27) hx hb dX5_loss_14 (by decide) (fun c_2 => ?_) (fun c_2 => ?_)
    · skip
      have c_2 := zI_0 c_2
      refine lv_iconst (v := (-1)) hx hb dX5_loss_27 (by decide) ?_
      exact mu_iret tr hx hb hr hlocks hP hD hS dX5_loss_28 (by simp [lossF, mkI, c_1, ej, c_2])
    · skip
      have c_2 := zI_1 c_2
      obtain ⟨k, hzk, rfl⟩ := inR_of (k := 2) (by decide) (by decide) c_2
      have ek : (nI k).toNatClampNeg = k := nI_clamp (by omega)
      refine lv_iload_n hx hb dX5_loss_17 rfl (lv_at hl 3 rfl) ?_
      refine lv_iconst (v := 0) hx hb dX5_loss_18 (by decide) ?_
      refine lv_bipush (v := 60) hx hb dX5_loss_19 (by decide) ?_
      refine ro_i (va_runS (As := [.int y0, .int 0, .int 60]) (rest := []) F (kX5_in l y0 0 60) (va_cwS 3 hts gX5_loss_X5_in rfl rfl rfl hdX5_in ⟨(Nat.le_of_ble_eq_true rfl), (Nat.le_of_ble_eq_true rfl)⟩) ⟨tr_blind, tr_pre⟩ rfl rfl hl.1 rfl (lv_room (Nat.le_of_ble_eq_true rfl)) dX5_loss_21 ⟨Nat.zero_le _, Nat.zero_le _⟩) ?_
      refine lv_if_ne (tgt := 29) hx hb dX5_loss_24 (by decide) (fun c_3 => ?_) (fun c_3 => ?_)
      · skip
        have c_3 := zI_1 c_3
        obtain ⟨z, hzz, rfl⟩ := inR_of (k := 60) (by decide) (by decide) c_3
        refine lv_aload_n hx hb dX5_loss_29 rfl (lv_at hl 0 rfl) ?_
        refine lv_dup hx hb dX5_loss_30 rfl ?_
        refine va_get (D := D) (ci := 5) (v := .long tr) (C := RX5) (T := TX5) (N := 20) hx hb hts iX5 hown hK hP 0 rfl rfl 16 (by decide) (hts _ (List.mem_of_getElem? (i := 1) rfl)) (fun _ h9 => h9) rfl dX5_loss_31 ?_
        refine lv_iload_n hx hb dX5_loss_34 rfl (lv_at hl 2 rfl) ?_
        refine lv_if_ne (tgt := 42) hx hb dX5_loss_35 (by decide) (fun c_4 => ?_) (fun c_4 => ?_)
        · skip
          have c_4 : ¬ k = 0 := fun h => c_4 ((nI_eq (a := k) (b := 0) (by omega) (by omega)).mpr h)
          refine lv_iload_n hx hb dX5_loss_42 rfl (lv_at hl 2 rfl) ?_
          refine lv_iconst (v := 1) hx hb dX5_loss_43 (by decide) ?_
          refine lv_icmp_ne (tgt := 53) hx hb dX5_loss_44 (by decide) (fun c_5 => ?_) (fun c_5 => ?_)
          · skip
            have c_5 : ¬ k = 1 := fun h => c_5 ((nI_eq (a := k) (b := 1) (by omega) (by omega)).mpr h)
            refine lv_ldc2 (v := 111) hx hb hown (hts _ (List.mem_of_getElem? (i := 3) rfl)) dX5_loss_53 ?_
            refine lv_ladd hx hb dX5_loss_56 ?_
            refine va_put (D := D) (ci := 5) (v := .long (tr + 111)) (ty := .long) (C := RX5) (T := TX5) (N := 20) hx hb hts iX5 tyX5 tyX5_ok nmX5 hown hK hP hD hS 0 rfl rfl 16 (by decide) (hts _ (List.mem_of_getElem? (i := 1) rfl)) (fun _ h9 => h9) rfl (by decide +kernel) rfl rfl (Nat.le_of_ble_eq_true rfl) dX5_loss_57 (fun H locs hP hD hS => ?_)
            have hP : va_P D vwCl (mWC y q (nI t) (nI n) C w rt (nI r0) no sa to (tr + 111) st im va) H := hP
            have hD : va_D A (mWC y q (nI t) (nI n) C w rt (nI r0) no sa to (tr + 111) st im va) := hD
            refine lv_aload_n hx hb dX5_loss_60 rfl (lv_at hl 0 rfl) ?_
            refine lv_iload_n hx hb dX5_loss_61 rfl (lv_at hl 1 rfl) ?_
            refine lv_iload_n hx hb dX5_loss_62 rfl (lv_at hl 2 rfl) ?_
            refine lv_iload_n hx hb dX5_loss_63 rfl (lv_at hl 3 rfl) ?_
            refine ro_i (va_runV (As := [.int (nI j), .int (nI k), .int (nI z)]) (rest := []) F (kX5_lossOf l D y q t n C w rt r0 no sa to (tr + 111) st im va j (nI k) (nI z) (by omega)) (cwV 3 hts gX5_loss_X5_lossOf rfl rfl rfl ⟨rfl, hdX5_lossOf⟩ ⟨(Nat.le_of_ble_eq_true rfl), (Nat.le_of_ble_eq_true rfl)⟩) ⟨rdB_blind, va_recv hK hP (ci := 5) (q0 := 0) rfl rfl, rdB_pre hP hK hN⟩ rfl rfl hl.1 rfl (lv_room (Nat.le_of_ble_eq_true rfl)) dX5_loss_64 ⟨Nat.zero_le _, Nat.zero_le _⟩) ?_
            refine lv_cst (v := lossX (nI k) (c_fl (C j)) (nI z)) (lossM_c (hI.2.2.1 j hzj) (by omega) (by omega)) ?_
            exact mu_iret (tr + 111) hx hb hr hlocks hP hD hS dX5_loss_67 (by simp [lossF, mkI, c_1, ej, c_2, ek, c_3, c_4, c_5] <;> rfl)
          · skip
            have c_5 : k = 1 := (nI_eq (a := k) (b := 1) (by omega) (by omega)).mp c_5
            refine lv_ldc2 (v := 11) hx hb hown (hts _ (List.mem_of_getElem? (i := 2) rfl)) dX5_loss_47 ?_
            refine lv_goto (tgt := 56) hx hb dX5_loss_50 (by decide) ?_
            refine lv_ladd hx hb dX5_loss_56 ?_
            refine va_put (D := D) (ci := 5) (v := .long (tr + 11)) (ty := .long) (C := RX5) (T := TX5) (N := 20) hx hb hts iX5 tyX5 tyX5_ok nmX5 hown hK hP hD hS 0 rfl rfl 16 (by decide) (hts _ (List.mem_of_getElem? (i := 1) rfl)) (fun _ h9 => h9) rfl (by decide +kernel) rfl rfl (Nat.le_of_ble_eq_true rfl) dX5_loss_57 (fun H locs hP hD hS => ?_)
            have hP : va_P D vwCl (mWC y q (nI t) (nI n) C w rt (nI r0) no sa to (tr + 11) st im va) H := hP
            have hD : va_D A (mWC y q (nI t) (nI n) C w rt (nI r0) no sa to (tr + 11) st im va) := hD
            refine lv_aload_n hx hb dX5_loss_60 rfl (lv_at hl 0 rfl) ?_
            refine lv_iload_n hx hb dX5_loss_61 rfl (lv_at hl 1 rfl) ?_
            refine lv_iload_n hx hb dX5_loss_62 rfl (lv_at hl 2 rfl) ?_
            refine lv_iload_n hx hb dX5_loss_63 rfl (lv_at hl 3 rfl) ?_
            refine ro_i (va_runV (As := [.int (nI j), .int (nI k), .int (nI z)]) (rest := []) F (kX5_lossOf l D y q t n C w rt r0 no sa to (tr + 11) st im va j (nI k) (nI z) (by omega)) (cwV 3 hts gX5_loss_X5_lossOf rfl rfl rfl ⟨rfl, hdX5_lossOf⟩ ⟨(Nat.le_of_ble_eq_true rfl), (Nat.le_of_ble_eq_true rfl)⟩) ⟨rdB_blind, va_recv hK hP (ci := 5) (q0 := 0) rfl rfl, rdB_pre hP hK hN⟩ rfl rfl hl.1 rfl (lv_room (Nat.le_of_ble_eq_true rfl)) dX5_loss_64 ⟨Nat.zero_le _, Nat.zero_le _⟩) ?_
            refine lv_cst (v := lossX (nI k) (c_fl (C j)) (nI z)) (lossM_c (hI.2.2.1 j hzj) (by omega) (by omega)) ?_
            exact mu_iret (tr + 11) hx hb hr hlocks hP hD hS dX5_loss_67 (by simp [lossF, mkI, c_1, ej, c_2, ek, c_3, c_4, c_5] <;> rfl)
        · skip
          have c_4 : k = 0 := (nI_eq (a := k) (b := 0) (by omega) (by omega)).mp c_4
          refine lv_lconst (v := 1) hx hb dX5_loss_38 rfl ?_
          refine lv_goto (tgt := 56) hx hb dX5_loss_39 (by decide) ?_
          refine lv_ladd hx hb dX5_loss_56 ?_
          refine va_put (D := D) (ci := 5) (v := .long (tr + 1)) (ty := .long) (C := RX5) (T := TX5) (N := 20) hx hb hts iX5 tyX5 tyX5_ok nmX5 hown hK hP hD hS 0 rfl rfl 16 (by decide) (hts _ (List.mem_of_getElem? (i := 1) rfl)) (fun _ h9 => h9) rfl (by decide +kernel) rfl rfl (Nat.le_of_ble_eq_true rfl) dX5_loss_57 (fun H locs hP hD hS => ?_)
          have hP : va_P D vwCl (mWC y q (nI t) (nI n) C w rt (nI r0) no sa to (tr + 1) st im va) H := hP
          have hD : va_D A (mWC y q (nI t) (nI n) C w rt (nI r0) no sa to (tr + 1) st im va) := hD
          refine lv_aload_n hx hb dX5_loss_60 rfl (lv_at hl 0 rfl) ?_
          refine lv_iload_n hx hb dX5_loss_61 rfl (lv_at hl 1 rfl) ?_
          refine lv_iload_n hx hb dX5_loss_62 rfl (lv_at hl 2 rfl) ?_
          refine lv_iload_n hx hb dX5_loss_63 rfl (lv_at hl 3 rfl) ?_
          refine ro_i (va_runV (As := [.int (nI j), .int (nI k), .int (nI z)]) (rest := []) F (kX5_lossOf l D y q t n C w rt r0 no sa to (tr + 1) st im va j (nI k) (nI z) (by omega)) (cwV 3 hts gX5_loss_X5_lossOf rfl rfl rfl ⟨rfl, hdX5_lossOf⟩ ⟨(Nat.le_of_ble_eq_true rfl), (Nat.le_of_ble_eq_true rfl)⟩) ⟨rdB_blind, va_recv hK hP (ci := 5) (q0 := 0) rfl rfl, rdB_pre hP hK hN⟩ rfl rfl hl.1 rfl (lv_room (Nat.le_of_ble_eq_true rfl)) dX5_loss_64 ⟨Nat.zero_le _, Nat.zero_le _⟩) ?_
          refine lv_cst (v := lossX (nI k) (c_fl (C j)) (nI z)) (lossM_c (hI.2.2.1 j hzj) (by omega) (by omega)) ?_
          exact mu_iret (tr + 1) hx hb hr hlocks hP hD hS dX5_loss_67 (by simp [lossF, mkI, c_1, ej, c_2, ek, c_3, c_4] <;> rfl)
      · skip
        have c_3 := zI_0 c_3
        refine lv_iconst (v := (-1)) hx hb dX5_loss_27 (by decide) ?_
        exact mu_iret tr hx hb hr hlocks hP hD hS dX5_loss_28 (by simp [lossF, mkI, c_1, ej, c_2, ek, c_3])

set_option maxHeartbeats 4000000 in
set_option maxRecDepth 100000 in
theorem kX5_ways (l : Launch) (a : Nat) (b : Nat) (ha : a ≤ 20) (hba : b ≤ a) : Met l yX5_ways wsX5_ways ({ frames := 0, cells := 0, slots := 0, locals := 0 }) (va_Pc [.int (nI a), .int (nI b)] (fun _ => True)) (vp_Sl (fun x => x = (waysX a b))) 0 0 nF := by
  refine ro_start (cc := cX5_ways) (maxL := 8) (ret := (some .long)) (by decide) rfl (Nat.le_of_ble_eq_true rfl) ?_
  intro p e s m below meth c ls hx hb hr hml hown hlocks hts hnm hB hl
  have hown : s.vm.findClass RX5 = some m.cls := hown
  have F : CallFix p m c cX5_ways 8 s [.int (nI a), .int (nI b)].toArray wsX5_ways RX5 := ⟨hx, hb, hml, hown, hts⟩
  have hl : lv_has ls 8 [(0, .int (nI a)), (1, .int (nI b))] := hl
  refine lv_lconst (v := 0) hx hb dX5_ways_0 rfl ?_
  refine lv_lstore_n (lv' := [(2, .long 0), (0, .int (nI a)), (1, .int (nI b))]) hx hb dX5_ways_1 rfl hl (by decide) rfl (fun ls hl => ?_)
  refine lv_iload_n hx hb dX5_ways_2 rfl (lv_at hl 2 rfl) ?_
  refine lv_istore (lv' := [(4, .int (nI b)), (2, .long 0), (0, .int (nI a)), (1, .int (nI b))]) hx hb dX5_ways_3 hl (by decide) rfl (fun ls hl => ?_)
  refine W.lpR (pc := 5) (τ := Nat) (fun j => j ≤ (a + 1 - b)) (fun j ls => lv_has ls 8 [(0, .int (nI a)), (1, .int (nI b)), (2, .long (wmS a b j)), (4, .int (nI (b + j)))]) (fun j => (a + 1 - b) - j) ?_ 0 ls (Nat.zero_le _) (lv_sub hl [2, 3, 1, 0] rfl)
  intro j ls hj hl ihj
  have hj : j ≤ (a + 1 - b) := hj
  have hl : lv_has ls 8 [(0, .int (nI a)), (1, .int (nI b)), (2, .long (wmS a b j)), (4, .int (nI (b + j)))] := hl
  refine lv_iload hx hb dX5_ways_5 (lv_at hl 3 rfl) ?_
  refine lv_iload_n hx hb dX5_ways_7 rfl (lv_at hl 0 rfl) ?_
  refine lv_icmp_gt (tgt := 63) hx hb dX5_ways_8 (by decide) (fun c_1 => ?_) (fun c_1 => ?_)
  · skip
    have c_1 : a < b + j := (nI_ltI (a := a) (b := (b + j)) (by omega) (by omega)).mp c_1
    refine lv_lload_n hx hb dX5_ways_63 rfl (lv_at hl 2 rfl) ?_
    exact ro_lret hx hb hr hlocks dX5_ways_64 (by rw [← ways_eq a (by omega) b (by omega) hba, show j = a + 1 - b from Nat.le_antisymm hj (by omega)]; rfl)
  · skip
    have c_1 : ¬ a < b + j := fun h => c_1 ((nI_ltI (a := a) (b := (b + j)) (by omega) (by omega)).mpr h)
    refine lv_lconst (v := 1) hx hb dX5_ways_11 rfl ?_
    refine lv_lstore (lv' := [(5, .long 1), (0, .int (nI a)), (1, .int (nI b)), (2, .long (wmS a b j)), (4, .int (nI (b + j)))]) hx hb dX5_ways_12 hl (by decide) rfl (fun ls hl => ?_)
    refine lv_iconst (v := 1) hx hb dX5_ways_14 (by decide) ?_
    refine lv_istore (lv' := [(7, .int 1), (5, .long 1), (0, .int (nI a)), (1, .int (nI b)), (2, .long (wmS a b j)), (4, .int (nI (b + j)))]) hx hb dX5_ways_15 hl (by decide) rfl (fun ls hl => ?_)
    refine W.lpR (pc := 17) (τ := Nat) (fun i => i ≤ (b + j)) (fun i ls => lv_has ls 8 [(0, .int (nI a)), (1, .int (nI b)), (2, .long (wmS a b j)), (4, .int (nI (b + j))), (5, .long (fN (wmf a (b + j)) i 1)), (7, .int (nI (i + 1)))]) (fun i => (b + j) - i) ?_ 0 ls (Nat.zero_le _) (lv_sub hl [2, 3, 4, 5, 1, 0] rfl)
    intro i ls hi hl ihi
    have hi : i ≤ (b + j) := hi
    have hl : lv_has ls 8 [(0, .int (nI a)), (1, .int (nI b)), (2, .long (wmS a b j)), (4, .int (nI (b + j))), (5, .long (fN (wmf a (b + j)) i 1)), (7, .int (nI (i + 1)))] := hl
    refine lv_iload hx hb dX5_ways_17 (lv_at hl 5 rfl) ?_
    refine lv_iload hx hb dX5_ways_19 (lv_at hl 3 rfl) ?_
    refine lv_icmp_gt (tgt := 47) hx hb dX5_ways_21 (by decide) (fun c_2 => ?_) (fun c_2 => ?_)
    · skip
      have c_2 : b + j < i + 1 := (nI_ltI (a := (b + j)) (b := (i + 1)) (by omega) (by omega)).mp c_2
      refine lv_lload_n hx hb dX5_ways_47 rfl (lv_at hl 2 rfl) ?_
      refine lv_lload hx hb dX5_ways_48 (lv_at hl 4 rfl) ?_
      refine lv_iload_n hx hb dX5_ways_50 rfl (lv_at hl 0 rfl) ?_
      refine lv_iload hx hb dX5_ways_51 (lv_at hl 3 rfl) ?_
      refine lv_isub hx hb dX5_ways_53 ?_
      refine lv_lshl hx hb dX5_ways_54 rfl ?_
      refine lv_ladd hx hb dX5_ways_55 ?_
      refine lv_lstore_n (lv' := [(2, .long ((wmS a b j) + ((fN (wmf a (b + j)) i 1) <<< ((((nI a) - (nI (b + j)))).toInt64 &&& 63)))), (0, .int (nI a)), (1, .int (nI b)), (4, .int (nI (b + j))), (5, .long (fN (wmf a (b + j)) i 1)), (7, .int (nI (i + 1)))]) hx hb dX5_ways_56 rfl hl (by decide) rfl (fun ls hl => ?_)
      refine lv_iinc (v := (nI (b + j) + 1)) (lv' := [(4, .int (nI (b + j) + 1)), (2, .long ((wmS a b j) + ((fN (wmf a (b + j)) i 1) <<< ((((nI a) - (nI (b + j)))).toInt64 &&& 63)))), (0, .int (nI a)), (1, .int (nI b)), (5, .long (fN (wmf a (b + j)) i 1)), (7, .int (nI (i + 1)))]) hx hb dX5_ways_57 hl (k := 3) rfl rfl (by decide) rfl (fun ls hl => ?_)
      refine lv_goto (tgt := 5) hx hb dX5_ways_60 (by decide) ?_
      exact ihj (j + 1) ls (by show (a + 1 - b) - (j + 1) < (a + 1 - b) - j; omega) (by show j + 1 ≤ (a + 1 - b); omega) (lv_sub hl [2, 3, 1, 0] (by
        show ([(0, .int (nI a)), (1, .int (nI b)), (2, .long ((wmS a b j) + ((fN (wmf a (b + j)) i 1) <<< ((((nI a) - (nI (b + j)))).toInt64 &&& 63)))), (4, .int (nI (b + j) + 1))] : List (Nat × Value)) = [(0, .int (nI a)), (1, .int (nI b)), (2, .long (wmS a b (j + 1))), (4, .int (nI (b + (j + 1))))]
        have e1 : wmS a b (j + 1) = wmS a b j + (fN (wmf a (b + j)) (b + j) 1) <<< ((nI a - nI (b + j)).toInt64 &&& 63) := rfl
        have e2 : i = b + j := Nat.le_antisymm hi (by omega)
        rw [e1, ← e2, show b + (j + 1) = i + 1 by omega]
        rw [← nI_1]))
    · skip
      have c_2 : ¬ b + j < i + 1 := fun h => c_2 ((nI_ltI (a := (b + j)) (b := (i + 1)) (by omega) (by omega)).mpr h)
      refine lv_lload hx hb dX5_ways_24 (lv_at hl 4 rfl) ?_
      refine lv_iload_n hx hb dX5_ways_26 rfl (lv_at hl 0 rfl) ?_
      refine lv_iload hx hb dX5_ways_27 (lv_at hl 3 rfl) ?_
      refine lv_isub hx hb dX5_ways_29 ?_
      refine lv_iload hx hb dX5_ways_30 (lv_at hl 5 rfl) ?_
      refine lv_iadd hx hb dX5_ways_32 ?_
      refine lv_i2l hx hb dX5_ways_33 rfl ?_
      refine lv_lmul hx hb dX5_ways_34 ?_
      refine lv_iload hx hb dX5_ways_35 (lv_at hl 5 rfl) ?_
      refine lv_i2l hx hb dX5_ways_37 rfl ?_
      refine lv_ldiv hx hb dX5_ways_38 (lne0 (by omega)) ?_
      refine lv_lstore (lv' := [(5, .long (((fN (wmf a (b + j)) i 1) * (((((nI a) - (nI (b + j))) + (nI (i + 1)))).toInt64)) / ((nI (i + 1)).toInt64))), (0, .int (nI a)), (1, .int (nI b)), (2, .long (wmS a b j)), (4, .int (nI (b + j))), (7, .int (nI (i + 1)))]) hx hb dX5_ways_39 hl (by decide) rfl (fun ls hl => ?_)
      refine lv_iinc (v := (nI (i + 1) + 1)) (lv' := [(7, .int (nI (i + 1) + 1)), (5, .long (((fN (wmf a (b + j)) i 1) * (((((nI a) - (nI (b + j))) + (nI (i + 1)))).toInt64)) / ((nI (i + 1)).toInt64))), (0, .int (nI a)), (1, .int (nI b)), (2, .long (wmS a b j)), (4, .int (nI (b + j)))]) hx hb dX5_ways_41 hl (k := 5) rfl rfl (by decide) rfl (fun ls hl => ?_)
      refine lv_goto (tgt := 17) hx hb dX5_ways_44 (by decide) ?_
      exact ihi (i + 1) ls (by show (b + j) - (i + 1) < (b + j) - i; omega) (by show i + 1 ≤ (b + j); omega) (lv_sub hl [2, 3, 4, 5, 1, 0] (by
        show ([(0, .int (nI a)), (1, .int (nI b)), (2, .long (wmS a b j)), (4, .int (nI (b + j))), (5, .long (((fN (wmf a (b + j)) i 1) * (((((nI a) - (nI (b + j))) + (nI (i + 1)))).toInt64)) / ((nI (i + 1)).toInt64))), (7, .int (nI (i + 1) + 1))] : List (Nat × Value)) = [(0, .int (nI a)), (1, .int (nI b)), (2, .long (wmS a b j)), (4, .int (nI (b + j))), (5, .long (fN (wmf a (b + j)) (i + 1) 1)), (7, .int (nI ((i + 1) + 1)))]
        rw [← nI_1 (i + 1)]
        rfl))

set_option maxHeartbeats 4000000 in
set_option maxRecDepth 100000 in
theorem kX5_odds (l : Launch) (D : va_G) (y : Nat → ClassId) (q : Nat → Nat) (t n : Nat) (C : Nat → CT) (w : Nat → Int32) (rt : Int32) (r0 : Nat) (no sa to : Nat → Int32) (tr : Int64) (st im va : Nat → Int32) (n0 : Int32) (c0 : Int32) : Met l yX5_odds wsX5_odds ({ frames := 1, cells := 0, slots := 0, locals := 27 }) (va_Pc [.ref (q 0), .int n0, .int c0] (rdB D (mTy y) (mWC y q (nI t) (nI n) C w rt (nI r0) no sa to tr st im va))) (vp_Sl (fun x => x = (oddsF n0 c0))) 0 0 nF := by
  refine ro_start (cc := cX5_odds) (maxL := 3) (ret := (some .long)) (by decide) rfl (Nat.le_of_ble_eq_true rfl) ?_
  intro p e s m below meth c ls hx hb hr hml hown hlocks hts hnm hB hl
  obtain ⟨hP, hK, hN⟩ := hB
  have hown : s.vm.findClass RX5 = some m.cls := hown
  have F : CallFix p m c cX5_odds 3 s [.ref (q 0), .int n0, .int c0].toArray wsX5_odds RX5 := ⟨hx, hb, hml, hown, hts⟩
  have hl : lv_has ls 3 [(0, .ref (q 0)), (1, .int n0), (2, .int c0)] := hl
  refine lv_iload_n hx hb dX5_odds_0 rfl (lv_at hl 1 rfl) ?_
  refine lv_iconst (v := 1) hx hb dX5_odds_1 (by decide) ?_
  refine lv_bipush (v := 20) hx hb dX5_odds_2 (by decide) ?_
  refine ro_i (va_runS (As := [.int n0, .int 1, .int 20]) (rest := []) F (kX5_in l n0 1 20) (va_cwS 3 hts gX5_odds_X5_in rfl rfl rfl hdX5_in ⟨(Nat.le_of_ble_eq_true rfl), (Nat.le_of_ble_eq_true rfl)⟩) ⟨tr_blind, tr_pre⟩ rfl rfl hl.1 rfl (lv_room (Nat.le_of_ble_eq_true rfl)) dX5_odds_4 ⟨Nat.zero_le _, Nat.zero_le _⟩) ?_
  refine lv_if_eq (tgt := 27) hx hb dX5_odds_7 (by decide) (fun c_1 => ?_) (fun c_1 => ?_)
  · skip
    have c_1 := zI_0 c_1
    refine lv_ldc2 (v := (-1)) hx hb hown (hts _ (List.mem_of_getElem? (i := 1) rfl)) dX5_odds_27 ?_
    exact ro_lret hx hb hr hlocks dX5_odds_30 (by simp [oddsF, c_1])
  · skip
    have c_1 := zI_1 c_1
    refine lv_iload_n hx hb dX5_odds_10 rfl (lv_at hl 2 rfl) ?_
    refine lv_iconst (v := 0) hx hb dX5_odds_11 (by decide) ?_
    refine lv_iload_n hx hb dX5_odds_12 rfl (lv_at hl 1 rfl) ?_
    refine ro_i (va_runS (As := [.int c0, .int 0, .int n0]) (rest := []) F (kX5_in l c0 0 n0) (va_cwS 3 hts gX5_odds_X5_in rfl rfl rfl hdX5_in ⟨(Nat.le_of_ble_eq_true rfl), (Nat.le_of_ble_eq_true rfl)⟩) ⟨tr_blind, tr_pre⟩ rfl rfl hl.1 rfl (lv_room (Nat.le_of_ble_eq_true rfl)) dX5_odds_13 ⟨Nat.zero_le _, Nat.zero_le _⟩) ?_
    refine lv_if_eq (tgt := 27) hx hb dX5_odds_16 (by decide) (fun c_2 => ?_) (fun c_2 => ?_)
    · skip
      have c_2 := zI_0 c_2
      refine lv_ldc2 (v := (-1)) hx hb hown (hts _ (List.mem_of_getElem? (i := 1) rfl)) dX5_odds_27 ?_
      exact ro_lret hx hb hr hlocks dX5_odds_30 (by simp [oddsF, c_1, c_2])
    · skip
      have c_2 := zI_1 c_2
      have ct : (inR n0 1 20 && inR c0 0 n0) = true := by rw [c_1, c_2]; rfl
      obtain ⟨a, b, ha, hba, rfl, rfl⟩ := tri_of ct
      have ea : (nI a).toNatClampNeg = a := nI_clamp (by omega)
      have eb : (nI b).toNatClampNeg = b := nI_clamp (by omega)
      refine lv_iload_n hx hb dX5_odds_19 rfl (lv_at hl 1 rfl) ?_
      refine lv_iload_n hx hb dX5_odds_20 rfl (lv_at hl 2 rfl) ?_
      refine ro_l (va_runS (As := [.int (nI a), .int (nI b)]) (rest := []) F (kX5_ways l a b ha (by omega)) (va_cwS 2 hts gX5_odds_X5_ways rfl rfl rfl hdX5_ways ⟨(Nat.le_of_ble_eq_true rfl), (Nat.le_of_ble_eq_true rfl)⟩) ⟨tr_blind, tr_pre⟩ rfl rfl hl.1 rfl (lv_room (Nat.le_of_ble_eq_true rfl)) dX5_odds_21 ⟨Nat.zero_le _, Nat.zero_le _⟩) ?_
      refine lv_goto (tgt := 30) hx hb dX5_odds_24 (by decide) ?_
      exact ro_lret hx hb hr hlocks dX5_odds_30 (by simp [oddsF, c_1, c_2, ea, eb])

set_option maxHeartbeats 4000000 in
set_option maxRecDepth 100000 in
theorem kX5_apart (l : Launch) (D : va_G) (y : Nat → ClassId) (q : Nat → Nat) (t n : Nat) (C : Nat → CT) (w : Nat → Int32) (rt : Int32) (r0 : Nat) (no sa to : Nat → Int32) (tr : Int64) (st im va : Nat → Int32) (n0 : Int32) (c0 : Int32) : Met l yX5_apart wsX5_apart ({ frames := 1, cells := 0, slots := 0, locals := 27 }) (va_Pc [.ref (q 0), .int n0, .int c0] (rdB D (mTy y) (mWC y q (nI t) (nI n) C w rt (nI r0) no sa to tr st im va))) (vp_Si (fun x => x = (apartF n0 c0))) 0 0 nF := by
  refine ro_start (cc := cX5_apart) (maxL := 3) (ret := (some .int)) (by decide) rfl (Nat.le_of_ble_eq_true rfl) ?_
  intro p e s m below meth c ls hx hb hr hml hown hlocks hts hnm hB hl
  obtain ⟨hP, hK, hN⟩ := hB
  have hown : s.vm.findClass RX5 = some m.cls := hown
  have F : CallFix p m c cX5_apart 3 s [.ref (q 0), .int n0, .int c0].toArray wsX5_apart RX5 := ⟨hx, hb, hml, hown, hts⟩
  have hl : lv_has ls 3 [(0, .ref (q 0)), (1, .int n0), (2, .int c0)] := hl
  refine lv_iload_n hx hb dX5_apart_0 rfl (lv_at hl 1 rfl) ?_
  refine lv_iconst (v := 1) hx hb dX5_apart_1 (by decide) ?_
  refine lv_bipush (v := 20) hx hb dX5_apart_2 (by decide) ?_
  refine ro_i (va_runS (As := [.int n0, .int 1, .int 20]) (rest := []) F (kX5_in l n0 1 20) (va_cwS 3 hts gX5_apart_X5_in rfl rfl rfl hdX5_in ⟨(Nat.le_of_ble_eq_true rfl), (Nat.le_of_ble_eq_true rfl)⟩) ⟨tr_blind, tr_pre⟩ rfl rfl hl.1 rfl (lv_room (Nat.le_of_ble_eq_true rfl)) dX5_apart_4 ⟨Nat.zero_le _, Nat.zero_le _⟩) ?_
  refine lv_if_eq (tgt := 19) hx hb dX5_apart_7 (by decide) (fun c_1 => ?_) (fun c_1 => ?_)
  · skip
    have c_1 := zI_0 c_1
    refine lv_iconst (v := (-1)) hx hb dX5_apart_19 (by decide) ?_
    refine lv_goto (tgt := 46) hx hb dX5_apart_20 (by decide) ?_
    exact ro_iret hx hb hr hlocks dX5_apart_46 (by unfold apartF; simp [c_1])
  · skip
    have c_1 := zI_1 c_1
    refine lv_iload_n hx hb dX5_apart_10 rfl (lv_at hl 2 rfl) ?_
    refine lv_iconst (v := 0) hx hb dX5_apart_11 (by decide) ?_
    refine lv_iload_n hx hb dX5_apart_12 rfl (lv_at hl 1 rfl) ?_
    refine ro_i (va_runS (As := [.int c0, .int 0, .int n0]) (rest := []) F (kX5_in l c0 0 n0) (va_cwS 3 hts gX5_apart_X5_in rfl rfl rfl hdX5_in ⟨(Nat.le_of_ble_eq_true rfl), (Nat.le_of_ble_eq_true rfl)⟩) ⟨tr_blind, tr_pre⟩ rfl rfl hl.1 rfl (lv_room (Nat.le_of_ble_eq_true rfl)) dX5_apart_13 ⟨Nat.zero_le _, Nat.zero_le _⟩) ?_
    refine lv_if_ne (tgt := 23) hx hb dX5_apart_16 (by decide) (fun c_2 => ?_) (fun c_2 => ?_)
    · skip
      have c_2 := zI_1 c_2
      have ct : (inR n0 1 20 && inR c0 0 n0) = true := by rw [c_1, c_2]; rfl
      obtain ⟨a, b, ha, hba, rfl, rfl⟩ := tri_of ct
      have ea : (nI a).toNatClampNeg = a := nI_clamp (by omega)
      have eb : (nI b).toNatClampNeg = b := nI_clamp (by omega)
      refine lv_ldc2 (v := 20) hx hb hown (hts _ (List.mem_of_getElem? (i := 1) rfl)) dX5_apart_23 ?_
      refine lv_iload_n hx hb dX5_apart_26 rfl (lv_at hl 1 rfl) ?_
      refine lv_iload_n hx hb dX5_apart_27 rfl (lv_at hl 2 rfl) ?_
      refine ro_l (va_runS (As := [.int (nI a), .int (nI b)]) (rest := [.long 20]) F (kX5_ways l a b ha (by omega)) (va_cwS 2 hts gX5_apart_X5_ways rfl rfl rfl hdX5_ways ⟨(Nat.le_of_ble_eq_true rfl), (Nat.le_of_ble_eq_true rfl)⟩) ⟨tr_blind, tr_pre⟩ rfl rfl hl.1 rfl (lv_room (Nat.le_of_ble_eq_true rfl)) dX5_apart_28 ⟨Nat.zero_le _, Nat.zero_le _⟩) ?_
      refine lv_lmul hx hb dX5_apart_31 ?_
      refine lv_iload_n hx hb dX5_apart_32 rfl (lv_at hl 1 rfl) ?_
      refine lv_iconst (v := 0) hx hb dX5_apart_33 (by decide) ?_
      refine ro_l (va_runS (As := [.int (nI a), .int 0]) (rest := [.long (20 * (waysX a b))]) F (kX5_ways l a 0 ha (by omega)) (va_cwS 2 hts gX5_apart_X5_ways rfl rfl rfl hdX5_ways ⟨(Nat.le_of_ble_eq_true rfl), (Nat.le_of_ble_eq_true rfl)⟩) ⟨tr_blind, tr_pre⟩ rfl rfl hl.1 rfl (lv_room (Nat.le_of_ble_eq_true rfl)) dX5_apart_34 ⟨Nat.zero_le _, Nat.zero_le _⟩) ?_
      refine W.lcmp hx hb dX5_apart_37 ?_
      refine lv_if_gt (tgt := 45) hx hb dX5_apart_38 (by decide) (fun c_3 => ?_) (fun c_3 => ?_)
      · skip
        refine lv_iconst (v := 0) hx hb dX5_apart_45 (by decide) ?_
        exact ro_iret hx hb hr hlocks dX5_apart_46 (by unfold apartF; rw [if_pos ct, ea, eb]; rw [if_neg (lg_gt.mp c_3)])
      · skip
        refine lv_iconst (v := 1) hx hb dX5_apart_41 (by decide) ?_
        refine lv_goto (tgt := 46) hx hb dX5_apart_42 (by decide) ?_
        exact ro_iret hx hb hr hlocks dX5_apart_46 (by unfold apartF; rw [if_pos ct, ea, eb]; rw [if_pos (Decidable.byContradiction (fun h => c_3 (lg_gt.mpr h)))])
    · skip
      have c_2 := zI_0 c_2
      refine lv_iconst (v := (-1)) hx hb dX5_apart_19 (by decide) ?_
      refine lv_goto (tgt := 46) hx hb dX5_apart_20 (by decide) ?_
      exact ro_iret hx hb hr hlocks dX5_apart_46 (by unfold apartF; simp [c_1, c_2])
