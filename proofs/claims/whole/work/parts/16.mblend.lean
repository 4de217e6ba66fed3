theorem ygf_n {C : Nat → CT} {now s : Int32} {i : Nat} {v : Int32} (h : hasB s (nI i) = false) : ygf C now s i v = v := by unfold ygf; rw [if_neg (by rw [h]; decide)]
theorem ygf_l {C : Nat → CT} {now s : Int32} {i : Nat} {v : Int32} (h : hasB s (nI i) = true) (h2 : v ≤ now - c_la (C i)) : ygf C now s i v = v := by unfold ygf; rw [if_pos h, if_pos h2]
theorem ygf_a {C : Nat → CT} {now s : Int32} {i : Nat} {v : Int32} (h : hasB s (nI i) = true) (h2 : ¬ v ≤ now - c_la (C i)) : ygf C now s i v = now - c_la (C i) := by unfold ygf; rw [if_pos h, if_neg h2]
def isBi (n : Nat) (C : Nat → CT) (s : Int32) (i : Nat) : Bool := inR s 1 ((1 <<< (nI n &&& 31)) - 1) && okG i C s
theorem isBi_f {n : Nat} {C : Nat → CT} {s : Int32} {i : Nat} (h : isBi n C s i = false) (hi : i ≤ n) : isBl n C s = false := by
  unfold isBi at h
  unfold isBl
  cases h1 : inR s 1 ((1 <<< (nI n &&& 31)) - 1) with
  | false => rfl
  | true => rw [h1] at h; rw [okG_f (i := i) (by simpa using h) n hi]; rfl
theorem isBi_t {n : Nat} {C : Nat → CT} {s : Int32} {i : Nat} (h : isBi n C s i = true) (b : Bool) (hb : (!hasB s (nI i) || decide (1 ≤ c_dr (C i))) = b) : isBi n C s (i + 1) = b := by
  unfold isBi at *
  rw [Bool.and_eq_true] at h
  rw [h.1]
  show (true && (okG i C s && (!hasB s (nI i) || decide (1 ≤ c_dr (C i))))) = b
  rw [h.2, hb]; rfl
def rtI (w : Nat → Int32) (mx : MT) : Nat → Bool
  | 0 => decide (w 0 ≤ m_dr mx) && decide (w 1 ≤ m_ag mx)
  | i + 1 => rtI w mx i && inR (evX mx (ptm (nI i) mx)) (w (2 + 2 * i)) (w (3 + 2 * i))
theorem rtI_3 (w : Nat → Int32) (mx : MT) : rtI w mx 3 = metX w mx := by
  have e0 : ptm (nI 0) mx = m_ok mx := rfl
  have e1 : ptm (nI 1) mx = m_sm mx := rfl
  have e2 : ptm (nI 2) mx = m_sw mx := rfl
  show ((((decide (w 0 ≤ m_dr mx) && decide (w 1 ≤ m_ag mx)) && inR (evX mx (ptm (nI 0) mx)) (w 2) (w 3)) && inR (evX mx (ptm (nI 1) mx)) (w 4) (w 5)) && inR (evX mx (ptm (nI 2) mx)) (w 6) (w 7)) = metX w mx
  rw [e0, e1, e2]
  unfold metX oldX
  rw [Bool.and_assoc, Bool.and_assoc, Bool.and_assoc]
theorem rtI_f {w : Nat → Int32} {mx : MT} {i : Nat} (h : rtI w mx i = false) (hi : i ≤ 3) : metX w mx = false := by
  rw [← rtI_3]
  have : ∀ d, rtI w mx (i + d) = false := by
    intro d
    induction d with
    | zero => exact h
    | succ d ih => show (rtI w mx (i + d) && _) = false; rw [ih]; rfl
  have h2 := this (3 - i)
  rw [show i + (3 - i) = 3 by omega] at h2; exact h2

set_option maxHeartbeats 4000000 in
set_option maxRecDepth 100000 in
theorem kX5_isBlend (l : Launch) (D : va_G) (y : Nat → ClassId) (q : Nat → Nat) (t n : Nat) (C : Nat → CT) (w : Nat → Int32) (rt : Int32) (r0 : Nat) (no sa to : Nat → Int32) (tr : Int64) (st im va : Nat → Int32) (s0 : Int32) (hn : n ≤ 12) : Met l yX5_isBlend wsX5_isBlend ({ frames := 1, cells := 0, slots := 0, locals := 22 }) (va_Pc [.ref (q 0), .int s0] (rdB D (mTy y) (mWC y q (nI t) (nI n) C w rt (nI r0) no sa to tr st im va))) (vp_Si (fun x => x = (zI (isBl n C s0)))) 0 0 nF := by
  refine ro_start (cc := cX5_isBlend) (maxL := 4) (ret := (some .boolean)) (by decide) rfl (Nat.le_of_ble_eq_true rfl) ?_
  intro p e s m below meth c ls hx hb hr hml hown hlocks hts hnm hB hl
  obtain ⟨hP, hK, hN⟩ := hB
  have hown : s.vm.findClass RX5 = some m.cls := hown
  have F : CallFix p m c cX5_isBlend 4 s [.ref (q 0), .int s0].toArray wsX5_isBlend RX5 := ⟨hx, hb, hml, hown, hts⟩
  have hl : lv_has ls 4 [(0, .ref (q 0)), (1, .int s0)] := hl
  have iX5 : ∀ w ∈ u_ws RX5 TX5 20, w ∈ wsX5_isBlend := mem_pl [10, 11, 12, 13, 14, 15, 16, 17, 18, 19, 20, 21, 22, 23, 24, 25, 26, 27, 28, 29] rfl
  refine lv_iload_n hx hb dX5_isBlend_0 rfl (lv_at hl 1 rfl) ?_
  refine lv_iconst (v := 1) hx hb dX5_isBlend_1 (by decide) ?_
  refine lv_iconst (v := 1) hx hb dX5_isBlend_2 (by decide) ?_
  refine lv_aload_n hx hb dX5_isBlend_3 rfl (lv_at hl 0 rfl) ?_
  refine va_get (D := D) (ci := 5) (v := .int (nI n)) (C := RX5) (T := TX5) (N := 20) hx hb hts iX5 hown hK hP 0 rfl rfl 1 (by decide) (hts _ (List.mem_of_getElem? (i := 1) rfl)) (fun _ h9 => h9) rfl dX5_isBlend_4 ?_
  refine lv_ishl hx hb dX5_isBlend_7 ?_
  refine lv_iconst (v := 1) hx hb dX5_isBlend_8 (by decide) ?_
  refine lv_isub hx hb dX5_isBlend_9 ?_
  refine ro_i (va_runS (As := [.int s0, .int 1, .int ((1 <<< ((nI n) &&& 31)) - 1)]) (rest := []) F (kX5_in l s0 1 ((1 <<< ((nI n) &&& 31)) - 1)) (va_cwS 3 hts gX5_isBlend_X5_in rfl rfl rfl hdX5_in ⟨(Nat.le_of_ble_eq_true rfl), (Nat.le_of_ble_eq_true rfl)⟩) ⟨tr_blind, tr_pre⟩ rfl rfl hl.1 rfl (lv_room (Nat.le_of_ble_eq_true rfl)) dX5_isBlend_10 ⟨Nat.zero_le _, Nat.zero_le _⟩) ?_
  refine lv_cst (v := zI (isBi n C s0 0)) (by unfold isBi; rw [show okG 0 C s0 = true from rfl, Bool.and_true]) ?_
  refine lv_istore_n (lv' := [(2, .int (zI (isBi n C s0 0))), (0, .ref (q 0)), (1, .int s0)]) hx hb dX5_isBlend_13 rfl hl (by decide) rfl (fun ls hl => ?_)
  refine lv_iconst (v := 0) hx hb dX5_isBlend_14 (by decide) ?_
  refine lv_istore_n (lv' := [(3, .int 0), (2, .int (zI (isBi n C s0 0))), (0, .ref (q 0)), (1, .int s0)]) hx hb dX5_isBlend_15 rfl hl (by decide) rfl (fun ls hl => ?_)
  refine W.lpR (pc := 16) (τ := Nat) (fun i => i ≤ n) (fun i ls => lv_has ls 4 [(0, .ref (q 0)), (1, .int s0), (2, .int (zI (isBi n C s0 i))), (3, .int (nI i))]) (fun i => n - i) ?_ 0 ls (Nat.zero_le _) (lv_sub hl [2, 3, 1, 0] rfl)
  intro i ls hi hl ihi
  have hi : i ≤ n := hi
  have hl : lv_has ls 4 [(0, .ref (q 0)), (1, .int s0), (2, .int (zI (isBi n C s0 i))), (3, .int (nI i))] := hl
  refine lv_iload_n hx hb dX5_isBlend_16 rfl (lv_at hl 3 rfl) ?_
  refine lv_aload_n hx hb dX5_isBlend_17 rfl (lv_at hl 0 rfl) ?_
  refine va_get (D := D) (ci := 5) (v := .int (nI n)) (C := RX5) (T := TX5) (N := 20) hx hb hts iX5 hown hK hP 0 rfl rfl 1 (by decide) (hts _ (List.mem_of_getElem? (i := 1) rfl)) (fun _ h9 => h9) rfl dX5_isBlend_18 ?_
  refine lv_icmp_ge (tgt := 57) hx hb dX5_isBlend_21 (by decide) (fun c_1 => ?_) (fun c_1 => ?_)
  · skip
    have c_1 : n ≤ i := (nI_leI (a := n) (b := i) (by omega) (by omega)).mp c_1
    refine lv_iload_n hx hb dX5_isBlend_57 rfl (lv_at hl 2 rfl) ?_
    exact ro_zret hx hb hr hlocks (zI_nar _) dX5_isBlend_58 (by rw [Nat.le_antisymm hi c_1]; rfl)
  · skip
    have c_1 : ¬ n ≤ i := fun h => c_1 ((nI_leI (a := n) (b := i) (by omega) (by omega)).mpr h)
    refine lv_iload_n hx hb dX5_isBlend_24 rfl (lv_at hl 2 rfl) ?_
    refine lv_if_eq (tgt := 57) hx hb dX5_isBlend_25 (by decide) (fun c_2 => ?_) (fun c_2 => ?_)
    · skip
      have c_2 := zI_0 c_2
      refine lv_iload_n hx hb dX5_isBlend_57 rfl (lv_at hl 2 rfl) ?_
      exact ro_zret hx hb hr hlocks (zI_nar _) dX5_isBlend_58 (by rw [c_2, isBi_f c_2 hi])
    · skip
      have c_2 := zI_1 c_2
      refine lv_iload_n hx hb dX5_isBlend_28 rfl (lv_at hl 1 rfl) ?_
      refine lv_iload_n hx hb dX5_isBlend_29 rfl (lv_at hl 3 rfl) ?_
      refine ro_i (va_runS (As := [.int s0, .int (nI i)]) (rest := []) F (kX5_has l s0 (nI i)) (va_cwS 2 hts gX5_isBlend_X5_has rfl rfl rfl hdX5_has ⟨(Nat.le_of_ble_eq_true rfl), (Nat.le_of_ble_eq_true rfl)⟩) ⟨tr_blind, tr_pre⟩ rfl rfl hl.1 rfl (lv_room (Nat.le_of_ble_eq_true rfl)) dX5_isBlend_30 ⟨Nat.zero_le _, Nat.zero_le _⟩) ?_
      refine lv_if_eq (tgt := 45) hx hb dX5_isBlend_33 (by decide) (fun c_3 => ?_) (fun c_3 => ?_)
      · skip
        have c_3 := zI_0 c_3
        refine lv_iconst (v := 1) hx hb dX5_isBlend_45 (by decide) ?_
        refine lv_goto (tgt := 50) hx hb dX5_isBlend_46 (by decide) ?_
        refine lv_istore_n (lv' := [(2, .int 1), (0, .ref (q 0)), (1, .int s0), (3, .int (nI i))]) hx hb dX5_isBlend_50 rfl hl (by decide) rfl (fun ls hl => ?_)
        refine lv_iinc (v := (nI i + 1)) (lv' := [(3, .int (nI i + 1)), (2, .int 1), (0, .ref (q 0)), (1, .int s0)]) hx hb dX5_isBlend_51 hl (k := 3) rfl rfl (by decide) rfl (fun ls hl => ?_)
        refine lv_goto (tgt := 16) hx hb dX5_isBlend_54 (by decide) ?_
        exact ihi (i + 1) ls (by show n - (i + 1) < n - i; omega) (by show i + 1 ≤ n; omega) (lv_sub hl [2, 3, 1, 0] (by
          show ([(0, .ref (q 0)), (1, .int s0), (2, .int 1), (3, .int (nI i + 1))] : List (Nat × Value)) = [(0, .ref (q 0)), (1, .int s0), (2, .int (zI (isBi n C s0 (i + 1)))), (3, .int (nI (i + 1)))]
          have e1 : zI (isBi n C s0 (i + 1)) = 1 := by rw [isBi_t c_2 true (by simp [le1, c_3])]; rfl
          rw [e1]
          rw [← nI_1]))
      · skip
        have c_3 := zI_1 c_3
        refine lv_aload_n hx hb dX5_isBlend_36 rfl (lv_at hl 0 rfl) ?_
        refine va_get (D := D) (ci := 5) (v := .ref (q 2)) (C := RX5) (T := TX5) (N := 20) hx hb hts iX5 hown hK hP 0 rfl rfl 3 (by decide) (hts _ (List.mem_of_getElem? (i := 2) rfl)) (fun _ h9 => h9) rfl dX5_isBlend_37 ?_
        refine lv_iload_n hx hb dX5_isBlend_40 rfl (lv_at hl 3 rfl) ?_
        refine wa_iald hx hb hK hP 2 1 rfl rfl i rfl (by omega) (by decide) dX5_isBlend_41 ?_
        refine lv_if_le (tgt := 49) hx hb dX5_isBlend_42 (by decide) (fun c_4 => ?_) (fun c_4 => ?_)
        · skip
          have c_4 := Int32.not_lt.mpr c_4
          refine lv_iconst (v := 0) hx hb dX5_isBlend_49 (by decide) ?_
          refine lv_istore_n (lv' := [(2, .int 0), (0, .ref (q 0)), (1, .int s0), (3, .int (nI i))]) hx hb dX5_isBlend_50 rfl hl (by decide) rfl (fun ls hl => ?_)
          refine lv_iinc (v := (nI i + 1)) (lv' := [(3, .int (nI i + 1)), (2, .int 0), (0, .ref (q 0)), (1, .int s0)]) hx hb dX5_isBlend_51 hl (k := 3) rfl rfl (by decide) rfl (fun ls hl => ?_)
          refine lv_goto (tgt := 16) hx hb dX5_isBlend_54 (by decide) ?_
          exact ihi (i + 1) ls (by show n - (i + 1) < n - i; omega) (by show i + 1 ≤ n; omega) (lv_sub hl [2, 3, 1, 0] (by
            show ([(0, .ref (q 0)), (1, .int s0), (2, .int 0), (3, .int (nI i + 1))] : List (Nat × Value)) = [(0, .ref (q 0)), (1, .int s0), (2, .int (zI (isBi n C s0 (i + 1)))), (3, .int (nI (i + 1)))]
            have e1 : zI (isBi n C s0 (i + 1)) = 0 := by rw [isBi_t c_2 false (by simp [le1, c_3, c_4])]; rfl
            rw [e1]
            rw [← nI_1]))
        · skip
          have c_4 := Int32.not_le.mp c_4
          refine lv_iconst (v := 1) hx hb dX5_isBlend_45 (by decide) ?_
          refine lv_goto (tgt := 50) hx hb dX5_isBlend_46 (by decide) ?_
          refine lv_istore_n (lv' := [(2, .int 1), (0, .ref (q 0)), (1, .int s0), (3, .int (nI i))]) hx hb dX5_isBlend_50 rfl hl (by decide) rfl (fun ls hl => ?_)
          refine lv_iinc (v := (nI i + 1)) (lv' := [(3, .int (nI i + 1)), (2, .int 1), (0, .ref (q 0)), (1, .int s0)]) hx hb dX5_isBlend_51 hl (k := 3) rfl rfl (by decide) rfl (fun ls hl => ?_)
          refine lv_goto (tgt := 16) hx hb dX5_isBlend_54 (by decide) ?_
          exact ihi (i + 1) ls (by show n - (i + 1) < n - i; omega) (by show i + 1 ≤ n; omega) (lv_sub hl [2, 3, 1, 0] (by
            show ([(0, .ref (q 0)), (1, .int s0), (2, .int 1), (3, .int (nI i + 1))] : List (Nat × Value)) = [(0, .ref (q 0)), (1, .int s0), (2, .int (zI (isBi n C s0 (i + 1)))), (3, .int (nI (i + 1)))]
            have e1 : zI (isBi n C s0 (i + 1)) = 1 := by rw [isBi_t c_2 true (by simp [le1, c_3, c_4])]; rfl
            rw [e1]
            rw [← nI_1]))

set_option maxHeartbeats 4000000 in
set_option maxRecDepth 100000 in
theorem kX5_dropsOf (l : Launch) (D : va_G) (y : Nat → ClassId) (q : Nat → Nat) (t n : Nat) (C : Nat → CT) (w : Nat → Int32) (rt : Int32) (r0 : Nat) (no sa to : Nat → Int32) (tr : Int64) (st im va : Nat → Int32) (s0 : Int32) (hn : n ≤ 12) : Met l yX5_dropsOf wsX5_dropsOf ({ frames := 1, cells := 0, slots := 0, locals := 21 }) (va_Pc [.ref (q 0), .int s0] (rdB D (mTy y) (mWC y q (nI t) (nI n) C w rt (nI r0) no sa to tr st im va))) (vp_Si (fun x => x = (m_dr (gMx n C (nI t) s0)))) 0 0 nF := by
  refine ro_start (cc := cX5_dropsOf) (maxL := 4) (ret := (some .int)) (by decide) rfl (Nat.le_of_ble_eq_true rfl) ?_
  intro p e s m below meth c ls hx hb hr hml hown hlocks hts hnm hB hl
  obtain ⟨hP, hK, hN⟩ := hB
  have hown : s.vm.findClass RX5 = some m.cls := hown
  have F : CallFix p m c cX5_dropsOf 4 s [.ref (q 0), .int s0].toArray wsX5_dropsOf RX5 := ⟨hx, hb, hml, hown, hts⟩
  have hl : lv_has ls 4 [(0, .ref (q 0)), (1, .int s0)] := hl
  have iX5 : ∀ w ∈ u_ws RX5 TX5 20, w ∈ wsX5_dropsOf := mem_pl [7, 8, 9, 10, 11, 12, 13, 14, 15, 16, 17, 18, 19, 20, 21, 22, 23, 24, 25, 26] rfl
  refine lv_iconst (v := 0) hx hb dX5_dropsOf_0 (by decide) ?_
  refine lv_istore_n (lv' := [(2, .int 0), (0, .ref (q 0)), (1, .int s0)]) hx hb dX5_dropsOf_1 rfl hl (by decide) rfl (fun ls hl => ?_)
  refine lv_iconst (v := 0) hx hb dX5_dropsOf_2 (by decide) ?_
  refine lv_istore_n (lv' := [(3, .int 0), (2, .int 0), (0, .ref (q 0)), (1, .int s0)]) hx hb dX5_dropsOf_3 rfl hl (by decide) rfl (fun ls hl => ?_)
  refine W.lpR (pc := 4) (τ := Nat) (fun i => i ≤ n) (fun i ls => lv_has ls 4 [(0, .ref (q 0)), (1, .int s0), (2, .int (m_dr (gMx i C (nI t) s0))), (3, .int (nI i))]) (fun i => n - i) ?_ 0 ls (Nat.zero_le _) (lv_sub hl [2, 3, 1, 0] rfl)
  intro i ls hi hl ihi
  have hi : i ≤ n := hi
  have hl : lv_has ls 4 [(0, .ref (q 0)), (1, .int s0), (2, .int (m_dr (gMx i C (nI t) s0))), (3, .int (nI i))] := hl
  refine lv_iload_n hx hb dX5_dropsOf_4 rfl (lv_at hl 3 rfl) ?_
  refine lv_aload_n hx hb dX5_dropsOf_5 rfl (lv_at hl 0 rfl) ?_
  refine va_get (D := D) (ci := 5) (v := .int (nI n)) (C := RX5) (T := TX5) (N := 20) hx hb hts iX5 hown hK hP 0 rfl rfl 1 (by decide) (hts _ (List.mem_of_getElem? (i := 1) rfl)) (fun _ h9 => h9) rfl dX5_dropsOf_6 ?_
  refine lv_icmp_ge (tgt := 39) hx hb dX5_dropsOf_9 (by decide) (fun c_1 => ?_) (fun c_1 => ?_)
  · skip
    have c_1 : n ≤ i := (nI_leI (a := n) (b := i) (by omega) (by omega)).mp c_1
    refine lv_iload_n hx hb dX5_dropsOf_39 rfl (lv_at hl 2 rfl) ?_
    exact ro_iret hx hb hr hlocks dX5_dropsOf_40 (by rw [Nat.le_antisymm hi c_1])
  · skip
    have c_1 : ¬ n ≤ i := fun h => c_1 ((nI_leI (a := n) (b := i) (by omega) (by omega)).mpr h)
    refine lv_iload_n hx hb dX5_dropsOf_12 rfl (lv_at hl 2 rfl) ?_
    refine lv_iload_n hx hb dX5_dropsOf_13 rfl (lv_at hl 1 rfl) ?_
    refine lv_iload_n hx hb dX5_dropsOf_14 rfl (lv_at hl 3 rfl) ?_
    refine ro_i (va_runS (As := [.int s0, .int (nI i)]) (rest := [.int (m_dr (gMx i C (nI t) s0))]) F (kX5_has l s0 (nI i)) (va_cwS 2 hts gX5_dropsOf_X5_has rfl rfl rfl hdX5_has ⟨(Nat.le_of_ble_eq_true rfl), (Nat.le_of_ble_eq_true rfl)⟩) ⟨tr_blind, tr_pre⟩ rfl rfl hl.1 rfl (lv_room (Nat.le_of_ble_eq_true rfl)) dX5_dropsOf_15 ⟨Nat.zero_le _, Nat.zero_le _⟩) ?_
    refine lv_if_eq (tgt := 30) hx hb dX5_dropsOf_18 (by decide) (fun c_2 => ?_) (fun c_2 => ?_)
    · skip
      have c_2 := zI_0 c_2
      refine lv_iconst (v := 0) hx hb dX5_dropsOf_30 (by decide) ?_
      refine lv_iadd hx hb dX5_dropsOf_31 ?_
      refine lv_istore_n (lv' := [(2, .int ((m_dr (gMx i C (nI t) s0)) + 0)), (0, .ref (q 0)), (1, .int s0), (3, .int (nI i))]) hx hb dX5_dropsOf_32 rfl hl (by decide) rfl (fun ls hl => ?_)
      refine lv_iinc (v := (nI i + 1)) (lv' := [(3, .int (nI i + 1)), (2, .int ((m_dr (gMx i C (nI t) s0)) + 0)), (0, .ref (q 0)), (1, .int s0)]) hx hb dX5_dropsOf_33 hl (k := 3) rfl rfl (by decide) rfl (fun ls hl => ?_)
      refine lv_goto (tgt := 4) hx hb dX5_dropsOf_36 (by decide) ?_
      exact ihi (i + 1) ls (by show n - (i + 1) < n - i; omega) (by show i + 1 ≤ n; omega) (lv_sub hl [2, 3, 1, 0] (by
        show ([(0, .ref (q 0)), (1, .int s0), (2, .int ((m_dr (gMx i C (nI t) s0)) + 0)), (3, .int (nI i + 1))] : List (Nat × Value)) = [(0, .ref (q 0)), (1, .int s0), (2, .int (m_dr (gMx (i + 1) C (nI t) s0))), (3, .int (nI (i + 1)))]
        have e1 : m_dr (gMx (i + 1) C (nI t) s0) = ((m_dr (gMx i C (nI t) s0)) + 0) := by rw [g_s]; simp [addX, c_2]
        rw [e1]
        rw [← nI_1]))
    · skip
      have c_2 := zI_1 c_2
      refine lv_aload_n hx hb dX5_dropsOf_21 rfl (lv_at hl 0 rfl) ?_
      refine va_get (D := D) (ci := 5) (v := .ref (q 2)) (C := RX5) (T := TX5) (N := 20) hx hb hts iX5 hown hK hP 0 rfl rfl 3 (by decide) (hts _ (List.mem_of_getElem? (i := 2) rfl)) (fun _ h9 => h9) rfl dX5_dropsOf_22 ?_
      refine lv_iload_n hx hb dX5_dropsOf_25 rfl (lv_at hl 3 rfl) ?_
      refine wa_iald hx hb hK hP 2 1 rfl rfl i rfl (by omega) (by decide) dX5_dropsOf_26 ?_
      refine lv_goto (tgt := 31) hx hb dX5_dropsOf_27 (by decide) ?_
      refine lv_iadd hx hb dX5_dropsOf_31 ?_
      refine lv_istore_n (lv' := [(2, .int ((m_dr (gMx i C (nI t) s0)) + (c_dr (C i)))), (0, .ref (q 0)), (1, .int s0), (3, .int (nI i))]) hx hb dX5_dropsOf_32 rfl hl (by decide) rfl (fun ls hl => ?_)
      refine lv_iinc (v := (nI i + 1)) (lv' := [(3, .int (nI i + 1)), (2, .int ((m_dr (gMx i C (nI t) s0)) + (c_dr (C i)))), (0, .ref (q 0)), (1, .int s0)]) hx hb dX5_dropsOf_33 hl (k := 3) rfl rfl (by decide) rfl (fun ls hl => ?_)
      refine lv_goto (tgt := 4) hx hb dX5_dropsOf_36 (by decide) ?_
      exact ihi (i + 1) ls (by show n - (i + 1) < n - i; omega) (by show i + 1 ≤ n; omega) (lv_sub hl [2, 3, 1, 0] (by
        show ([(0, .ref (q 0)), (1, .int s0), (2, .int ((m_dr (gMx i C (nI t) s0)) + (c_dr (C i)))), (3, .int (nI i + 1))] : List (Nat × Value)) = [(0, .ref (q 0)), (1, .int s0), (2, .int (m_dr (gMx (i + 1) C (nI t) s0))), (3, .int (nI (i + 1)))]
        have e1 : m_dr (gMx (i + 1) C (nI t) s0) = ((m_dr (gMx i C (nI t) s0)) + (c_dr (C i))) := by rw [g_s]; simp [addX, c_2]
        rw [e1]
        rw [← nI_1]))

set_option maxHeartbeats 4000000 in
set_option maxRecDepth 100000 in
theorem kX5_costs (l : Launch) (D : va_G) (y : Nat → ClassId) (q : Nat → Nat) (t n : Nat) (C : Nat → CT) (w : Nat → Int32) (rt : Int32) (r0 : Nat) (no sa to : Nat → Int32) (tr : Int64) (st im va : Nat → Int32) (s0 : Int32) (hn : n ≤ 12) : Met l yX5_costs wsX5_costs ({ frames := 2, cells := 0, slots := 0, locals := 42 }) (va_Pc [.ref (q 0), .int s0] (rdB D (mTy y) (mWC y q (nI t) (nI n) C w rt (nI r0) no sa to tr st im va))) (vp_Si (fun x => x = (m_co (gMx n C (nI t) s0)))) 0 0 nF := by
  refine ro_start (cc := cX5_costs) (maxL := 4) (ret := (some .int)) (by decide) rfl (Nat.le_of_ble_eq_true rfl) ?_
  intro p e s m below meth c ls hx hb hr hml hown hlocks hts hnm hB hl
  obtain ⟨hP, hK, hN⟩ := hB
  have hown : s.vm.findClass RX5 = some m.cls := hown
  have F : CallFix p m c cX5_costs 4 s [.ref (q 0), .int s0].toArray wsX5_costs RX5 := ⟨hx, hb, hml, hown, hts⟩
  have hl : lv_has ls 4 [(0, .ref (q 0)), (1, .int s0)] := hl
  have iX5 : ∀ w ∈ u_ws RX5 TX5 20, w ∈ wsX5_costs := mem_pl [17, 18, 19, 20, 21, 22, 23, 24, 25, 26, 27, 28, 29, 30, 31, 32, 33, 34, 35, 36] rfl
  refine lv_iconst (v := 0) hx hb dX5_costs_0 (by decide) ?_
  refine lv_istore_n (lv' := [(2, .int 0), (0, .ref (q 0)), (1, .int s0)]) hx hb dX5_costs_1 rfl hl (by decide) rfl (fun ls hl => ?_)
  refine lv_iconst (v := 0) hx hb dX5_costs_2 (by decide) ?_
  refine lv_istore_n (lv' := [(3, .int 0), (2, .int 0), (0, .ref (q 0)), (1, .int s0)]) hx hb dX5_costs_3 rfl hl (by decide) rfl (fun ls hl => ?_)
  refine W.lpR (pc := 4) (τ := Nat) (fun i => i ≤ n) (fun i ls => lv_has ls 4 [(0, .ref (q 0)), (1, .int s0), (2, .int (m_co (gMx i C (nI t) s0))), (3, .int (nI i))]) (fun i => n - i) ?_ 0 ls (Nat.zero_le _) (lv_sub hl [2, 3, 1, 0] rfl)
  intro i ls hi hl ihi
  have hi : i ≤ n := hi
  have hl : lv_has ls 4 [(0, .ref (q 0)), (1, .int s0), (2, .int (m_co (gMx i C (nI t) s0))), (3, .int (nI i))] := hl
  refine lv_iload_n hx hb dX5_costs_4 rfl (lv_at hl 3 rfl) ?_
  refine lv_aload_n hx hb dX5_costs_5 rfl (lv_at hl 0 rfl) ?_
  refine va_get (D := D) (ci := 5) (v := .int (nI n)) (C := RX5) (T := TX5) (N := 20) hx hb hts iX5 hown hK hP 0 rfl rfl 1 (by decide) (hts _ (List.mem_of_getElem? (i := 1) rfl)) (fun _ h9 => h9) rfl dX5_costs_6 ?_
  refine lv_icmp_ge (tgt := 38) hx hb dX5_costs_9 (by decide) (fun c_1 => ?_) (fun c_1 => ?_)
  · skip
    have c_1 : n ≤ i := (nI_leI (a := n) (b := i) (by omega) (by omega)).mp c_1
    refine lv_iload_n hx hb dX5_costs_38 rfl (lv_at hl 2 rfl) ?_
    exact ro_iret hx hb hr hlocks dX5_costs_39 (by rw [Nat.le_antisymm hi c_1])
  · skip
    have c_1 : ¬ n ≤ i := fun h => c_1 ((nI_leI (a := n) (b := i) (by omega) (by omega)).mpr h)
    refine lv_iload_n hx hb dX5_costs_12 rfl (lv_at hl 2 rfl) ?_
    refine lv_iload_n hx hb dX5_costs_13 rfl (lv_at hl 1 rfl) ?_
    refine lv_iload_n hx hb dX5_costs_14 rfl (lv_at hl 3 rfl) ?_
    refine ro_i (va_runS (As := [.int s0, .int (nI i)]) (rest := [.int (m_co (gMx i C (nI t) s0))]) F (kX5_has l s0 (nI i)) (va_cwS 2 hts gX5_costs_X5_has rfl rfl rfl hdX5_has ⟨(Nat.le_of_ble_eq_true rfl), (Nat.le_of_ble_eq_true rfl)⟩) ⟨tr_blind, tr_pre⟩ rfl rfl hl.1 rfl (lv_room (Nat.le_of_ble_eq_true rfl)) dX5_costs_15 ⟨Nat.zero_le _, Nat.zero_le _⟩) ?_
    refine lv_if_eq (tgt := 29) hx hb dX5_costs_18 (by decide) (fun c_2 => ?_) (fun c_2 => ?_)
    · skip
      have c_2 := zI_0 c_2
      refine lv_iconst (v := 0) hx hb dX5_costs_29 (by decide) ?_
      refine lv_iadd hx hb dX5_costs_30 ?_
      refine lv_istore_n (lv' := [(2, .int ((m_co (gMx i C (nI t) s0)) + 0)), (0, .ref (q 0)), (1, .int s0), (3, .int (nI i))]) hx hb dX5_costs_31 rfl hl (by decide) rfl (fun ls hl => ?_)
      refine lv_iinc (v := (nI i + 1)) (lv' := [(3, .int (nI i + 1)), (2, .int ((m_co (gMx i C (nI t) s0)) + 0)), (0, .ref (q 0)), (1, .int s0)]) hx hb dX5_costs_32 hl (k := 3) rfl rfl (by decide) rfl (fun ls hl => ?_)
      refine lv_goto (tgt := 4) hx hb dX5_costs_35 (by decide) ?_
      exact ihi (i + 1) ls (by show n - (i + 1) < n - i; omega) (by show i + 1 ≤ n; omega) (lv_sub hl [2, 3, 1, 0] (by
        show ([(0, .ref (q 0)), (1, .int s0), (2, .int ((m_co (gMx i C (nI t) s0)) + 0)), (3, .int (nI i + 1))] : List (Nat × Value)) = [(0, .ref (q 0)), (1, .int s0), (2, .int (m_co (gMx (i + 1) C (nI t) s0))), (3, .int (nI (i + 1)))]
        have e1 : m_co (gMx (i + 1) C (nI t) s0) = ((m_co (gMx i C (nI t) s0)) + 0) := by rw [g_s]; simp [addX, c_2]
        rw [e1]
        rw [← nI_1]))
    · skip
      have c_2 := zI_1 c_2
      refine lv_aload_n hx hb dX5_costs_21 rfl (lv_at hl 0 rfl) ?_
      refine lv_iload_n hx hb dX5_costs_22 rfl (lv_at hl 3 rfl) ?_
      refine ro_i (va_runV (As := [.int (nI i)]) (rest := [.int (m_co (gMx i C (nI t) s0))]) F (kX5_costOf l D y q t n C w rt r0 no sa to tr st im va i (by omega)) (cwV 1 hts gX5_costs_X5_costOf rfl rfl rfl ⟨rfl, hdX5_costOf⟩ ⟨(Nat.le_of_ble_eq_true rfl), (Nat.le_of_ble_eq_true rfl)⟩) ⟨rdB_blind, va_recv hK hP (ci := 5) (q0 := 0) rfl rfl, rdB_pre hP hK hN⟩ rfl rfl hl.1 rfl (lv_room (Nat.le_of_ble_eq_true rfl)) dX5_costs_23 ⟨Nat.zero_le _, Nat.zero_le _⟩) ?_
      refine lv_goto (tgt := 30) hx hb dX5_costs_26 (by decide) ?_
      refine lv_iadd hx hb dX5_costs_30 ?_
      refine lv_istore_n (lv' := [(2, .int ((m_co (gMx i C (nI t) s0)) + (costX (C i) (nI t)))), (0, .ref (q 0)), (1, .int s0), (3, .int (nI i))]) hx hb dX5_costs_31 rfl hl (by decide) rfl (fun ls hl => ?_)
      refine lv_iinc (v := (nI i + 1)) (lv' := [(3, .int (nI i + 1)), (2, .int ((m_co (gMx i C (nI t) s0)) + (costX (C i) (nI t)))), (0, .ref (q 0)), (1, .int s0)]) hx hb dX5_costs_32 hl (k := 3) rfl rfl (by decide) rfl (fun ls hl => ?_)
      refine lv_goto (tgt := 4) hx hb dX5_costs_35 (by decide) ?_
      exact ihi (i + 1) ls (by show n - (i + 1) < n - i; omega) (by show i + 1 ≤ n; omega) (lv_sub hl [2, 3, 1, 0] (by
        show ([(0, .ref (q 0)), (1, .int s0), (2, .int ((m_co (gMx i C (nI t) s0)) + (costX (C i) (nI t)))), (3, .int (nI i + 1))] : List (Nat × Value)) = [(0, .ref (q 0)), (1, .int s0), (2, .int (m_co (gMx (i + 1) C (nI t) s0))), (3, .int (nI (i + 1)))]
        have e1 : m_co (gMx (i + 1) C (nI t) s0) = ((m_co (gMx i C (nI t) s0)) + (costX (C i) (nI t))) := by rw [g_s]; simp [addX, c_2]
        rw [e1]
        rw [← nI_1]))

set_option maxHeartbeats 4000000 in
set_option maxRecDepth 100000 in
theorem kX5_youngest (l : Launch) (D : va_G) (y : Nat → ClassId) (q : Nat → Nat) (t n : Nat) (C : Nat → CT) (w : Nat → Int32) (rt : Int32) (r0 : Nat) (no sa to : Nat → Int32) (tr : Int64) (st im va : Nat → Int32) (s0 : Int32) (hn : n ≤ 12) (hI : INV n t C) (hj : ∃ j, j < n ∧ hs s0 j = true) : Met l yX5_youngest wsX5_youngest ({ frames := 1, cells := 0, slots := 0, locals := 21 }) (va_Pc [.ref (q 0), .int s0] (rdB D (mTy y) (mWC y q (nI t) (nI n) C w rt (nI r0) no sa to tr st im va))) (vp_Si (fun x => x = (m_ag (gMx n C (nI t) s0)))) 0 0 nF := by
  refine ro_start (cc := cX5_youngest) (maxL := 4) (ret := (some .int)) (by decide) rfl (Nat.le_of_ble_eq_true rfl) ?_
  intro p e s m below meth c ls hx hb hr hml hown hlocks hts hnm hB hl
  obtain ⟨hP, hK, hN⟩ := hB
  have hown : s.vm.findClass RX5 = some m.cls := hown
  have F : CallFix p m c cX5_youngest 4 s [.ref (q 0), .int s0].toArray wsX5_youngest RX5 := ⟨hx, hb, hml, hown, hts⟩
  have hl : lv_has ls 4 [(0, .ref (q 0)), (1, .int s0)] := hl
  have iX5 : ∀ w ∈ u_ws RX5 TX5 20, w ∈ wsX5_youngest := mem_pl [12, 13, 14, 15, 16, 17, 18, 19, 20, 21, 22, 23, 24, 25, 26, 27, 28, 29, 30, 31] rfl
  refine lv_bipush (v := 61) hx hb dX5_youngest_0 (by decide) ?_
  refine lv_istore_n (lv' := [(2, .int 61), (0, .ref (q 0)), (1, .int s0)]) hx hb dX5_youngest_2 rfl hl (by decide) rfl (fun ls hl => ?_)
  refine lv_iconst (v := 0) hx hb dX5_youngest_3 (by decide) ?_
  refine lv_istore_n (lv' := [(3, .int 0), (2, .int 61), (0, .ref (q 0)), (1, .int s0)]) hx hb dX5_youngest_4 rfl hl (by decide) rfl (fun ls hl => ?_)
  refine W.lpR (pc := 5) (τ := Nat) (fun i => i ≤ n) (fun i ls => lv_has ls 4 [(0, .ref (q 0)), (1, .int s0), (2, .int (fN (ygf C (nI t) s0) i 61)), (3, .int (nI i))]) (fun i => n - i) ?_ 0 ls (Nat.zero_le _) (lv_sub hl [2, 3, 1, 0] rfl)
  intro i ls hi hl ihi
  have hi : i ≤ n := hi
  have hl : lv_has ls 4 [(0, .ref (q 0)), (1, .int s0), (2, .int (fN (ygf C (nI t) s0) i 61)), (3, .int (nI i))] := hl
  refine lv_iload_n hx hb dX5_youngest_5 rfl (lv_at hl 3 rfl) ?_
  refine lv_aload_n hx hb dX5_youngest_6 rfl (lv_at hl 0 rfl) ?_
  refine va_get (D := D) (ci := 5) (v := .int (nI n)) (C := RX5) (T := TX5) (N := 20) hx hb hts iX5 hown hK hP 0 rfl rfl 1 (by decide) (hts _ (List.mem_of_getElem? (i := 1) rfl)) (fun _ h9 => h9) rfl dX5_youngest_7 ?_
  refine lv_icmp_ge (tgt := 46) hx hb dX5_youngest_10 (by decide) (fun c_1 => ?_) (fun c_1 => ?_)
  · skip
    have c_1 : n ≤ i := (nI_leI (a := n) (b := i) (by omega) (by omega)).mp c_1
    refine lv_iload_n hx hb dX5_youngest_46 rfl (lv_at hl 2 rfl) ?_
    exact ro_iret hx hb hr hlocks dX5_youngest_47 (by rw [Nat.le_antisymm hi c_1]; exact yg_eq hI hj)
  · skip
    have c_1 : ¬ n ≤ i := fun h => c_1 ((nI_leI (a := n) (b := i) (by omega) (by omega)).mpr h)
    refine lv_iload_n hx hb dX5_youngest_13 rfl (lv_at hl 1 rfl) ?_
    refine lv_iload_n hx hb dX5_youngest_14 rfl (lv_at hl 3 rfl) ?_
    refine ro_i (va_runS (As := [.int s0, .int (nI i)]) (rest := []) F (kX5_has l s0 (nI i)) (va_cwS 2 hts gX5_youngest_X5_has rfl rfl rfl hdX5_has ⟨(Nat.le_of_ble_eq_true rfl), (Nat.le_of_ble_eq_true rfl)⟩) ⟨tr_blind, tr_pre⟩ rfl rfl hl.1 rfl (lv_room (Nat.le_of_ble_eq_true rfl)) dX5_youngest_15 ⟨Nat.zero_le _, Nat.zero_le _⟩) ?_
    refine lv_if_eq (tgt := 38) hx hb dX5_youngest_18 (by decide) (fun c_2 => ?_) (fun c_2 => ?_)
    · skip
      have c_2 := zI_0 c_2
      refine lv_iload_n hx hb dX5_youngest_38 rfl (lv_at hl 2 rfl) ?_
      refine lv_istore_n (lv' := [(2, .int (fN (ygf C (nI t) s0) i 61)), (0, .ref (q 0)), (1, .int s0), (3, .int (nI i))]) hx hb dX5_youngest_39 rfl hl (by decide) rfl (fun ls hl => ?_)
      refine lv_iinc (v := (nI i + 1)) (lv' := [(3, .int (nI i + 1)), (2, .int (fN (ygf C (nI t) s0) i 61)), (0, .ref (q 0)), (1, .int s0)]) hx hb dX5_youngest_40 hl (k := 3) rfl rfl (by decide) rfl (fun ls hl => ?_)
      refine lv_goto (tgt := 5) hx hb dX5_youngest_43 (by decide) ?_
      exact ihi (i + 1) ls (by show n - (i + 1) < n - i; omega) (by show i + 1 ≤ n; omega) (lv_sub hl [2, 3, 1, 0] (by
        show ([(0, .ref (q 0)), (1, .int s0), (2, .int (fN (ygf C (nI t) s0) i 61)), (3, .int (nI i + 1))] : List (Nat × Value)) = [(0, .ref (q 0)), (1, .int s0), (2, .int (fN (ygf C (nI t) s0) (i + 1) 61)), (3, .int (nI (i + 1)))]
        have e1 : fN (ygf C (nI t) s0) (i + 1) 61 = fN (ygf C (nI t) s0) i 61 := (fN_s _ _ _).trans (ygf_n c_2)
        rw [e1]
        rw [← nI_1]))
    · skip
      have c_2 := zI_1 c_2
      refine lv_aload_n hx hb dX5_youngest_21 rfl (lv_at hl 0 rfl) ?_
      refine lv_iload_n hx hb dX5_youngest_22 rfl (lv_at hl 3 rfl) ?_
      refine ro_i (va_runV (As := [.int (nI i)]) (rest := []) F (kX5_ageOf l D y q t n C w rt r0 no sa to tr st im va i (by omega)) (cwV 1 hts gX5_youngest_X5_ageOf rfl rfl rfl ⟨rfl, hdX5_ageOf⟩ ⟨(Nat.le_of_ble_eq_true rfl), (Nat.le_of_ble_eq_true rfl)⟩) ⟨rdB_blind, va_recv hK hP (ci := 5) (q0 := 0) rfl rfl, rdB_pre hP hK hN⟩ rfl rfl hl.1 rfl (lv_room (Nat.le_of_ble_eq_true rfl)) dX5_youngest_23 ⟨Nat.zero_le _, Nat.zero_le _⟩) ?_
      refine lv_iload_n hx hb dX5_youngest_26 rfl (lv_at hl 2 rfl) ?_
      refine lv_icmp_ge (tgt := 38) hx hb dX5_youngest_27 (by decide) (fun c_3 => ?_) (fun c_3 => ?_)
      · skip
        refine lv_iload_n hx hb dX5_youngest_38 rfl (lv_at hl 2 rfl) ?_
        refine lv_istore_n (lv' := [(2, .int (fN (ygf C (nI t) s0) i 61)), (0, .ref (q 0)), (1, .int s0), (3, .int (nI i))]) hx hb dX5_youngest_39 rfl hl (by decide) rfl (fun ls hl => ?_)
        refine lv_iinc (v := (nI i + 1)) (lv' := [(3, .int (nI i + 1)), (2, .int (fN (ygf C (nI t) s0) i 61)), (0, .ref (q 0)), (1, .int s0)]) hx hb dX5_youngest_40 hl (k := 3) rfl rfl (by decide) rfl (fun ls hl => ?_)
        refine lv_goto (tgt := 5) hx hb dX5_youngest_43 (by decide) ?_
        exact ihi (i + 1) ls (by show n - (i + 1) < n - i; omega) (by show i + 1 ≤ n; omega) (lv_sub hl [2, 3, 1, 0] (by
          show ([(0, .ref (q 0)), (1, .int s0), (2, .int (fN (ygf C (nI t) s0) i 61)), (3, .int (nI i + 1))] : List (Nat × Value)) = [(0, .ref (q 0)), (1, .int s0), (2, .int (fN (ygf C (nI t) s0) (i + 1) 61)), (3, .int (nI (i + 1)))]
          have e1 : fN (ygf C (nI t) s0) (i + 1) 61 = fN (ygf C (nI t) s0) i 61 := (fN_s _ _ _).trans (ygf_l c_2 c_3)
          rw [e1]
          rw [← nI_1]))
      · skip
        refine lv_aload_n hx hb dX5_youngest_30 rfl (lv_at hl 0 rfl) ?_
        refine lv_iload_n hx hb dX5_youngest_31 rfl (lv_at hl 3 rfl) ?_
        refine ro_i (va_runV (As := [.int (nI i)]) (rest := []) F (kX5_ageOf l D y q t n C w rt r0 no sa to tr st im va i (by omega)) (cwV 1 hts gX5_youngest_X5_ageOf rfl rfl rfl ⟨rfl, hdX5_ageOf⟩ ⟨(Nat.le_of_ble_eq_true rfl), (Nat.le_of_ble_eq_true rfl)⟩) ⟨rdB_blind, va_recv hK hP (ci := 5) (q0 := 0) rfl rfl, rdB_pre hP hK hN⟩ rfl rfl hl.1 rfl (lv_room (Nat.le_of_ble_eq_true rfl)) dX5_youngest_32 ⟨Nat.zero_le _, Nat.zero_le _⟩) ?_
        refine lv_goto (tgt := 39) hx hb dX5_youngest_35 (by decide) ?_
        refine lv_istore_n (lv' := [(2, .int (nI t - c_la (C i))), (0, .ref (q 0)), (1, .int s0), (3, .int (nI i))]) hx hb dX5_youngest_39 rfl hl (by decide) rfl (fun ls hl => ?_)
        refine lv_iinc (v := (nI i + 1)) (lv' := [(3, .int (nI i + 1)), (2, .int (nI t - c_la (C i))), (0, .ref (q 0)), (1, .int s0)]) hx hb dX5_youngest_40 hl (k := 3) rfl rfl (by decide) rfl (fun ls hl => ?_)
        refine lv_goto (tgt := 5) hx hb dX5_youngest_43 (by decide) ?_
        exact ihi (i + 1) ls (by show n - (i + 1) < n - i; omega) (by show i + 1 ≤ n; omega) (lv_sub hl [2, 3, 1, 0] (by
          show ([(0, .ref (q 0)), (1, .int s0), (2, .int (nI t - c_la (C i))), (3, .int (nI i + 1))] : List (Nat × Value)) = [(0, .ref (q 0)), (1, .int s0), (2, .int (fN (ygf C (nI t) s0) (i + 1) 61)), (3, .int (nI (i + 1)))]
          have e1 : fN (ygf C (nI t) s0) (i + 1) 61 = (nI t - c_la (C i)) := (fN_s _ _ _).trans (ygf_a c_2 c_3)
          rw [e1]
          rw [← nI_1]))

set_option maxHeartbeats 4000000 in
set_option maxRecDepth 100000 in
theorem kX5_partOf (l : Launch) (D : va_G) (y : Nat → ClassId) (q : Nat → Nat) (t n : Nat) (C : Nat → CT) (w : Nat → Int32) (rt : Int32) (r0 : Nat) (no sa to : Nat → Int32) (tr : Int64) (st im va : Nat → Int32) (s0 : Int32) (p0 : Int32) (hn : n ≤ 12) (hI : INV n t C) (hd : 1 ≤ Sd C s0 n) : Met l yX5_partOf wsX5_partOf ({ frames := 2, cells := 0, slots := 0, locals := 44 }) (va_Pc [.ref (q 0), .int s0, .int p0] (rdB D (mTy y) (mWC y q (nI t) (nI n) C w rt (nI r0) no sa to tr st im va))) (vp_Si (fun x => x = (evX (gMx n C (nI t) s0) (ptm p0 (gMx n C (nI t) s0))))) 0 0 nF := by
  refine ro_start (cc := cX5_partOf) (maxL := 7) (ret := (some .int)) (by decide) rfl (Nat.le_of_ble_eq_true rfl) ?_
  intro p e s m below meth c ls hx hb hr hml hown hlocks hts hnm hB hl
  obtain ⟨hP, hK, hN⟩ := hB
  have hown : s.vm.findClass RX5 = some m.cls := hown
  have F : CallFix p m c cX5_partOf 7 s [.ref (q 0), .int s0, .int p0].toArray wsX5_partOf RX5 := ⟨hx, hb, hml, hown, hts⟩
  have hl : lv_has ls 7 [(0, .ref (q 0)), (1, .int s0), (2, .int p0)] := hl
  have iX5 : ∀ w ∈ u_ws RX5 TX5 20, w ∈ wsX5_partOf := mem_pl [15, 16, 17, 18, 19, 20, 21, 22, 23, 24, 25, 26, 27, 28, 29, 30, 31, 32, 33, 34] rfl
  refine lv_lconst (v := 0) hx hb dX5_partOf_0 rfl ?_
  refine lv_lstore_n (lv' := [(3, .long 0), (0, .ref (q 0)), (1, .int s0), (2, .int p0)]) hx hb dX5_partOf_1 rfl hl (by decide) rfl (fun ls hl => ?_)
  refine lv_iconst (v := 0) hx hb dX5_partOf_2 (by decide) ?_
  refine lv_istore (lv' := [(5, .int 0), (3, .long 0), (0, .ref (q 0)), (1, .int s0), (2, .int p0)]) hx hb dX5_partOf_3 hl (by decide) rfl (fun ls hl => ?_)
  refine W.lpR (pc := 5) (τ := Nat) (fun i => i ≤ n) (fun i ls => lv_has ls 7 [(0, .ref (q 0)), (1, .int s0), (2, .int p0), (3, .long (fN (ptf C s0 p0) i 0)), (5, .int (nI i))]) (fun i => n - i) ?_ 0 ls (Nat.zero_le _) (lv_sub hl [2, 3, 4, 1, 0] rfl)
  intro i ls hi hl ihi
  have hi : i ≤ n := hi
  have hl : lv_has ls 7 [(0, .ref (q 0)), (1, .int s0), (2, .int p0), (3, .long (fN (ptf C s0 p0) i 0)), (5, .int (nI i))] := hl
  refine lv_iload hx hb dX5_partOf_5 (lv_at hl 4 rfl) ?_
  refine lv_aload_n hx hb dX5_partOf_7 rfl (lv_at hl 0 rfl) ?_
  refine va_get (D := D) (ci := 5) (v := .int (nI n)) (C := RX5) (T := TX5) (N := 20) hx hb hts iX5 hown hK hP 0 rfl rfl 1 (by decide) (hts _ (List.mem_of_getElem? (i := 1) rfl)) (fun _ h9 => h9) rfl dX5_partOf_8 ?_
  refine lv_icmp_ge (tgt := 101) hx hb dX5_partOf_11 (by decide) (fun c_1 => ?_) (fun c_1 => ?_)
  · skip
    have c_1 : n ≤ i := (nI_leI (a := n) (b := i) (by omega) (by omega)).mp c_1
    refine lv_lload_n hx hb dX5_partOf_101 rfl (lv_at hl 3 rfl) ?_
    refine lv_aload_n hx hb dX5_partOf_102 rfl (lv_at hl 0 rfl) ?_
    refine lv_iload_n hx hb dX5_partOf_103 rfl (lv_at hl 1 rfl) ?_
    refine ro_i (va_runV (As := [.int s0]) (rest := [.long (fN (ptf C s0 p0) i 0)]) F (kX5_dropsOf l D y q t n C w rt r0 no sa to tr st im va s0 hn) (cwV 1 hts gX5_partOf_X5_dropsOf rfl rfl rfl ⟨rfl, hdX5_dropsOf⟩ ⟨(Nat.le_of_ble_eq_true rfl), (Nat.le_of_ble_eq_true rfl)⟩) ⟨rdB_blind, va_recv hK hP (ci := 5) (q0 := 0) rfl rfl, rdB_pre hP hK hN⟩ rfl rfl hl.1 rfl (lv_room (Nat.le_of_ble_eq_true rfl)) dX5_partOf_104 ⟨Nat.zero_le _, Nat.zero_le _⟩) ?_
    refine lv_i2l hx hb dX5_partOf_107 rfl ?_
    refine lv_ldiv hx hb dX5_partOf_108 (pt_eq hI hd p0).2 ?_
    refine lv_l2i hx hb dX5_partOf_109 rfl ?_
    exact ro_iret hx hb hr hlocks dX5_partOf_110 (by rw [Nat.le_antisymm hi c_1]; exact (pt_eq hI hd p0).1)
  · skip
    have c_1 : ¬ n ≤ i := fun h => c_1 ((nI_leI (a := n) (b := i) (by omega) (by omega)).mpr h)
    refine lv_iload_n hx hb dX5_partOf_14 rfl (lv_at hl 2 rfl) ?_
    refine lv_if_ne (tgt := 28) hx hb dX5_partOf_15 (by decide) (fun c_2 => ?_) (fun c_2 => ?_)
    · skip
      refine lv_iload_n hx hb dX5_partOf_28 rfl (lv_at hl 2 rfl) ?_
      refine lv_iconst (v := 1) hx hb dX5_partOf_29 (by decide) ?_
      refine lv_icmp_ne (tgt := 43) hx hb dX5_partOf_30 (by decide) (fun c_3 => ?_) (fun c_3 => ?_)
      · skip
        refine lv_iload_n hx hb dX5_partOf_43 rfl (lv_at hl 2 rfl) ?_
        refine lv_iconst (v := 2) hx hb dX5_partOf_44 (by decide) ?_
        refine lv_icmp_ne (tgt := 58) hx hb dX5_partOf_45 (by decide) (fun c_4 => ?_) (fun c_4 => ?_)
        · skip
          refine lv_aload_n hx hb dX5_partOf_58 rfl (lv_at hl 0 rfl) ?_
          refine va_get (D := D) (ci := 5) (v := .ref (q 3)) (C := RX5) (T := TX5) (N := 20) hx hb hts iX5 hown hK hP 0 rfl rfl 4 (by decide) (hts _ (List.mem_of_getElem? (i := 5) rfl)) (fun _ h9 => h9) rfl dX5_partOf_59 ?_
          refine lv_iload hx hb dX5_partOf_62 (lv_at hl 4 rfl) ?_
          refine wa_iald hx hb hK hP 3 2 rfl rfl i rfl (by omega) (by decide) dX5_partOf_64 ?_
          refine lv_istore (lv' := [(6, .int (c_sg (C i))), (0, .ref (q 0)), (1, .int s0), (2, .int p0), (3, .long (fN (ptf C s0 p0) i 0)), (5, .int (nI i))]) hx hb dX5_partOf_65 hl (by decide) rfl (fun ls hl => ?_)
          refine lv_lload_n hx hb dX5_partOf_67 rfl (lv_at hl 4 rfl) ?_
          refine lv_iload_n hx hb dX5_partOf_68 rfl (lv_at hl 2 rfl) ?_
          refine lv_iload hx hb dX5_partOf_69 (lv_at hl 5 rfl) ?_
          refine ro_i (va_runS (As := [.int s0, .int (nI i)]) (rest := [.long (fN (ptf C s0 p0) i 0)]) F (kX5_has l s0 (nI i)) (va_cwS 2 hts gX5_partOf_X5_has rfl rfl rfl hdX5_has ⟨(Nat.le_of_ble_eq_true rfl), (Nat.le_of_ble_eq_true rfl)⟩) ⟨tr_blind, tr_pre⟩ rfl rfl hl.1 rfl (lv_room (Nat.le_of_ble_eq_true rfl)) dX5_partOf_71 ⟨Nat.zero_le _, Nat.zero_le _⟩) ?_
          refine lv_if_eq (tgt := 92) hx hb dX5_partOf_74 (by decide) (fun c_5 => ?_) (fun c_5 => ?_)
          · skip
            have c_5 := zI_0 c_5
            refine lv_lconst (v := 0) hx hb dX5_partOf_92 rfl ?_
            refine lv_ladd hx hb dX5_partOf_93 ?_
            refine lv_lstore_n (lv' := [(3, .long ((fN (ptf C s0 p0) i 0) + 0)), (6, .int (c_sg (C i))), (0, .ref (q 0)), (1, .int s0), (2, .int p0), (5, .int (nI i))]) hx hb dX5_partOf_94 rfl hl (by decide) rfl (fun ls hl => ?_)
            refine lv_iinc (v := (nI i + 1)) (lv' := [(5, .int (nI i + 1)), (3, .long ((fN (ptf C s0 p0) i 0) + 0)), (6, .int (c_sg (C i))), (0, .ref (q 0)), (1, .int s0), (2, .int p0)]) hx hb dX5_partOf_95 hl (k := 5) rfl rfl (by decide) rfl (fun ls hl => ?_)
            refine lv_goto (tgt := 5) hx hb dX5_partOf_98 (by decide) ?_
            exact ihi (i + 1) ls (by show n - (i + 1) < n - i; omega) (by show i + 1 ≤ n; omega) (lv_sub hl [3, 4, 5, 1, 0] (by
              show ([(0, .ref (q 0)), (1, .int s0), (2, .int p0), (3, .long ((fN (ptf C s0 p0) i 0) + 0)), (5, .int (nI i + 1))] : List (Nat × Value)) = [(0, .ref (q 0)), (1, .int s0), (2, .int p0), (3, .long (fN (ptf C s0 p0) (i + 1) 0)), (5, .int (nI (i + 1)))]
              have e1 : fN (ptf C s0 p0) (i + 1) 0 = ((fN (ptf C s0 p0) i 0) + 0) := by rw [fN_s]; unfold ptf ptv; simp [c_2, c_3, c_4, c_5]
              rw [e1]
              rw [← nI_1]))
          · skip
            have c_5 := zI_1 c_5
            refine lv_aload_n hx hb dX5_partOf_77 rfl (lv_at hl 1 rfl) ?_
            refine va_get (D := D) (ci := 5) (v := .ref (q 2)) (C := RX5) (T := TX5) (N := 20) hx hb hts iX5 hown hK hP 0 rfl rfl 3 (by decide) (hts _ (List.mem_of_getElem? (i := 6) rfl)) (fun _ h9 => h9) rfl dX5_partOf_78 ?_
            refine lv_iload hx hb dX5_partOf_81 (lv_at hl 5 rfl) ?_
            refine wa_iald hx hb hK hP 2 1 rfl rfl i rfl (by omega) (by decide) dX5_partOf_83 ?_
            refine lv_i2l hx hb dX5_partOf_84 rfl ?_
            refine lv_iload hx hb dX5_partOf_85 (lv_at hl 0 rfl) ?_
            refine lv_i2l hx hb dX5_partOf_87 rfl ?_
            refine lv_lmul hx hb dX5_partOf_88 ?_
            refine lv_goto (tgt := 93) hx hb dX5_partOf_89 (by decide) ?_
            refine lv_ladd hx hb dX5_partOf_93 ?_
            refine lv_lstore_n (lv' := [(3, .long ((fN (ptf C s0 p0) i 0) + (((c_dr (C i)).toInt64) * ((c_sg (C i)).toInt64)))), (6, .int (c_sg (C i))), (0, .ref (q 0)), (1, .int s0), (2, .int p0), (5, .int (nI i))]) hx hb dX5_partOf_94 rfl hl (by decide) rfl (fun ls hl => ?_)
            refine lv_iinc (v := (nI i + 1)) (lv' := [(5, .int (nI i + 1)), (3, .long ((fN (ptf C s0 p0) i 0) + (((c_dr (C i)).toInt64) * ((c_sg (C i)).toInt64)))), (6, .int (c_sg (C i))), (0, .ref (q 0)), (1, .int s0), (2, .int p0)]) hx hb dX5_partOf_95 hl (k := 5) rfl rfl (by decide) rfl (fun ls hl => ?_)
            refine lv_goto (tgt := 5) hx hb dX5_partOf_98 (by decide) ?_
            exact ihi (i + 1) ls (by show n - (i + 1) < n - i; omega) (by show i + 1 ≤ n; omega) (lv_sub hl [3, 4, 5, 1, 0] (by
              show ([(0, .ref (q 0)), (1, .int s0), (2, .int p0), (3, .long ((fN (ptf C s0 p0) i 0) + (((c_dr (C i)).toInt64) * ((c_sg (C i)).toInt64)))), (5, .int (nI i + 1))] : List (Nat × Value)) = [(0, .ref (q 0)), (1, .int s0), (2, .int p0), (3, .long (fN (ptf C s0 p0) (i + 1) 0)), (5, .int (nI (i + 1)))]
              have e1 : fN (ptf C s0 p0) (i + 1) 0 = ((fN (ptf C s0 p0) i 0) + (((c_dr (C i)).toInt64) * ((c_sg (C i)).toInt64))) := by rw [fN_s]; unfold ptf ptv; simp [c_2, c_3, c_4, c_5]
              rw [e1]
              rw [← nI_1]))
        · skip
          refine lv_aload_n hx hb dX5_partOf_48 rfl (lv_at hl 0 rfl) ?_
          refine va_get (D := D) (ci := 5) (v := .ref (q 8)) (C := RX5) (T := TX5) (N := 20) hx hb hts iX5 hown hK hP 0 rfl rfl 9 (by decide) (hts _ (List.mem_of_getElem? (i := 4) rfl)) (fun _ h9 => h9) rfl dX5_partOf_49 ?_
          refine lv_iload hx hb dX5_partOf_52 (lv_at hl 4 rfl) ?_
          refine wa_iald hx hb hK hP 8 7 rfl rfl i rfl (by omega) (by decide) dX5_partOf_54 ?_
          refine lv_goto (tgt := 65) hx hb dX5_partOf_55 (by decide) ?_
          refine lv_istore (lv' := [(6, .int (c_sw (C i))), (0, .ref (q 0)), (1, .int s0), (2, .int p0), (3, .long (fN (ptf C s0 p0) i 0)), (5, .int (nI i))]) hx hb dX5_partOf_65 hl (by decide) rfl (fun ls hl => ?_)
          refine lv_lload_n hx hb dX5_partOf_67 rfl (lv_at hl 4 rfl) ?_
          refine lv_iload_n hx hb dX5_partOf_68 rfl (lv_at hl 2 rfl) ?_
          refine lv_iload hx hb dX5_partOf_69 (lv_at hl 5 rfl) ?_
          refine ro_i (va_runS (As := [.int s0, .int (nI i)]) (rest := [.long (fN (ptf C s0 p0) i 0)]) F (kX5_has l s0 (nI i)) (va_cwS 2 hts gX5_partOf_X5_has rfl rfl rfl hdX5_has ⟨(Nat.le_of_ble_eq_true rfl), (Nat.le_of_ble_eq_true rfl)⟩) ⟨tr_blind, tr_pre⟩ rfl rfl hl.1 rfl (lv_room (Nat.le_of_ble_eq_true rfl)) dX5_partOf_71 ⟨Nat.zero_le _, Nat.zero_le _⟩) ?_
          refine lv_if_eq (tgt := 92) hx hb dX5_partOf_74 (by decide) (fun c_6 => ?_) (fun c_6 => ?_)
          · skip
            have c_6 := zI_0 c_6
            refine lv_lconst (v := 0) hx hb dX5_partOf_92 rfl ?_
            refine lv_ladd hx hb dX5_partOf_93 ?_
            refine lv_lstore_n (lv' := [(3, .long ((fN (ptf C s0 p0) i 0) + 0)), (6, .int (c_sw (C i))), (0, .ref (q 0)), (1, .int s0), (2, .int p0), (5, .int (nI i))]) hx hb dX5_partOf_94 rfl hl (by decide) rfl (fun ls hl => ?_)
            refine lv_iinc (v := (nI i + 1)) (lv' := [(5, .int (nI i + 1)), (3, .long ((fN (ptf C s0 p0) i 0) + 0)), (6, .int (c_sw (C i))), (0, .ref (q 0)), (1, .int s0), (2, .int p0)]) hx hb dX5_partOf_95 hl (k := 5) rfl rfl (by decide) rfl (fun ls hl => ?_)
            refine lv_goto (tgt := 5) hx hb dX5_partOf_98 (by decide) ?_
            exact ihi (i + 1) ls (by show n - (i + 1) < n - i; omega) (by show i + 1 ≤ n; omega) (lv_sub hl [3, 4, 5, 1, 0] (by
              show ([(0, .ref (q 0)), (1, .int s0), (2, .int p0), (3, .long ((fN (ptf C s0 p0) i 0) + 0)), (5, .int (nI i + 1))] : List (Nat × Value)) = [(0, .ref (q 0)), (1, .int s0), (2, .int p0), (3, .long (fN (ptf C s0 p0) (i + 1) 0)), (5, .int (nI (i + 1)))]
              have e1 : fN (ptf C s0 p0) (i + 1) 0 = ((fN (ptf C s0 p0) i 0) + 0) := by rw [fN_s]; unfold ptf ptv; simp [c_2, c_3, c_4, c_6]
              rw [e1]
              rw [← nI_1]))
          · skip
            have c_6 := zI_1 c_6
            refine lv_aload_n hx hb dX5_partOf_77 rfl (lv_at hl 1 rfl) ?_
            refine va_get (D := D) (ci := 5) (v := .ref (q 2)) (C := RX5) (T := TX5) (N := 20) hx hb hts iX5 hown hK hP 0 rfl rfl 3 (by decide) (hts _ (List.mem_of_getElem? (i := 6) rfl)) (fun _ h9 => h9) rfl dX5_partOf_78 ?_
            refine lv_iload hx hb dX5_partOf_81 (lv_at hl 5 rfl) ?_
            refine wa_iald hx hb hK hP 2 1 rfl rfl i rfl (by omega) (by decide) dX5_partOf_83 ?_
            refine lv_i2l hx hb dX5_partOf_84 rfl ?_
            refine lv_iload hx hb dX5_partOf_85 (lv_at hl 0 rfl) ?_
            refine lv_i2l hx hb dX5_partOf_87 rfl ?_
            refine lv_lmul hx hb dX5_partOf_88 ?_
            refine lv_goto (tgt := 93) hx hb dX5_partOf_89 (by decide) ?_
            refine lv_ladd hx hb dX5_partOf_93 ?_
            refine lv_lstore_n (lv' := [(3, .long ((fN (ptf C s0 p0) i 0) + (((c_dr (C i)).toInt64) * ((c_sw (C i)).toInt64)))), (6, .int (c_sw (C i))), (0, .ref (q 0)), (1, .int s0), (2, .int p0), (5, .int (nI i))]) hx hb dX5_partOf_94 rfl hl (by decide) rfl (fun ls hl => ?_)
            refine lv_iinc (v := (nI i + 1)) (lv' := [(5, .int (nI i + 1)), (3, .long ((fN (ptf C s0 p0) i 0) + (((c_dr (C i)).toInt64) * ((c_sw (C i)).toInt64)))), (6, .int (c_sw (C i))), (0, .ref (q 0)), (1, .int s0), (2, .int p0)]) hx hb dX5_partOf_95 hl (k := 5) rfl rfl (by decide) rfl (fun ls hl => ?_)
            refine lv_goto (tgt := 5) hx hb dX5_partOf_98 (by decide) ?_
            exact ihi (i + 1) ls (by show n - (i + 1) < n - i; omega) (by show i + 1 ≤ n; omega) (lv_sub hl [3, 4, 5, 1, 0] (by
              show ([(0, .ref (q 0)), (1, .int s0), (2, .int p0), (3, .long ((fN (ptf C s0 p0) i 0) + (((c_dr (C i)).toInt64) * ((c_sw (C i)).toInt64)))), (5, .int (nI i + 1))] : List (Nat × Value)) = [(0, .ref (q 0)), (1, .int s0), (2, .int p0), (3, .long (fN (ptf C s0 p0) (i + 1) 0)), (5, .int (nI (i + 1)))]
              have e1 : fN (ptf C s0 p0) (i + 1) 0 = ((fN (ptf C s0 p0) i 0) + (((c_dr (C i)).toInt64) * ((c_sw (C i)).toInt64))) := by rw [fN_s]; unfold ptf ptv; simp [c_2, c_3, c_4, c_6]
              rw [e1]
              rw [← nI_1]))
      · skip
        refine lv_aload_n hx hb dX5_partOf_33 rfl (lv_at hl 0 rfl) ?_
        refine va_get (D := D) (ci := 5) (v := .ref (q 7)) (C := RX5) (T := TX5) (N := 20) hx hb hts iX5 hown hK hP 0 rfl rfl 8 (by decide) (hts _ (List.mem_of_getElem? (i := 3) rfl)) (fun _ h9 => h9) rfl dX5_partOf_34 ?_
        refine lv_iload hx hb dX5_partOf_37 (lv_at hl 4 rfl) ?_
        refine wa_iald hx hb hK hP 7 6 rfl rfl i rfl (by omega) (by decide) dX5_partOf_39 ?_
        refine lv_goto (tgt := 65) hx hb dX5_partOf_40 (by decide) ?_
        refine lv_istore (lv' := [(6, .int (c_sm (C i))), (0, .ref (q 0)), (1, .int s0), (2, .int p0), (3, .long (fN (ptf C s0 p0) i 0)), (5, .int (nI i))]) hx hb dX5_partOf_65 hl (by decide) rfl (fun ls hl => ?_)
        refine lv_lload_n hx hb dX5_partOf_67 rfl (lv_at hl 4 rfl) ?_
        refine lv_iload_n hx hb dX5_partOf_68 rfl (lv_at hl 2 rfl) ?_
        refine lv_iload hx hb dX5_partOf_69 (lv_at hl 5 rfl) ?_
        refine ro_i (va_runS (As := [.int s0, .int (nI i)]) (rest := [.long (fN (ptf C s0 p0) i 0)]) F (kX5_has l s0 (nI i)) (va_cwS 2 hts gX5_partOf_X5_has rfl rfl rfl hdX5_has ⟨(Nat.le_of_ble_eq_true rfl), (Nat.le_of_ble_eq_true rfl)⟩) ⟨tr_blind, tr_pre⟩ rfl rfl hl.1 rfl (lv_room (Nat.le_of_ble_eq_true rfl)) dX5_partOf_71 ⟨Nat.zero_le _, Nat.zero_le _⟩) ?_
        refine lv_if_eq (tgt := 92) hx hb dX5_partOf_74 (by decide) (fun c_7 => ?_) (fun c_7 => ?_)
        · skip
          have c_7 := zI_0 c_7
          refine lv_lconst (v := 0) hx hb dX5_partOf_92 rfl ?_
          refine lv_ladd hx hb dX5_partOf_93 ?_
          refine lv_lstore_n (lv' := [(3, .long ((fN (ptf C s0 p0) i 0) + 0)), (6, .int (c_sm (C i))), (0, .ref (q 0)), (1, .int s0), (2, .int p0), (5, .int (nI i))]) hx hb dX5_partOf_94 rfl hl (by decide) rfl (fun ls hl => ?_)
          refine lv_iinc (v := (nI i + 1)) (lv' := [(5, .int (nI i + 1)), (3, .long ((fN (ptf C s0 p0) i 0) + 0)), (6, .int (c_sm (C i))), (0, .ref (q 0)), (1, .int s0), (2, .int p0)]) hx hb dX5_partOf_95 hl (k := 5) rfl rfl (by decide) rfl (fun ls hl => ?_)
          refine lv_goto (tgt := 5) hx hb dX5_partOf_98 (by decide) ?_
          exact ihi (i + 1) ls (by show n - (i + 1) < n - i; omega) (by show i + 1 ≤ n; omega) (lv_sub hl [3, 4, 5, 1, 0] (by
            show ([(0, .ref (q 0)), (1, .int s0), (2, .int p0), (3, .long ((fN (ptf C s0 p0) i 0) + 0)), (5, .int (nI i + 1))] : List (Nat × Value)) = [(0, .ref (q 0)), (1, .int s0), (2, .int p0), (3, .long (fN (ptf C s0 p0) (i + 1) 0)), (5, .int (nI (i + 1)))]
            have e1 : fN (ptf C s0 p0) (i + 1) 0 = ((fN (ptf C s0 p0) i 0) + 0) := by rw [fN_s]; unfold ptf ptv; simp [c_2, c_3, c_7]
            rw [e1]
            rw [← nI_1]))
        · skip
          have c_7 := zI_1 c_7
          refine lv_aload_n hx hb dX5_partOf_77 rfl (lv_at hl 1 rfl) ?_
          refine va_get (D := D) (ci := 5) (v := .ref (q 2)) (C := RX5) (T := TX5) (N := 20) hx hb hts iX5 hown hK hP 0 rfl rfl 3 (by decide) (hts _ (List.mem_of_getElem? (i := 6) rfl)) (fun _ h9 => h9) rfl dX5_partOf_78 ?_
          refine lv_iload hx hb dX5_partOf_81 (lv_at hl 5 rfl) ?_
          refine wa_iald hx hb hK hP 2 1 rfl rfl i rfl (by omega) (by decide) dX5_partOf_83 ?_
          refine lv_i2l hx hb dX5_partOf_84 rfl ?_
          refine lv_iload hx hb dX5_partOf_85 (lv_at hl 0 rfl) ?_
          refine lv_i2l hx hb dX5_partOf_87 rfl ?_
          refine lv_lmul hx hb dX5_partOf_88 ?_
          refine lv_goto (tgt := 93) hx hb dX5_partOf_89 (by decide) ?_
          refine lv_ladd hx hb dX5_partOf_93 ?_
          refine lv_lstore_n (lv' := [(3, .long ((fN (ptf C s0 p0) i 0) + (((c_dr (C i)).toInt64) * ((c_sm (C i)).toInt64)))), (6, .int (c_sm (C i))), (0, .ref (q 0)), (1, .int s0), (2, .int p0), (5, .int (nI i))]) hx hb dX5_partOf_94 rfl hl (by decide) rfl (fun ls hl => ?_)
          refine lv_iinc (v := (nI i + 1)) (lv' := [(5, .int (nI i + 1)), (3, .long ((fN (ptf C s0 p0) i 0) + (((c_dr (C i)).toInt64) * ((c_sm (C i)).toInt64)))), (6, .int (c_sm (C i))), (0, .ref (q 0)), (1, .int s0), (2, .int p0)]) hx hb dX5_partOf_95 hl (k := 5) rfl rfl (by decide) rfl (fun ls hl => ?_)
          refine lv_goto (tgt := 5) hx hb dX5_partOf_98 (by decide) ?_
          exact ihi (i + 1) ls (by show n - (i + 1) < n - i; omega) (by show i + 1 ≤ n; omega) (lv_sub hl [3, 4, 5, 1, 0] (by
            show ([(0, .ref (q 0)), (1, .int s0), (2, .int p0), (3, .long ((fN (ptf C s0 p0) i 0) + (((c_dr (C i)).toInt64) * ((c_sm (C i)).toInt64)))), (5, .int (nI i + 1))] : List (Nat × Value)) = [(0, .ref (q 0)), (1, .int s0), (2, .int p0), (3, .long (fN (ptf C s0 p0) (i + 1) 0)), (5, .int (nI (i + 1)))]
            have e1 : fN (ptf C s0 p0) (i + 1) 0 = ((fN (ptf C s0 p0) i 0) + (((c_dr (C i)).toInt64) * ((c_sm (C i)).toInt64))) := by rw [fN_s]; unfold ptf ptv; simp [c_2, c_3, c_7]
            rw [e1]
            rw [← nI_1]))
    · skip
      refine lv_aload_n hx hb dX5_partOf_18 rfl (lv_at hl 0 rfl) ?_
      refine va_get (D := D) (ci := 5) (v := .ref (q 6)) (C := RX5) (T := TX5) (N := 20) hx hb hts iX5 hown hK hP 0 rfl rfl 7 (by decide) (hts _ (List.mem_of_getElem? (i := 2) rfl)) (fun _ h9 => h9) rfl dX5_partOf_19 ?_
      refine lv_iload hx hb dX5_partOf_22 (lv_at hl 4 rfl) ?_
      refine wa_iald hx hb hK hP 6 5 rfl rfl i rfl (by omega) (by decide) dX5_partOf_24 ?_
      refine lv_goto (tgt := 65) hx hb dX5_partOf_25 (by decide) ?_
      refine lv_istore (lv' := [(6, .int (c_ok (C i))), (0, .ref (q 0)), (1, .int s0), (2, .int p0), (3, .long (fN (ptf C s0 p0) i 0)), (5, .int (nI i))]) hx hb dX5_partOf_65 hl (by decide) rfl (fun ls hl => ?_)
      refine lv_lload_n hx hb dX5_partOf_67 rfl (lv_at hl 4 rfl) ?_
      refine lv_iload_n hx hb dX5_partOf_68 rfl (lv_at hl 2 rfl) ?_
      refine lv_iload hx hb dX5_partOf_69 (lv_at hl 5 rfl) ?_
      refine ro_i (va_runS (As := [.int s0, .int (nI i)]) (rest := [.long (fN (ptf C s0 p0) i 0)]) F (kX5_has l s0 (nI i)) (va_cwS 2 hts gX5_partOf_X5_has rfl rfl rfl hdX5_has ⟨(Nat.le_of_ble_eq_true rfl), (Nat.le_of_ble_eq_true rfl)⟩) ⟨tr_blind, tr_pre⟩ rfl rfl hl.1 rfl (lv_room (Nat.le_of_ble_eq_true rfl)) dX5_partOf_71 ⟨Nat.zero_le _, Nat.zero_le _⟩) ?_
      refine lv_if_eq (tgt := 92) hx hb dX5_partOf_74 (by decide) (fun c_8 => ?_) (fun c_8 => ?_)
      · skip
        have c_8 := zI_0 c_8
        refine lv_lconst (v := 0) hx hb dX5_partOf_92 rfl ?_
        refine lv_ladd hx hb dX5_partOf_93 ?_
        refine lv_lstore_n (lv' := [(3, .long ((fN (ptf C s0 p0) i 0) + 0)), (6, .int (c_ok (C i))), (0, .ref (q 0)), (1, .int s0), (2, .int p0), (5, .int (nI i))]) hx hb dX5_partOf_94 rfl hl (by decide) rfl (fun ls hl => ?_)
        refine lv_iinc (v := (nI i + 1)) (lv' := [(5, .int (nI i + 1)), (3, .long ((fN (ptf C s0 p0) i 0) + 0)), (6, .int (c_ok (C i))), (0, .ref (q 0)), (1, .int s0), (2, .int p0)]) hx hb dX5_partOf_95 hl (k := 5) rfl rfl (by decide) rfl (fun ls hl => ?_)
        refine lv_goto (tgt := 5) hx hb dX5_partOf_98 (by decide) ?_
        exact ihi (i + 1) ls (by show n - (i + 1) < n - i; omega) (by show i + 1 ≤ n; omega) (lv_sub hl [3, 4, 5, 1, 0] (by
          show ([(0, .ref (q 0)), (1, .int s0), (2, .int p0), (3, .long ((fN (ptf C s0 p0) i 0) + 0)), (5, .int (nI i + 1))] : List (Nat × Value)) = [(0, .ref (q 0)), (1, .int s0), (2, .int p0), (3, .long (fN (ptf C s0 p0) (i + 1) 0)), (5, .int (nI (i + 1)))]
          have e1 : fN (ptf C s0 p0) (i + 1) 0 = ((fN (ptf C s0 p0) i 0) + 0) := by rw [fN_s]; unfold ptf ptv; simp [c_2, c_8]
          rw [e1]
          rw [← nI_1]))
      · skip
        have c_8 := zI_1 c_8
        refine lv_aload_n hx hb dX5_partOf_77 rfl (lv_at hl 1 rfl) ?_
        refine va_get (D := D) (ci := 5) (v := .ref (q 2)) (C := RX5) (T := TX5) (N := 20) hx hb hts iX5 hown hK hP 0 rfl rfl 3 (by decide) (hts _ (List.mem_of_getElem? (i := 6) rfl)) (fun _ h9 => h9) rfl dX5_partOf_78 ?_
        refine lv_iload hx hb dX5_partOf_81 (lv_at hl 5 rfl) ?_
        refine wa_iald hx hb hK hP 2 1 rfl rfl i rfl (by omega) (by decide) dX5_partOf_83 ?_
        refine lv_i2l hx hb dX5_partOf_84 rfl ?_
        refine lv_iload hx hb dX5_partOf_85 (lv_at hl 0 rfl) ?_
        refine lv_i2l hx hb dX5_partOf_87 rfl ?_
        refine lv_lmul hx hb dX5_partOf_88 ?_
        refine lv_goto (tgt := 93) hx hb dX5_partOf_89 (by decide) ?_
        refine lv_ladd hx hb dX5_partOf_93 ?_
        refine lv_lstore_n (lv' := [(3, .long ((fN (ptf C s0 p0) i 0) + (((c_dr (C i)).toInt64) * ((c_ok (C i)).toInt64)))), (6, .int (c_ok (C i))), (0, .ref (q 0)), (1, .int s0), (2, .int p0), (5, .int (nI i))]) hx hb dX5_partOf_94 rfl hl (by decide) rfl (fun ls hl => ?_)
        refine lv_iinc (v := (nI i + 1)) (lv' := [(5, .int (nI i + 1)), (3, .long ((fN (ptf C s0 p0) i 0) + (((c_dr (C i)).toInt64) * ((c_ok (C i)).toInt64)))), (6, .int (c_ok (C i))), (0, .ref (q 0)), (1, .int s0), (2, .int p0)]) hx hb dX5_partOf_95 hl (k := 5) rfl rfl (by decide) rfl (fun ls hl => ?_)
        refine lv_goto (tgt := 5) hx hb dX5_partOf_98 (by decide) ?_
        exact ihi (i + 1) ls (by show n - (i + 1) < n - i; omega) (by show i + 1 ≤ n; omega) (lv_sub hl [3, 4, 5, 1, 0] (by
          show ([(0, .ref (q 0)), (1, .int s0), (2, .int p0), (3, .long ((fN (ptf C s0 p0) i 0) + (((c_dr (C i)).toInt64) * ((c_ok (C i)).toInt64)))), (5, .int (nI i + 1))] : List (Nat × Value)) = [(0, .ref (q 0)), (1, .int s0), (2, .int p0), (3, .long (fN (ptf C s0 p0) (i + 1) 0)), (5, .int (nI (i + 1)))]
          have e1 : fN (ptf C s0 p0) (i + 1) 0 = ((fN (ptf C s0 p0) i 0) + (((c_dr (C i)).toInt64) * ((c_ok (C i)).toInt64))) := by rw [fN_s]; unfold ptf ptv; simp [c_2, c_8]
          rw [e1]
          rw [← nI_1]))

set_option maxHeartbeats 4000000 in
set_option maxRecDepth 100000 in
theorem kX5_isRight (l : Launch) (D : va_G) (y : Nat → ClassId) (q : Nat → Nat) (t n : Nat) (C : Nat → CT) (w : Nat → Int32) (rt : Int32) (r0 : Nat) (no sa to : Nat → Int32) (tr : Int64) (st im va : Nat → Int32) (s0 : Int32) (hn : n ≤ 12) (hI : INV n t C) (hd : 1 ≤ Sd C s0 n) (hj : ∃ j, j < n ∧ hs s0 j = true) : Met l yX5_isRight wsX5_isRight ({ frames := 3, cells := 0, slots := 0, locals := 70 }) (va_Pc [.ref (q 0), .int s0] (rdB D (mTy y) (mWC y q (nI t) (nI n) C w rt (nI r0) no sa to tr st im va))) (vp_Si (fun x => x = (zI (metX w (gMx n C (nI t) s0))))) 0 0 nF := by
  refine ro_start (cc := cX5_isRight) (maxL := 4) (ret := (some .boolean)) (by decide) rfl (Nat.le_of_ble_eq_true rfl) ?_
  intro p e s m below meth c ls hx hb hr hml hown hlocks hts hnm hB hl
  obtain ⟨hP, hK, hN⟩ := hB
  have hown : s.vm.findClass RX5 = some m.cls := hown
  have F : CallFix p m c cX5_isRight 4 s [.ref (q 0), .int s0].toArray wsX5_isRight RX5 := ⟨hx, hb, hml, hown, hts⟩
  have hl : lv_has ls 4 [(0, .ref (q 0)), (1, .int s0)] := hl
  have iX5 : ∀ w ∈ u_ws RX5 TX5 20, w ∈ wsX5_isRight := mem_pl [33, 34, 35, 36, 37, 38, 39, 40, 41, 42, 43, 44, 45, 46, 47, 48, 49, 50, 51, 52] rfl
  refine lv_aload_n hx hb dX5_isRight_0 rfl (lv_at hl 0 rfl) ?_
  refine lv_iload_n hx hb dX5_isRight_1 rfl (lv_at hl 1 rfl) ?_
  refine ro_i (va_runV (As := [.int s0]) (rest := []) F (kX5_dropsOf l D y q t n C w rt r0 no sa to tr st im va s0 hn) (cwV 1 hts gX5_isRight_X5_dropsOf rfl rfl rfl ⟨rfl, hdX5_dropsOf⟩ ⟨(Nat.le_of_ble_eq_true rfl), (Nat.le_of_ble_eq_true rfl)⟩) ⟨rdB_blind, va_recv hK hP (ci := 5) (q0 := 0) rfl rfl, rdB_pre hP hK hN⟩ rfl rfl hl.1 rfl (lv_room (Nat.le_of_ble_eq_true rfl)) dX5_isRight_2 ⟨Nat.zero_le _, Nat.zero_le _⟩) ?_
  refine lv_aload_n hx hb dX5_isRight_5 rfl (lv_at hl 0 rfl) ?_
  refine va_get (D := D) (ci := 5) (v := .ref (q 9)) (C := RX5) (T := TX5) (N := 20) hx hb hts iX5 hown hK hP 0 rfl rfl 10 (by decide) (hts _ (List.mem_of_getElem? (i := 1) rfl)) (fun _ h9 => h9) rfl dX5_isRight_6 ?_
  refine lv_iconst (v := 0) hx hb dX5_isRight_9 (by decide) ?_
  refine wa_iald hx hb hK hP 9 8 rfl rfl 0 (by decide) (by omega) (by decide) dX5_isRight_10 ?_
  refine lv_icmp_lt (tgt := 32) hx hb dX5_isRight_11 (by decide) (fun c_1 => ?_) (fun c_1 => ?_)
  · skip
    refine lv_iconst (v := 0) hx hb dX5_isRight_32 (by decide) ?_
    refine lv_cst (v := zI (rtI w (gMx n C (nI t) s0) 0)) (by show (0 : Int32) = zI (decide _ && decide _); rw [decide_eq_false (Int32.not_le.mpr c_1)]; rfl) ?_
    refine lv_istore_n (lv' := [(2, .int (zI (rtI w (gMx n C (nI t) s0) 0))), (0, .ref (q 0)), (1, .int s0)]) hx hb dX5_isRight_33 rfl hl (by decide) rfl (fun ls hl => ?_)
    refine lv_iconst (v := 0) hx hb dX5_isRight_34 (by decide) ?_
    refine lv_istore_n (lv' := [(3, .int 0), (2, .int (zI (rtI w (gMx n C (nI t) s0) 0))), (0, .ref (q 0)), (1, .int s0)]) hx hb dX5_isRight_35 rfl hl (by decide) rfl (fun ls hl => ?_)
    refine W.lpR (pc := 36) (τ := Nat) (fun i => i ≤ 3) (fun i ls => lv_has ls 4 [(0, .ref (q 0)), (1, .int s0), (2, .int (zI (rtI w (gMx n C (nI t) s0) i))), (3, .int (nI i))]) (fun i => 3 - i) ?_ 0 ls (Nat.zero_le _) (lv_sub hl [2, 3, 1, 0] rfl)
    intro i ls hi hl ihi
    have hi : i ≤ 3 := hi
    have hl : lv_has ls 4 [(0, .ref (q 0)), (1, .int s0), (2, .int (zI (rtI w (gMx n C (nI t) s0) i))), (3, .int (nI i))] := hl
    refine lv_iload_n hx hb dX5_isRight_36 rfl (lv_at hl 3 rfl) ?_
    refine lv_iconst (v := 3) hx hb dX5_isRight_37 (by decide) ?_
    refine lv_icmp_ge (tgt := 81) hx hb dX5_isRight_38 (by decide) (fun c_2 => ?_) (fun c_2 => ?_)
    · skip
      have c_2 : 3 ≤ i := (nI_leI (a := 3) (b := i) (by omega) (by omega)).mp c_2
      refine lv_iload_n hx hb dX5_isRight_81 rfl (lv_at hl 2 rfl) ?_
      exact ro_zret hx hb hr hlocks (zI_nar _) dX5_isRight_82 (by rw [Nat.le_antisymm hi c_2, rtI_3])
    · skip
      have c_2 : ¬ 3 ≤ i := fun h => c_2 ((nI_leI (a := 3) (b := i) (by omega) (by omega)).mpr h)
      refine lv_iload_n hx hb dX5_isRight_41 rfl (lv_at hl 2 rfl) ?_
      refine lv_if_eq (tgt := 81) hx hb dX5_isRight_42 (by decide) (fun c_3 => ?_) (fun c_3 => ?_)
      · skip
        have c_3 := zI_0 c_3
        refine lv_iload_n hx hb dX5_isRight_81 rfl (lv_at hl 2 rfl) ?_
        exact ro_zret hx hb hr hlocks (zI_nar _) dX5_isRight_82 (by rw [c_3, rtI_f c_3 hi])
      · skip
        have c_3 := zI_1 c_3
        refine lv_aload_n hx hb dX5_isRight_45 rfl (lv_at hl 0 rfl) ?_
        refine lv_iload_n hx hb dX5_isRight_46 rfl (lv_at hl 1 rfl) ?_
        refine lv_iload_n hx hb dX5_isRight_47 rfl (lv_at hl 3 rfl) ?_
        refine ro_i (va_runV (As := [.int s0, .int (nI i)]) (rest := []) F (kX5_partOf l D y q t n C w rt r0 no sa to tr st im va s0 (nI i) hn hI hd) (cwV 2 hts gX5_isRight_X5_partOf rfl rfl rfl ⟨rfl, hdX5_partOf⟩ ⟨(Nat.le_of_ble_eq_true rfl), (Nat.le_of_ble_eq_true rfl)⟩) ⟨rdB_blind, va_recv hK hP (ci := 5) (q0 := 0) rfl rfl, rdB_pre hP hK hN⟩ rfl rfl hl.1 rfl (lv_room (Nat.le_of_ble_eq_true rfl)) dX5_isRight_48 ⟨Nat.zero_le _, Nat.zero_le _⟩) ?_
        refine lv_aload_n hx hb dX5_isRight_51 rfl (lv_at hl 0 rfl) ?_
        refine va_get (D := D) (ci := 5) (v := .ref (q 9)) (C := RX5) (T := TX5) (N := 20) hx hb hts iX5 hown hK hP 0 rfl rfl 10 (by decide) (hts _ (List.mem_of_getElem? (i := 1) rfl)) (fun _ h9 => h9) rfl dX5_isRight_52 ?_
        refine lv_iconst (v := 2) hx hb dX5_isRight_55 (by decide) ?_
        refine lv_iconst (v := 2) hx hb dX5_isRight_56 (by decide) ?_
        refine lv_iload_n hx hb dX5_isRight_57 rfl (lv_at hl 3 rfl) ?_
        refine lv_imul hx hb dX5_isRight_58 ?_
        refine lv_iadd hx hb dX5_isRight_59 ?_
        refine wa_iald hx hb hK hP 9 8 rfl rfl (2 + 2 * i) (by rw [show (2 : Int32) = nI 2 from rfl, pk_mul, nI_add]) (by omega) (by decide) dX5_isRight_60 ?_
        refine lv_aload_n hx hb dX5_isRight_61 rfl (lv_at hl 0 rfl) ?_
        refine va_get (D := D) (ci := 5) (v := .ref (q 9)) (C := RX5) (T := TX5) (N := 20) hx hb hts iX5 hown hK hP 0 rfl rfl 10 (by decide) (hts _ (List.mem_of_getElem? (i := 1) rfl)) (fun _ h9 => h9) rfl dX5_isRight_62 ?_
        refine lv_iconst (v := 3) hx hb dX5_isRight_65 (by decide) ?_
        refine lv_iconst (v := 2) hx hb dX5_isRight_66 (by decide) ?_
        refine lv_iload_n hx hb dX5_isRight_67 rfl (lv_at hl 3 rfl) ?_
        refine lv_imul hx hb dX5_isRight_68 ?_
        refine lv_iadd hx hb dX5_isRight_69 ?_
        refine wa_iald hx hb hK hP 9 8 rfl rfl (3 + 2 * i) (by rw [show (2 : Int32) = nI 2 from rfl, show (3 : Int32) = nI 3 from rfl, pk_mul, nI_add]) (by omega) (by decide) dX5_isRight_70 ?_
        refine ro_i (va_runS (As := [.int (evX (gMx n C (nI t) s0) (ptm (nI i) (gMx n C (nI t) s0))), .int (w (2 + 2 * i)), .int (w (3 + 2 * i))]) (rest := []) F (kX5_in l (evX (gMx n C (nI t) s0) (ptm (nI i) (gMx n C (nI t) s0))) (w (2 + 2 * i)) (w (3 + 2 * i))) (va_cwS 3 hts gX5_isRight_X5_in rfl rfl rfl hdX5_in ⟨(Nat.le_of_ble_eq_true rfl), (Nat.le_of_ble_eq_true rfl)⟩) ⟨tr_blind, tr_pre⟩ rfl rfl hl.1 rfl (lv_room (Nat.le_of_ble_eq_true rfl)) dX5_isRight_71 ⟨Nat.zero_le _, Nat.zero_le _⟩) ?_
        refine lv_istore_n (lv' := [(2, .int (zI (inR (evX (gMx n C (nI t) s0) (ptm (nI i) (gMx n C (nI t) s0))) (w (2 + 2 * i)) (w (3 + 2 * i))))), (0, .ref (q 0)), (1, .int s0), (3, .int (nI i))]) hx hb dX5_isRight_74 rfl hl (by decide) rfl (fun ls hl => ?_)
        refine lv_iinc (v := (nI i + 1)) (lv' := [(3, .int (nI i + 1)), (2, .int (zI (inR (evX (gMx n C (nI t) s0) (ptm (nI i) (gMx n C (nI t) s0))) (w (2 + 2 * i)) (w (3 + 2 * i))))), (0, .ref (q 0)), (1, .int s0)]) hx hb dX5_isRight_75 hl (k := 3) rfl rfl (by decide) rfl (fun ls hl => ?_)
        refine lv_goto (tgt := 36) hx hb dX5_isRight_78 (by decide) ?_
        exact ihi (i + 1) ls (by show 3 - (i + 1) < 3 - i; omega) (by show i + 1 ≤ 3; omega) (lv_sub hl [2, 3, 1, 0] (by
          show ([(0, .ref (q 0)), (1, .int s0), (2, .int (zI (inR (evX (gMx n C (nI t) s0) (ptm (nI i) (gMx n C (nI t) s0))) (w (2 + 2 * i)) (w (3 + 2 * i))))), (3, .int (nI i + 1))] : List (Nat × Value)) = [(0, .ref (q 0)), (1, .int s0), (2, .int (zI (rtI w (gMx n C (nI t) s0) (i + 1)))), (3, .int (nI (i + 1)))]
          have e1 : zI (rtI w (gMx n C (nI t) s0) (i + 1)) = (zI (inR (evX (gMx n C (nI t) s0) (ptm (nI i) (gMx n C (nI t) s0))) (w (2 + 2 * i)) (w (3 + 2 * i)))) := by show zI (rtI w (gMx n C (nI t) s0) i && _) = _; rw [c_3]; rfl
          rw [e1]
          rw [← nI_1]))
  · skip
    refine lv_aload_n hx hb dX5_isRight_14 rfl (lv_at hl 0 rfl) ?_
    refine lv_iload_n hx hb dX5_isRight_15 rfl (lv_at hl 1 rfl) ?_
    refine ro_i (va_runV (As := [.int s0]) (rest := []) F (kX5_youngest l D y q t n C w rt r0 no sa to tr st im va s0 hn hI hj) (cwV 1 hts gX5_isRight_X5_youngest rfl rfl rfl ⟨rfl, hdX5_youngest⟩ ⟨(Nat.le_of_ble_eq_true rfl), (Nat.le_of_ble_eq_true rfl)⟩) ⟨rdB_blind, va_recv hK hP (ci := 5) (q0 := 0) rfl rfl, rdB_pre hP hK hN⟩ rfl rfl hl.1 rfl (lv_room (Nat.le_of_ble_eq_true rfl)) dX5_isRight_16 ⟨Nat.zero_le _, Nat.zero_le _⟩) ?_
    refine lv_aload_n hx hb dX5_isRight_19 rfl (lv_at hl 0 rfl) ?_
    refine va_get (D := D) (ci := 5) (v := .ref (q 9)) (C := RX5) (T := TX5) (N := 20) hx hb hts iX5 hown hK hP 0 rfl rfl 10 (by decide) (hts _ (List.mem_of_getElem? (i := 1) rfl)) (fun _ h9 => h9) rfl dX5_isRight_20 ?_
    refine lv_iconst (v := 1) hx hb dX5_isRight_23 (by decide) ?_
    refine wa_iald hx hb hK hP 9 8 rfl rfl 1 (by decide) (by omega) (by decide) dX5_isRight_24 ?_
    refine lv_icmp_lt (tgt := 32) hx hb dX5_isRight_25 (by decide) (fun c_4 => ?_) (fun c_4 => ?_)
    · skip
      refine lv_iconst (v := 0) hx hb dX5_isRight_32 (by decide) ?_
      refine lv_cst (v := zI (rtI w (gMx n C (nI t) s0) 0)) (by show (0 : Int32) = zI (decide _ && decide _); rw [decide_eq_false (p := w 1 ≤ m_ag (gMx n C (nI t) s0)) (Int32.not_le.mpr c_4), Bool.and_false]; rfl) ?_
      refine lv_istore_n (lv' := [(2, .int (zI (rtI w (gMx n C (nI t) s0) 0))), (0, .ref (q 0)), (1, .int s0)]) hx hb dX5_isRight_33 rfl hl (by decide) rfl (fun ls hl => ?_)
      refine lv_iconst (v := 0) hx hb dX5_isRight_34 (by decide) ?_
      refine lv_istore_n (lv' := [(3, .int 0), (2, .int (zI (rtI w (gMx n C (nI t) s0) 0))), (0, .ref (q 0)), (1, .int s0)]) hx hb dX5_isRight_35 rfl hl (by decide) rfl (fun ls hl => ?_)
      refine W.lpR (pc := 36) (τ := Nat) (fun i => i ≤ 3) (fun i ls => lv_has ls 4 [(0, .ref (q 0)), (1, .int s0), (2, .int (zI (rtI w (gMx n C (nI t) s0) i))), (3, .int (nI i))]) (fun i => 3 - i) ?_ 0 ls (Nat.zero_le _) (lv_sub hl [2, 3, 1, 0] rfl)
      intro i ls hi hl ihi
      have hi : i ≤ 3 := hi
      have hl : lv_has ls 4 [(0, .ref (q 0)), (1, .int s0), (2, .int (zI (rtI w (gMx n C (nI t) s0) i))), (3, .int (nI i))] := hl
      refine lv_iload_n hx hb dX5_isRight_36 rfl (lv_at hl 3 rfl) ?_
      refine lv_iconst (v := 3) hx hb dX5_isRight_37 (by decide) ?_
      refine lv_icmp_ge (tgt := 81) hx hb dX5_isRight_38 (by decide) (fun c_5 => ?_) (fun c_5 => ?_)
      · skip
        have c_5 : 3 ≤ i := (nI_leI (a := 3) (b := i) (by omega) (by omega)).mp c_5
        refine lv_iload_n hx hb dX5_isRight_81 rfl (lv_at hl 2 rfl) ?_
        exact ro_zret hx hb hr hlocks (zI_nar _) dX5_isRight_82 (by rw [Nat.le_antisymm hi c_5, rtI_3])
      · skip
        have c_5 : ¬ 3 ≤ i := fun h => c_5 ((nI_leI (a := 3) (b := i) (by omega) (by omega)).mpr h)
        refine lv_iload_n hx hb dX5_isRight_41 rfl (lv_at hl 2 rfl) ?_
        refine lv_if_eq (tgt := 81) hx hb dX5_isRight_42 (by decide) (fun c_6 => ?_) (fun c_6 => ?_)
        · skip
          have c_6 := zI_0 c_6
          refine lv_iload_n hx hb dX5_isRight_81 rfl (lv_at hl 2 rfl) ?_
          exact ro_zret hx hb hr hlocks (zI_nar _) dX5_isRight_82 (by rw [c_6, rtI_f c_6 hi])
        · skip
          have c_6 := zI_1 c_6
          refine lv_aload_n hx hb dX5_isRight_45 rfl (lv_at hl 0 rfl) ?_
          refine lv_iload_n hx hb dX5_isRight_46 rfl (lv_at hl 1 rfl) ?_
          refine lv_iload_n hx hb dX5_isRight_47 rfl (lv_at hl 3 rfl) ?_
          refine ro_i (va_runV (As := [.int s0, .int (nI i)]) (rest := []) F (kX5_partOf l D y q t n C w rt r0 no sa to tr st im va s0 (nI i) hn hI hd) (cwV 2 hts gX5_isRight_X5_partOf rfl rfl rfl ⟨rfl, hdX5_partOf⟩ ⟨(Nat.le_of_ble_eq_true rfl), (Nat.le_of_ble_eq_true rfl)⟩) ⟨rdB_blind, va_recv hK hP (ci := 5) (q0 := 0) rfl rfl, rdB_pre hP hK hN⟩ rfl rfl hl.1 rfl (lv_room (Nat.le_of_ble_eq_true rfl)) dX5_isRight_48 ⟨Nat.zero_le _, Nat.zero_le _⟩) ?_
          refine lv_aload_n hx hb dX5_isRight_51 rfl (lv_at hl 0 rfl) ?_
          refine va_get (D := D) (ci := 5) (v := .ref (q 9)) (C := RX5) (T := TX5) (N := 20) hx hb hts iX5 hown hK hP 0 rfl rfl 10 (by decide) (hts _ (List.mem_of_getElem? (i := 1) rfl)) (fun _ h9 => h9) rfl dX5_isRight_52 ?_
          refine lv_iconst (v := 2) hx hb dX5_isRight_55 (by decide) ?_
          refine lv_iconst (v := 2) hx hb dX5_isRight_56 (by decide) ?_
          refine lv_iload_n hx hb dX5_isRight_57 rfl (lv_at hl 3 rfl) ?_
          refine lv_imul hx hb dX5_isRight_58 ?_
          refine lv_iadd hx hb dX5_isRight_59 ?_
          refine wa_iald hx hb hK hP 9 8 rfl rfl (2 + 2 * i) (by rw [show (2 : Int32) = nI 2 from rfl, pk_mul, nI_add]) (by omega) (by decide) dX5_isRight_60 ?_
          refine lv_aload_n hx hb dX5_isRight_61 rfl (lv_at hl 0 rfl) ?_
          refine va_get (D := D) (ci := 5) (v := .ref (q 9)) (C := RX5) (T := TX5) (N := 20) hx hb hts iX5 hown hK hP 0 rfl rfl 10 (by decide) (hts _ (List.mem_of_getElem? (i := 1) rfl)) (fun _ h9 => h9) rfl dX5_isRight_62 ?_
          refine lv_iconst (v := 3) hx hb dX5_isRight_65 (by decide) ?_
          refine lv_iconst (v := 2) hx hb dX5_isRight_66 (by decide) ?_
          refine lv_iload_n hx hb dX5_isRight_67 rfl (lv_at hl 3 rfl) ?_
          refine lv_imul hx hb dX5_isRight_68 ?_
          refine lv_iadd hx hb dX5_isRight_69 ?_
          refine wa_iald hx hb hK hP 9 8 rfl rfl (3 + 2 * i) (by rw [show (2 : Int32) = nI 2 from rfl, show (3 : Int32) = nI 3 from rfl, pk_mul, nI_add]) (by omega) (by decide) dX5_isRight_70 ?_
          refine ro_i (va_runS (As := [.int (evX (gMx n C (nI t) s0) (ptm (nI i) (gMx n C (nI t) s0))), .int (w (2 + 2 * i)), .int (w (3 + 2 * i))]) (rest := []) F (kX5_in l (evX (gMx n C (nI t) s0) (ptm (nI i) (gMx n C (nI t) s0))) (w (2 + 2 * i)) (w (3 + 2 * i))) (va_cwS 3 hts gX5_isRight_X5_in rfl rfl rfl hdX5_in ⟨(Nat.le_of_ble_eq_true rfl), (Nat.le_of_ble_eq_true rfl)⟩) ⟨tr_blind, tr_pre⟩ rfl rfl hl.1 rfl (lv_room (Nat.le_of_ble_eq_true rfl)) dX5_isRight_71 ⟨Nat.zero_le _, Nat.zero_le _⟩) ?_
          refine lv_istore_n (lv' := [(2, .int (zI (inR (evX (gMx n C (nI t) s0) (ptm (nI i) (gMx n C (nI t) s0))) (w (2 + 2 * i)) (w (3 + 2 * i))))), (0, .ref (q 0)), (1, .int s0), (3, .int (nI i))]) hx hb dX5_isRight_74 rfl hl (by decide) rfl (fun ls hl => ?_)
          refine lv_iinc (v := (nI i + 1)) (lv' := [(3, .int (nI i + 1)), (2, .int (zI (inR (evX (gMx n C (nI t) s0) (ptm (nI i) (gMx n C (nI t) s0))) (w (2 + 2 * i)) (w (3 + 2 * i))))), (0, .ref (q 0)), (1, .int s0)]) hx hb dX5_isRight_75 hl (k := 3) rfl rfl (by decide) rfl (fun ls hl => ?_)
          refine lv_goto (tgt := 36) hx hb dX5_isRight_78 (by decide) ?_
          exact ihi (i + 1) ls (by show 3 - (i + 1) < 3 - i; omega) (by show i + 1 ≤ 3; omega) (lv_sub hl [2, 3, 1, 0] (by
            show ([(0, .ref (q 0)), (1, .int s0), (2, .int (zI (inR (evX (gMx n C (nI t) s0) (ptm (nI i) (gMx n C (nI t) s0))) (w (2 + 2 * i)) (w (3 + 2 * i))))), (3, .int (nI i + 1))] : List (Nat × Value)) = [(0, .ref (q 0)), (1, .int s0), (2, .int (zI (rtI w (gMx n C (nI t) s0) (i + 1)))), (3, .int (nI (i + 1)))]
            have e1 : zI (rtI w (gMx n C (nI t) s0) (i + 1)) = (zI (inR (evX (gMx n C (nI t) s0) (ptm (nI i) (gMx n C (nI t) s0))) (w (2 + 2 * i)) (w (3 + 2 * i)))) := by show zI (rtI w (gMx n C (nI t) s0) i && _) = _; rw [c_6]; rfl
            rw [e1]
            rw [← nI_1]))
    · skip
      refine lv_iconst (v := 1) hx hb dX5_isRight_28 (by decide) ?_
      refine lv_goto (tgt := 33) hx hb dX5_isRight_29 (by decide) ?_
      refine lv_cst (v := zI (rtI w (gMx n C (nI t) s0) 0)) (by show (1 : Int32) = zI (decide _ && decide _); rw [decide_eq_true (Int32.not_lt.mp c_1), decide_eq_true (Int32.not_lt.mp c_4)]; rfl) ?_
      refine lv_istore_n (lv' := [(2, .int (zI (rtI w (gMx n C (nI t) s0) 0))), (0, .ref (q 0)), (1, .int s0)]) hx hb dX5_isRight_33 rfl hl (by decide) rfl (fun ls hl => ?_)
      refine lv_iconst (v := 0) hx hb dX5_isRight_34 (by decide) ?_
      refine lv_istore_n (lv' := [(3, .int 0), (2, .int (zI (rtI w (gMx n C (nI t) s0) 0))), (0, .ref (q 0)), (1, .int s0)]) hx hb dX5_isRight_35 rfl hl (by decide) rfl (fun ls hl => ?_)
      refine W.lpR (pc := 36) (τ := Nat) (fun i => i ≤ 3) (fun i ls => lv_has ls 4 [(0, .ref (q 0)), (1, .int s0), (2, .int (zI (rtI w (gMx n C (nI t) s0) i))), (3, .int (nI i))]) (fun i => 3 - i) ?_ 0 ls (Nat.zero_le _) (lv_sub hl [2, 3, 1, 0] rfl)
      intro i ls hi hl ihi
      have hi : i ≤ 3 := hi
      have hl : lv_has ls 4 [(0, .ref (q 0)), (1, .int s0), (2, .int (zI (rtI w (gMx n C (nI t) s0) i))), (3, .int (nI i))] := hl
      refine lv_iload_n hx hb dX5_isRight_36 rfl (lv_at hl 3 rfl) ?_
      refine lv_iconst (v := 3) hx hb dX5_isRight_37 (by decide) ?_
      refine lv_icmp_ge (tgt := 81) hx hb dX5_isRight_38 (by decide) (fun c_7 => ?_) (fun c_7 => ?_)
      · skip
        have c_7 : 3 ≤ i := (nI_leI (a := 3) (b := i) (by omega) (by omega)).mp c_7
        refine lv_iload_n hx hb dX5_isRight_81 rfl (lv_at hl 2 rfl) ?_
        exact ro_zret hx hb hr hlocks (zI_nar _) dX5_isRight_82 (by rw [Nat.le_antisymm hi c_7, rtI_3])
      · skip
        have c_7 : ¬ 3 ≤ i := fun h => c_7 ((nI_leI (a := 3) (b := i) (by omega) (by omega)).mpr h)
        refine lv_iload_n hx hb dX5_isRight_41 rfl (lv_at hl 2 rfl) ?_
        refine lv_if_eq (tgt := 81) hx hb dX5_isRight_42 (by decide) (fun c_8 => ?_) (fun c_8 => ?_)
        · skip
          have c_8 := zI_0 c_8
          refine lv_iload_n hx hb dX5_isRight_81 rfl (lv_at hl 2 rfl) ?_
          exact ro_zret hx hb hr hlocks (zI_nar _) dX5_isRight_82 (by rw [c_8, rtI_f c_8 hi])
        · skip
          have c_8 := zI_1 c_8
          refine lv_aload_n hx hb dX5_isRight_45 rfl (lv_at hl 0 rfl) ?_
          refine lv_iload_n hx hb dX5_isRight_46 rfl (lv_at hl 1 rfl) ?_
          refine lv_iload_n hx hb dX5_isRight_47 rfl (lv_at hl 3 rfl) ?_
          refine ro_i (va_runV (As := [.int s0, .int (nI i)]) (rest := []) F (kX5_partOf l D y q t n C w rt r0 no sa to tr st im va s0 (nI i) hn hI hd) (cwV 2 hts gX5_isRight_X5_partOf rfl rfl rfl ⟨rfl, hdX5_partOf⟩ ⟨(Nat.le_of_ble_eq_true rfl), (Nat.le_of_ble_eq_true rfl)⟩) ⟨rdB_blind, va_recv hK hP (ci := 5) (q0 := 0) rfl rfl, rdB_pre hP hK hN⟩ rfl rfl hl.1 rfl (lv_room (Nat.le_of_ble_eq_true rfl)) dX5_isRight_48 ⟨Nat.zero_le _, Nat.zero_le _⟩) ?_
          refine lv_aload_n hx hb dX5_isRight_51 rfl (lv_at hl 0 rfl) ?_
          refine va_get (D := D) (ci := 5) (v := .ref (q 9)) (C := RX5) (T := TX5) (N := 20) hx hb hts iX5 hown hK hP 0 rfl rfl 10 (by decide) (hts _ (List.mem_of_getElem? (i := 1) rfl)) (fun _ h9 => h9) rfl dX5_isRight_52 ?_
          refine lv_iconst (v := 2) hx hb dX5_isRight_55 (by decide) ?_
          refine lv_iconst (v := 2) hx hb dX5_isRight_56 (by decide) ?_
          refine lv_iload_n hx hb dX5_isRight_57 rfl (lv_at hl 3 rfl) ?_
          refine lv_imul hx hb dX5_isRight_58 ?_
          refine lv_iadd hx hb dX5_isRight_59 ?_
          refine wa_iald hx hb hK hP 9 8 rfl rfl (2 + 2 * i) (by rw [show (2 : Int32) = nI 2 from rfl, pk_mul, nI_add]) (by omega) (by decide) dX5_isRight_60 ?_
          refine lv_aload_n hx hb dX5_isRight_61 rfl (lv_at hl 0 rfl) ?_
          refine va_get (D := D) (ci := 5) (v := .ref (q 9)) (C := RX5) (T := TX5) (N := 20) hx hb hts iX5 hown hK hP 0 rfl rfl 10 (by decide) (hts _ (List.mem_of_getElem? (i := 1) rfl)) (fun _ h9 => h9) rfl dX5_isRight_62 ?_
          refine lv_iconst (v := 3) hx hb dX5_isRight_65 (by decide) ?_
          refine lv_iconst (v := 2) hx hb dX5_isRight_66 (by decide) ?_
          refine lv_iload_n hx hb dX5_isRight_67 rfl (lv_at hl 3 rfl) ?_
          refine lv_imul hx hb dX5_isRight_68 ?_
          refine lv_iadd hx hb dX5_isRight_69 ?_
          refine wa_iald hx hb hK hP 9 8 rfl rfl (3 + 2 * i) (by rw [show (2 : Int32) = nI 2 from rfl, show (3 : Int32) = nI 3 from rfl, pk_mul, nI_add]) (by omega) (by decide) dX5_isRight_70 ?_
          refine ro_i (va_runS (As := [.int (evX (gMx n C (nI t) s0) (ptm (nI i) (gMx n C (nI t) s0))), .int (w (2 + 2 * i)), .int (w (3 + 2 * i))]) (rest := []) F (kX5_in l (evX (gMx n C (nI t) s0) (ptm (nI i) (gMx n C (nI t) s0))) (w (2 + 2 * i)) (w (3 + 2 * i))) (va_cwS 3 hts gX5_isRight_X5_in rfl rfl rfl hdX5_in ⟨(Nat.le_of_ble_eq_true rfl), (Nat.le_of_ble_eq_true rfl)⟩) ⟨tr_blind, tr_pre⟩ rfl rfl hl.1 rfl (lv_room (Nat.le_of_ble_eq_true rfl)) dX5_isRight_71 ⟨Nat.zero_le _, Nat.zero_le _⟩) ?_
          refine lv_istore_n (lv' := [(2, .int (zI (inR (evX (gMx n C (nI t) s0) (ptm (nI i) (gMx n C (nI t) s0))) (w (2 + 2 * i)) (w (3 + 2 * i))))), (0, .ref (q 0)), (1, .int s0), (3, .int (nI i))]) hx hb dX5_isRight_74 rfl hl (by decide) rfl (fun ls hl => ?_)
          refine lv_iinc (v := (nI i + 1)) (lv' := [(3, .int (nI i + 1)), (2, .int (zI (inR (evX (gMx n C (nI t) s0) (ptm (nI i) (gMx n C (nI t) s0))) (w (2 + 2 * i)) (w (3 + 2 * i))))), (0, .ref (q 0)), (1, .int s0)]) hx hb dX5_isRight_75 hl (k := 3) rfl rfl (by decide) rfl (fun ls hl => ?_)
          refine lv_goto (tgt := 36) hx hb dX5_isRight_78 (by decide) ?_
          exact ihi (i + 1) ls (by show 3 - (i + 1) < 3 - i; omega) (by show i + 1 ≤ 3; omega) (lv_sub hl [2, 3, 1, 0] (by
            show ([(0, .ref (q 0)), (1, .int s0), (2, .int (zI (inR (evX (gMx n C (nI t) s0) (ptm (nI i) (gMx n C (nI t) s0))) (w (2 + 2 * i)) (w (3 + 2 * i))))), (3, .int (nI i + 1))] : List (Nat × Value)) = [(0, .ref (q 0)), (1, .int s0), (2, .int (zI (rtI w (gMx n C (nI t) s0) (i + 1)))), (3, .int (nI (i + 1)))]
            have e1 : zI (rtI w (gMx n C (nI t) s0) (i + 1)) = (zI (inR (evX (gMx n C (nI t) s0) (ptm (nI i) (gMx n C (nI t) s0))) (w (2 + 2 * i)) (w (3 + 2 * i)))) := by show zI (rtI w (gMx n C (nI t) s0) i && _) = _; rw [c_8]; rfl
            rw [e1]
            rw [← nI_1]))

set_option maxHeartbeats 4000000 in
set_option maxRecDepth 100000 in
theorem kX5_blend (l : Launch) (D : va_G) (y : Nat → ClassId) (q : Nat → Nat) (t n : Nat) (C : Nat → CT) (w : Nat → Int32) (rt : Int32) (r0 : Nat) (no sa to : Nat → Int32) (tr : Int64) (st im va : Nat → Int32) (s0 : Int32) (k0 : Int32) (hn : n ≤ 12) (hI : INV n t C) : Met l yX5_blend wsX5_blend ({ frames := 4, cells := 0, slots := 0, locals := 93 }) (va_Pc [.ref (q 0), .int s0, .int k0] (rdB D (mTy y) (mWC y q (nI t) (nI n) C w rt (nI r0) no sa to tr st im va))) (vp_Si (fun x => x = (blendF n C (nI t) w s0 k0))) 0 0 nF := by
  refine ro_start (cc := cX5_blend) (maxL := 3) (ret := (some .int)) (by decide) rfl (Nat.le_of_ble_eq_true rfl) ?_
  intro p e s m below meth c ls hx hb hr hml hown hlocks hts hnm hB hl
  obtain ⟨hP, hK, hN⟩ := hB
  have hown : s.vm.findClass RX5 = some m.cls := hown
  have F : CallFix p m c cX5_blend 3 s [.ref (q 0), .int s0, .int k0].toArray wsX5_blend RX5 := ⟨hx, hb, hml, hown, hts⟩
  have hl : lv_has ls 3 [(0, .ref (q 0)), (1, .int s0), (2, .int k0)] := hl
  refine lv_aload_n hx hb dX5_blend_0 rfl (lv_at hl 0 rfl) ?_
  refine lv_iload_n hx hb dX5_blend_1 rfl (lv_at hl 1 rfl) ?_
  refine ro_i (va_runV (As := [.int s0]) (rest := []) F (kX5_isBlend l D y q t n C w rt r0 no sa to tr st im va s0 hn) (cwV 1 hts gX5_blend_X5_isBlend rfl rfl rfl ⟨rfl, hdX5_isBlend⟩ ⟨(Nat.le_of_ble_eq_true rfl), (Nat.le_of_ble_eq_true rfl)⟩) ⟨rdB_blind, va_recv hK hP (ci := 5) (q0 := 0) rfl rfl, rdB_pre hP hK hN⟩ rfl rfl hl.1 rfl (lv_room (Nat.le_of_ble_eq_true rfl)) dX5_blend_2 ⟨Nat.zero_le _, Nat.zero_le _⟩) ?_
  refine lv_if_ne (tgt := 10) hx hb dX5_blend_5 (by decide) (fun c_1 => ?_) (fun c_1 => ?_)
  · skip
    have c_1 := zI_1 c_1
    obtain ⟨k, hk1, hk2, ek, hok⟩ := isBl_S hn c_1
    have hdj : 1 ≤ Sd C s0 n ∧ ∃ j, j < n ∧ hs s0 j = true := by rw [ek]; rw [ek] at hok; exact Sd_pos hI hk1 hk2 hok
    obtain ⟨hd, hj⟩ := hdj
    have hbc := (blend_c hI s0).mpr c_1
    refine lv_iload_n hx hb dX5_blend_10 rfl (lv_at hl 2 rfl) ?_
    by_cases t_2 : k0 = 0
    · skip
      subst t_2
      refine lv_tableIn (off := 45) (tgt := 56) hx hb dX5_blend_11 (by decide) (by decide) rfl (by decide) ?_
      refine lv_aload_n hx hb dX5_blend_56 rfl (lv_at hl 0 rfl) ?_
      refine lv_iload_n hx hb dX5_blend_57 rfl (lv_at hl 1 rfl) ?_
      refine ro_i (va_runV (As := [.int s0]) (rest := []) F (kX5_dropsOf l D y q t n C w rt r0 no sa to tr st im va s0 hn) (cwV 1 hts gX5_blend_X5_dropsOf rfl rfl rfl ⟨rfl, hdX5_dropsOf⟩ ⟨(Nat.le_of_ble_eq_true rfl), (Nat.le_of_ble_eq_true rfl)⟩) ⟨rdB_blind, va_recv hK hP (ci := 5) (q0 := 0) rfl rfl, rdB_pre hP hK hN⟩ rfl rfl hl.1 rfl (lv_room (Nat.le_of_ble_eq_true rfl)) dX5_blend_58 ⟨Nat.zero_le _, Nat.zero_le _⟩) ?_
      exact ro_iret hx hb hr hlocks dX5_blend_61 (by unfold blendF; rw [if_pos hbc]; simp [blX, ptm, zI])
    by_cases t_3 : k0 = 1
    · skip
      subst t_3
      refine lv_tableIn (off := 51) (tgt := 62) hx hb dX5_blend_11 (by decide) (by decide) rfl (by decide) ?_
      refine lv_aload_n hx hb dX5_blend_62 rfl (lv_at hl 0 rfl) ?_
      refine lv_iload_n hx hb dX5_blend_63 rfl (lv_at hl 1 rfl) ?_
      refine lv_iconst (v := 3) hx hb dX5_blend_64 (by decide) ?_
      refine ro_i (va_runV (As := [.int s0, .int 3]) (rest := []) F (kX5_partOf l D y q t n C w rt r0 no sa to tr st im va s0 3 hn hI hd) (cwV 2 hts gX5_blend_X5_partOf rfl rfl rfl ⟨rfl, hdX5_partOf⟩ ⟨(Nat.le_of_ble_eq_true rfl), (Nat.le_of_ble_eq_true rfl)⟩) ⟨rdB_blind, va_recv hK hP (ci := 5) (q0 := 0) rfl rfl, rdB_pre hP hK hN⟩ rfl rfl hl.1 rfl (lv_room (Nat.le_of_ble_eq_true rfl)) dX5_blend_65 ⟨Nat.zero_le _, Nat.zero_le _⟩) ?_
      exact ro_iret hx hb hr hlocks dX5_blend_68 (by unfold blendF; rw [if_pos hbc]; simp [blX, ptm, zI])
    by_cases t_4 : k0 = 2
    · skip
      subst t_4
      refine lv_tableIn (off := 58) (tgt := 69) hx hb dX5_blend_11 (by decide) (by decide) rfl (by decide) ?_
      refine lv_aload_n hx hb dX5_blend_69 rfl (lv_at hl 0 rfl) ?_
      refine lv_iload_n hx hb dX5_blend_70 rfl (lv_at hl 1 rfl) ?_
      refine ro_i (va_runV (As := [.int s0]) (rest := []) F (kX5_youngest l D y q t n C w rt r0 no sa to tr st im va s0 hn hI hj) (cwV 1 hts gX5_blend_X5_youngest rfl rfl rfl ⟨rfl, hdX5_youngest⟩ ⟨(Nat.le_of_ble_eq_true rfl), (Nat.le_of_ble_eq_true rfl)⟩) ⟨rdB_blind, va_recv hK hP (ci := 5) (q0 := 0) rfl rfl, rdB_pre hP hK hN⟩ rfl rfl hl.1 rfl (lv_room (Nat.le_of_ble_eq_true rfl)) dX5_blend_71 ⟨Nat.zero_le _, Nat.zero_le _⟩) ?_
      exact ro_iret hx hb hr hlocks dX5_blend_74 (by unfold blendF; rw [if_pos hbc]; simp [blX, ptm, zI])
    by_cases t_5 : k0 = 3
    · skip
      subst t_5
      refine lv_tableIn (off := 64) (tgt := 75) hx hb dX5_blend_11 (by decide) (by decide) rfl (by decide) ?_
      refine lv_aload_n hx hb dX5_blend_75 rfl (lv_at hl 0 rfl) ?_
      refine lv_iload_n hx hb dX5_blend_76 rfl (lv_at hl 1 rfl) ?_
      refine lv_iload_n hx hb dX5_blend_77 rfl (lv_at hl 2 rfl) ?_
      refine lv_iconst (v := 3) hx hb dX5_blend_78 (by decide) ?_
      refine lv_isub hx hb dX5_blend_79 ?_
      refine ro_i (va_runV (As := [.int s0, .int (3 - 3)]) (rest := []) F (kX5_partOf l D y q t n C w rt r0 no sa to tr st im va s0 (3 - 3) hn hI hd) (cwV 2 hts gX5_blend_X5_partOf rfl rfl rfl ⟨rfl, hdX5_partOf⟩ ⟨(Nat.le_of_ble_eq_true rfl), (Nat.le_of_ble_eq_true rfl)⟩) ⟨rdB_blind, va_recv hK hP (ci := 5) (q0 := 0) rfl rfl, rdB_pre hP hK hN⟩ rfl rfl hl.1 rfl (lv_room (Nat.le_of_ble_eq_true rfl)) dX5_blend_80 ⟨Nat.zero_le _, Nat.zero_le _⟩) ?_
      exact ro_iret hx hb hr hlocks dX5_blend_83 (by unfold blendF; rw [if_pos hbc]; simp [blX, ptm, zI])
    by_cases t_6 : k0 = 4
    · skip
      subst t_6
      refine lv_tableIn (off := 64) (tgt := 75) hx hb dX5_blend_11 (by decide) (by decide) rfl (by decide) ?_
      refine lv_aload_n hx hb dX5_blend_75 rfl (lv_at hl 0 rfl) ?_
      refine lv_iload_n hx hb dX5_blend_76 rfl (lv_at hl 1 rfl) ?_
      refine lv_iload_n hx hb dX5_blend_77 rfl (lv_at hl 2 rfl) ?_
      refine lv_iconst (v := 3) hx hb dX5_blend_78 (by decide) ?_
      refine lv_isub hx hb dX5_blend_79 ?_
      refine ro_i (va_runV (As := [.int s0, .int (4 - 3)]) (rest := []) F (kX5_partOf l D y q t n C w rt r0 no sa to tr st im va s0 (4 - 3) hn hI hd) (cwV 2 hts gX5_blend_X5_partOf rfl rfl rfl ⟨rfl, hdX5_partOf⟩ ⟨(Nat.le_of_ble_eq_true rfl), (Nat.le_of_ble_eq_true rfl)⟩) ⟨rdB_blind, va_recv hK hP (ci := 5) (q0 := 0) rfl rfl, rdB_pre hP hK hN⟩ rfl rfl hl.1 rfl (lv_room (Nat.le_of_ble_eq_true rfl)) dX5_blend_80 ⟨Nat.zero_le _, Nat.zero_le _⟩) ?_
      exact ro_iret hx hb hr hlocks dX5_blend_83 (by unfold blendF; rw [if_pos hbc]; simp [blX, ptm, zI])
    by_cases t_7 : k0 = 5
    · skip
      subst t_7
      refine lv_tableIn (off := 64) (tgt := 75) hx hb dX5_blend_11 (by decide) (by decide) rfl (by decide) ?_
      refine lv_aload_n hx hb dX5_blend_75 rfl (lv_at hl 0 rfl) ?_
      refine lv_iload_n hx hb dX5_blend_76 rfl (lv_at hl 1 rfl) ?_
      refine lv_iload_n hx hb dX5_blend_77 rfl (lv_at hl 2 rfl) ?_
      refine lv_iconst (v := 3) hx hb dX5_blend_78 (by decide) ?_
      refine lv_isub hx hb dX5_blend_79 ?_
      refine ro_i (va_runV (As := [.int s0, .int (5 - 3)]) (rest := []) F (kX5_partOf l D y q t n C w rt r0 no sa to tr st im va s0 (5 - 3) hn hI hd) (cwV 2 hts gX5_blend_X5_partOf rfl rfl rfl ⟨rfl, hdX5_partOf⟩ ⟨(Nat.le_of_ble_eq_true rfl), (Nat.le_of_ble_eq_true rfl)⟩) ⟨rdB_blind, va_recv hK hP (ci := 5) (q0 := 0) rfl rfl, rdB_pre hP hK hN⟩ rfl rfl hl.1 rfl (lv_room (Nat.le_of_ble_eq_true rfl)) dX5_blend_80 ⟨Nat.zero_le _, Nat.zero_le _⟩) ?_
      exact ro_iret hx hb hr hlocks dX5_blend_83 (by unfold blendF; rw [if_pos hbc]; simp [blX, ptm, zI])
    by_cases t_8 : k0 = 6
    · skip
      subst t_8
      refine lv_tableIn (off := 73) (tgt := 84) hx hb dX5_blend_11 (by decide) (by decide) rfl (by decide) ?_
      refine lv_aload_n hx hb dX5_blend_84 rfl (lv_at hl 0 rfl) ?_
      refine lv_iload_n hx hb dX5_blend_85 rfl (lv_at hl 1 rfl) ?_
      refine ro_i (va_runV (As := [.int s0]) (rest := []) F (kX5_costs l D y q t n C w rt r0 no sa to tr st im va s0 hn) (cwV 1 hts gX5_blend_X5_costs rfl rfl rfl ⟨rfl, hdX5_costs⟩ ⟨(Nat.le_of_ble_eq_true rfl), (Nat.le_of_ble_eq_true rfl)⟩) ⟨rdB_blind, va_recv hK hP (ci := 5) (q0 := 0) rfl rfl, rdB_pre hP hK hN⟩ rfl rfl hl.1 rfl (lv_room (Nat.le_of_ble_eq_true rfl)) dX5_blend_86 ⟨Nat.zero_le _, Nat.zero_le _⟩) ?_
      exact ro_iret hx hb hr hlocks dX5_blend_89 (by unfold blendF; rw [if_pos hbc]; simp [blX, ptm, zI])
    by_cases t_9 : k0 = 7
    · skip
      subst t_9
      refine lv_tableIn (off := 79) (tgt := 90) hx hb dX5_blend_11 (by decide) (by decide) rfl (by decide) ?_
      refine lv_aload_n hx hb dX5_blend_90 rfl (lv_at hl 0 rfl) ?_
      refine lv_iload_n hx hb dX5_blend_91 rfl (lv_at hl 1 rfl) ?_
      refine ro_i (va_runV (As := [.int s0]) (rest := []) F (kX5_isRight l D y q t n C w rt r0 no sa to tr st im va s0 hn hI hd hj) (cwV 1 hts gX5_blend_X5_isRight rfl rfl rfl ⟨rfl, hdX5_isRight⟩ ⟨(Nat.le_of_ble_eq_true rfl), (Nat.le_of_ble_eq_true rfl)⟩) ⟨rdB_blind, va_recv hK hP (ci := 5) (q0 := 0) rfl rfl, rdB_pre hP hK hN⟩ rfl rfl hl.1 rfl (lv_room (Nat.le_of_ble_eq_true rfl)) dX5_blend_92 ⟨Nat.zero_le _, Nat.zero_le _⟩) ?_
      refine lv_if_eq (tgt := 102) hx hb dX5_blend_95 (by decide) (fun c_10 => ?_) (fun c_10 => ?_)
      · skip
        have c_10 := zI_0 c_10
        refine lv_iconst (v := 0) hx hb dX5_blend_102 (by decide) ?_
        exact ro_iret hx hb hr hlocks dX5_blend_103 (by unfold blendF; rw [if_pos hbc]; simp [blX, ptm, zI, c_10])
      · skip
        have c_10 := zI_1 c_10
        refine lv_iconst (v := 1) hx hb dX5_blend_98 (by decide) ?_
        refine lv_goto (tgt := 103) hx hb dX5_blend_99 (by decide) ?_
        exact ro_iret hx hb hr hlocks dX5_blend_103 (by unfold blendF; rw [if_pos hbc]; simp [blX, ptm, zI, c_10])
    have u_2 : ¬ (k0).toInt = 0 := fun h => t_2 (Int32.toInt_inj.mp h)
    have u_3 : ¬ (k0).toInt = 1 := fun h => t_3 (Int32.toInt_inj.mp h)
    have u_4 : ¬ (k0).toInt = 2 := fun h => t_4 (Int32.toInt_inj.mp h)
    have u_5 : ¬ (k0).toInt = 3 := fun h => t_5 (Int32.toInt_inj.mp h)
    have u_6 : ¬ (k0).toInt = 4 := fun h => t_6 (Int32.toInt_inj.mp h)
    have u_7 : ¬ (k0).toInt = 5 := fun h => t_7 (Int32.toInt_inj.mp h)
    have u_8 : ¬ (k0).toInt = 6 := fun h => t_8 (Int32.toInt_inj.mp h)
    have u_9 : ¬ (k0).toInt = 7 := fun h => t_9 (Int32.toInt_inj.mp h)
    refine lv_tableOut (tgt := 104) hx hb dX5_blend_11 (by omega) (by decide) ?_
    refine lv_iconst (v := (-1)) hx hb dX5_blend_104 (by decide) ?_
    exact ro_iret hx hb hr hlocks dX5_blend_105 (by unfold blendF; rw [if_pos hbc]; simp [blX, ptm, zI, t_2, t_3, t_4, t_5, t_6, t_7, t_8, t_9])
  · skip
    have c_1 := zI_0 c_1
    have hbc : ¬ (isS n s0 = true ∧ bOK n C (nI t) s0 = true) := fun h => by rw [(blend_c hI s0).mp h] at c_1; exact absurd c_1 (by decide)
    refine lv_iconst (v := (-1)) hx hb dX5_blend_8 (by decide) ?_
    exact ro_iret hx hb hr hlocks dX5_blend_9 (by unfold blendF; rw [if_neg hbc])

set_option maxHeartbeats 4000000 in
set_option maxRecDepth 100000 in
theorem kX5_best (l : Launch) (D : va_G) (y : Nat → ClassId) (q : Nat → Nat) (t n : Nat) (C : Nat → CT) (w : Nat → Int32) (rt : Int32) (r0 : Nat) (no sa to : Nat → Int32) (tr : Int64) (st im va : Nat → Int32) (k0 : Int32) (hn : n ≤ 12) (hI : INV n t C) : Met l yX5_best wsX5_best ({ frames := 4, cells := 0, slots := 0, locals := 93 }) (va_Pc [.ref (q 0), .int k0] (rdB D (mTy y) (mWC y q (nI t) (nI n) C w rt (nI r0) no sa to tr st im va))) (vp_Si (fun x => x = (bestF n C (nI t) w k0))) 0 0 nF := by
  refine ro_start (cc := cX5_best) (maxL := 6) (ret := (some .int)) (by decide) rfl (Nat.le_of_ble_eq_true rfl) ?_
  intro p e s m below meth c ls hx hb hr hml hown hlocks hts hnm hB hl
  obtain ⟨hP, hK, hN⟩ := hB
  have hown : s.vm.findClass RX5 = some m.cls := hown
  have F : CallFix p m c cX5_best 6 s [.ref (q 0), .int k0].toArray wsX5_best RX5 := ⟨hx, hb, hml, hown, hts⟩
  have hl : lv_has ls 6 [(0, .ref (q 0)), (1, .int k0)] := hl
  have iX5 : ∀ w ∈ u_ws RX5 TX5 20, w ∈ wsX5_best := mem_pl [49, 50, 51, 52, 53, 54, 55, 56, 57, 58, 59, 60, 61, 62, 63, 64, 65, 66, 67, 68] rfl
  have hp := pow12 hn
  have hp0 : 0 < 2 ^ n := Nat.two_pow_pos n
  refine lv_iload_n hx hb dX5_best_0 rfl (lv_at hl 1 rfl) ?_
  refine lv_iconst (v := 0) hx hb dX5_best_1 (by decide) ?_
  refine lv_iconst (v := 1) hx hb dX5_best_2 (by decide) ?_
  refine ro_i (va_runS (As := [.int k0, .int 0, .int 1]) (rest := []) F (kX5_in l k0 0 1) (va_cwS 3 hts gX5_best_X5_in rfl rfl rfl hdX5_in ⟨(Nat.le_of_ble_eq_true rfl), (Nat.le_of_ble_eq_true rfl)⟩) ⟨tr_blind, tr_pre⟩ rfl rfl hl.1 rfl (lv_room (Nat.le_of_ble_eq_true rfl)) dX5_best_3 ⟨Nat.zero_le _, Nat.zero_le _⟩) ?_
  refine lv_if_ne (tgt := 11) hx hb dX5_best_6 (by decide) (fun c_1 => ?_) (fun c_1 => ?_)
  · skip
    have c_1 := zI_1 c_1
    refine lv_bipush (v := (-9)) hx hb dX5_best_11 (by decide) ?_
    refine lv_istore_n (lv' := [(2, .int (-9)), (0, .ref (q 0)), (1, .int k0)]) hx hb dX5_best_13 rfl hl (by decide) rfl (fun ls hl => ?_)
    refine lv_bipush (v := (-9)) hx hb dX5_best_14 (by decide) ?_
    refine lv_istore_n (lv' := [(3, .int (-9)), (2, .int (-9)), (0, .ref (q 0)), (1, .int k0)]) hx hb dX5_best_16 rfl hl (by decide) rfl (fun ls hl => ?_)
    refine lv_iconst (v := 1) hx hb dX5_best_17 (by decide) ?_
    refine lv_istore (lv' := [(4, .int 1), (3, .int (-9)), (2, .int (-9)), (0, .ref (q 0)), (1, .int k0)]) hx hb dX5_best_18 hl (by decide) rfl (fun ls hl => ?_)
    refine W.lpR (pc := 20) (τ := Nat) (fun k => k ≤ (2 ^ n - 1)) (fun k ls => lv_has ls 6 [(0, .ref (q 0)), (1, .int k0), (2, .int ((bst n C (nI t) w k).1)), (3, .int ((bst n C (nI t) w k).2)), (4, .int (nI (k + 1)))]) (fun k => (2 ^ n - 1) - k) ?_ 0 ls (Nat.zero_le _) (lv_sub hl [3, 4, 2, 1, 0] rfl)
    intro k ls hk hl ihk
    have hk : k ≤ (2 ^ n - 1) := hk
    have hl : lv_has ls 6 [(0, .ref (q 0)), (1, .int k0), (2, .int ((bst n C (nI t) w k).1)), (3, .int ((bst n C (nI t) w k).2)), (4, .int (nI (k + 1)))] := hl
    refine lv_iload hx hb dX5_best_20 (lv_at hl 4 rfl) ?_
    refine lv_iconst (v := 1) hx hb dX5_best_22 (by decide) ?_
    refine lv_aload_n hx hb dX5_best_23 rfl (lv_at hl 0 rfl) ?_
    refine va_get (D := D) (ci := 5) (v := .int (nI n)) (C := RX5) (T := TX5) (N := 20) hx hb hts iX5 hown hK hP 0 rfl rfl 1 (by decide) (hts _ (List.mem_of_getElem? (i := 1) rfl)) (fun _ h9 => h9) rfl dX5_best_24 ?_
    refine lv_ishl hx hb dX5_best_27 ?_
    refine lv_cst (v := nI (2 ^ n)) (sh_n n (by omega)) ?_
    refine lv_icmp_ge (tgt := 81) hx hb dX5_best_28 (by decide) (fun c_2 => ?_) (fun c_2 => ?_)
    · skip
      have c_2 : 2 ^ n ≤ k + 1 := (nI_leI (a := (2 ^ n)) (b := (k + 1)) (by omega) (by omega)).mp c_2
      refine lv_iload_n hx hb dX5_best_81 rfl (lv_at hl 1 rfl) ?_
      refine lv_if_ne (tgt := 89) hx hb dX5_best_82 (by decide) (fun c_3 => ?_) (fun c_3 => ?_)
      · skip
        refine lv_iload_n hx hb dX5_best_89 rfl (lv_at hl 3 rfl) ?_
        exact ro_iret hx hb hr hlocks dX5_best_90 (by unfold bestF; rw [if_pos c_1, show 2 ^ n - 1 = k by omega]; simp [c_3])
      · skip
        refine lv_iload_n hx hb dX5_best_85 rfl (lv_at hl 2 rfl) ?_
        refine lv_goto (tgt := 90) hx hb dX5_best_86 (by decide) ?_
        exact ro_iret hx hb hr hlocks dX5_best_90 (by unfold bestF; rw [if_pos c_1, show 2 ^ n - 1 = k by omega]; simp [c_3])
    · skip
      have c_2 : ¬ 2 ^ n ≤ k + 1 := fun h => c_2 ((nI_leI (a := (2 ^ n)) (b := (k + 1)) (by omega) (by omega)).mpr h)
      refine lv_aload_n hx hb dX5_best_31 rfl (lv_at hl 0 rfl) ?_
      refine lv_iload hx hb dX5_best_32 (lv_at hl 4 rfl) ?_
      refine ro_i (va_runV (As := [.int (nI (k + 1))]) (rest := []) F (kX5_isBlend l D y q t n C w rt r0 no sa to tr st im va (nI (k + 1)) hn) (cwV 1 hts gX5_best_X5_isBlend rfl rfl rfl ⟨rfl, hdX5_isBlend⟩ ⟨(Nat.le_of_ble_eq_true rfl), (Nat.le_of_ble_eq_true rfl)⟩) ⟨rdB_blind, va_recv hK hP (ci := 5) (q0 := 0) rfl rfl, rdB_pre hP hK hN⟩ rfl rfl hl.1 rfl (lv_room (Nat.le_of_ble_eq_true rfl)) dX5_best_34 ⟨Nat.zero_le _, Nat.zero_le _⟩) ?_
      refine lv_if_eq (tgt := 75) hx hb dX5_best_37 (by decide) (fun c_4 => ?_) (fun c_4 => ?_)
      · skip
        have c_4 := zI_0 c_4
        have hkn : k + 1 < 2 ^ n := by omega
        have hbo : bOK n C (nI t) (nI (k + 1)) = false := by rw [bOK_eq hI hkn]; exact c_4
        refine lv_iinc (v := (nI (k + 1) + 1)) (lv' := [(4, .int (nI (k + 1) + 1)), (0, .ref (q 0)), (1, .int k0), (2, .int ((bst n C (nI t) w k).1)), (3, .int ((bst n C (nI t) w k).2))]) hx hb dX5_best_75 hl (k := 4) rfl rfl (by decide) rfl (fun ls hl => ?_)
        refine lv_goto (tgt := 20) hx hb dX5_best_78 (by decide) ?_
        exact ihk (k + 1) ls (by show (2 ^ n - 1) - (k + 1) < (2 ^ n - 1) - k; omega) (by show k + 1 ≤ (2 ^ n - 1); omega) (lv_sub hl [1, 2, 3, 4, 0] (by
          show ([(0, .ref (q 0)), (1, .int k0), (2, .int ((bst n C (nI t) w k).1)), (3, .int ((bst n C (nI t) w k).2)), (4, .int (nI (k + 1) + 1))] : List (Nat × Value)) = [(0, .ref (q 0)), (1, .int k0), (2, .int ((bst n C (nI t) w (k + 1)).1)), (3, .int ((bst n C (nI t) w (k + 1)).2)), (4, .int (nI ((k + 1) + 1)))]
          have e1 : (bst n C (nI t) w (k + 1)) = (bst n C (nI t) w k) := by show bstep n C (nI t) w (k + 1) (bst n C (nI t) w k) = _; unfold bstep; exact if_neg (fun h => by rw [hbo] at h; exact absurd h.1 (by decide))
          rw [e1]
          rw [← nI_1 (k + 1)]))
      · skip
        have c_4 := zI_1 c_4
        have hkn : k + 1 < 2 ^ n := by omega
        obtain ⟨k9, hk1, hk2, ek, hok⟩ := isBl_S hn c_4
        have hdj : 1 ≤ Sd C (nI (k + 1)) n ∧ ∃ j, j < n ∧ hs (nI (k + 1)) j = true := by rw [ek]; rw [ek] at hok; exact Sd_pos hI hk1 hk2 hok
        obtain ⟨hd, hj⟩ := hdj
        have hbo : bOK n C (nI t) (nI (k + 1)) = true := by rw [bOK_eq hI hkn]; exact c_4
        refine lv_aload_n hx hb dX5_best_40 rfl (lv_at hl 0 rfl) ?_
        refine lv_iload hx hb dX5_best_41 (lv_at hl 4 rfl) ?_
        refine ro_i (va_runV (As := [.int (nI (k + 1))]) (rest := []) F (kX5_costs l D y q t n C w rt r0 no sa to tr st im va (nI (k + 1)) hn) (cwV 1 hts gX5_best_X5_costs rfl rfl rfl ⟨rfl, hdX5_costs⟩ ⟨(Nat.le_of_ble_eq_true rfl), (Nat.le_of_ble_eq_true rfl)⟩) ⟨rdB_blind, va_recv hK hP (ci := 5) (q0 := 0) rfl rfl, rdB_pre hP hK hN⟩ rfl rfl hl.1 rfl (lv_room (Nat.le_of_ble_eq_true rfl)) dX5_best_43 ⟨Nat.zero_le _, Nat.zero_le _⟩) ?_
        refine lv_istore (lv' := [(5, .int (m_co (gMx n C (nI t) (nI (k + 1))))), (0, .ref (q 0)), (1, .int k0), (2, .int ((bst n C (nI t) w k).1)), (3, .int ((bst n C (nI t) w k).2)), (4, .int (nI (k + 1)))]) hx hb dX5_best_46 hl (by decide) rfl (fun ls hl => ?_)
        refine lv_iload_n hx hb dX5_best_48 rfl (lv_at hl 3 rfl) ?_
        refine lv_bipush (v := (-9)) hx hb dX5_best_49 (by decide) ?_
        refine lv_icmp_eq (tgt := 60) hx hb dX5_best_51 (by decide) (fun c_5 => ?_) (fun c_5 => ?_)
        · skip
          refine lv_aload_n hx hb dX5_best_60 rfl (lv_at hl 1 rfl) ?_
          refine lv_iload hx hb dX5_best_61 (lv_at hl 5 rfl) ?_
          refine ro_i (va_runV (As := [.int (nI (k + 1))]) (rest := []) F (kX5_isRight l D y q t n C w rt r0 no sa to tr st im va (nI (k + 1)) hn hI hd hj) (cwV 1 hts gX5_best_X5_isRight rfl rfl rfl ⟨rfl, hdX5_isRight⟩ ⟨(Nat.le_of_ble_eq_true rfl), (Nat.le_of_ble_eq_true rfl)⟩) ⟨rdB_blind, va_recv hK hP (ci := 5) (q0 := 0) rfl rfl, rdB_pre hP hK hN⟩ rfl rfl hl.1 rfl (lv_room (Nat.le_of_ble_eq_true rfl)) dX5_best_63 ⟨Nat.zero_le _, Nat.zero_le _⟩) ?_
          refine lv_if_eq (tgt := 75) hx hb dX5_best_66 (by decide) (fun c_6 => ?_) (fun c_6 => ?_)
          · skip
            have c_6 := zI_0 c_6
            refine lv_iinc (v := (nI (k + 1) + 1)) (lv' := [(4, .int (nI (k + 1) + 1)), (5, .int (m_co (gMx n C (nI t) (nI (k + 1))))), (0, .ref (q 0)), (1, .int k0), (2, .int ((bst n C (nI t) w k).1)), (3, .int ((bst n C (nI t) w k).2))]) hx hb dX5_best_75 hl (k := 5) rfl rfl (by decide) rfl (fun ls hl => ?_)
            refine lv_goto (tgt := 20) hx hb dX5_best_78 (by decide) ?_
            exact ihk (k + 1) ls (by show (2 ^ n - 1) - (k + 1) < (2 ^ n - 1) - k; omega) (by show k + 1 ≤ (2 ^ n - 1); omega) (lv_sub hl [2, 3, 4, 5, 0] (by
              show ([(0, .ref (q 0)), (1, .int k0), (2, .int ((bst n C (nI t) w k).1)), (3, .int ((bst n C (nI t) w k).2)), (4, .int (nI (k + 1) + 1))] : List (Nat × Value)) = [(0, .ref (q 0)), (1, .int k0), (2, .int ((bst n C (nI t) w (k + 1)).1)), (3, .int ((bst n C (nI t) w (k + 1)).2)), (4, .int (nI ((k + 1) + 1)))]
              have e1 : (bst n C (nI t) w (k + 1)) = (bst n C (nI t) w k) := by show bstep n C (nI t) w (k + 1) (bst n C (nI t) w k) = _; unfold bstep; exact if_neg (fun h => by rw [c_6] at h; exact absurd h.2.2 (by decide))
              rw [e1]
              rw [← nI_1 (k + 1)]))
          · skip
            have c_6 := zI_1 c_6
            refine lv_iload hx hb dX5_best_69 (lv_at hl 5 rfl) ?_
            refine lv_istore_n (lv' := [(2, .int (nI (k + 1))), (5, .int (m_co (gMx n C (nI t) (nI (k + 1))))), (0, .ref (q 0)), (1, .int k0), (3, .int ((bst n C (nI t) w k).2)), (4, .int (nI (k + 1)))]) hx hb dX5_best_71 rfl hl (by decide) rfl (fun ls hl => ?_)
            refine lv_iload hx hb dX5_best_72 (lv_at hl 1 rfl) ?_
            refine lv_istore_n (lv' := [(3, .int (m_co (gMx n C (nI t) (nI (k + 1))))), (2, .int (nI (k + 1))), (5, .int (m_co (gMx n C (nI t) (nI (k + 1))))), (0, .ref (q 0)), (1, .int k0), (4, .int (nI (k + 1)))]) hx hb dX5_best_74 rfl hl (by decide) rfl (fun ls hl => ?_)
            refine lv_iinc (v := (nI (k + 1) + 1)) (lv' := [(4, .int (nI (k + 1) + 1)), (3, .int (m_co (gMx n C (nI t) (nI (k + 1))))), (2, .int (nI (k + 1))), (5, .int (m_co (gMx n C (nI t) (nI (k + 1))))), (0, .ref (q 0)), (1, .int k0)]) hx hb dX5_best_75 hl (k := 5) rfl rfl (by decide) rfl (fun ls hl => ?_)
            refine lv_goto (tgt := 20) hx hb dX5_best_78 (by decide) ?_
            exact ihk (k + 1) ls (by show (2 ^ n - 1) - (k + 1) < (2 ^ n - 1) - k; omega) (by show k + 1 ≤ (2 ^ n - 1); omega) (lv_sub hl [4, 5, 2, 1, 0] (by
              show ([(0, .ref (q 0)), (1, .int k0), (2, .int (nI (k + 1))), (3, .int (m_co (gMx n C (nI t) (nI (k + 1))))), (4, .int (nI (k + 1) + 1))] : List (Nat × Value)) = [(0, .ref (q 0)), (1, .int k0), (2, .int ((bst n C (nI t) w (k + 1)).1)), (3, .int ((bst n C (nI t) w (k + 1)).2)), (4, .int (nI ((k + 1) + 1)))]
              have e1 : (bst n C (nI t) w (k + 1)) = (nI (k + 1), m_co (gMx n C (nI t) (nI (k + 1)))) := by show bstep n C (nI t) w (k + 1) (bst n C (nI t) w k) = _; unfold bstep; exact if_pos ⟨hbo, Or.inl c_5, c_6⟩
              rw [e1]
              rw [← nI_1 (k + 1)]))
        · skip
          refine lv_iload hx hb dX5_best_54 (lv_at hl 0 rfl) ?_
          refine lv_iload_n hx hb dX5_best_56 rfl (lv_at hl 4 rfl) ?_
          refine lv_icmp_ge (tgt := 75) hx hb dX5_best_57 (by decide) (fun c_7 => ?_) (fun c_7 => ?_)
          · skip
            refine lv_iinc (v := (nI (k + 1) + 1)) (lv' := [(4, .int (nI (k + 1) + 1)), (5, .int (m_co (gMx n C (nI t) (nI (k + 1))))), (0, .ref (q 0)), (1, .int k0), (2, .int ((bst n C (nI t) w k).1)), (3, .int ((bst n C (nI t) w k).2))]) hx hb dX5_best_75 hl (k := 5) rfl rfl (by decide) rfl (fun ls hl => ?_)
            refine lv_goto (tgt := 20) hx hb dX5_best_78 (by decide) ?_
            exact ihk (k + 1) ls (by show (2 ^ n - 1) - (k + 1) < (2 ^ n - 1) - k; omega) (by show k + 1 ≤ (2 ^ n - 1); omega) (lv_sub hl [2, 3, 4, 5, 0] (by
              show ([(0, .ref (q 0)), (1, .int k0), (2, .int ((bst n C (nI t) w k).1)), (3, .int ((bst n C (nI t) w k).2)), (4, .int (nI (k + 1) + 1))] : List (Nat × Value)) = [(0, .ref (q 0)), (1, .int k0), (2, .int ((bst n C (nI t) w (k + 1)).1)), (3, .int ((bst n C (nI t) w (k + 1)).2)), (4, .int (nI ((k + 1) + 1)))]
              have e1 : (bst n C (nI t) w (k + 1)) = (bst n C (nI t) w k) := by show bstep n C (nI t) w (k + 1) (bst n C (nI t) w k) = _; unfold bstep; exact if_neg (fun h => h.2.1.elim (fun h2 => c_5 h2) (fun h2 => Int32.not_lt.mpr c_7 h2))
              rw [e1]
              rw [← nI_1 (k + 1)]))
          · skip
            refine lv_aload_n hx hb dX5_best_60 rfl (lv_at hl 1 rfl) ?_
            refine lv_iload hx hb dX5_best_61 (lv_at hl 5 rfl) ?_
            refine ro_i (va_runV (As := [.int (nI (k + 1))]) (rest := []) F (kX5_isRight l D y q t n C w rt r0 no sa to tr st im va (nI (k + 1)) hn hI hd hj) (cwV 1 hts gX5_best_X5_isRight rfl rfl rfl ⟨rfl, hdX5_isRight⟩ ⟨(Nat.le_of_ble_eq_true rfl), (Nat.le_of_ble_eq_true rfl)⟩) ⟨rdB_blind, va_recv hK hP (ci := 5) (q0 := 0) rfl rfl, rdB_pre hP hK hN⟩ rfl rfl hl.1 rfl (lv_room (Nat.le_of_ble_eq_true rfl)) dX5_best_63 ⟨Nat.zero_le _, Nat.zero_le _⟩) ?_
            refine lv_if_eq (tgt := 75) hx hb dX5_best_66 (by decide) (fun c_8 => ?_) (fun c_8 => ?_)
            · skip
              have c_8 := zI_0 c_8
              refine lv_iinc (v := (nI (k + 1) + 1)) (lv' := [(4, .int (nI (k + 1) + 1)), (5, .int (m_co (gMx n C (nI t) (nI (k + 1))))), (0, .ref (q 0)), (1, .int k0), (2, .int ((bst n C (nI t) w k).1)), (3, .int ((bst n C (nI t) w k).2))]) hx hb dX5_best_75 hl (k := 5) rfl rfl (by decide) rfl (fun ls hl => ?_)
              refine lv_goto (tgt := 20) hx hb dX5_best_78 (by decide) ?_
              exact ihk (k + 1) ls (by show (2 ^ n - 1) - (k + 1) < (2 ^ n - 1) - k; omega) (by show k + 1 ≤ (2 ^ n - 1); omega) (lv_sub hl [2, 3, 4, 5, 0] (by
                show ([(0, .ref (q 0)), (1, .int k0), (2, .int ((bst n C (nI t) w k).1)), (3, .int ((bst n C (nI t) w k).2)), (4, .int (nI (k + 1) + 1))] : List (Nat × Value)) = [(0, .ref (q 0)), (1, .int k0), (2, .int ((bst n C (nI t) w (k + 1)).1)), (3, .int ((bst n C (nI t) w (k + 1)).2)), (4, .int (nI ((k + 1) + 1)))]
                have e1 : (bst n C (nI t) w (k + 1)) = (bst n C (nI t) w k) := by show bstep n C (nI t) w (k + 1) (bst n C (nI t) w k) = _; unfold bstep; exact if_neg (fun h => by rw [c_8] at h; exact absurd h.2.2 (by decide))
                rw [e1]
                rw [← nI_1 (k + 1)]))
            · skip
              have c_8 := zI_1 c_8
              refine lv_iload hx hb dX5_best_69 (lv_at hl 5 rfl) ?_
              refine lv_istore_n (lv' := [(2, .int (nI (k + 1))), (5, .int (m_co (gMx n C (nI t) (nI (k + 1))))), (0, .ref (q 0)), (1, .int k0), (3, .int ((bst n C (nI t) w k).2)), (4, .int (nI (k + 1)))]) hx hb dX5_best_71 rfl hl (by decide) rfl (fun ls hl => ?_)
              refine lv_iload hx hb dX5_best_72 (lv_at hl 1 rfl) ?_
              refine lv_istore_n (lv' := [(3, .int (m_co (gMx n C (nI t) (nI (k + 1))))), (2, .int (nI (k + 1))), (5, .int (m_co (gMx n C (nI t) (nI (k + 1))))), (0, .ref (q 0)), (1, .int k0), (4, .int (nI (k + 1)))]) hx hb dX5_best_74 rfl hl (by decide) rfl (fun ls hl => ?_)
              refine lv_iinc (v := (nI (k + 1) + 1)) (lv' := [(4, .int (nI (k + 1) + 1)), (3, .int (m_co (gMx n C (nI t) (nI (k + 1))))), (2, .int (nI (k + 1))), (5, .int (m_co (gMx n C (nI t) (nI (k + 1))))), (0, .ref (q 0)), (1, .int k0)]) hx hb dX5_best_75 hl (k := 5) rfl rfl (by decide) rfl (fun ls hl => ?_)
              refine lv_goto (tgt := 20) hx hb dX5_best_78 (by decide) ?_
              exact ihk (k + 1) ls (by show (2 ^ n - 1) - (k + 1) < (2 ^ n - 1) - k; omega) (by show k + 1 ≤ (2 ^ n - 1); omega) (lv_sub hl [4, 5, 2, 1, 0] (by
                show ([(0, .ref (q 0)), (1, .int k0), (2, .int (nI (k + 1))), (3, .int (m_co (gMx n C (nI t) (nI (k + 1))))), (4, .int (nI (k + 1) + 1))] : List (Nat × Value)) = [(0, .ref (q 0)), (1, .int k0), (2, .int ((bst n C (nI t) w (k + 1)).1)), (3, .int ((bst n C (nI t) w (k + 1)).2)), (4, .int (nI ((k + 1) + 1)))]
                have e1 : (bst n C (nI t) w (k + 1)) = (nI (k + 1), m_co (gMx n C (nI t) (nI (k + 1)))) := by show bstep n C (nI t) w (k + 1) (bst n C (nI t) w k) = _; unfold bstep; exact if_pos ⟨hbo, Or.inr (Int32.not_le.mp c_7), c_8⟩
                rw [e1]
                rw [← nI_1 (k + 1)]))
  · skip
    have c_1 := zI_0 c_1
    refine lv_iconst (v := (-1)) hx hb dX5_best_9 (by decide) ?_
    exact ro_iret hx hb hr hlocks dX5_best_10 (by simp [bestF, c_1])
