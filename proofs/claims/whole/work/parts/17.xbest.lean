theorem best_cs {n t : Nat} {C : Nat → CT} {w : Nat → Int32} (hI : INV n t C) : bst n C (nI t) w (2 ^ n - 1) = (-9, -9) ∨ ∃ k, k < 2 ^ n ∧ bst n C (nI t) w (2 ^ n - 1) = (nI k, m_co (gMx n C (nI t) (nI k))) ∧ bOK n C (nI t) (nI k) = true := by
  have hp0 : 0 < 2 ^ n := Nat.two_pow_pos n
  rcases bst_inv (w := w) hI (2 ^ n - 1) (by omega) with h | ⟨k, h1, h2, h3, h4⟩
  · exact Or.inl h
  · exact Or.inr ⟨k, by omega, h3, h4⟩
theorem best_9 {n t : Nat} {C : Nat → CT} {w : Nat → Int32} (hI : INV n t C) (h : (bst n C (nI t) w (2 ^ n - 1)).1 = -9) : (bst n C (nI t) w (2 ^ n - 1)).1 = (bst n C (nI t) w (2 ^ n - 1)).2 := by
  rcases best_cs (w := w) hI with e | ⟨k, hk, e, -⟩
  · rw [e]
  · rw [e] at h; exact absurd h (ne9 (by have := pow12 hI.1; omega))
theorem best_c {n t : Nat} {C : Nat → CT} {w : Nat → Int32} (hI : INV n t C) (h : ¬ (bst n C (nI t) w (2 ^ n - 1)).1 = -9) : m_co (gMx n C (nI t) (bst n C (nI t) w (2 ^ n - 1)).1) = (bst n C (nI t) w (2 ^ n - 1)).2 := by
  rcases best_cs (w := w) hI with e | ⟨k, hk, e, -⟩
  · rw [e] at h; exact absurd rfl h
  · rw [e]
theorem best_b {n t : Nat} {C : Nat → CT} {w : Nat → Int32} (hI : INV n t C) (h : ¬ (bst n C (nI t) w (2 ^ n - 1)).1 = -9) : ¬ bOK n C (nI t) (bst n C (nI t) w (2 ^ n - 1)).1 = false := by
  rcases best_cs (w := w) hI with e | ⟨k, hk, e, hb⟩
  · rw [e] at h; exact absurd rfl h
  · rw [e, hb]; decide

set_option maxHeartbeats 4000000 in
set_option maxRecDepth 100000 in
theorem kX4_bestSet (l : Launch) (D : va_G) (y : Nat → ClassId) (q : Nat → Nat) (n : Nat) (now rt : Int32) (tr : Int64) (C : Nat → CT) (ah w : Nat → Int32) (mx : MT) (rd ct : Int32) (g h : Nat → Int32) (sz : Nat) (hn : n ≤ 12) (t : Nat) (ht : now = nI t) (hI : INV n t C) : Met l yX4_bestSet wsX4_bestSet ({ frames := 4, cells := 0, slots := 0, locals := 86 }) (va_Pc [.ref (q 0)] (muB D (xT y) (xW y q (nI n) now rt tr C ah w mx rd ct g h) sz eT)) (QI (σ := MT) D (fun r u => r = (bst n C now w (2 ^ n - 1)).1) (fun u => (xW y q (nI n) now rt tr C ah w u rd ct g h)) (va_A (xW y q (nI n) now rt tr C ah w mx rd ct g h) sz)) 0 0 (va_A (xW y q (nI n) now rt tr C ah w mx rd ct g h) sz) := by
  refine mu_start (Qc := QI (σ := MT) D (fun r u => r = (bst n C now w (2 ^ n - 1)).1) (fun u => (xW y q (nI n) now rt tr C ah w u rd ct g h))) (cc := cX4_bestSet) (maxL := 8) (ret := (some .int)) (by decide) rfl (Nat.le_of_ble_eq_true rfl) ?_
  intro p e s m below meth c ls A hx hb hr hml hown hlocks hts hnm hA hP hK hN hD hE hAA hsz hl
  have hS : va_S A s.heap s.heap [] := va_S.rf
  have hown : s.vm.findClass RX4 = some m.cls := hown
  have F : CallFix p m c cX4_bestSet 8 s [.ref (q 0)].toArray wsX4_bestSet RX4 := ⟨hx, hb, hml, hown, hts⟩
  have hl : lv_has ls 8 [(0, .ref (q 0))] := hl
  have iX1 : ∀ w ∈ u_ws RX1 TX1 7, w ∈ wsX4_bestSet := mem_pl [87, 88, 89, 90, 91, 92, 93] rfl
  have iX4 : ∀ w ∈ u_ws RX4 TX4 9, w ∈ wsX4_bestSet := mem_pl [78, 79, 80, 81, 82, 83, 84, 85, 86] rfl
  subst ht
  have hp := pow12 hn
  have hp0 : 0 < 2 ^ n := Nat.two_pow_pos n
  refine lv_bipush (v := (-9)) hx hb dX4_bestSet_0 (by decide) ?_
  refine lv_istore_n (lv' := [(1, .int (-9)), (0, .ref (q 0))]) hx hb dX4_bestSet_2 rfl hl (by decide) rfl (fun ls hl => ?_)
  refine lv_iconst (v := 0) hx hb dX4_bestSet_3 (by decide) ?_
  refine lv_istore_n (lv' := [(2, .int 0), (1, .int (-9)), (0, .ref (q 0))]) hx hb dX4_bestSet_4 rfl hl (by decide) rfl (fun ls hl => ?_)
  refine lv_iconst (v := 1) hx hb dX4_bestSet_5 (by decide) ?_
  refine lv_aload_n hx hb dX4_bestSet_6 rfl (lv_at hl 2 rfl) ?_
  refine va_get (D := D) (ci := 4) (v := .int (nI n)) (C := RX4) (T := TX4) (N := 9) hx hb hts iX4 hown hK hP 0 rfl rfl 5 (by decide) (hts _ (List.mem_of_getElem? (i := 1) rfl)) (fun _ h9 => h9) rfl dX4_bestSet_7 ?_
  refine lv_ishl hx hb dX4_bestSet_10 ?_
  refine lv_cst (v := nI (2 ^ n)) (sh_n n (by omega)) ?_
  refine lv_istore_n (lv' := [(3, .int (nI (2 ^ n))), (2, .int 0), (1, .int (-9)), (0, .ref (q 0))]) hx hb dX4_bestSet_11 rfl hl (by decide) rfl (fun ls hl => ?_)
  refine lv_iconst (v := 1) hx hb dX4_bestSet_12 (by decide) ?_
  refine lv_istore (lv' := [(4, .int 1), (3, .int (nI (2 ^ n))), (2, .int 0), (1, .int (-9)), (0, .ref (q 0))]) hx hb dX4_bestSet_13 hl (by decide) rfl (fun ls hl => ?_)
  refine lv_iconst (v := 1) hx hb dX4_bestSet_15 (by decide) ?_
  refine lv_istore (lv' := [(5, .int 1), (4, .int 1), (3, .int (nI (2 ^ n))), (2, .int 0), (1, .int (-9)), (0, .ref (q 0))]) hx hb dX4_bestSet_16 hl (by decide) rfl (fun ls hl => ?_)
  refine W.lpW (pc := 18) (τ := Nat × Int32 × Int32 × Int32 × MT) (D := D) (A := A) (H0 := s.heap) (cl := vwCl) (fun x => 1 ≤ x.1 ∧ x.1 ≤ 2 ^ n ∧ x.2.1 = (bst n C (nI t) w (x.1 - 1)).1 ∧ (¬ x.2.1 = -9 → x.2.2.1 = (bst n C (nI t) w (x.1 - 1)).2)) (fun x => (xW y q (nI n) (nI t) rt tr C ah w x.2.2.2.2 rd ct g h)) (fun x ls => lv_has ls 8 [(0, .ref (q 0)), (1, .int x.2.1), (2, .int x.2.2.1), (3, .int (nI (2 ^ n))), (4, .int x.2.2.2.1), (5, .int (nI x.1))]) (fun x => 2 ^ n - x.1) ?_ (1, -9, 0, 1, mx) ls ⟨Nat.le_refl 1, hp0, rfl, fun h => absurd rfl h⟩ (lv_sub hl [5, 4, 3, 2, 1, 0] rfl) hP hD hS
  intro x ls H locs hφ hl hP hD hS ih
  obtain ⟨k, fo, le, sp, mz⟩ := x
  obtain ⟨h1, h2, h3, h4⟩ := hφ
  have h1 : 1 ≤ k := h1
  have h2 : k ≤ 2 ^ n := h2
  have h3 : fo = (bst n C (nI t) w (k - 1)).1 := h3
  have h4 : ¬ fo = -9 → le = (bst n C (nI t) w (k - 1)).2 := h4
  have hl : lv_has ls 8 [(0, .ref (q 0)), (1, .int fo), (2, .int le), (3, .int (nI (2 ^ n))), (4, .int sp), (5, .int (nI k))] := hl
  have hP : va_P D vwCl (xW y q (nI n) (nI t) rt tr C ah w mz rd ct g h) H := hP
  have hD : va_D A (xW y q (nI n) (nI t) rt tr C ah w mz rd ct g h) := hD
  refine lv_iload hx hb dX4_bestSet_18 (lv_at hl 5 rfl) ?_
  refine lv_iload_n hx hb dX4_bestSet_20 rfl (lv_at hl 3 rfl) ?_
  refine lv_icmp_ge (tgt := 132) hx hb dX4_bestSet_21 (by decide) (fun c_1 => ?_) (fun c_1 => ?_)
  · skip
    have c_1 : 2 ^ n ≤ k := (nI_leI (a := (2 ^ n)) (b := k) (by omega) (by omega)).mp c_1
    refine lv_iload_n hx hb dX4_bestSet_132 rfl (lv_at hl 1 rfl) ?_
    exact mu_iret mz hx hb hr hlocks hP hD hS dX4_bestSet_133 (by show fo = _; rw [h3, show 2 ^ n - 1 = k - 1 by omega])
  · skip
    have c_1 : ¬ 2 ^ n ≤ k := fun h => c_1 ((nI_leI (a := (2 ^ n)) (b := k) (by omega) (by omega)).mpr h)
    have hk : k < 2 ^ n := by omega
    have hlo := low_is k (by omega) h1
    have hle := low_end n (by omega) k hk h1
    refine lv_iload hx hb dX4_bestSet_24 (lv_at hl 5 rfl) ?_
    refine lv_iload hx hb dX4_bestSet_26 (lv_at hl 5 rfl) ?_
    refine lv_ineg hx hb dX4_bestSet_28 ?_
    refine lv_iand hx hb dX4_bestSet_29 ?_
    refine lv_cst (v := nI (lowN k)) hlo.1 ?_
    refine lv_istore (lv' := [(4, .int (nI (lowN k))), (0, .ref (q 0)), (1, .int fo), (2, .int le), (3, .int (nI (2 ^ n))), (5, .int (nI k))]) hx hb dX4_bestSet_30 hl (by decide) rfl (fun ls hl => ?_)
    refine lv_aload_n hx hb dX4_bestSet_32 rfl (lv_at hl 1 rfl) ?_
    refine lv_iload hx hb dX4_bestSet_33 (lv_at hl 5 rfl) ?_
    refine muF_i (va_runV (As := [.int (nI k)]) (rest := []) F (kX4_gather l D y q n (nI t) rt tr C ah w mz rd ct g h (nI k) _ hn) (cwV 1 hts gX4_bestSet_X4_gather rfl rfl rfl ⟨rfl, hdX4_gather⟩ ⟨(Nat.le_of_ble_eq_true rfl), (Nat.le_of_ble_eq_true rfl)⟩) ⟨(muB_blind (fun _ _ _ _ _ => trivial)), va_recv hK hP (ci := 4) (q0 := 0) rfl rfl, muF_pre hP hK hN hD (fun _ _ _ => trivial)⟩ rfl rfl hl.1 rfl (lv_room (Nat.le_of_ble_eq_true rfl)) dX4_bestSet_35 ⟨Nat.zero_le _, Nat.zero_le _⟩) hP hD hS hA (fun r_2 u_3 H locs w_4 hP hD hS => ?_)
    obtain ⟨rfl, w_4⟩ := w_4
    have hP : va_P D vwCl (xW y q (nI n) (nI t) rt tr C ah w u_3 rd ct g h) H := hP
    have hD : va_D A (xW y q (nI n) (nI t) rt tr C ah w u_3 rd ct g h) := hD
    refine lv_istore (lv' := [(6, .int (zI (bOK n C (nI t) (nI k)))), (4, .int (nI (lowN k))), (0, .ref (q 0)), (1, .int fo), (2, .int le), (3, .int (nI (2 ^ n))), (5, .int (nI k))]) hx hb dX4_bestSet_38 hl (by decide) rfl (fun ls hl => ?_)
    refine lv_iload_n hx hb dX4_bestSet_40 rfl (lv_at hl 3 rfl) ?_
    refine lv_bipush (v := (-9)) hx hb dX4_bestSet_41 (by decide) ?_
    refine lv_icmp_eq (tgt := 61) hx hb dX4_bestSet_43 (by decide) (fun c_5 => ?_) (fun c_5 => ?_)
    · skip
      refine lv_iconst (v := 0) hx hb dX4_bestSet_61 (by decide) ?_
      refine lv_istore (lv' := [(7, .int 0), (6, .int (zI (bOK n C (nI t) (nI k)))), (4, .int (nI (lowN k))), (0, .ref (q 0)), (1, .int fo), (2, .int le), (3, .int (nI (2 ^ n))), (5, .int (nI k))]) hx hb dX4_bestSet_62 hl (by decide) rfl (fun ls hl => ?_)
      refine lv_iload hx hb dX4_bestSet_64 (lv_at hl 1 rfl) ?_
      refine lv_if_eq (tgt := 122) hx hb dX4_bestSet_66 (by decide) (fun c_6 => ?_) (fun c_6 => ?_)
      · skip
        have c_6 := zI_0 c_6
        refine lv_iload hx hb dX4_bestSet_122 (lv_at hl 7 rfl) ?_
        refine lv_iload hx hb dX4_bestSet_124 (lv_at hl 2 rfl) ?_
        refine lv_iadd hx hb dX4_bestSet_126 ?_
        refine lv_istore (lv' := [(5, .int ((nI k) + (nI (lowN k)))), (7, .int 0), (6, .int (zI (bOK n C (nI t) (nI k)))), (4, .int (nI (lowN k))), (0, .ref (q 0)), (1, .int fo), (2, .int le), (3, .int (nI (2 ^ n)))]) hx hb dX4_bestSet_127 hl (by decide) rfl (fun ls hl => ?_)
        refine lv_goto (tgt := 18) hx hb dX4_bestSet_129 (by decide) ?_
        exact ih (k + lowN k, fo, le, nI (lowN k), u_3) ls H locs (by show 2 ^ n - (k + lowN k) < 2 ^ n - k; omega) ⟨by show 1 ≤ k + lowN k; omega, by show k + lowN k ≤ 2 ^ n; omega, (by show fo = (bst n C (nI t) w (k + lowN k - 1)).1; rw [bs_skip hI h1 hk (Or.inl c_6)]; exact h3), (fun h9 => by show le = (bst n C (nI t) w (k + lowN k - 1)).2; rw [bs_skip hI h1 hk (Or.inl c_6)]; exact h4 h9)⟩ (lv_sub hl [4, 5, 6, 7, 3, 0] (by
          show ([(0, .ref (q 0)), (1, .int fo), (2, .int le), (3, .int (nI (2 ^ n))), (4, .int (nI (lowN k))), (5, .int ((nI k) + (nI (lowN k))))] : List (Nat × Value)) = [(0, .ref (q 0)), (1, .int fo), (2, .int le), (3, .int (nI (2 ^ n))), (4, .int (nI (lowN k))), (5, .int (nI (k + lowN k)))]
          rw [← nI_add])) hP hD hS
      · skip
        have c_6 := zI_1 c_6
        obtain rfl := w_4 c_6
        refine lv_iload hx hb dX4_bestSet_69 (lv_at hl 0 rfl) ?_
        refine lv_if_ne (tgt := 122) hx hb dX4_bestSet_71 (by decide) (fun c_7 => ?_) (fun c_7 => ?_)
        · skip
          exact absurd c_7 (by decide)
        · skip
          refine lv_aload_n hx hb dX4_bestSet_74 rfl (lv_at hl 3 rfl) ?_
          refine va_get (D := D) (ci := 4) (v := .ref (q 3)) (C := RX4) (T := TX4) (N := 9) hx hb hts iX4 hown hK hP 0 rfl rfl 2 (by decide) (hts _ (List.mem_of_getElem? (i := 4) rfl)) (fun _ h9 => h9) rfl dX4_bestSet_75 ?_
          refine lv_aload_n hx hb dX4_bestSet_78 rfl (lv_at hl 3 rfl) ?_
          refine va_get (D := D) (ci := 4) (v := .ref (q 5)) (C := RX4) (T := TX4) (N := 9) hx hb hts iX4 hown hK hP 0 rfl rfl 3 (by decide) (hts _ (List.mem_of_getElem? (i := 2) rfl)) (fun _ h9 => h9) rfl dX4_bestSet_79 ?_
          refine ro_i (va_runV (As := [.ref (q 5)]) (rest := []) F (kX3_isOldEnough l D y q n (nI t) rt tr C ah w (gMx n C (nI t) (nI k)) rd ct g h) (cwV 1 hts gX4_bestSet_X3_isOldEnough rfl rfl rfl ⟨rfl, hdX3_isOldEnough⟩ ⟨(Nat.le_of_ble_eq_true rfl), (Nat.le_of_ble_eq_true rfl)⟩) ⟨rdB_blind, va_recv hK hP (ci := 3) (q0 := 3) rfl rfl, rdB_pre hP hK hN⟩ rfl rfl hl.1 rfl (lv_room (Nat.le_of_ble_eq_true rfl)) dX4_bestSet_82 ⟨Nat.zero_le _, Nat.zero_le _⟩) ?_
          refine lv_if_ne (tgt := 91) hx hb dX4_bestSet_85 (by decide) (fun c_8 => ?_) (fun c_8 => ?_)
          · skip
            have c_8 := zI_1 c_8
            refine lv_aload_n hx hb dX4_bestSet_91 rfl (lv_at hl 3 rfl) ?_
            refine va_get (D := D) (ci := 4) (v := .ref (q 3)) (C := RX4) (T := TX4) (N := 9) hx hb hts iX4 hown hK hP 0 rfl rfl 2 (by decide) (hts _ (List.mem_of_getElem? (i := 4) rfl)) (fun _ h9 => h9) rfl dX4_bestSet_92 ?_
            refine lv_aload_n hx hb dX4_bestSet_95 rfl (lv_at hl 3 rfl) ?_
            refine va_get (D := D) (ci := 4) (v := .ref (q 5)) (C := RX4) (T := TX4) (N := 9) hx hb hts iX4 hown hK hP 0 rfl rfl 3 (by decide) (hts _ (List.mem_of_getElem? (i := 2) rfl)) (fun _ h9 => h9) rfl dX4_bestSet_96 ?_
            refine ro_i (va_runV (As := [.ref (q 5)]) (rest := []) F (kX3_isMetBy l D y q n (nI t) rt tr C ah w (gMx n C (nI t) (nI k)) rd ct g h) (cwV 1 hts gX4_bestSet_X3_isMetBy rfl rfl rfl ⟨rfl, hdX3_isMetBy⟩ ⟨(Nat.le_of_ble_eq_true rfl), (Nat.le_of_ble_eq_true rfl)⟩) ⟨rdB_blind, va_recv hK hP (ci := 3) (q0 := 3) rfl rfl, rdB_pre hP hK hN⟩ rfl rfl hl.1 rfl (lv_room (Nat.le_of_ble_eq_true rfl)) dX4_bestSet_99 ⟨Nat.zero_le _, Nat.zero_le _⟩) ?_
            refine lv_if_eq (tgt := 119) hx hb dX4_bestSet_102 (by decide) (fun c_9 => ?_) (fun c_9 => ?_)
            · skip
              have c_9 := zI_0 c_9
              refine lv_iconst (v := 1) hx hb dX4_bestSet_119 (by decide) ?_
              refine lv_istore (lv' := [(4, .int 1), (7, .int 0), (6, .int (zI (bOK n C (nI t) (nI k)))), (0, .ref (q 0)), (1, .int fo), (2, .int le), (3, .int (nI (2 ^ n))), (5, .int (nI k))]) hx hb dX4_bestSet_120 hl (by decide) rfl (fun ls hl => ?_)
              refine lv_iload hx hb dX4_bestSet_122 (lv_at hl 7 rfl) ?_
              refine lv_iload hx hb dX4_bestSet_124 (lv_at hl 0 rfl) ?_
              refine lv_iadd hx hb dX4_bestSet_126 ?_
              refine lv_istore (lv' := [(5, .int ((nI k) + 1)), (4, .int 1), (7, .int 0), (6, .int (zI (bOK n C (nI t) (nI k)))), (0, .ref (q 0)), (1, .int fo), (2, .int le), (3, .int (nI (2 ^ n)))]) hx hb dX4_bestSet_127 hl (by decide) rfl (fun ls hl => ?_)
              refine lv_goto (tgt := 18) hx hb dX4_bestSet_129 (by decide) ?_
              exact ih (k + 1, fo, le, 1, (gMx n C (nI t) (nI k))) ls H locs (by show 2 ^ n - (k + 1) < 2 ^ n - k; omega) ⟨by show 1 ≤ k + 1; omega, by show k + 1 ≤ 2 ^ n; omega, (by show fo = (bst n C (nI t) w (k + 1 - 1)).1; rw [show k + 1 - 1 = k by omega, bs_one h1 c_9]; exact h3), (fun h9 => by show le = (bst n C (nI t) w (k + 1 - 1)).2; rw [show k + 1 - 1 = k by omega, bs_one h1 c_9]; exact h4 h9)⟩ (lv_sub hl [4, 5, 6, 7, 1, 0] (by
                show ([(0, .ref (q 0)), (1, .int fo), (2, .int le), (3, .int (nI (2 ^ n))), (4, .int 1), (5, .int ((nI k) + 1))] : List (Nat × Value)) = [(0, .ref (q 0)), (1, .int fo), (2, .int le), (3, .int (nI (2 ^ n))), (4, .int 1), (5, .int (nI (k + 1)))]
                rw [← nI_1])) hP hD hS
            · skip
              have c_9 := zI_1 c_9
              refine lv_iload hx hb dX4_bestSet_105 (lv_at hl 7 rfl) ?_
              refine lv_istore_n (lv' := [(1, .int (nI k)), (7, .int 0), (6, .int (zI (bOK n C (nI t) (nI k)))), (4, .int (nI (lowN k))), (0, .ref (q 0)), (2, .int le), (3, .int (nI (2 ^ n))), (5, .int (nI k))]) hx hb dX4_bestSet_107 rfl hl (by decide) rfl (fun ls hl => ?_)
              refine lv_aload_n hx hb dX4_bestSet_108 rfl (lv_at hl 4 rfl) ?_
              refine va_get (D := D) (ci := 4) (v := .ref (q 5)) (C := RX4) (T := TX4) (N := 9) hx hb hts iX4 hown hK hP 0 rfl rfl 3 (by decide) (hts _ (List.mem_of_getElem? (i := 2) rfl)) (fun _ h9 => h9) rfl dX4_bestSet_109 ?_
              refine va_get (D := D) (ci := 1) (v := .int (m_co (gMx n C (nI t) (nI k)))) (C := RX1) (T := TX1) (N := 7) hx hb hts iX1 hown hK hP 5 rfl rfl 5 (by decide) (hts _ (List.mem_of_getElem? (i := 3) rfl)) (fun _ h9 => h9) rfl dX4_bestSet_112 ?_
              refine lv_istore_n (lv' := [(2, .int (m_co (gMx n C (nI t) (nI k)))), (1, .int (nI k)), (7, .int 0), (6, .int (zI (bOK n C (nI t) (nI k)))), (4, .int (nI (lowN k))), (0, .ref (q 0)), (3, .int (nI (2 ^ n))), (5, .int (nI k))]) hx hb dX4_bestSet_115 rfl hl (by decide) rfl (fun ls hl => ?_)
              refine lv_goto (tgt := 122) hx hb dX4_bestSet_116 (by decide) ?_
              refine lv_iload hx hb dX4_bestSet_122 (lv_at hl 7 rfl) ?_
              refine lv_iload hx hb dX4_bestSet_124 (lv_at hl 4 rfl) ?_
              refine lv_iadd hx hb dX4_bestSet_126 ?_
              refine lv_istore (lv' := [(5, .int ((nI k) + (nI (lowN k)))), (2, .int (m_co (gMx n C (nI t) (nI k)))), (1, .int (nI k)), (7, .int 0), (6, .int (zI (bOK n C (nI t) (nI k)))), (4, .int (nI (lowN k))), (0, .ref (q 0)), (3, .int (nI (2 ^ n)))]) hx hb dX4_bestSet_127 hl (by decide) rfl (fun ls hl => ?_)
              refine lv_goto (tgt := 18) hx hb dX4_bestSet_129 (by decide) ?_
              exact ih (k + lowN k, nI k, m_co (gMx n C (nI t) (nI k)), nI (lowN k), (gMx n C (nI t) (nI k))) ls H locs (by show 2 ^ n - (k + lowN k) < 2 ^ n - k; omega) ⟨by show 1 ≤ k + lowN k; omega, by show k + lowN k ≤ 2 ^ n; omega, (by show nI k = (bst n C (nI t) w (k + lowN k - 1)).1; rw [bs_take hI h1 hk c_6 (Or.inl (h3 ▸ c_5)) c_9]), (fun h9 => by show m_co (gMx n C (nI t) (nI k)) = (bst n C (nI t) w (k + lowN k - 1)).2; rw [bs_take hI h1 hk c_6 (Or.inl (h3 ▸ c_5)) c_9])⟩ (lv_sub hl [6, 2, 1, 7, 5, 0] (by
                show ([(0, .ref (q 0)), (1, .int (nI k)), (2, .int (m_co (gMx n C (nI t) (nI k)))), (3, .int (nI (2 ^ n))), (4, .int (nI (lowN k))), (5, .int ((nI k) + (nI (lowN k))))] : List (Nat × Value)) = [(0, .ref (q 0)), (1, .int (nI k)), (2, .int (m_co (gMx n C (nI t) (nI k)))), (3, .int (nI (2 ^ n))), (4, .int (nI (lowN k))), (5, .int (nI (k + lowN k)))]
                rw [← nI_add])) hP hD hS
          · skip
            have c_8 := zI_0 c_8
            refine lv_goto (tgt := 122) hx hb dX4_bestSet_88 (by decide) ?_
            refine lv_iload hx hb dX4_bestSet_122 (lv_at hl 7 rfl) ?_
            refine lv_iload hx hb dX4_bestSet_124 (lv_at hl 2 rfl) ?_
            refine lv_iadd hx hb dX4_bestSet_126 ?_
            refine lv_istore (lv' := [(5, .int ((nI k) + (nI (lowN k)))), (7, .int 0), (6, .int (zI (bOK n C (nI t) (nI k)))), (4, .int (nI (lowN k))), (0, .ref (q 0)), (1, .int fo), (2, .int le), (3, .int (nI (2 ^ n)))]) hx hb dX4_bestSet_127 hl (by decide) rfl (fun ls hl => ?_)
            refine lv_goto (tgt := 18) hx hb dX4_bestSet_129 (by decide) ?_
            exact ih (k + lowN k, fo, le, nI (lowN k), (gMx n C (nI t) (nI k))) ls H locs (by show 2 ^ n - (k + lowN k) < 2 ^ n - k; omega) ⟨by show 1 ≤ k + lowN k; omega, by show k + lowN k ≤ 2 ^ n; omega, (by show fo = (bst n C (nI t) w (k + lowN k - 1)).1; rw [bs_skip hI h1 hk (Or.inr (Or.inr c_8))]; exact h3), (fun h9 => by show le = (bst n C (nI t) w (k + lowN k - 1)).2; rw [bs_skip hI h1 hk (Or.inr (Or.inr c_8))]; exact h4 h9)⟩ (lv_sub hl [4, 5, 6, 7, 3, 0] (by
              show ([(0, .ref (q 0)), (1, .int fo), (2, .int le), (3, .int (nI (2 ^ n))), (4, .int (nI (lowN k))), (5, .int ((nI k) + (nI (lowN k))))] : List (Nat × Value)) = [(0, .ref (q 0)), (1, .int fo), (2, .int le), (3, .int (nI (2 ^ n))), (4, .int (nI (lowN k))), (5, .int (nI (k + lowN k)))]
              rw [← nI_add])) hP hD hS
    · skip
      refine lv_aload_n hx hb dX4_bestSet_46 rfl (lv_at hl 2 rfl) ?_
      refine va_get (D := D) (ci := 4) (v := .ref (q 5)) (C := RX4) (T := TX4) (N := 9) hx hb hts iX4 hown hK hP 0 rfl rfl 3 (by decide) (hts _ (List.mem_of_getElem? (i := 2) rfl)) (fun _ h9 => h9) rfl dX4_bestSet_47 ?_
      refine va_get (D := D) (ci := 1) (v := .int (m_co u_3)) (C := RX1) (T := TX1) (N := 7) hx hb hts iX1 hown hK hP 5 rfl rfl 5 (by decide) (hts _ (List.mem_of_getElem? (i := 3) rfl)) (fun _ h9 => h9) rfl dX4_bestSet_50 ?_
      refine lv_iload_n hx hb dX4_bestSet_53 rfl (lv_at hl 4 rfl) ?_
      refine lv_icmp_lt (tgt := 61) hx hb dX4_bestSet_54 (by decide) (fun c_10 => ?_) (fun c_10 => ?_)
      · skip
        refine lv_iconst (v := 0) hx hb dX4_bestSet_61 (by decide) ?_
        refine lv_istore (lv' := [(7, .int 0), (6, .int (zI (bOK n C (nI t) (nI k)))), (4, .int (nI (lowN k))), (0, .ref (q 0)), (1, .int fo), (2, .int le), (3, .int (nI (2 ^ n))), (5, .int (nI k))]) hx hb dX4_bestSet_62 hl (by decide) rfl (fun ls hl => ?_)
        refine lv_iload hx hb dX4_bestSet_64 (lv_at hl 1 rfl) ?_
        refine lv_if_eq (tgt := 122) hx hb dX4_bestSet_66 (by decide) (fun c_11 => ?_) (fun c_11 => ?_)
        · skip
          have c_11 := zI_0 c_11
          refine lv_iload hx hb dX4_bestSet_122 (lv_at hl 7 rfl) ?_
          refine lv_iload hx hb dX4_bestSet_124 (lv_at hl 2 rfl) ?_
          refine lv_iadd hx hb dX4_bestSet_126 ?_
          refine lv_istore (lv' := [(5, .int ((nI k) + (nI (lowN k)))), (7, .int 0), (6, .int (zI (bOK n C (nI t) (nI k)))), (4, .int (nI (lowN k))), (0, .ref (q 0)), (1, .int fo), (2, .int le), (3, .int (nI (2 ^ n)))]) hx hb dX4_bestSet_127 hl (by decide) rfl (fun ls hl => ?_)
          refine lv_goto (tgt := 18) hx hb dX4_bestSet_129 (by decide) ?_
          exact ih (k + lowN k, fo, le, nI (lowN k), u_3) ls H locs (by show 2 ^ n - (k + lowN k) < 2 ^ n - k; omega) ⟨by show 1 ≤ k + lowN k; omega, by show k + lowN k ≤ 2 ^ n; omega, (by show fo = (bst n C (nI t) w (k + lowN k - 1)).1; rw [bs_skip hI h1 hk (Or.inl c_11)]; exact h3), (fun h9 => by show le = (bst n C (nI t) w (k + lowN k - 1)).2; rw [bs_skip hI h1 hk (Or.inl c_11)]; exact h4 h9)⟩ (lv_sub hl [4, 5, 6, 7, 3, 0] (by
            show ([(0, .ref (q 0)), (1, .int fo), (2, .int le), (3, .int (nI (2 ^ n))), (4, .int (nI (lowN k))), (5, .int ((nI k) + (nI (lowN k))))] : List (Nat × Value)) = [(0, .ref (q 0)), (1, .int fo), (2, .int le), (3, .int (nI (2 ^ n))), (4, .int (nI (lowN k))), (5, .int (nI (k + lowN k)))]
            rw [← nI_add])) hP hD hS
        · skip
          have c_11 := zI_1 c_11
          obtain rfl := w_4 c_11
          refine lv_iload hx hb dX4_bestSet_69 (lv_at hl 0 rfl) ?_
          refine lv_if_ne (tgt := 122) hx hb dX4_bestSet_71 (by decide) (fun c_12 => ?_) (fun c_12 => ?_)
          · skip
            exact absurd c_12 (by decide)
          · skip
            refine lv_aload_n hx hb dX4_bestSet_74 rfl (lv_at hl 3 rfl) ?_
            refine va_get (D := D) (ci := 4) (v := .ref (q 3)) (C := RX4) (T := TX4) (N := 9) hx hb hts iX4 hown hK hP 0 rfl rfl 2 (by decide) (hts _ (List.mem_of_getElem? (i := 4) rfl)) (fun _ h9 => h9) rfl dX4_bestSet_75 ?_
            refine lv_aload_n hx hb dX4_bestSet_78 rfl (lv_at hl 3 rfl) ?_
            refine va_get (D := D) (ci := 4) (v := .ref (q 5)) (C := RX4) (T := TX4) (N := 9) hx hb hts iX4 hown hK hP 0 rfl rfl 3 (by decide) (hts _ (List.mem_of_getElem? (i := 2) rfl)) (fun _ h9 => h9) rfl dX4_bestSet_79 ?_
            refine ro_i (va_runV (As := [.ref (q 5)]) (rest := []) F (kX3_isOldEnough l D y q n (nI t) rt tr C ah w (gMx n C (nI t) (nI k)) rd ct g h) (cwV 1 hts gX4_bestSet_X3_isOldEnough rfl rfl rfl ⟨rfl, hdX3_isOldEnough⟩ ⟨(Nat.le_of_ble_eq_true rfl), (Nat.le_of_ble_eq_true rfl)⟩) ⟨rdB_blind, va_recv hK hP (ci := 3) (q0 := 3) rfl rfl, rdB_pre hP hK hN⟩ rfl rfl hl.1 rfl (lv_room (Nat.le_of_ble_eq_true rfl)) dX4_bestSet_82 ⟨Nat.zero_le _, Nat.zero_le _⟩) ?_
            refine lv_if_ne (tgt := 91) hx hb dX4_bestSet_85 (by decide) (fun c_13 => ?_) (fun c_13 => ?_)
            · skip
              have c_13 := zI_1 c_13
              refine lv_aload_n hx hb dX4_bestSet_91 rfl (lv_at hl 3 rfl) ?_
              refine va_get (D := D) (ci := 4) (v := .ref (q 3)) (C := RX4) (T := TX4) (N := 9) hx hb hts iX4 hown hK hP 0 rfl rfl 2 (by decide) (hts _ (List.mem_of_getElem? (i := 4) rfl)) (fun _ h9 => h9) rfl dX4_bestSet_92 ?_
              refine lv_aload_n hx hb dX4_bestSet_95 rfl (lv_at hl 3 rfl) ?_
              refine va_get (D := D) (ci := 4) (v := .ref (q 5)) (C := RX4) (T := TX4) (N := 9) hx hb hts iX4 hown hK hP 0 rfl rfl 3 (by decide) (hts _ (List.mem_of_getElem? (i := 2) rfl)) (fun _ h9 => h9) rfl dX4_bestSet_96 ?_
              refine ro_i (va_runV (As := [.ref (q 5)]) (rest := []) F (kX3_isMetBy l D y q n (nI t) rt tr C ah w (gMx n C (nI t) (nI k)) rd ct g h) (cwV 1 hts gX4_bestSet_X3_isMetBy rfl rfl rfl ⟨rfl, hdX3_isMetBy⟩ ⟨(Nat.le_of_ble_eq_true rfl), (Nat.le_of_ble_eq_true rfl)⟩) ⟨rdB_blind, va_recv hK hP (ci := 3) (q0 := 3) rfl rfl, rdB_pre hP hK hN⟩ rfl rfl hl.1 rfl (lv_room (Nat.le_of_ble_eq_true rfl)) dX4_bestSet_99 ⟨Nat.zero_le _, Nat.zero_le _⟩) ?_
              refine lv_if_eq (tgt := 119) hx hb dX4_bestSet_102 (by decide) (fun c_14 => ?_) (fun c_14 => ?_)
              · skip
                have c_14 := zI_0 c_14
                refine lv_iconst (v := 1) hx hb dX4_bestSet_119 (by decide) ?_
                refine lv_istore (lv' := [(4, .int 1), (7, .int 0), (6, .int (zI (bOK n C (nI t) (nI k)))), (0, .ref (q 0)), (1, .int fo), (2, .int le), (3, .int (nI (2 ^ n))), (5, .int (nI k))]) hx hb dX4_bestSet_120 hl (by decide) rfl (fun ls hl => ?_)
                refine lv_iload hx hb dX4_bestSet_122 (lv_at hl 7 rfl) ?_
                refine lv_iload hx hb dX4_bestSet_124 (lv_at hl 0 rfl) ?_
                refine lv_iadd hx hb dX4_bestSet_126 ?_
                refine lv_istore (lv' := [(5, .int ((nI k) + 1)), (4, .int 1), (7, .int 0), (6, .int (zI (bOK n C (nI t) (nI k)))), (0, .ref (q 0)), (1, .int fo), (2, .int le), (3, .int (nI (2 ^ n)))]) hx hb dX4_bestSet_127 hl (by decide) rfl (fun ls hl => ?_)
                refine lv_goto (tgt := 18) hx hb dX4_bestSet_129 (by decide) ?_
                exact ih (k + 1, fo, le, 1, (gMx n C (nI t) (nI k))) ls H locs (by show 2 ^ n - (k + 1) < 2 ^ n - k; omega) ⟨by show 1 ≤ k + 1; omega, by show k + 1 ≤ 2 ^ n; omega, (by show fo = (bst n C (nI t) w (k + 1 - 1)).1; rw [show k + 1 - 1 = k by omega, bs_one h1 c_14]; exact h3), (fun h9 => by show le = (bst n C (nI t) w (k + 1 - 1)).2; rw [show k + 1 - 1 = k by omega, bs_one h1 c_14]; exact h4 h9)⟩ (lv_sub hl [4, 5, 6, 7, 1, 0] (by
                  show ([(0, .ref (q 0)), (1, .int fo), (2, .int le), (3, .int (nI (2 ^ n))), (4, .int 1), (5, .int ((nI k) + 1))] : List (Nat × Value)) = [(0, .ref (q 0)), (1, .int fo), (2, .int le), (3, .int (nI (2 ^ n))), (4, .int 1), (5, .int (nI (k + 1)))]
                  rw [← nI_1])) hP hD hS
              · skip
                have c_14 := zI_1 c_14
                refine lv_iload hx hb dX4_bestSet_105 (lv_at hl 7 rfl) ?_
                refine lv_istore_n (lv' := [(1, .int (nI k)), (7, .int 0), (6, .int (zI (bOK n C (nI t) (nI k)))), (4, .int (nI (lowN k))), (0, .ref (q 0)), (2, .int le), (3, .int (nI (2 ^ n))), (5, .int (nI k))]) hx hb dX4_bestSet_107 rfl hl (by decide) rfl (fun ls hl => ?_)
                refine lv_aload_n hx hb dX4_bestSet_108 rfl (lv_at hl 4 rfl) ?_
                refine va_get (D := D) (ci := 4) (v := .ref (q 5)) (C := RX4) (T := TX4) (N := 9) hx hb hts iX4 hown hK hP 0 rfl rfl 3 (by decide) (hts _ (List.mem_of_getElem? (i := 2) rfl)) (fun _ h9 => h9) rfl dX4_bestSet_109 ?_
                refine va_get (D := D) (ci := 1) (v := .int (m_co (gMx n C (nI t) (nI k)))) (C := RX1) (T := TX1) (N := 7) hx hb hts iX1 hown hK hP 5 rfl rfl 5 (by decide) (hts _ (List.mem_of_getElem? (i := 3) rfl)) (fun _ h9 => h9) rfl dX4_bestSet_112 ?_
                refine lv_istore_n (lv' := [(2, .int (m_co (gMx n C (nI t) (nI k)))), (1, .int (nI k)), (7, .int 0), (6, .int (zI (bOK n C (nI t) (nI k)))), (4, .int (nI (lowN k))), (0, .ref (q 0)), (3, .int (nI (2 ^ n))), (5, .int (nI k))]) hx hb dX4_bestSet_115 rfl hl (by decide) rfl (fun ls hl => ?_)
                refine lv_goto (tgt := 122) hx hb dX4_bestSet_116 (by decide) ?_
                refine lv_iload hx hb dX4_bestSet_122 (lv_at hl 7 rfl) ?_
                refine lv_iload hx hb dX4_bestSet_124 (lv_at hl 4 rfl) ?_
                refine lv_iadd hx hb dX4_bestSet_126 ?_
                refine lv_istore (lv' := [(5, .int ((nI k) + (nI (lowN k)))), (2, .int (m_co (gMx n C (nI t) (nI k)))), (1, .int (nI k)), (7, .int 0), (6, .int (zI (bOK n C (nI t) (nI k)))), (4, .int (nI (lowN k))), (0, .ref (q 0)), (3, .int (nI (2 ^ n)))]) hx hb dX4_bestSet_127 hl (by decide) rfl (fun ls hl => ?_)
                refine lv_goto (tgt := 18) hx hb dX4_bestSet_129 (by decide) ?_
                exact ih (k + lowN k, nI k, m_co (gMx n C (nI t) (nI k)), nI (lowN k), (gMx n C (nI t) (nI k))) ls H locs (by show 2 ^ n - (k + lowN k) < 2 ^ n - k; omega) ⟨by show 1 ≤ k + lowN k; omega, by show k + lowN k ≤ 2 ^ n; omega, (by show nI k = (bst n C (nI t) w (k + lowN k - 1)).1; rw [bs_take hI h1 hk c_11 (Or.inr (h4 c_5 ▸ c_10)) c_14]), (fun h9 => by show m_co (gMx n C (nI t) (nI k)) = (bst n C (nI t) w (k + lowN k - 1)).2; rw [bs_take hI h1 hk c_11 (Or.inr (h4 c_5 ▸ c_10)) c_14])⟩ (lv_sub hl [6, 2, 1, 7, 5, 0] (by
                  show ([(0, .ref (q 0)), (1, .int (nI k)), (2, .int (m_co (gMx n C (nI t) (nI k)))), (3, .int (nI (2 ^ n))), (4, .int (nI (lowN k))), (5, .int ((nI k) + (nI (lowN k))))] : List (Nat × Value)) = [(0, .ref (q 0)), (1, .int (nI k)), (2, .int (m_co (gMx n C (nI t) (nI k)))), (3, .int (nI (2 ^ n))), (4, .int (nI (lowN k))), (5, .int (nI (k + lowN k)))]
                  rw [← nI_add])) hP hD hS
            · skip
              have c_13 := zI_0 c_13
              refine lv_goto (tgt := 122) hx hb dX4_bestSet_88 (by decide) ?_
              refine lv_iload hx hb dX4_bestSet_122 (lv_at hl 7 rfl) ?_
              refine lv_iload hx hb dX4_bestSet_124 (lv_at hl 2 rfl) ?_
              refine lv_iadd hx hb dX4_bestSet_126 ?_
              refine lv_istore (lv' := [(5, .int ((nI k) + (nI (lowN k)))), (7, .int 0), (6, .int (zI (bOK n C (nI t) (nI k)))), (4, .int (nI (lowN k))), (0, .ref (q 0)), (1, .int fo), (2, .int le), (3, .int (nI (2 ^ n)))]) hx hb dX4_bestSet_127 hl (by decide) rfl (fun ls hl => ?_)
              refine lv_goto (tgt := 18) hx hb dX4_bestSet_129 (by decide) ?_
              exact ih (k + lowN k, fo, le, nI (lowN k), (gMx n C (nI t) (nI k))) ls H locs (by show 2 ^ n - (k + lowN k) < 2 ^ n - k; omega) ⟨by show 1 ≤ k + lowN k; omega, by show k + lowN k ≤ 2 ^ n; omega, (by show fo = (bst n C (nI t) w (k + lowN k - 1)).1; rw [bs_skip hI h1 hk (Or.inr (Or.inr c_13))]; exact h3), (fun h9 => by show le = (bst n C (nI t) w (k + lowN k - 1)).2; rw [bs_skip hI h1 hk (Or.inr (Or.inr c_13))]; exact h4 h9)⟩ (lv_sub hl [4, 5, 6, 7, 3, 0] (by
                show ([(0, .ref (q 0)), (1, .int fo), (2, .int le), (3, .int (nI (2 ^ n))), (4, .int (nI (lowN k))), (5, .int ((nI k) + (nI (lowN k))))] : List (Nat × Value)) = [(0, .ref (q 0)), (1, .int fo), (2, .int le), (3, .int (nI (2 ^ n))), (4, .int (nI (lowN k))), (5, .int (nI (k + lowN k)))]
                rw [← nI_add])) hP hD hS
      · skip
        refine lv_iconst (v := 1) hx hb dX4_bestSet_57 (by decide) ?_
        refine lv_goto (tgt := 62) hx hb dX4_bestSet_58 (by decide) ?_
        refine lv_istore (lv' := [(7, .int 1), (6, .int (zI (bOK n C (nI t) (nI k)))), (4, .int (nI (lowN k))), (0, .ref (q 0)), (1, .int fo), (2, .int le), (3, .int (nI (2 ^ n))), (5, .int (nI k))]) hx hb dX4_bestSet_62 hl (by decide) rfl (fun ls hl => ?_)
        refine lv_iload hx hb dX4_bestSet_64 (lv_at hl 1 rfl) ?_
        refine lv_if_eq (tgt := 122) hx hb dX4_bestSet_66 (by decide) (fun c_15 => ?_) (fun c_15 => ?_)
        · skip
          have c_15 := zI_0 c_15
          refine lv_iload hx hb dX4_bestSet_122 (lv_at hl 7 rfl) ?_
          refine lv_iload hx hb dX4_bestSet_124 (lv_at hl 2 rfl) ?_
          refine lv_iadd hx hb dX4_bestSet_126 ?_
          refine lv_istore (lv' := [(5, .int ((nI k) + (nI (lowN k)))), (7, .int 1), (6, .int (zI (bOK n C (nI t) (nI k)))), (4, .int (nI (lowN k))), (0, .ref (q 0)), (1, .int fo), (2, .int le), (3, .int (nI (2 ^ n)))]) hx hb dX4_bestSet_127 hl (by decide) rfl (fun ls hl => ?_)
          refine lv_goto (tgt := 18) hx hb dX4_bestSet_129 (by decide) ?_
          exact ih (k + lowN k, fo, le, nI (lowN k), u_3) ls H locs (by show 2 ^ n - (k + lowN k) < 2 ^ n - k; omega) ⟨by show 1 ≤ k + lowN k; omega, by show k + lowN k ≤ 2 ^ n; omega, (by show fo = (bst n C (nI t) w (k + lowN k - 1)).1; rw [bs_skip hI h1 hk (Or.inl c_15)]; exact h3), (fun h9 => by show le = (bst n C (nI t) w (k + lowN k - 1)).2; rw [bs_skip hI h1 hk (Or.inl c_15)]; exact h4 h9)⟩ (lv_sub hl [4, 5, 6, 7, 3, 0] (by
            show ([(0, .ref (q 0)), (1, .int fo), (2, .int le), (3, .int (nI (2 ^ n))), (4, .int (nI (lowN k))), (5, .int ((nI k) + (nI (lowN k))))] : List (Nat × Value)) = [(0, .ref (q 0)), (1, .int fo), (2, .int le), (3, .int (nI (2 ^ n))), (4, .int (nI (lowN k))), (5, .int (nI (k + lowN k)))]
            rw [← nI_add])) hP hD hS
        · skip
          have c_15 := zI_1 c_15
          obtain rfl := w_4 c_15
          refine lv_iload hx hb dX4_bestSet_69 (lv_at hl 0 rfl) ?_
          refine lv_if_ne (tgt := 122) hx hb dX4_bestSet_71 (by decide) (fun c_16 => ?_) (fun c_16 => ?_)
          · skip
            refine lv_iload hx hb dX4_bestSet_122 (lv_at hl 7 rfl) ?_
            refine lv_iload hx hb dX4_bestSet_124 (lv_at hl 2 rfl) ?_
            refine lv_iadd hx hb dX4_bestSet_126 ?_
            refine lv_istore (lv' := [(5, .int ((nI k) + (nI (lowN k)))), (7, .int 1), (6, .int (zI (bOK n C (nI t) (nI k)))), (4, .int (nI (lowN k))), (0, .ref (q 0)), (1, .int fo), (2, .int le), (3, .int (nI (2 ^ n)))]) hx hb dX4_bestSet_127 hl (by decide) rfl (fun ls hl => ?_)
            refine lv_goto (tgt := 18) hx hb dX4_bestSet_129 (by decide) ?_
            exact ih (k + lowN k, fo, le, nI (lowN k), (gMx n C (nI t) (nI k))) ls H locs (by show 2 ^ n - (k + lowN k) < 2 ^ n - k; omega) ⟨by show 1 ≤ k + lowN k; omega, by show k + lowN k ≤ 2 ^ n; omega, (by show fo = (bst n C (nI t) w (k + lowN k - 1)).1; rw [bs_skip hI h1 hk (Or.inr (Or.inl ⟨h3 ▸ c_5, h4 c_5 ▸ Int32.not_lt.mp c_10⟩))]; exact h3), (fun h9 => by show le = (bst n C (nI t) w (k + lowN k - 1)).2; rw [bs_skip hI h1 hk (Or.inr (Or.inl ⟨h3 ▸ c_5, h4 c_5 ▸ Int32.not_lt.mp c_10⟩))]; exact h4 h9)⟩ (lv_sub hl [4, 5, 6, 7, 3, 0] (by
              show ([(0, .ref (q 0)), (1, .int fo), (2, .int le), (3, .int (nI (2 ^ n))), (4, .int (nI (lowN k))), (5, .int ((nI k) + (nI (lowN k))))] : List (Nat × Value)) = [(0, .ref (q 0)), (1, .int fo), (2, .int le), (3, .int (nI (2 ^ n))), (4, .int (nI (lowN k))), (5, .int (nI (k + lowN k)))]
              rw [← nI_add])) hP hD hS
          · skip
            exact absurd c_16 (by decide)

set_option maxHeartbeats 4000000 in
set_option maxRecDepth 100000 in
theorem kX4_best (l : Launch) (D : va_G) (y : Nat → ClassId) (q : Nat → Nat) (n : Nat) (now rt : Int32) (tr : Int64) (C : Nat → CT) (ah w : Nat → Int32) (mx : MT) (rd ct : Int32) (g h : Nat → Int32) (k0 : Int32) (sz : Nat) (hn : n ≤ 12) (t : Nat) (ht : now = nI t) (hI : INV n t C) : Met l yX4_best wsX4_best ({ frames := 5, cells := 0, slots := 0, locals := 113 }) (va_Pc [.ref (q 0), .int k0] (muB D (xT y) (xW y q (nI n) now rt tr C ah w mx rd ct g h) sz eT)) (QI (σ := MT) D (fun r u => r = bestF n C now w k0) (fun u => (xW y q (nI n) now rt tr C ah w u rd ct g h)) (va_A (xW y q (nI n) now rt tr C ah w mx rd ct g h) sz)) 0 0 (va_A (xW y q (nI n) now rt tr C ah w mx rd ct g h) sz) := by
  refine mu_start (Qc := QI (σ := MT) D (fun r u => r = bestF n C now w k0) (fun u => (xW y q (nI n) now rt tr C ah w u rd ct g h))) (cc := cX4_best) (maxL := 3) (ret := (some .int)) (by decide) rfl (Nat.le_of_ble_eq_true rfl) ?_
  intro p e s m below meth c ls A hx hb hr hml hown hlocks hts hnm hA hP hK hN hD hE hAA hsz hl
  have hS : va_S A s.heap s.heap [] := va_S.rf
  have hown : s.vm.findClass RX4 = some m.cls := hown
  have F : CallFix p m c cX4_best 3 s [.ref (q 0), .int k0].toArray wsX4_best RX4 := ⟨hx, hb, hml, hown, hts⟩
  have hl : lv_has ls 3 [(0, .ref (q 0)), (1, .int k0)] := hl
  have iX1 : ∀ w ∈ u_ws RX1 TX1 7, w ∈ wsX4_best := mem_pl [92, 93, 94, 95, 96, 97, 98] rfl
  have iX4 : ∀ w ∈ u_ws RX4 TX4 9, w ∈ wsX4_best := mem_pl [83, 84, 85, 86, 87, 88, 89, 90, 91] rfl
  subst ht
  refine lv_iload_n hx hb dX4_best_0 rfl (lv_at hl 1 rfl) ?_
  refine lv_iconst (v := 0) hx hb dX4_best_1 (by decide) ?_
  refine lv_iconst (v := 1) hx hb dX4_best_2 (by decide) ?_
  refine ro_i (va_runS (As := [.int k0, .int 0, .int 1]) (rest := []) F (kX4_isWithin l k0 0 1) (va_cwS 3 hts gX4_best_X4_isWithin rfl rfl rfl hdX4_isWithin ⟨(Nat.le_of_ble_eq_true rfl), (Nat.le_of_ble_eq_true rfl)⟩) ⟨tr_blind, tr_pre⟩ rfl rfl hl.1 rfl (lv_room (Nat.le_of_ble_eq_true rfl)) dX4_best_3 ⟨Nat.zero_le _, Nat.zero_le _⟩) ?_
  refine lv_if_ne (tgt := 11) hx hb dX4_best_6 (by decide) (fun c_1 => ?_) (fun c_1 => ?_)
  · skip
    have c_1 := zI_1 c_1
    refine lv_aload_n hx hb dX4_best_11 rfl (lv_at hl 0 rfl) ?_
    refine muF_i (va_runV (As := []) (rest := []) F (kX4_bestSet l D y q n (nI t) rt tr C ah w mx rd ct g h _ hn t rfl hI) (cwV 0 hts gX4_best_X4_bestSet rfl rfl rfl ⟨rfl, hdX4_bestSet⟩ ⟨(Nat.le_of_ble_eq_true rfl), (Nat.le_of_ble_eq_true rfl)⟩) ⟨(muB_blind (fun _ _ _ _ _ => trivial)), va_recv hK hP (ci := 4) (q0 := 0) rfl rfl, muF_pre hP hK hN hD (fun _ _ _ => trivial)⟩ rfl rfl hl.1 rfl (lv_room (Nat.le_of_ble_eq_true rfl)) dX4_best_12 ⟨Nat.zero_le _, Nat.zero_le _⟩) hP hD hS hA (fun r_2 u_3 H locs w_4 hP hD hS => ?_)
    subst w_4
    have hP : va_P D vwCl (xW y q (nI n) (nI t) rt tr C ah w u_3 rd ct g h) H := hP
    have hD : va_D A (xW y q (nI n) (nI t) rt tr C ah w u_3 rd ct g h) := hD
    refine lv_istore_n (lv' := [(2, .int ((bst n C (nI t) w (2 ^ n - 1)).1)), (0, .ref (q 0)), (1, .int k0)]) hx hb dX4_best_15 rfl hl (by decide) rfl (fun ls hl => ?_)
    refine lv_iload_n hx hb dX4_best_16 rfl (lv_at hl 2 rfl) ?_
    refine lv_if_eq (tgt := 26) hx hb dX4_best_17 (by decide) (fun c_5 => ?_) (fun c_5 => ?_)
    · skip
      refine lv_iload_n hx hb dX4_best_26 rfl (lv_at hl 0 rfl) ?_
      exact mu_iret u_3 hx hb hr hlocks hP hD hS dX4_best_27 (by unfold bestF; rw [if_pos c_1, if_pos c_5])
    · skip
      refine lv_iload_n hx hb dX4_best_20 rfl (lv_at hl 0 rfl) ?_
      refine lv_bipush (v := (-9)) hx hb dX4_best_21 (by decide) ?_
      refine lv_icmp_ne (tgt := 28) hx hb dX4_best_23 (by decide) (fun c_6 => ?_) (fun c_6 => ?_)
      · skip
        refine lv_aload_n hx hb dX4_best_28 rfl (lv_at hl 1 rfl) ?_
        refine lv_iload_n hx hb dX4_best_29 rfl (lv_at hl 0 rfl) ?_
        refine muF_i (va_runV (As := [.int ((bst n C (nI t) w (2 ^ n - 1)).1)]) (rest := []) F (kX4_gather l D y q n (nI t) rt tr C ah w u_3 rd ct g h ((bst n C (nI t) w (2 ^ n - 1)).1) _ hn) (cwV 1 hts gX4_best_X4_gather rfl rfl rfl ⟨rfl, hdX4_gather⟩ ⟨(Nat.le_of_ble_eq_true rfl), (Nat.le_of_ble_eq_true rfl)⟩) ⟨(muB_blind (fun _ _ _ _ _ => trivial)), va_recv hK hP (ci := 4) (q0 := 0) rfl rfl, muF_pre hP hK hN hD (fun _ _ _ => trivial)⟩ rfl rfl hl.1 rfl (lv_room (Nat.le_of_ble_eq_true rfl)) dX4_best_30 ⟨Nat.zero_le _, Nat.zero_le _⟩) hP hD hS hA (fun r_7 u_8 H locs w_9 hP hD hS => ?_)
        obtain ⟨rfl, w_9⟩ := w_9
        have hP : va_P D vwCl (xW y q (nI n) (nI t) rt tr C ah w u_8 rd ct g h) H := hP
        have hD : va_D A (xW y q (nI n) (nI t) rt tr C ah w u_8 rd ct g h) := hD
        refine lv_if_eq (tgt := 46) hx hb dX4_best_33 (by decide) (fun c_10 => ?_) (fun c_10 => ?_)
        · skip
          have c_10 := zI_0 c_10
          refine lv_bipush (v := (-9)) hx hb dX4_best_46 (by decide) ?_
          exact mu_iret u_8 hx hb hr hlocks hP hD hS dX4_best_48 (absurd c_10 (best_b hI c_6))
        · skip
          have c_10 := zI_1 c_10
          obtain rfl := w_9 c_10
          refine lv_aload_n hx hb dX4_best_36 rfl (lv_at hl 1 rfl) ?_
          refine va_get (D := D) (ci := 4) (v := .ref (q 5)) (C := RX4) (T := TX4) (N := 9) hx hb hts iX4 hown hK hP 0 rfl rfl 3 (by decide) (hts _ (List.mem_of_getElem? (i := 1) rfl)) (fun _ h9 => h9) rfl dX4_best_37 ?_
          refine va_get (D := D) (ci := 1) (v := .int (m_co (gMx n C (nI t) (bst n C (nI t) w (2 ^ n - 1)).1))) (C := RX1) (T := TX1) (N := 7) hx hb hts iX1 hown hK hP 5 rfl rfl 5 (by decide) (hts _ (List.mem_of_getElem? (i := 2) rfl)) (fun _ h9 => h9) rfl dX4_best_40 ?_
          refine lv_goto (tgt := 48) hx hb dX4_best_43 (by decide) ?_
          exact mu_iret (gMx n C (nI t) (bst n C (nI t) w (2 ^ n - 1)).1) hx hb hr hlocks hP hD hS dX4_best_48 (by unfold bestF; rw [if_pos c_1, if_neg c_5]; exact best_c hI c_6)
      · skip
        refine lv_iload_n hx hb dX4_best_26 rfl (lv_at hl 0 rfl) ?_
        exact mu_iret u_3 hx hb hr hlocks hP hD hS dX4_best_27 (by unfold bestF; rw [if_pos c_1, if_neg c_5]; exact best_9 hI c_6)
  · skip
    have c_1 := zI_0 c_1
    refine lv_iconst (v := (-1)) hx hb dX4_best_9 (by decide) ?_
    exact mu_iret mx hx hb hr hlocks hP hD hS dX4_best_10 (by simp [bestF, c_1])
