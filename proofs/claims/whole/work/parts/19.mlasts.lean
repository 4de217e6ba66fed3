theorem thf_l {C : Nat → CT} {a y : Int32} {f : Nat → Int32} {c : Nat} {x : Int32} (h : y - c_la (C c) < a) : thf C a y f c x = x + 0 := by unfold thf; rw [if_pos h, Int32.add_zero]
theorem thf_a {C : Nat → CT} {a y : Int32} {f : Nat → Int32} {c : Nat} {x : Int32} (h : ¬ y - c_la (C c) < a) : thf C a y f c x = x + f c := by unfold thf; rw [if_neg h]
theorem canB_t {C : Nat → CT} {a y : Int32} {g : Nat → Int32} {c : Nat} (h1 : ¬ g c ≤ 0) (h2 : ¬ y - c_la (C c) < a) : canB C a y g c = true := by unfold canB; rw [decide_eq_true (Int32.not_le.mp h1), el_t h2]; rfl
theorem canB_1 {C : Nat → CT} {a y : Int32} {g : Nat → Int32} {c : Nat} (h1 : g c ≤ 0) : ¬ canB C a y g c = true := by unfold canB; rw [decide_eq_false (Int32.not_lt.mpr h1), Bool.false_and]; decide
theorem canB_2 {C : Nat → CT} {a y : Int32} {g : Nat → Int32} {c : Nat} (h2 : y - c_la (C c) < a) : ¬ canB C a y g c = true := by unfold canB; rw [el_f h2, Bool.and_false]; decide
theorem ods_pos {p : Nat → Bool} {c : Nat} (hc : c ≤ 12) (h : ¬ ods p c < 0) : ∃ o, o < c ∧ ods p c = nI o := by
  rcases ods_nat (p := p) c hc with ⟨h1, -⟩ | ⟨o, h1, h2, -⟩
  · rw [h1] at h; exact absurd (by decide) h
  · exact ⟨o, h1, h2⟩

set_option maxHeartbeats 4000000 in
set_option maxRecDepth 100000 in
theorem kX5_lasts (l : Launch) (D : va_G) (y : Nat → ClassId) (q : Nat → Nat) (t n : Nat) (C : Nat → CT) (w : Nat → Int32) (rt : Int32) (r0 : Nat) (no sa to : Nat → Int32) (tr : Int64) (st im va : Nat → Int32) (w0 : Int32) (a0 : Int32) (sz : Nat) (hn : n ≤ 12) (hI : INV n t C) (ht : t ≤ 60) : Met l yX5_lasts wsX5_lasts ({ frames := 1, cells := 0, slots := 0, locals := 24 }) (va_Pc [.ref (q 0), .int w0, .int a0] (muB D (mTy y) (mWC y q (nI t) (nI n) C w rt (nI r0) no sa to tr st im va) sz eT)) (QI (σ := Nat → Int32) D (fun r u => r = lastsF n C (nI t) (cpA C st n) w0 a0) (fun u => (mWC y q (nI t) (nI n) C w rt (nI r0) no sa to tr u im va)) (va_A (mWC y q (nI t) (nI n) C w rt (nI r0) no sa to tr st im va) sz)) 0 0 (va_A (mWC y q (nI t) (nI n) C w rt (nI r0) no sa to tr st im va) sz) := by
  refine mu_start (Qc := QI (σ := Nat → Int32) D (fun r u => r = lastsF n C (nI t) (cpA C st n) w0 a0) (fun u => (mWC y q (nI t) (nI n) C w rt (nI r0) no sa to tr u im va))) (cc := cX5_lasts) (maxL := 9) (ret := (some .int)) (by decide) rfl (Nat.le_of_ble_eq_true rfl) ?_
  intro p e s m below meth c ls A hx hb hr hml hown hlocks hts hnm hA hP hK hN hD hE hAA hsz hl
  have hS : va_S A s.heap s.heap [] := va_S.rf
  have hown : s.vm.findClass RX5 = some m.cls := hown
  have F : CallFix p m c cX5_lasts 9 s [.ref (q 0), .int w0, .int a0].toArray wsX5_lasts RX5 := ⟨hx, hb, hml, hown, hts⟩
  have hl : lv_has ls 9 [(0, .ref (q 0)), (1, .int w0), (2, .int a0)] := hl
  have iX5 : ∀ w ∈ u_ws RX5 TX5 20, w ∈ wsX5_lasts := mem_pl [23, 24, 25, 26, 27, 28, 29, 30, 31, 32, 33, 34, 35, 36, 37, 38, 39, 40, 41, 42] rfl
  refine lv_iload_n hx hb dX5_lasts_0 rfl (lv_at hl 1 rfl) ?_
  refine lv_iconst (v := 1) hx hb dX5_lasts_1 (by decide) ?_
  refine lv_sipush (v := 9999) hx hb dX5_lasts_2 (by decide) ?_
  refine ro_i (va_runS (As := [.int w0, .int 1, .int 9999]) (rest := []) F (kX5_in l w0 1 9999) (va_cwS 3 hts gX5_lasts_X5_in rfl rfl rfl hdX5_in ⟨(Nat.le_of_ble_eq_true rfl), (Nat.le_of_ble_eq_true rfl)⟩) ⟨tr_blind, tr_pre⟩ rfl rfl hl.1 rfl (lv_room (Nat.le_of_ble_eq_true rfl)) dX5_lasts_5 ⟨Nat.zero_le _, Nat.zero_le _⟩) ?_
  refine lv_if_eq (tgt := 21) hx hb dX5_lasts_8 (by decide) (fun c_1 => ?_) (fun c_1 => ?_)
  · skip
    have c_1 := zI_0 c_1
    refine lv_iconst (v := (-1)) hx hb dX5_lasts_21 (by decide) ?_
    exact mu_iret st hx hb hr hlocks hP hD hS dX5_lasts_22 (by simp [lastsF, c_1])
  · skip
    have c_1 := zI_1 c_1
    obtain ⟨om, ho1, ho2, rfl⟩ := in_nat (a := 1) (b := 9999) (by decide) (by decide) c_1
    refine lv_iload_n hx hb dX5_lasts_11 rfl (lv_at hl 2 rfl) ?_
    refine lv_iconst (v := 0) hx hb dX5_lasts_12 (by decide) ?_
    refine lv_bipush (v := 60) hx hb dX5_lasts_13 (by decide) ?_
    refine ro_i (va_runS (As := [.int a0, .int 0, .int 60]) (rest := []) F (kX5_in l a0 0 60) (va_cwS 3 hts gX5_lasts_X5_in rfl rfl rfl hdX5_in ⟨(Nat.le_of_ble_eq_true rfl), (Nat.le_of_ble_eq_true rfl)⟩) ⟨tr_blind, tr_pre⟩ rfl rfl hl.1 rfl (lv_room (Nat.le_of_ble_eq_true rfl)) dX5_lasts_15 ⟨Nat.zero_le _, Nat.zero_le _⟩) ?_
    refine lv_if_ne (tgt := 23) hx hb dX5_lasts_18 (by decide) (fun c_2 => ?_) (fun c_2 => ?_)
    · skip
      have c_2 := zI_1 c_2
      refine lv_iconst (v := 0) hx hb dX5_lasts_23 (by decide) ?_
      refine lv_istore_n (lv' := [(3, .int 0), (0, .ref (q 0)), (1, .int (nI om)), (2, .int a0)]) hx hb dX5_lasts_24 rfl hl (by decide) rfl (fun ls hl => ?_)
      refine W.lpW (pc := 25) (τ := Nat) (D := D) (A := A) (H0 := s.heap) (cl := vwCl) (fun b2 => b2 ≤ n) (fun b2 => (mWC y q (nI t) (nI n) C w rt (nI r0) no sa to tr (cpA C st b2) im va)) (fun b2 ls => lv_has ls 9 [(0, .ref (q 0)), (1, .int (nI om)), (2, .int a0), (3, .int (nI b2))]) (fun b2 => n - b2) ?_ 0 ls (Nat.zero_le _) (lv_sub hl [1, 2, 3, 0] rfl) (by show va_P D vwCl (mWC y q (nI t) (nI n) C w rt (nI r0) no sa to tr (cpA C st 0) im va) _; rw [cpA_0]; exact hP) (by show va_D A (mWC y q (nI t) (nI n) C w rt (nI r0) no sa to tr (cpA C st 0) im va); rw [cpA_0]; exact hD) hS
      intro b2 ls H locs hb2 hl hP hD hS ihb2
      have hb2 : b2 ≤ n := hb2
      have hl : lv_has ls 9 [(0, .ref (q 0)), (1, .int (nI om)), (2, .int a0), (3, .int (nI b2))] := hl
      have hP : va_P D vwCl (mWC y q (nI t) (nI n) C w rt (nI r0) no sa to tr (cpA C st b2) im va) H := hP
      have hD : va_D A (mWC y q (nI t) (nI n) C w rt (nI r0) no sa to tr (cpA C st b2) im va) := hD
      refine lv_iload_n hx hb dX5_lasts_25 rfl (lv_at hl 3 rfl) ?_
      refine lv_aload_n hx hb dX5_lasts_26 rfl (lv_at hl 0 rfl) ?_
      refine va_get (D := D) (ci := 5) (v := .int (nI n)) (C := RX5) (T := TX5) (N := 20) hx hb hts iX5 hown hK hP 0 rfl rfl 1 (by decide) (hts _ (List.mem_of_getElem? (i := 1) rfl)) (fun _ h9 => h9) rfl dX5_lasts_27 ?_
      refine lv_icmp_ge (tgt := 51) hx hb dX5_lasts_30 (by decide) (fun c_3 => ?_) (fun c_3 => ?_)
      · skip
        have c_3 : n ≤ b2 := (nI_leI (a := n) (b := b2) (by omega) (by omega)).mp c_3
        have hbn : b2 = n := Nat.le_antisymm hb2 c_3
        rw [hbn] at hP hD
        refine lv_iconst (v := 0) hx hb dX5_lasts_51 (by decide) ?_
        refine lv_istore_n (lv' := [(3, .int 0), (0, .ref (q 0)), (1, .int (nI om)), (2, .int a0)]) hx hb dX5_lasts_52 rfl hl (by decide) rfl (fun ls hl => ?_)
        refine W.lpW (pc := 53) (τ := Nat) (D := D) (A := A) (H0 := s.heap) (cl := vwCl) (fun i => i ≤ 30 ∧ ∀ z : Nat, z < i → okL n C (nI om) a0 (nI t) (cpA C st n) z = true) (fun i => (mWC y q (nI t) (nI n) C w rt (nI r0) no sa to tr (laA n C (nI om) a0 (nI t) (cpA C st n) i) im va)) (fun i ls => lv_has ls 9 [(0, .ref (q 0)), (1, .int (nI om)), (2, .int a0), (3, .int (nI i))]) (fun i => 30 - i) ?_ 0 ls ⟨Nat.zero_le _, fun z hz => absurd hz (Nat.not_lt_zero _)⟩ (lv_sub hl [1, 2, 3, 0] rfl) hP hD hS
        intro i ls H locs hi hl hP hD hS ihi
        have fi : ∀ z : Nat, z < i → okL n C (nI om) a0 (nI t) (cpA C st n) z = true := hi.2
        have hi := hi.1
        have hi : i ≤ 30 := hi
        have hl : lv_has ls 9 [(0, .ref (q 0)), (1, .int (nI om)), (2, .int a0), (3, .int (nI i))] := hl
        have hP : va_P D vwCl (mWC y q (nI t) (nI n) C w rt (nI r0) no sa to tr (laA n C (nI om) a0 (nI t) (cpA C st n) i) im va) H := hP
        have hD : va_D A (mWC y q (nI t) (nI n) C w rt (nI r0) no sa to tr (laA n C (nI om) a0 (nI t) (cpA C st n) i) im va) := hD
        refine lv_iload_n hx hb dX5_lasts_53 rfl (lv_at hl 3 rfl) ?_
        refine lv_bipush (v := 30) hx hb dX5_lasts_54 (by decide) ?_
        refine lv_icmp_ge (tgt := 323) hx hb dX5_lasts_56 (by decide) (fun c_4 => ?_) (fun c_4 => ?_)
        · skip
          have c_4 : 30 ≤ i := (nI_leI (a := 30) (b := i) (by omega) (by omega)).mp c_4
          refine lv_bipush (v := 30) hx hb dX5_lasts_323 (by decide) ?_
          exact mu_iret (laA n C (nI om) a0 (nI t) (cpA C st n) i) hx hb hr hlocks hP hD hS dX5_lasts_325 (by unfold lastsF; rw [if_pos ⟨c_1, c_2⟩, fBad_all (fun z hz => fi z (by omega))]; rfl)
        · skip
          have c_4 : ¬ 30 ≤ i := fun h => c_4 ((nI_leI (a := 30) (b := i) (by omega) (by omega)).mpr h)
          have hok : okS n (laA n C (nI om) a0 (nI t) (cpA C st n) i) := laA_ok hI (by omega) (cpA_ok hI st) i (by omega)
          have hse := Se_le (C := C) (a := a0) (y := nI t + nI i) hn hok
          refine lv_iconst (v := 0) hx hb dX5_lasts_59 (by decide) ?_
          refine lv_istore (lv' := [(4, .int 0), (0, .ref (q 0)), (1, .int (nI om)), (2, .int a0), (3, .int (nI i))]) hx hb dX5_lasts_60 hl (by decide) rfl (fun ls hl => ?_)
          refine lv_iconst (v := 0) hx hb dX5_lasts_62 (by decide) ?_
          refine lv_istore (lv' := [(5, .int 0), (4, .int 0), (0, .ref (q 0)), (1, .int (nI om)), (2, .int a0), (3, .int (nI i))]) hx hb dX5_lasts_63 hl (by decide) rfl (fun ls hl => ?_)
          refine W.lpR (pc := 65) (τ := Nat) (fun c1 => c1 ≤ n) (fun c1 ls => lv_has ls 9 [(0, .ref (q 0)), (1, .int (nI om)), (2, .int a0), (3, .int (nI i)), (4, .int (fN (thf C a0 (nI t + nI i) (laA n C (nI om) a0 (nI t) (cpA C st n) i)) c1 0)), (5, .int (nI c1))]) (fun c1 => n - c1) ?_ 0 ls (Nat.zero_le _) (lv_sub hl [2, 3, 4, 5, 1, 0] rfl)
          intro c1 ls hc1 hl ihc1
          have hc1 : c1 ≤ n := hc1
          have hl : lv_has ls 9 [(0, .ref (q 0)), (1, .int (nI om)), (2, .int a0), (3, .int (nI i)), (4, .int (fN (thf C a0 (nI t + nI i) (laA n C (nI om) a0 (nI t) (cpA C st n) i)) c1 0)), (5, .int (nI c1))] := hl
          refine lv_iload hx hb dX5_lasts_65 (lv_at hl 5 rfl) ?_
          refine lv_aload_n hx hb dX5_lasts_67 rfl (lv_at hl 0 rfl) ?_
          refine va_get (D := D) (ci := 5) (v := .int (nI n)) (C := RX5) (T := TX5) (N := 20) hx hb hts iX5 hown hK hP 0 rfl rfl 1 (by decide) (hts _ (List.mem_of_getElem? (i := 1) rfl)) (fun _ h9 => h9) rfl dX5_lasts_68 ?_
          refine lv_icmp_ge (tgt := 108) hx hb dX5_lasts_71 (by decide) (fun c_5 => ?_) (fun c_5 => ?_)
          · skip
            have c_5 : n ≤ c1 := (nI_leI (a := n) (b := c1) (by omega) (by omega)).mp c_5
            have hc1n : c1 = n := Nat.le_antisymm hc1 c_5
            rw [hc1n] at hl
            have hS0 := hS
            refine lv_iload hx hb dX5_lasts_108 (lv_at hl 4 rfl) ?_
            refine lv_iload_n hx hb dX5_lasts_110 rfl (lv_at hl 1 rfl) ?_
            refine lv_icmp_ge (tgt := 116) hx hb dX5_lasts_111 (by decide) (fun c_6 => ?_) (fun c_6 => ?_)
            · skip
              rw [th_nat hok n (Nat.le_refl n)] at c_6
              have hS : om ≤ Se C a0 (nI t + nI i) (laA n C (nI om) a0 (nI t) (cpA C st n) i) n := (nI_leI (by omega) (by omega)).mp c_6
              have hSe := hS
              have hS := hS0
              refine lv_iload_n hx hb dX5_lasts_116 rfl (lv_at hl 1 rfl) ?_
              refine lv_istore (lv' := [(5, .int (nI om)), (0, .ref (q 0)), (1, .int (nI om)), (2, .int a0), (3, .int (nI i)), (4, .int (fN (thf C a0 (nI t + nI i) (laA n C (nI om) a0 (nI t) (cpA C st n) i)) n 0))]) hx hb dX5_lasts_117 hl (by decide) rfl (fun ls hl => ?_)
              refine W.lpW (pc := 119) (τ := Nat) (D := D) (A := A) (H0 := s.heap) (cl := vwCl) (fun j => j ≤ n) (fun j => (mWC y q (nI t) (nI n) C w rt (nI r0) no sa to tr ((Ft C a0 (nI t + nI i) (nI om) (laA n C (nI om) a0 (nI t) (cpA C st n) i) j).2) im va)) (fun j ls => lv_has ls 9 [(0, .ref (q 0)), (1, .int (nI om)), (2, .int a0), (3, .int (nI i)), (5, .int ((Ft C a0 (nI t + nI i) (nI om) (laA n C (nI om) a0 (nI t) (cpA C st n) i) j).1))]) (fun j => n - j) ?_ 0 ls (Nat.zero_le _) (lv_sub hl [1, 2, 3, 4, 0] rfl) hP hD hS
              intro j ls H locs hj hl hP hD hS2 ihj
              have hj : j ≤ n := hj
              have hl : lv_has ls 9 [(0, .ref (q 0)), (1, .int (nI om)), (2, .int a0), (3, .int (nI i)), (5, .int ((Ft C a0 (nI t + nI i) (nI om) (laA n C (nI om) a0 (nI t) (cpA C st n) i) j).1))] := hl
              have hS3 := hS
              have hS := hS2
              have hP : va_P D vwCl (mWC y q (nI t) (nI n) C w rt (nI r0) no sa to tr ((Ft C a0 (nI t + nI i) (nI om) (laA n C (nI om) a0 (nI t) (cpA C st n) i) j).2) im va) H := hP
              have hD : va_D A (mWC y q (nI t) (nI n) C w rt (nI r0) no sa to tr ((Ft C a0 (nI t + nI i) (nI om) (laA n C (nI om) a0 (nI t) (cpA C st n) i) j).2) im va) := hD
              refine lv_iload hx hb dX5_lasts_119 (lv_at hl 4 rfl) ?_
              refine lv_if_le (tgt := 258) hx hb dX5_lasts_121 (by decide) (fun c_7 => ?_) (fun c_7 => ?_)
              · skip
                have eF := F_end hn hok ho2 hj c_7
                rw [← eF] at hP hD
                refine lv_iconst (v := 0) hx hb dX5_lasts_258 (by decide) ?_
                refine lv_istore (lv' := [(6, .int 0), (0, .ref (q 0)), (1, .int (nI om)), (2, .int a0), (3, .int (nI i)), (5, .int ((Ft C a0 (nI t + nI i) (nI om) (laA n C (nI om) a0 (nI t) (cpA C st n) i) j).1))]) hx hb dX5_lasts_259 hl (by decide) rfl (fun ls hl => ?_)
                refine W.lpW (pc := 261) (τ := Nat) (D := D) (A := A) (H0 := s.heap) (cl := vwCl) (fun c3 => c3 ≤ n) (fun c3 => (mWC y q (nI t) (nI n) C w rt (nI r0) no sa to tr (pyA C (Ft C a0 (nI t + nI i) (nI om) (laA n C (nI om) a0 (nI t) (cpA C st n) i) n).2 (nI t + nI i) c3) im va)) (fun c3 ls => lv_has ls 9 [(0, .ref (q 0)), (1, .int (nI om)), (2, .int a0), (3, .int (nI i)), (6, .int (nI c3))]) (fun c3 => n - c3) ?_ 0 ls (Nat.zero_le _) (lv_sub hl [1, 2, 3, 4, 0] rfl) (by show va_P D vwCl (mWC y q (nI t) (nI n) C w rt (nI r0) no sa to tr (pyA C (Ft C a0 (nI t + nI i) (nI om) (laA n C (nI om) a0 (nI t) (cpA C st n) i) n).2 (nI t + nI i) 0) im va) _; rw [pyA_0]; exact hP) (by show va_D A (mWC y q (nI t) (nI n) C w rt (nI r0) no sa to tr (pyA C (Ft C a0 (nI t + nI i) (nI om) (laA n C (nI om) a0 (nI t) (cpA C st n) i) n).2 (nI t + nI i) 0) im va); rw [pyA_0]; exact hD) hS
                intro c3 ls H locs hc3 hl hP hD hS ihc3
                have hc3 : c3 ≤ n := hc3
                have hl : lv_has ls 9 [(0, .ref (q 0)), (1, .int (nI om)), (2, .int a0), (3, .int (nI i)), (6, .int (nI c3))] := hl
                have hP : va_P D vwCl (mWC y q (nI t) (nI n) C w rt (nI r0) no sa to tr (pyA C (Ft C a0 (nI t + nI i) (nI om) (laA n C (nI om) a0 (nI t) (cpA C st n) i) n).2 (nI t + nI i) c3) im va) H := hP
                have hD : va_D A (mWC y q (nI t) (nI n) C w rt (nI r0) no sa to tr (pyA C (Ft C a0 (nI t + nI i) (nI om) (laA n C (nI om) a0 (nI t) (cpA C st n) i) n).2 (nI t + nI i) c3) im va) := hD
                refine lv_iload hx hb dX5_lasts_261 (lv_at hl 4 rfl) ?_
                refine lv_aload_n hx hb dX5_lasts_263 rfl (lv_at hl 0 rfl) ?_
                refine va_get (D := D) (ci := 5) (v := .int (nI n)) (C := RX5) (T := TX5) (N := 20) hx hb hts iX5 hown hK hP 0 rfl rfl 1 (by decide) (hts _ (List.mem_of_getElem? (i := 1) rfl)) (fun _ h9 => h9) rfl dX5_lasts_264 ?_
                refine lv_icmp_ge (tgt := 317) hx hb dX5_lasts_267 (by decide) (fun c_8 => ?_) (fun c_8 => ?_)
                · skip
                  have c_8 : n ≤ c3 := (nI_leI (a := n) (b := c3) (by omega) (by omega)).mp c_8
                  have hc3n : c3 = n := Nat.le_antisymm hc3 c_8
                  rw [hc3n] at hP hD
                  refine lv_iinc (v := (nI i + 1)) (lv' := [(3, .int (nI i + 1)), (0, .ref (q 0)), (1, .int (nI om)), (2, .int a0), (6, .int (nI c3))]) hx hb dX5_lasts_317 hl (k := 3) rfl rfl (by decide) rfl (fun ls hl => ?_)
                  refine lv_goto (tgt := 53) hx hb dX5_lasts_320 (by decide) ?_
                  have hP : va_P D vwCl (mWC y q (nI t) (nI n) C w rt (nI r0) no sa to tr (laA n C (nI om) a0 (nI t) (cpA C st n) (i + 1)) im va) H := hP
                  have hD : va_D A (mWC y q (nI t) (nI n) C w rt (nI r0) no sa to tr (laA n C (nI om) a0 (nI t) (cpA C st n) (i + 1)) im va) := hD
                  exact ihi (i + 1) ls H locs (by show 30 - (i + 1) < 30 - i; omega) ⟨by omega, fun z hz => by rcases Nat.lt_or_ge z i with h | h; exact fi z h; have hzi : z = i := (by omega); rw [hzi]; exact (okL_t hn ho2 hok).mpr hSe⟩ (lv_sub hl [1, 2, 3, 0] (by
                    show ([(0, .ref (q 0)), (1, .int (nI om)), (2, .int a0), (3, .int (nI i + 1))] : List (Nat × Value)) = [(0, .ref (q 0)), (1, .int (nI om)), (2, .int a0), (3, .int (nI (i + 1)))]
                    rw [← nI_1])) hP hD hS
                · skip
                  have c_8 : ¬ n ≤ c3 := fun h => c_8 ((nI_leI (a := n) (b := c3) (by omega) (by omega)).mpr h)
                  refine lv_aload_n hx hb dX5_lasts_270 rfl (lv_at hl 0 rfl) ?_
                  refine va_get (D := D) (ci := 5) (v := .ref (q 13)) (C := RX5) (T := TX5) (N := 20) hx hb hts iX5 hown hK hP 0 rfl rfl 17 (by decide) (hts _ (List.mem_of_getElem? (i := 2) rfl)) (fun _ h9 => h9) rfl dX5_lasts_271 ?_
                  refine lv_iload hx hb dX5_lasts_274 (lv_at hl 4 rfl) ?_
                  refine lv_dup2_11 hx hb dX5_lasts_276 rfl rfl ?_
                  refine wa_iald hx hb hK hP 13 12 rfl rfl c3 rfl (by omega) (by decide) dX5_lasts_277 ?_
                  refine lv_aload_n hx hb dX5_lasts_278 rfl (lv_at hl 0 rfl) ?_
                  refine va_get (D := D) (ci := 5) (v := .ref (q 13)) (C := RX5) (T := TX5) (N := 20) hx hb hts iX5 hown hK hP 0 rfl rfl 17 (by decide) (hts _ (List.mem_of_getElem? (i := 2) rfl)) (fun _ h9 => h9) rfl dX5_lasts_279 ?_
                  refine lv_iload hx hb dX5_lasts_282 (lv_at hl 4 rfl) ?_
                  refine wa_iald hx hb hK hP 13 12 rfl rfl c3 rfl (by omega) (by decide) dX5_lasts_284 ?_
                  refine lv_aload_n hx hb dX5_lasts_285 rfl (lv_at hl 0 rfl) ?_
                  refine lv_iload hx hb dX5_lasts_286 (lv_at hl 4 rfl) ?_
                  refine lv_aload_n hx hb dX5_lasts_288 rfl (lv_at hl 0 rfl) ?_
                  refine va_get (D := D) (ci := 5) (v := .ref (q 1)) (C := RX5) (T := TX5) (N := 20) hx hb hts iX5 hown hK hP 0 rfl rfl 2 (by decide) (hts _ (List.mem_of_getElem? (i := 5) rfl)) (fun _ h9 => h9) rfl dX5_lasts_289 ?_
                  refine lv_iload hx hb dX5_lasts_292 (lv_at hl 4 rfl) ?_
                  refine wa_iald hx hb hK hP 1 0 rfl rfl c3 rfl (by omega) (by decide) dX5_lasts_294 ?_
                  refine lv_aload_n hx hb dX5_lasts_295 rfl (lv_at hl 0 rfl) ?_
                  refine lv_iload hx hb dX5_lasts_296 (lv_at hl 4 rfl) ?_
                  refine ro_i (va_runV (As := [.int (nI c3)]) (rest := [.int (c_kd (C c3)), .int (nI c3), .ref (q 0), .int ((pyA C (Ft C a0 (nI t + nI i) (nI om) (laA n C (nI om) a0 (nI t) (cpA C st n) i) n).2 (nI t + nI i) c3) c3), .int ((pyA C (Ft C a0 (nI t + nI i) (nI om) (laA n C (nI om) a0 (nI t) (cpA C st n) i) n).2 (nI t + nI i) c3) c3), .int (nI c3), .ref (q 13)]) F (kX5_ageOf l D y q t n C w rt r0 no sa to tr (pyA C (Ft C a0 (nI t + nI i) (nI om) (laA n C (nI om) a0 (nI t) (cpA C st n) i) n).2 (nI t + nI i) c3) im va c3 (by omega)) (cwV 1 hts gX5_lasts_X5_ageOf rfl rfl rfl ⟨rfl, hdX5_ageOf⟩ ⟨(Nat.le_of_ble_eq_true rfl), (Nat.le_of_ble_eq_true rfl)⟩) ⟨rdB_blind, va_recv hK hP (ci := 5) (q0 := 0) rfl rfl, rdB_pre hP hK hN⟩ rfl rfl hl.1 rfl (lv_room (Nat.le_of_ble_eq_true rfl)) dX5_lasts_298 ⟨Nat.zero_le _, Nat.zero_le _⟩) ?_
                  refine lv_iload_n hx hb dX5_lasts_301 rfl (lv_at hl 3 rfl) ?_
                  refine lv_iadd hx hb dX5_lasts_302 ?_
                  refine ro_i (va_runV (As := [.int (nI c3), .int (c_kd (C c3)), .int ((nI t - c_la (C c3)) + (nI i))]) (rest := [.int ((pyA C (Ft C a0 (nI t + nI i) (nI om) (laA n C (nI om) a0 (nI t) (cpA C st n) i) n).2 (nI t + nI i) c3) c3), .int ((pyA C (Ft C a0 (nI t + nI i) (nI om) (laA n C (nI om) a0 (nI t) (cpA C st n) i) n).2 (nI t + nI i) c3) c3), .int (nI c3), .ref (q 13)]) F (kX5_lossOf l D y q t n C w rt r0 no sa to tr (pyA C (Ft C a0 (nI t + nI i) (nI om) (laA n C (nI om) a0 (nI t) (cpA C st n) i) n).2 (nI t + nI i) c3) im va c3 (c_kd (C c3)) ((nI t - c_la (C c3)) + (nI i)) (by omega)) (cwV 3 hts gX5_lasts_X5_lossOf rfl rfl rfl ⟨rfl, hdX5_lossOf⟩ ⟨(Nat.le_of_ble_eq_true rfl), (Nat.le_of_ble_eq_true rfl)⟩) ⟨rdB_blind, va_recv hK hP (ci := 5) (q0 := 0) rfl rfl, rdB_pre hP hK hN⟩ rfl rfl hl.1 rfl (lv_room (Nat.le_of_ble_eq_true rfl)) dX5_lasts_303 ⟨Nat.zero_le _, Nat.zero_le _⟩) ?_
                  refine lv_cst (v := lossC (C c3) (nI t + nI i)) (by rw [ag_c, nI_add]; exact (lossC_eq (hI.2.2.1 c3 (by omega)) (t' := t + i) (by omega) (by omega)).1) ?_
                  refine ro_i (va_runS (As := [.int ((pyA C (Ft C a0 (nI t + nI i) (nI om) (laA n C (nI om) a0 (nI t) (cpA C st n) i) n).2 (nI t + nI i) c3) c3), .int (lossC (C c3) (nI t + nI i))]) (rest := [.int ((pyA C (Ft C a0 (nI t + nI i) (nI om) (laA n C (nI om) a0 (nI t) (cpA C st n) i) n).2 (nI t + nI i) c3) c3), .int (nI c3), .ref (q 13)]) F (kX5_lostOf l ((pyA C (Ft C a0 (nI t + nI i) (nI om) (laA n C (nI om) a0 (nI t) (cpA C st n) i) n).2 (nI t + nI i) c3) c3) (lossC (C c3) (nI t + nI i))) (va_cwS 2 hts gX5_lasts_X5_lostOf rfl rfl rfl hdX5_lostOf ⟨(Nat.le_of_ble_eq_true rfl), (Nat.le_of_ble_eq_true rfl)⟩) ⟨tr_blind, tr_pre⟩ rfl rfl hl.1 rfl (lv_room (Nat.le_of_ble_eq_true rfl)) dX5_lasts_306 ⟨Nat.zero_le _, Nat.zero_le _⟩) ?_
                  refine lv_cst (v := lostX ((pyA C (Ft C a0 (nI t + nI i) (nI om) (laA n C (nI om) a0 (nI t) (cpA C st n) i) n).2 (nI t + nI i) c3) c3) (lossC (C c3) (nI t + nI i))) (lost_eq _ _).symm ?_
                  refine lv_isub hx hb dX5_lasts_309 ?_
                  refine wa_iast (v := (((pyA C (Ft C a0 (nI t + nI i) (nI om) (laA n C (nI om) a0 (nI t) (cpA C st n) i) n).2 (nI t + nI i) c3) c3) - (lostX ((pyA C (Ft C a0 (nI t + nI i) (nI om) (laA n C (nI om) a0 (nI t) (cpA C st n) i) n).2 (nI t + nI i) c3) c3) (lossC (C c3) (nI t + nI i))))) hx hb hK hP hD hS 13 12 rfl rfl c3 rfl (by omega) (by decide) dX5_lasts_310 (fun H locs hP hD hS => ?_)
                  have hP : va_P D vwCl (mWC y q (nI t) (nI n) C w rt (nI r0) no sa to tr (upd (pyA C (Ft C a0 (nI t + nI i) (nI om) (laA n C (nI om) a0 (nI t) (cpA C st n) i) n).2 (nI t + nI i) c3) c3 (((pyA C (Ft C a0 (nI t + nI i) (nI om) (laA n C (nI om) a0 (nI t) (cpA C st n) i) n).2 (nI t + nI i) c3) c3) - (lostX ((pyA C (Ft C a0 (nI t + nI i) (nI om) (laA n C (nI om) a0 (nI t) (cpA C st n) i) n).2 (nI t + nI i) c3) c3) (lossC (C c3) (nI t + nI i))))) im va) H := hP
                  have hD : va_D A (mWC y q (nI t) (nI n) C w rt (nI r0) no sa to tr (upd (pyA C (Ft C a0 (nI t + nI i) (nI om) (laA n C (nI om) a0 (nI t) (cpA C st n) i) n).2 (nI t + nI i) c3) c3 (((pyA C (Ft C a0 (nI t + nI i) (nI om) (laA n C (nI om) a0 (nI t) (cpA C st n) i) n).2 (nI t + nI i) c3) c3) - (lostX ((pyA C (Ft C a0 (nI t + nI i) (nI om) (laA n C (nI om) a0 (nI t) (cpA C st n) i) n).2 (nI t + nI i) c3) c3) (lossC (C c3) (nI t + nI i))))) im va) := hD
                  refine lv_iinc (v := (nI c3 + 1)) (lv' := [(6, .int (nI c3 + 1)), (0, .ref (q 0)), (1, .int (nI om)), (2, .int a0), (3, .int (nI i))]) hx hb dX5_lasts_311 hl (k := 4) rfl rfl (by decide) rfl (fun ls hl => ?_)
                  refine lv_goto (tgt := 261) hx hb dX5_lasts_314 (by decide) ?_
                  rw [pyA_t] at hP hD
                  have hP : va_P D vwCl (mWC y q (nI t) (nI n) C w rt (nI r0) no sa to tr (pyA C (Ft C a0 (nI t + nI i) (nI om) (laA n C (nI om) a0 (nI t) (cpA C st n) i) n).2 (nI t + nI i) (c3 + 1)) im va) H := hP
                  have hD : va_D A (mWC y q (nI t) (nI n) C w rt (nI r0) no sa to tr (pyA C (Ft C a0 (nI t + nI i) (nI om) (laA n C (nI om) a0 (nI t) (cpA C st n) i) n).2 (nI t + nI i) (c3 + 1)) im va) := hD
                  exact ihc3 (c3 + 1) ls H locs (by show n - (c3 + 1) < n - c3; omega) (by show c3 + 1 ≤ n; omega) (lv_sub hl [1, 2, 3, 4, 0] (by
                    show ([(0, .ref (q 0)), (1, .int (nI om)), (2, .int a0), (3, .int (nI i)), (6, .int (nI c3 + 1))] : List (Nat × Value)) = [(0, .ref (q 0)), (1, .int (nI om)), (2, .int a0), (3, .int (nI i)), (6, .int (nI (c3 + 1)))]
                    rw [← nI_1])) hP hD hS
              · skip
                obtain ⟨o, hjo, hon, ho3, ho4⟩ := F_pick hn hok ho2 hj hSe c_7
                refine lv_iconst (v := (-1)) hx hb dX5_lasts_124 (by decide) ?_
                refine lv_istore (lv' := [(6, .int (-1)), (0, .ref (q 0)), (1, .int (nI om)), (2, .int a0), (3, .int (nI i)), (5, .int ((Ft C a0 (nI t + nI i) (nI om) (laA n C (nI om) a0 (nI t) (cpA C st n) i) j).1))]) hx hb dX5_lasts_125 hl (by decide) rfl (fun ls hl => ?_)
                refine lv_iconst (v := 0) hx hb dX5_lasts_127 (by decide) ?_
                refine lv_istore (lv' := [(7, .int 0), (6, .int (-1)), (0, .ref (q 0)), (1, .int (nI om)), (2, .int a0), (3, .int (nI i)), (5, .int ((Ft C a0 (nI t + nI i) (nI om) (laA n C (nI om) a0 (nI t) (cpA C st n) i) j).1))]) hx hb dX5_lasts_128 hl (by decide) rfl (fun ls hl => ?_)
                refine W.lpR (pc := 130) (τ := Nat) (fun c2 => c2 ≤ n) (fun c2 ls => lv_has ls 9 [(0, .ref (q 0)), (1, .int (nI om)), (2, .int a0), (3, .int (nI i)), (5, .int ((Ft C a0 (nI t + nI i) (nI om) (laA n C (nI om) a0 (nI t) (cpA C st n) i) j).1)), (6, .int (ods (canB C a0 (nI t + nI i) (Ft C a0 (nI t + nI i) (nI om) (laA n C (nI om) a0 (nI t) (cpA C st n) i) j).2) c2)), (7, .int (nI c2))]) (fun c2 => n - c2) ?_ 0 ls (Nat.zero_le _) (lv_sub hl [2, 3, 4, 5, 6, 1, 0] rfl)
                intro c2 ls hc2 hl ihc2
                have hc2 : c2 ≤ n := hc2
                have hl : lv_has ls 9 [(0, .ref (q 0)), (1, .int (nI om)), (2, .int a0), (3, .int (nI i)), (5, .int ((Ft C a0 (nI t + nI i) (nI om) (laA n C (nI om) a0 (nI t) (cpA C st n) i) j).1)), (6, .int (ods (canB C a0 (nI t + nI i) (Ft C a0 (nI t + nI i) (nI om) (laA n C (nI om) a0 (nI t) (cpA C st n) i) j).2) c2)), (7, .int (nI c2))] := hl
                refine lv_iload hx hb dX5_lasts_130 (lv_at hl 6 rfl) ?_
                refine lv_aload_n hx hb dX5_lasts_132 rfl (lv_at hl 0 rfl) ?_
                refine va_get (D := D) (ci := 5) (v := .int (nI n)) (C := RX5) (T := TX5) (N := 20) hx hb hts iX5 hown hK hP 0 rfl rfl 1 (by decide) (hts _ (List.mem_of_getElem? (i := 1) rfl)) (fun _ h9 => h9) rfl dX5_lasts_133 ?_
                refine lv_icmp_ge (tgt := 210) hx hb dX5_lasts_136 (by decide) (fun c_9 => ?_) (fun c_9 => ?_)
                · skip
                  have c_9 : n ≤ c2 := (nI_leI (a := n) (b := c2) (by omega) (by omega)).mp c_9
                  have hc2n : c2 = n := Nat.le_antisymm hc2 c_9
                  rw [hc2n] at hl
                  refine lv_aload_n hx hb dX5_lasts_210 rfl (lv_at hl 0 rfl) ?_
                  refine va_get (D := D) (ci := 5) (v := .ref (q 13)) (C := RX5) (T := TX5) (N := 20) hx hb hts iX5 hown hK hP 0 rfl rfl 17 (by decide) (hts _ (List.mem_of_getElem? (i := 2) rfl)) (fun _ h9 => h9) rfl dX5_lasts_211 ?_
                  refine lv_iload hx hb dX5_lasts_214 (lv_at hl 5 rfl) ?_
                  refine wa_iald hx hb hK hP 13 12 rfl rfl o ho3 (by omega) (by decide) dX5_lasts_216 ?_
                  refine lv_iload hx hb dX5_lasts_217 (lv_at hl 4 rfl) ?_
                  refine lv_icmp_ge (tgt := 232) hx hb dX5_lasts_219 (by decide) (fun c_10 => ?_) (fun c_10 => ?_)
                  · skip
                    refine lv_iload hx hb dX5_lasts_232 (lv_at hl 4 rfl) ?_
                    refine lv_cst (v := mnI (Ft C a0 (nI t + nI i) (nI om) (laA n C (nI om) a0 (nI t) (cpA C st n) i) j).1 ((Ft C a0 (nI t + nI i) (nI om) (laA n C (nI om) a0 (nI t) (cpA C st n) i) j).2 o)) (by unfold mnI; rw [if_neg (Int32.not_lt.mpr c_10)]) ?_
                    refine lv_istore (lv' := [(7, .int (mnI (Ft C a0 (nI t + nI i) (nI om) (laA n C (nI om) a0 (nI t) (cpA C st n) i) j).1 ((Ft C a0 (nI t + nI i) (nI om) (laA n C (nI om) a0 (nI t) (cpA C st n) i) j).2 o))), (0, .ref (q 0)), (1, .int (nI om)), (2, .int a0), (3, .int (nI i)), (5, .int ((Ft C a0 (nI t + nI i) (nI om) (laA n C (nI om) a0 (nI t) (cpA C st n) i) j).1)), (6, .int (ods (canB C a0 (nI t + nI i) (Ft C a0 (nI t + nI i) (nI om) (laA n C (nI om) a0 (nI t) (cpA C st n) i) j).2) n))]) hx hb dX5_lasts_234 hl (by decide) rfl (fun ls hl => ?_)
                    refine lv_aload_n hx hb dX5_lasts_236 rfl (lv_at hl 1 rfl) ?_
                    refine va_get (D := D) (ci := 5) (v := .ref (q 13)) (C := RX5) (T := TX5) (N := 20) hx hb hts iX5 hown hK hP 0 rfl rfl 17 (by decide) (hts _ (List.mem_of_getElem? (i := 2) rfl)) (fun _ h9 => h9) rfl dX5_lasts_237 ?_
                    refine lv_iload hx hb dX5_lasts_240 (lv_at hl 6 rfl) ?_
                    refine lv_dup2_11 hx hb dX5_lasts_242 rfl rfl ?_
                    refine wa_iald hx hb hK hP 13 12 rfl rfl o ho3 (by omega) (by decide) dX5_lasts_243 ?_
                    refine lv_iload hx hb dX5_lasts_244 (lv_at hl 0 rfl) ?_
                    refine lv_isub hx hb dX5_lasts_246 ?_
                    refine wa_iast (v := ((((Ft C a0 (nI t + nI i) (nI om) (laA n C (nI om) a0 (nI t) (cpA C st n) i) j).2) o) - (mnI (Ft C a0 (nI t + nI i) (nI om) (laA n C (nI om) a0 (nI t) (cpA C st n) i) j).1 ((Ft C a0 (nI t + nI i) (nI om) (laA n C (nI om) a0 (nI t) (cpA C st n) i) j).2 o)))) hx hb hK hP hD hS 13 12 rfl rfl o ho3 (by omega) (by decide) dX5_lasts_247 (fun H locs hP hD hS => ?_)
                    have hP : va_P D vwCl (mWC y q (nI t) (nI n) C w rt (nI r0) no sa to tr (upd ((Ft C a0 (nI t + nI i) (nI om) (laA n C (nI om) a0 (nI t) (cpA C st n) i) j).2) o ((((Ft C a0 (nI t + nI i) (nI om) (laA n C (nI om) a0 (nI t) (cpA C st n) i) j).2) o) - (mnI (Ft C a0 (nI t + nI i) (nI om) (laA n C (nI om) a0 (nI t) (cpA C st n) i) j).1 ((Ft C a0 (nI t + nI i) (nI om) (laA n C (nI om) a0 (nI t) (cpA C st n) i) j).2 o)))) im va) H := hP
                    have hD : va_D A (mWC y q (nI t) (nI n) C w rt (nI r0) no sa to tr (upd ((Ft C a0 (nI t + nI i) (nI om) (laA n C (nI om) a0 (nI t) (cpA C st n) i) j).2) o ((((Ft C a0 (nI t + nI i) (nI om) (laA n C (nI om) a0 (nI t) (cpA C st n) i) j).2) o) - (mnI (Ft C a0 (nI t + nI i) (nI om) (laA n C (nI om) a0 (nI t) (cpA C st n) i) j).1 ((Ft C a0 (nI t + nI i) (nI om) (laA n C (nI om) a0 (nI t) (cpA C st n) i) j).2 o)))) im va) := hD
                    refine lv_iload hx hb dX5_lasts_248 (lv_at hl 5 rfl) ?_
                    refine lv_iload hx hb dX5_lasts_250 (lv_at hl 0 rfl) ?_
                    refine lv_isub hx hb dX5_lasts_252 ?_
                    refine lv_istore (lv' := [(5, .int (((Ft C a0 (nI t + nI i) (nI om) (laA n C (nI om) a0 (nI t) (cpA C st n) i) j).1) - (mnI (Ft C a0 (nI t + nI i) (nI om) (laA n C (nI om) a0 (nI t) (cpA C st n) i) j).1 ((Ft C a0 (nI t + nI i) (nI om) (laA n C (nI om) a0 (nI t) (cpA C st n) i) j).2 o)))), (7, .int (mnI (Ft C a0 (nI t + nI i) (nI om) (laA n C (nI om) a0 (nI t) (cpA C st n) i) j).1 ((Ft C a0 (nI t + nI i) (nI om) (laA n C (nI om) a0 (nI t) (cpA C st n) i) j).2 o))), (0, .ref (q 0)), (1, .int (nI om)), (2, .int a0), (3, .int (nI i)), (6, .int (ods (canB C a0 (nI t + nI i) (Ft C a0 (nI t + nI i) (nI om) (laA n C (nI om) a0 (nI t) (cpA C st n) i) j).2) n))]) hx hb dX5_lasts_253 hl (by decide) rfl (fun ls hl => ?_)
                    refine lv_goto (tgt := 119) hx hb dX5_lasts_255 (by decide) ?_
                    have hP : va_P D vwCl (mWC y q (nI t) (nI n) C w rt (nI r0) no sa to tr ((Ft C a0 (nI t + nI i) (nI om) (laA n C (nI om) a0 (nI t) (cpA C st n) i) (o + 1)).2) im va) H := by rw [ho4]; exact hP
                    have hD : va_D A (mWC y q (nI t) (nI n) C w rt (nI r0) no sa to tr ((Ft C a0 (nI t + nI i) (nI om) (laA n C (nI om) a0 (nI t) (cpA C st n) i) (o + 1)).2) im va) := by rw [ho4]; exact hD
                    exact ihj (o + 1) ls H locs (by show n - (o + 1) < n - j; omega) (by show o + 1 ≤ n; omega) (lv_sub hl [2, 3, 4, 5, 0] (by
                      show ([(0, .ref (q 0)), (1, .int (nI om)), (2, .int a0), (3, .int (nI i)), (5, .int (((Ft C a0 (nI t + nI i) (nI om) (laA n C (nI om) a0 (nI t) (cpA C st n) i) j).1) - (mnI (Ft C a0 (nI t + nI i) (nI om) (laA n C (nI om) a0 (nI t) (cpA C st n) i) j).1 ((Ft C a0 (nI t + nI i) (nI om) (laA n C (nI om) a0 (nI t) (cpA C st n) i) j).2 o))))] : List (Nat × Value)) = [(0, .ref (q 0)), (1, .int (nI om)), (2, .int a0), (3, .int (nI i)), (5, .int ((Ft C a0 (nI t + nI i) (nI om) (laA n C (nI om) a0 (nI t) (cpA C st n) i) (o + 1)).1))]
                      rw [ho4])) hP hD hS
                  · skip
                    refine lv_aload_n hx hb dX5_lasts_222 rfl (lv_at hl 0 rfl) ?_
                    refine va_get (D := D) (ci := 5) (v := .ref (q 13)) (C := RX5) (T := TX5) (N := 20) hx hb hts iX5 hown hK hP 0 rfl rfl 17 (by decide) (hts _ (List.mem_of_getElem? (i := 2) rfl)) (fun _ h9 => h9) rfl dX5_lasts_223 ?_
                    refine lv_iload hx hb dX5_lasts_226 (lv_at hl 5 rfl) ?_
                    refine wa_iald hx hb hK hP 13 12 rfl rfl o ho3 (by omega) (by decide) dX5_lasts_228 ?_
                    refine lv_goto (tgt := 234) hx hb dX5_lasts_229 (by decide) ?_
                    refine lv_cst (v := mnI (Ft C a0 (nI t + nI i) (nI om) (laA n C (nI om) a0 (nI t) (cpA C st n) i) j).1 ((Ft C a0 (nI t + nI i) (nI om) (laA n C (nI om) a0 (nI t) (cpA C st n) i) j).2 o)) (by unfold mnI; rw [if_pos (Int32.not_le.mp c_10)]) ?_
                    refine lv_istore (lv' := [(7, .int (mnI (Ft C a0 (nI t + nI i) (nI om) (laA n C (nI om) a0 (nI t) (cpA C st n) i) j).1 ((Ft C a0 (nI t + nI i) (nI om) (laA n C (nI om) a0 (nI t) (cpA C st n) i) j).2 o))), (0, .ref (q 0)), (1, .int (nI om)), (2, .int a0), (3, .int (nI i)), (5, .int ((Ft C a0 (nI t + nI i) (nI om) (laA n C (nI om) a0 (nI t) (cpA C st n) i) j).1)), (6, .int (ods (canB C a0 (nI t + nI i) (Ft C a0 (nI t + nI i) (nI om) (laA n C (nI om) a0 (nI t) (cpA C st n) i) j).2) n))]) hx hb dX5_lasts_234 hl (by decide) rfl (fun ls hl => ?_)
                    refine lv_aload_n hx hb dX5_lasts_236 rfl (lv_at hl 1 rfl) ?_
                    refine va_get (D := D) (ci := 5) (v := .ref (q 13)) (C := RX5) (T := TX5) (N := 20) hx hb hts iX5 hown hK hP 0 rfl rfl 17 (by decide) (hts _ (List.mem_of_getElem? (i := 2) rfl)) (fun _ h9 => h9) rfl dX5_lasts_237 ?_
                    refine lv_iload hx hb dX5_lasts_240 (lv_at hl 6 rfl) ?_
                    refine lv_dup2_11 hx hb dX5_lasts_242 rfl rfl ?_
                    refine wa_iald hx hb hK hP 13 12 rfl rfl o ho3 (by omega) (by decide) dX5_lasts_243 ?_
                    refine lv_iload hx hb dX5_lasts_244 (lv_at hl 0 rfl) ?_
                    refine lv_isub hx hb dX5_lasts_246 ?_
                    refine wa_iast (v := ((((Ft C a0 (nI t + nI i) (nI om) (laA n C (nI om) a0 (nI t) (cpA C st n) i) j).2) o) - (mnI (Ft C a0 (nI t + nI i) (nI om) (laA n C (nI om) a0 (nI t) (cpA C st n) i) j).1 ((Ft C a0 (nI t + nI i) (nI om) (laA n C (nI om) a0 (nI t) (cpA C st n) i) j).2 o)))) hx hb hK hP hD hS 13 12 rfl rfl o ho3 (by omega) (by decide) dX5_lasts_247 (fun H locs hP hD hS => ?_)
                    have hP : va_P D vwCl (mWC y q (nI t) (nI n) C w rt (nI r0) no sa to tr (upd ((Ft C a0 (nI t + nI i) (nI om) (laA n C (nI om) a0 (nI t) (cpA C st n) i) j).2) o ((((Ft C a0 (nI t + nI i) (nI om) (laA n C (nI om) a0 (nI t) (cpA C st n) i) j).2) o) - (mnI (Ft C a0 (nI t + nI i) (nI om) (laA n C (nI om) a0 (nI t) (cpA C st n) i) j).1 ((Ft C a0 (nI t + nI i) (nI om) (laA n C (nI om) a0 (nI t) (cpA C st n) i) j).2 o)))) im va) H := hP
                    have hD : va_D A (mWC y q (nI t) (nI n) C w rt (nI r0) no sa to tr (upd ((Ft C a0 (nI t + nI i) (nI om) (laA n C (nI om) a0 (nI t) (cpA C st n) i) j).2) o ((((Ft C a0 (nI t + nI i) (nI om) (laA n C (nI om) a0 (nI t) (cpA C st n) i) j).2) o) - (mnI (Ft C a0 (nI t + nI i) (nI om) (laA n C (nI om) a0 (nI t) (cpA C st n) i) j).1 ((Ft C a0 (nI t + nI i) (nI om) (laA n C (nI om) a0 (nI t) (cpA C st n) i) j).2 o)))) im va) := hD
                    refine lv_iload hx hb dX5_lasts_248 (lv_at hl 5 rfl) ?_
                    refine lv_iload hx hb dX5_lasts_250 (lv_at hl 0 rfl) ?_
                    refine lv_isub hx hb dX5_lasts_252 ?_
                    refine lv_istore (lv' := [(5, .int (((Ft C a0 (nI t + nI i) (nI om) (laA n C (nI om) a0 (nI t) (cpA C st n) i) j).1) - (mnI (Ft C a0 (nI t + nI i) (nI om) (laA n C (nI om) a0 (nI t) (cpA C st n) i) j).1 ((Ft C a0 (nI t + nI i) (nI om) (laA n C (nI om) a0 (nI t) (cpA C st n) i) j).2 o)))), (7, .int (mnI (Ft C a0 (nI t + nI i) (nI om) (laA n C (nI om) a0 (nI t) (cpA C st n) i) j).1 ((Ft C a0 (nI t + nI i) (nI om) (laA n C (nI om) a0 (nI t) (cpA C st n) i) j).2 o))), (0, .ref (q 0)), (1, .int (nI om)), (2, .int a0), (3, .int (nI i)), (6, .int (ods (canB C a0 (nI t + nI i) (Ft C a0 (nI t + nI i) (nI om) (laA n C (nI om) a0 (nI t) (cpA C st n) i) j).2) n))]) hx hb dX5_lasts_253 hl (by decide) rfl (fun ls hl => ?_)
                    refine lv_goto (tgt := 119) hx hb dX5_lasts_255 (by decide) ?_
                    have hP : va_P D vwCl (mWC y q (nI t) (nI n) C w rt (nI r0) no sa to tr ((Ft C a0 (nI t + nI i) (nI om) (laA n C (nI om) a0 (nI t) (cpA C st n) i) (o + 1)).2) im va) H := by rw [ho4]; exact hP
                    have hD : va_D A (mWC y q (nI t) (nI n) C w rt (nI r0) no sa to tr ((Ft C a0 (nI t + nI i) (nI om) (laA n C (nI om) a0 (nI t) (cpA C st n) i) (o + 1)).2) im va) := by rw [ho4]; exact hD
                    exact ihj (o + 1) ls H locs (by show n - (o + 1) < n - j; omega) (by show o + 1 ≤ n; omega) (lv_sub hl [2, 3, 4, 5, 0] (by
                      show ([(0, .ref (q 0)), (1, .int (nI om)), (2, .int a0), (3, .int (nI i)), (5, .int (((Ft C a0 (nI t + nI i) (nI om) (laA n C (nI om) a0 (nI t) (cpA C st n) i) j).1) - (mnI (Ft C a0 (nI t + nI i) (nI om) (laA n C (nI om) a0 (nI t) (cpA C st n) i) j).1 ((Ft C a0 (nI t + nI i) (nI om) (laA n C (nI om) a0 (nI t) (cpA C st n) i) j).2 o))))] : List (Nat × Value)) = [(0, .ref (q 0)), (1, .int (nI om)), (2, .int a0), (3, .int (nI i)), (5, .int ((Ft C a0 (nI t + nI i) (nI om) (laA n C (nI om) a0 (nI t) (cpA C st n) i) (o + 1)).1))]
                      rw [ho4])) hP hD hS
                · skip
                  have c_9 : ¬ n ≤ c2 := fun h => c_9 ((nI_leI (a := n) (b := c2) (by omega) (by omega)).mpr h)
                  refine lv_aload_n hx hb dX5_lasts_139 rfl (lv_at hl 0 rfl) ?_
                  refine va_get (D := D) (ci := 5) (v := .ref (q 13)) (C := RX5) (T := TX5) (N := 20) hx hb hts iX5 hown hK hP 0 rfl rfl 17 (by decide) (hts _ (List.mem_of_getElem? (i := 2) rfl)) (fun _ h9 => h9) rfl dX5_lasts_140 ?_
                  refine lv_iload hx hb dX5_lasts_143 (lv_at hl 6 rfl) ?_
                  refine wa_iald hx hb hK hP 13 12 rfl rfl c2 rfl (by omega) (by decide) dX5_lasts_145 ?_
                  refine lv_if_le (tgt := 165) hx hb dX5_lasts_146 (by decide) (fun c_11 => ?_) (fun c_11 => ?_)
                  · skip
                    refine lv_iconst (v := 0) hx hb dX5_lasts_165 (by decide) ?_
                    refine lv_istore (lv' := [(8, .int 0), (0, .ref (q 0)), (1, .int (nI om)), (2, .int a0), (3, .int (nI i)), (5, .int ((Ft C a0 (nI t + nI i) (nI om) (laA n C (nI om) a0 (nI t) (cpA C st n) i) j).1)), (6, .int (ods (canB C a0 (nI t + nI i) (Ft C a0 (nI t + nI i) (nI om) (laA n C (nI om) a0 (nI t) (cpA C st n) i) j).2) c2)), (7, .int (nI c2))]) hx hb dX5_lasts_166 hl (by decide) rfl (fun ls hl => ?_)
                    refine lv_iload hx hb dX5_lasts_168 (lv_at hl 0 rfl) ?_
                    refine lv_if_eq (tgt := 200) hx hb dX5_lasts_170 (by decide) (fun c_12 => ?_) (fun c_12 => ?_)
                    · skip
                      refine lv_iload hx hb dX5_lasts_200 (lv_at hl 6 rfl) ?_
                      refine lv_istore (lv' := [(6, .int (ods (canB C a0 (nI t + nI i) (Ft C a0 (nI t + nI i) (nI om) (laA n C (nI om) a0 (nI t) (cpA C st n) i) j).2) c2)), (8, .int 0), (0, .ref (q 0)), (1, .int (nI om)), (2, .int a0), (3, .int (nI i)), (5, .int ((Ft C a0 (nI t + nI i) (nI om) (laA n C (nI om) a0 (nI t) (cpA C st n) i) j).1)), (7, .int (nI c2))]) hx hb dX5_lasts_202 hl (by decide) rfl (fun ls hl => ?_)
                      refine lv_iinc (v := (nI c2 + 1)) (lv' := [(7, .int (nI c2 + 1)), (6, .int (ods (canB C a0 (nI t + nI i) (Ft C a0 (nI t + nI i) (nI om) (laA n C (nI om) a0 (nI t) (cpA C st n) i) j).2) c2)), (8, .int 0), (0, .ref (q 0)), (1, .int (nI om)), (2, .int a0), (3, .int (nI i)), (5, .int ((Ft C a0 (nI t + nI i) (nI om) (laA n C (nI om) a0 (nI t) (cpA C st n) i) j).1))]) hx hb dX5_lasts_204 hl (k := 7) rfl rfl (by decide) rfl (fun ls hl => ?_)
                      refine lv_goto (tgt := 130) hx hb dX5_lasts_207 (by decide) ?_
                      exact ihc2 (c2 + 1) ls (by show n - (c2 + 1) < n - c2; omega) (by show c2 + 1 ≤ n; omega) (lv_sub hl [3, 4, 5, 6, 7, 1, 0] (by
                        show ([(0, .ref (q 0)), (1, .int (nI om)), (2, .int a0), (3, .int (nI i)), (5, .int ((Ft C a0 (nI t + nI i) (nI om) (laA n C (nI om) a0 (nI t) (cpA C st n) i) j).1)), (6, .int (ods (canB C a0 (nI t + nI i) (Ft C a0 (nI t + nI i) (nI om) (laA n C (nI om) a0 (nI t) (cpA C st n) i) j).2) c2)), (7, .int (nI c2 + 1))] : List (Nat × Value)) = [(0, .ref (q 0)), (1, .int (nI om)), (2, .int a0), (3, .int (nI i)), (5, .int ((Ft C a0 (nI t + nI i) (nI om) (laA n C (nI om) a0 (nI t) (cpA C st n) i) j).1)), (6, .int (ods (canB C a0 (nI t + nI i) (Ft C a0 (nI t + nI i) (nI om) (laA n C (nI om) a0 (nI t) (cpA C st n) i) j).2) (c2 + 1))), (7, .int (nI (c2 + 1)))]
                        have e1 : ods (canB C a0 (nI t + nI i) (Ft C a0 (nI t + nI i) (nI om) (laA n C (nI om) a0 (nI t) (cpA C st n) i) j).2) (c2 + 1) = ods (canB C a0 (nI t + nI i) (Ft C a0 (nI t + nI i) (nI om) (laA n C (nI om) a0 (nI t) (cpA C st n) i) j).2) c2 := if_neg (fun z => canB_1 (a := a0) (y := nI t + nI i) (C := C) c_11 z.2)
                        rw [e1]
                        rw [← nI_1]))
                    · skip
                      exact absurd c_12 (by decide)
                  · skip
                    refine lv_aload_n hx hb dX5_lasts_149 rfl (lv_at hl 0 rfl) ?_
                    refine lv_iload hx hb dX5_lasts_150 (lv_at hl 6 rfl) ?_
                    refine ro_i (va_runV (As := [.int (nI c2)]) (rest := []) F (kX5_ageOf l D y q t n C w rt r0 no sa to tr ((Ft C a0 (nI t + nI i) (nI om) (laA n C (nI om) a0 (nI t) (cpA C st n) i) j).2) im va c2 (by omega)) (cwV 1 hts gX5_lasts_X5_ageOf rfl rfl rfl ⟨rfl, hdX5_ageOf⟩ ⟨(Nat.le_of_ble_eq_true rfl), (Nat.le_of_ble_eq_true rfl)⟩) ⟨rdB_blind, va_recv hK hP (ci := 5) (q0 := 0) rfl rfl, rdB_pre hP hK hN⟩ rfl rfl hl.1 rfl (lv_room (Nat.le_of_ble_eq_true rfl)) dX5_lasts_152 ⟨Nat.zero_le _, Nat.zero_le _⟩) ?_
                    refine lv_iload_n hx hb dX5_lasts_155 rfl (lv_at hl 3 rfl) ?_
                    refine lv_iadd hx hb dX5_lasts_156 ?_
                    refine lv_iload_n hx hb dX5_lasts_157 rfl (lv_at hl 2 rfl) ?_
                    refine lv_icmp_lt (tgt := 165) hx hb dX5_lasts_158 (by decide) (fun c_13 => ?_) (fun c_13 => ?_)
                    · skip
                      rw [ag_c] at c_13
                      refine lv_iconst (v := 0) hx hb dX5_lasts_165 (by decide) ?_
                      refine lv_istore (lv' := [(8, .int 0), (0, .ref (q 0)), (1, .int (nI om)), (2, .int a0), (3, .int (nI i)), (5, .int ((Ft C a0 (nI t + nI i) (nI om) (laA n C (nI om) a0 (nI t) (cpA C st n) i) j).1)), (6, .int (ods (canB C a0 (nI t + nI i) (Ft C a0 (nI t + nI i) (nI om) (laA n C (nI om) a0 (nI t) (cpA C st n) i) j).2) c2)), (7, .int (nI c2))]) hx hb dX5_lasts_166 hl (by decide) rfl (fun ls hl => ?_)
                      refine lv_iload hx hb dX5_lasts_168 (lv_at hl 0 rfl) ?_
                      refine lv_if_eq (tgt := 200) hx hb dX5_lasts_170 (by decide) (fun c_14 => ?_) (fun c_14 => ?_)
                      · skip
                        refine lv_iload hx hb dX5_lasts_200 (lv_at hl 6 rfl) ?_
                        refine lv_istore (lv' := [(6, .int (ods (canB C a0 (nI t + nI i) (Ft C a0 (nI t + nI i) (nI om) (laA n C (nI om) a0 (nI t) (cpA C st n) i) j).2) c2)), (8, .int 0), (0, .ref (q 0)), (1, .int (nI om)), (2, .int a0), (3, .int (nI i)), (5, .int ((Ft C a0 (nI t + nI i) (nI om) (laA n C (nI om) a0 (nI t) (cpA C st n) i) j).1)), (7, .int (nI c2))]) hx hb dX5_lasts_202 hl (by decide) rfl (fun ls hl => ?_)
                        refine lv_iinc (v := (nI c2 + 1)) (lv' := [(7, .int (nI c2 + 1)), (6, .int (ods (canB C a0 (nI t + nI i) (Ft C a0 (nI t + nI i) (nI om) (laA n C (nI om) a0 (nI t) (cpA C st n) i) j).2) c2)), (8, .int 0), (0, .ref (q 0)), (1, .int (nI om)), (2, .int a0), (3, .int (nI i)), (5, .int ((Ft C a0 (nI t + nI i) (nI om) (laA n C (nI om) a0 (nI t) (cpA C st n) i) j).1))]) hx hb dX5_lasts_204 hl (k := 7) rfl rfl (by decide) rfl (fun ls hl => ?_)
                        refine lv_goto (tgt := 130) hx hb dX5_lasts_207 (by decide) ?_
                        exact ihc2 (c2 + 1) ls (by show n - (c2 + 1) < n - c2; omega) (by show c2 + 1 ≤ n; omega) (lv_sub hl [3, 4, 5, 6, 7, 1, 0] (by
                          show ([(0, .ref (q 0)), (1, .int (nI om)), (2, .int a0), (3, .int (nI i)), (5, .int ((Ft C a0 (nI t + nI i) (nI om) (laA n C (nI om) a0 (nI t) (cpA C st n) i) j).1)), (6, .int (ods (canB C a0 (nI t + nI i) (Ft C a0 (nI t + nI i) (nI om) (laA n C (nI om) a0 (nI t) (cpA C st n) i) j).2) c2)), (7, .int (nI c2 + 1))] : List (Nat × Value)) = [(0, .ref (q 0)), (1, .int (nI om)), (2, .int a0), (3, .int (nI i)), (5, .int ((Ft C a0 (nI t + nI i) (nI om) (laA n C (nI om) a0 (nI t) (cpA C st n) i) j).1)), (6, .int (ods (canB C a0 (nI t + nI i) (Ft C a0 (nI t + nI i) (nI om) (laA n C (nI om) a0 (nI t) (cpA C st n) i) j).2) (c2 + 1))), (7, .int (nI (c2 + 1)))]
                          have e1 : ods (canB C a0 (nI t + nI i) (Ft C a0 (nI t + nI i) (nI om) (laA n C (nI om) a0 (nI t) (cpA C st n) i) j).2) (c2 + 1) = ods (canB C a0 (nI t + nI i) (Ft C a0 (nI t + nI i) (nI om) (laA n C (nI om) a0 (nI t) (cpA C st n) i) j).2) c2 := if_neg (fun z => canB_2 c_13 z.2)
                          rw [e1]
                          rw [← nI_1]))
                      · skip
                        exact absurd c_14 (by decide)
                    · skip
                      rw [ag_c] at c_13
                      refine lv_iconst (v := 1) hx hb dX5_lasts_161 (by decide) ?_
                      refine lv_goto (tgt := 166) hx hb dX5_lasts_162 (by decide) ?_
                      refine lv_istore (lv' := [(8, .int 1), (0, .ref (q 0)), (1, .int (nI om)), (2, .int a0), (3, .int (nI i)), (5, .int ((Ft C a0 (nI t + nI i) (nI om) (laA n C (nI om) a0 (nI t) (cpA C st n) i) j).1)), (6, .int (ods (canB C a0 (nI t + nI i) (Ft C a0 (nI t + nI i) (nI om) (laA n C (nI om) a0 (nI t) (cpA C st n) i) j).2) c2)), (7, .int (nI c2))]) hx hb dX5_lasts_166 hl (by decide) rfl (fun ls hl => ?_)
                      refine lv_iload hx hb dX5_lasts_168 (lv_at hl 0 rfl) ?_
                      refine lv_if_eq (tgt := 200) hx hb dX5_lasts_170 (by decide) (fun c_15 => ?_) (fun c_15 => ?_)
                      · skip
                        exact absurd c_15 (by decide)
                      · skip
                        refine lv_iload hx hb dX5_lasts_173 (lv_at hl 6 rfl) ?_
                        refine lv_if_lt (tgt := 195) hx hb dX5_lasts_175 (by decide) (fun c_16 => ?_) (fun c_16 => ?_)
                        · skip
                          refine lv_iload hx hb dX5_lasts_195 (lv_at hl 7 rfl) ?_
                          refine lv_goto (tgt := 202) hx hb dX5_lasts_197 (by decide) ?_
                          refine lv_istore (lv' := [(6, .int (nI c2)), (8, .int 1), (0, .ref (q 0)), (1, .int (nI om)), (2, .int a0), (3, .int (nI i)), (5, .int ((Ft C a0 (nI t + nI i) (nI om) (laA n C (nI om) a0 (nI t) (cpA C st n) i) j).1)), (7, .int (nI c2))]) hx hb dX5_lasts_202 hl (by decide) rfl (fun ls hl => ?_)
                          refine lv_iinc (v := (nI c2 + 1)) (lv' := [(7, .int (nI c2 + 1)), (6, .int (nI c2)), (8, .int 1), (0, .ref (q 0)), (1, .int (nI om)), (2, .int a0), (3, .int (nI i)), (5, .int ((Ft C a0 (nI t + nI i) (nI om) (laA n C (nI om) a0 (nI t) (cpA C st n) i) j).1))]) hx hb dX5_lasts_204 hl (k := 7) rfl rfl (by decide) rfl (fun ls hl => ?_)
                          refine lv_goto (tgt := 130) hx hb dX5_lasts_207 (by decide) ?_
                          exact ihc2 (c2 + 1) ls (by show n - (c2 + 1) < n - c2; omega) (by show c2 + 1 ≤ n; omega) (lv_sub hl [3, 4, 5, 6, 7, 1, 0] (by
                            show ([(0, .ref (q 0)), (1, .int (nI om)), (2, .int a0), (3, .int (nI i)), (5, .int ((Ft C a0 (nI t + nI i) (nI om) (laA n C (nI om) a0 (nI t) (cpA C st n) i) j).1)), (6, .int (nI c2)), (7, .int (nI c2 + 1))] : List (Nat × Value)) = [(0, .ref (q 0)), (1, .int (nI om)), (2, .int a0), (3, .int (nI i)), (5, .int ((Ft C a0 (nI t + nI i) (nI om) (laA n C (nI om) a0 (nI t) (cpA C st n) i) j).1)), (6, .int (ods (canB C a0 (nI t + nI i) (Ft C a0 (nI t + nI i) (nI om) (laA n C (nI om) a0 (nI t) (cpA C st n) i) j).2) (c2 + 1))), (7, .int (nI (c2 + 1)))]
                            have e1 : ods (canB C a0 (nI t + nI i) (Ft C a0 (nI t + nI i) (nI om) (laA n C (nI om) a0 (nI t) (cpA C st n) i) j).2) (c2 + 1) = nI c2 := if_pos ⟨c_16, canB_t c_11 c_13⟩
                            rw [e1]
                            rw [← nI_1]))
                        · skip
                          obtain ⟨o2, ho2c, eo2⟩ := ods_pos (by omega) c_16
                          refine lv_aload_n hx hb dX5_lasts_178 rfl (lv_at hl 1 rfl) ?_
                          refine va_get (D := D) (ci := 5) (v := .ref (q 5)) (C := RX5) (T := TX5) (N := 20) hx hb hts iX5 hown hK hP 0 rfl rfl 6 (by decide) (hts _ (List.mem_of_getElem? (i := 4) rfl)) (fun _ h9 => h9) rfl dX5_lasts_179 ?_
                          refine lv_iload hx hb dX5_lasts_182 (lv_at hl 7 rfl) ?_
                          refine wa_iald hx hb hK hP 5 4 rfl rfl c2 rfl (by omega) (by decide) dX5_lasts_184 ?_
                          refine lv_aload_n hx hb dX5_lasts_185 rfl (lv_at hl 1 rfl) ?_
                          refine va_get (D := D) (ci := 5) (v := .ref (q 5)) (C := RX5) (T := TX5) (N := 20) hx hb hts iX5 hown hK hP 0 rfl rfl 6 (by decide) (hts _ (List.mem_of_getElem? (i := 4) rfl)) (fun _ h9 => h9) rfl dX5_lasts_186 ?_
                          refine lv_iload hx hb dX5_lasts_189 (lv_at hl 6 rfl) ?_
                          refine wa_iald hx hb hK hP 5 4 rfl rfl o2 eo2 (by omega) (by decide) dX5_lasts_191 ?_
                          refine lv_icmp_ge (tgt := 200) hx hb dX5_lasts_192 (by decide) (fun c_17 => ?_) (fun c_17 => ?_)
                          · skip
                            refine lv_iload hx hb dX5_lasts_200 (lv_at hl 6 rfl) ?_
                            refine lv_istore (lv' := [(6, .int (ods (canB C a0 (nI t + nI i) (Ft C a0 (nI t + nI i) (nI om) (laA n C (nI om) a0 (nI t) (cpA C st n) i) j).2) c2)), (8, .int 1), (0, .ref (q 0)), (1, .int (nI om)), (2, .int a0), (3, .int (nI i)), (5, .int ((Ft C a0 (nI t + nI i) (nI om) (laA n C (nI om) a0 (nI t) (cpA C st n) i) j).1)), (7, .int (nI c2))]) hx hb dX5_lasts_202 hl (by decide) rfl (fun ls hl => ?_)
                            refine lv_iinc (v := (nI c2 + 1)) (lv' := [(7, .int (nI c2 + 1)), (6, .int (ods (canB C a0 (nI t + nI i) (Ft C a0 (nI t + nI i) (nI om) (laA n C (nI om) a0 (nI t) (cpA C st n) i) j).2) c2)), (8, .int 1), (0, .ref (q 0)), (1, .int (nI om)), (2, .int a0), (3, .int (nI i)), (5, .int ((Ft C a0 (nI t + nI i) (nI om) (laA n C (nI om) a0 (nI t) (cpA C st n) i) j).1))]) hx hb dX5_lasts_204 hl (k := 7) rfl rfl (by decide) rfl (fun ls hl => ?_)
                            refine lv_goto (tgt := 130) hx hb dX5_lasts_207 (by decide) ?_
                            exact ihc2 (c2 + 1) ls (by show n - (c2 + 1) < n - c2; omega) (by show c2 + 1 ≤ n; omega) (lv_sub hl [3, 4, 5, 6, 7, 1, 0] (by
                              show ([(0, .ref (q 0)), (1, .int (nI om)), (2, .int a0), (3, .int (nI i)), (5, .int ((Ft C a0 (nI t + nI i) (nI om) (laA n C (nI om) a0 (nI t) (cpA C st n) i) j).1)), (6, .int (ods (canB C a0 (nI t + nI i) (Ft C a0 (nI t + nI i) (nI om) (laA n C (nI om) a0 (nI t) (cpA C st n) i) j).2) c2)), (7, .int (nI c2 + 1))] : List (Nat × Value)) = [(0, .ref (q 0)), (1, .int (nI om)), (2, .int a0), (3, .int (nI i)), (5, .int ((Ft C a0 (nI t + nI i) (nI om) (laA n C (nI om) a0 (nI t) (cpA C st n) i) j).1)), (6, .int (ods (canB C a0 (nI t + nI i) (Ft C a0 (nI t + nI i) (nI om) (laA n C (nI om) a0 (nI t) (cpA C st n) i) j).2) (c2 + 1))), (7, .int (nI (c2 + 1)))]
                              have e1 : ods (canB C a0 (nI t + nI i) (Ft C a0 (nI t + nI i) (nI om) (laA n C (nI om) a0 (nI t) (cpA C st n) i) j).2) (c2 + 1) = ods (canB C a0 (nI t + nI i) (Ft C a0 (nI t + nI i) (nI om) (laA n C (nI om) a0 (nI t) (cpA C st n) i) j).2) c2 := if_neg (fun z => c_16 z.1)
                              rw [e1]
                              rw [← nI_1]))
                          · skip
                            exact absurd (hI.2.2.2.2 o2 c2 (by omega) (by omega)) c_17
            · skip
              rw [th_nat hok n (Nat.le_refl n)] at c_6
              have hS : ¬ om ≤ Se C a0 (nI t + nI i) (laA n C (nI om) a0 (nI t) (cpA C st n) i) n := fun h => c_6 (nI_le h (by omega))
              have hbad : okL n C (nI om) a0 (nI t) (cpA C st n) i = false := by cases hq : okL n C (nI om) a0 (nI t) (cpA C st n) i with | false => rfl | true => exact absurd ((okL_t hn ho2 hok).mp hq) hS
              have hS := hS0
              refine lv_iload_n hx hb dX5_lasts_114 rfl (lv_at hl 3 rfl) ?_
              exact mu_iret (laA n C (nI om) a0 (nI t) (cpA C st n) i) hx hb hr hlocks hP hD hS dX5_lasts_115 (by unfold lastsF; rw [if_pos ⟨c_1, c_2⟩, fBad_at (i := i) (by omega) fi hbad])
          · skip
            have c_5 : ¬ n ≤ c1 := fun h => c_5 ((nI_leI (a := n) (b := c1) (by omega) (by omega)).mpr h)
            refine lv_iload hx hb dX5_lasts_74 (lv_at hl 4 rfl) ?_
            refine lv_aload_n hx hb dX5_lasts_76 rfl (lv_at hl 0 rfl) ?_
            refine lv_iload hx hb dX5_lasts_77 (lv_at hl 5 rfl) ?_
            refine ro_i (va_runV (As := [.int (nI c1)]) (rest := [.int (fN (thf C a0 (nI t + nI i) (laA n C (nI om) a0 (nI t) (cpA C st n) i)) c1 0)]) F (kX5_ageOf l D y q t n C w rt r0 no sa to tr (laA n C (nI om) a0 (nI t) (cpA C st n) i) im va c1 (by omega)) (cwV 1 hts gX5_lasts_X5_ageOf rfl rfl rfl ⟨rfl, hdX5_ageOf⟩ ⟨(Nat.le_of_ble_eq_true rfl), (Nat.le_of_ble_eq_true rfl)⟩) ⟨rdB_blind, va_recv hK hP (ci := 5) (q0 := 0) rfl rfl, rdB_pre hP hK hN⟩ rfl rfl hl.1 rfl (lv_room (Nat.le_of_ble_eq_true rfl)) dX5_lasts_79 ⟨Nat.zero_le _, Nat.zero_le _⟩) ?_
            refine lv_iload_n hx hb dX5_lasts_82 rfl (lv_at hl 3 rfl) ?_
            refine lv_iadd hx hb dX5_lasts_83 ?_
            refine lv_iload_n hx hb dX5_lasts_84 rfl (lv_at hl 2 rfl) ?_
            refine lv_icmp_lt (tgt := 98) hx hb dX5_lasts_85 (by decide) (fun c_18 => ?_) (fun c_18 => ?_)
            · skip
              rw [ag_c] at c_18
              refine lv_iconst (v := 0) hx hb dX5_lasts_98 (by decide) ?_
              refine lv_iadd hx hb dX5_lasts_99 ?_
              refine lv_istore (lv' := [(4, .int ((fN (thf C a0 (nI t + nI i) (laA n C (nI om) a0 (nI t) (cpA C st n) i)) c1 0) + 0)), (0, .ref (q 0)), (1, .int (nI om)), (2, .int a0), (3, .int (nI i)), (5, .int (nI c1))]) hx hb dX5_lasts_100 hl (by decide) rfl (fun ls hl => ?_)
              refine lv_iinc (v := (nI c1 + 1)) (lv' := [(5, .int (nI c1 + 1)), (4, .int ((fN (thf C a0 (nI t + nI i) (laA n C (nI om) a0 (nI t) (cpA C st n) i)) c1 0) + 0)), (0, .ref (q 0)), (1, .int (nI om)), (2, .int a0), (3, .int (nI i))]) hx hb dX5_lasts_102 hl (k := 5) rfl rfl (by decide) rfl (fun ls hl => ?_)
              refine lv_goto (tgt := 65) hx hb dX5_lasts_105 (by decide) ?_
              exact ihc1 (c1 + 1) ls (by show n - (c1 + 1) < n - c1; omega) (by show c1 + 1 ≤ n; omega) (lv_sub hl [2, 3, 4, 5, 1, 0] (by
                show ([(0, .ref (q 0)), (1, .int (nI om)), (2, .int a0), (3, .int (nI i)), (4, .int ((fN (thf C a0 (nI t + nI i) (laA n C (nI om) a0 (nI t) (cpA C st n) i)) c1 0) + 0)), (5, .int (nI c1 + 1))] : List (Nat × Value)) = [(0, .ref (q 0)), (1, .int (nI om)), (2, .int a0), (3, .int (nI i)), (4, .int (fN (thf C a0 (nI t + nI i) (laA n C (nI om) a0 (nI t) (cpA C st n) i)) (c1 + 1) 0)), (5, .int (nI (c1 + 1)))]
                have e1 : fN (thf C a0 (nI t + nI i) (laA n C (nI om) a0 (nI t) (cpA C st n) i)) (c1 + 1) 0 = ((fN (thf C a0 (nI t + nI i) (laA n C (nI om) a0 (nI t) (cpA C st n) i)) c1 0) + 0) := (fN_s _ _ _).trans (thf_l c_18)
                rw [e1]
                rw [← nI_1]))
            · skip
              rw [ag_c] at c_18
              refine lv_aload_n hx hb dX5_lasts_88 rfl (lv_at hl 0 rfl) ?_
              refine va_get (D := D) (ci := 5) (v := .ref (q 13)) (C := RX5) (T := TX5) (N := 20) hx hb hts iX5 hown hK hP 0 rfl rfl 17 (by decide) (hts _ (List.mem_of_getElem? (i := 2) rfl)) (fun _ h9 => h9) rfl dX5_lasts_89 ?_
              refine lv_iload hx hb dX5_lasts_92 (lv_at hl 5 rfl) ?_
              refine wa_iald hx hb hK hP 13 12 rfl rfl c1 rfl (by omega) (by decide) dX5_lasts_94 ?_
              refine lv_goto (tgt := 99) hx hb dX5_lasts_95 (by decide) ?_
              refine lv_iadd hx hb dX5_lasts_99 ?_
              refine lv_istore (lv' := [(4, .int ((fN (thf C a0 (nI t + nI i) (laA n C (nI om) a0 (nI t) (cpA C st n) i)) c1 0) + ((laA n C (nI om) a0 (nI t) (cpA C st n) i) c1))), (0, .ref (q 0)), (1, .int (nI om)), (2, .int a0), (3, .int (nI i)), (5, .int (nI c1))]) hx hb dX5_lasts_100 hl (by decide) rfl (fun ls hl => ?_)
              refine lv_iinc (v := (nI c1 + 1)) (lv' := [(5, .int (nI c1 + 1)), (4, .int ((fN (thf C a0 (nI t + nI i) (laA n C (nI om) a0 (nI t) (cpA C st n) i)) c1 0) + ((laA n C (nI om) a0 (nI t) (cpA C st n) i) c1))), (0, .ref (q 0)), (1, .int (nI om)), (2, .int a0), (3, .int (nI i))]) hx hb dX5_lasts_102 hl (k := 5) rfl rfl (by decide) rfl (fun ls hl => ?_)
              refine lv_goto (tgt := 65) hx hb dX5_lasts_105 (by decide) ?_
              exact ihc1 (c1 + 1) ls (by show n - (c1 + 1) < n - c1; omega) (by show c1 + 1 ≤ n; omega) (lv_sub hl [2, 3, 4, 5, 1, 0] (by
                show ([(0, .ref (q 0)), (1, .int (nI om)), (2, .int a0), (3, .int (nI i)), (4, .int ((fN (thf C a0 (nI t + nI i) (laA n C (nI om) a0 (nI t) (cpA C st n) i)) c1 0) + ((laA n C (nI om) a0 (nI t) (cpA C st n) i) c1))), (5, .int (nI c1 + 1))] : List (Nat × Value)) = [(0, .ref (q 0)), (1, .int (nI om)), (2, .int a0), (3, .int (nI i)), (4, .int (fN (thf C a0 (nI t + nI i) (laA n C (nI om) a0 (nI t) (cpA C st n) i)) (c1 + 1) 0)), (5, .int (nI (c1 + 1)))]
                have e1 : fN (thf C a0 (nI t + nI i) (laA n C (nI om) a0 (nI t) (cpA C st n) i)) (c1 + 1) 0 = ((fN (thf C a0 (nI t + nI i) (laA n C (nI om) a0 (nI t) (cpA C st n) i)) c1 0) + ((laA n C (nI om) a0 (nI t) (cpA C st n) i) c1)) := (fN_s _ _ _).trans (thf_a c_18)
                rw [e1]
                rw [← nI_1]))
      · skip
        have c_3 : ¬ n ≤ b2 := fun h => c_3 ((nI_leI (a := n) (b := b2) (by omega) (by omega)).mpr h)
        refine lv_aload_n hx hb dX5_lasts_33 rfl (lv_at hl 0 rfl) ?_
        refine va_get (D := D) (ci := 5) (v := .ref (q 13)) (C := RX5) (T := TX5) (N := 20) hx hb hts iX5 hown hK hP 0 rfl rfl 17 (by decide) (hts _ (List.mem_of_getElem? (i := 2) rfl)) (fun _ h9 => h9) rfl dX5_lasts_34 ?_
        refine lv_iload_n hx hb dX5_lasts_37 rfl (lv_at hl 3 rfl) ?_
        refine lv_aload_n hx hb dX5_lasts_38 rfl (lv_at hl 0 rfl) ?_
        refine va_get (D := D) (ci := 5) (v := .ref (q 2)) (C := RX5) (T := TX5) (N := 20) hx hb hts iX5 hown hK hP 0 rfl rfl 3 (by decide) (hts _ (List.mem_of_getElem? (i := 3) rfl)) (fun _ h9 => h9) rfl dX5_lasts_39 ?_
        refine lv_iload_n hx hb dX5_lasts_42 rfl (lv_at hl 3 rfl) ?_
        refine wa_iald hx hb hK hP 2 1 rfl rfl b2 rfl (by omega) (by decide) dX5_lasts_43 ?_
        refine wa_iast (v := c_dr (C b2)) hx hb hK hP hD hS 13 12 rfl rfl b2 rfl (by omega) (by decide) dX5_lasts_44 (fun H locs hP hD hS => ?_)
        have hP : va_P D vwCl (mWC y q (nI t) (nI n) C w rt (nI r0) no sa to tr (upd (cpA C st b2) b2 (c_dr (C b2))) im va) H := hP
        have hD : va_D A (mWC y q (nI t) (nI n) C w rt (nI r0) no sa to tr (upd (cpA C st b2) b2 (c_dr (C b2))) im va) := hD
        refine lv_iinc (v := (nI b2 + 1)) (lv' := [(3, .int (nI b2 + 1)), (0, .ref (q 0)), (1, .int (nI om)), (2, .int a0)]) hx hb dX5_lasts_45 hl (k := 3) rfl rfl (by decide) rfl (fun ls hl => ?_)
        refine lv_goto (tgt := 25) hx hb dX5_lasts_48 (by decide) ?_
        rw [cpA_t] at hP hD
        have hP : va_P D vwCl (mWC y q (nI t) (nI n) C w rt (nI r0) no sa to tr (cpA C st (b2 + 1)) im va) H := hP
        have hD : va_D A (mWC y q (nI t) (nI n) C w rt (nI r0) no sa to tr (cpA C st (b2 + 1)) im va) := hD
        exact ihb2 (b2 + 1) ls H locs (by show n - (b2 + 1) < n - b2; omega) (by show b2 + 1 ≤ n; omega) (lv_sub hl [1, 2, 3, 0] (by
          show ([(0, .ref (q 0)), (1, .int (nI om)), (2, .int a0), (3, .int (nI b2 + 1))] : List (Nat × Value)) = [(0, .ref (q 0)), (1, .int (nI om)), (2, .int a0), (3, .int (nI (b2 + 1)))]
          rw [← nI_1])) hP hD hS
    · skip
      have c_2 := zI_0 c_2
      refine lv_iconst (v := (-1)) hx hb dX5_lasts_21 (by decide) ?_
      exact mu_iret st hx hb hr hlocks hP hD hS dX5_lasts_22 (by simp [lastsF, c_1, c_2])
