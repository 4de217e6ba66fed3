def costX (c : CT) (now : Int32) : Int32 := dUp ((20 + 3 * (now - c_la c)) * c_dr c) 100
def lossC (c : CT) (yr : Int32) : Int32 := lossX (c_kd c) (c_fl c) (yr - c_la c)
def evX (mx : MT) (s : Int32) : Int32 := if m_dr mx < 1 then 0 else s / m_dr mx
def oldX (w : Nat → Int32) (mx : MT) : Bool := decide (w 1 ≤ m_ag mx)
def metX (w : Nat → Int32) (mx : MT) : Bool := decide (w 0 ≤ m_dr mx) && (oldX w mx && (inR (evX mx (m_ok mx)) (w 2) (w 3) && (inR (evX mx (m_sm mx)) (w 4) (w 5) && inR (evX mx (m_sw mx)) (w 6) (w 7))))
def isC (n : Nat) (c : Int32) : Bool := inR c 0 (nI n - 1)
def isS (n : Nat) (s : Int32) : Bool := inR s 0 ((1 <<< (nI n &&& 31)) - 1)
def nEf (C : Nat → CT) (i : Nat) (a : Int32) : Int32 := if c_dr (C i) ≤ 0 then a else a + 1
def allf (C : Nat → CT) (i : Nat) (a : Int32) : Int32 := a + c_dr (C i)
def dutf (C : Nat → CT) (rt s : Int32) (i : Nat) (a : Int32) : Int32 := if hasB s (nI i) = true then a + c_dr (C i) * c_sg (C i) / 1000 * rt else a
def aboutX (c : CT) (now w : Int32) : Int32 := if w = 0 then c_dr c else if w = 1 then c_sg c else if w = 2 then now - c_la c else if w = 3 then c_ok c else if w = 4 then c_sm c else if w = 5 then c_sw c else if w = 6 then c_kd c else if w = 7 then c_fl c else if w = 8 then costX c now else -1
def aboutF (n : Nat) (C : Nat → CT) (now c w : Int32) : Int32 := if isC n c = true then aboutX (C c.toNatClampNeg) now w else -1
def cutF (n : Nat) (C : Nat → CT) (c t : Int32) : Int32 := if isC n c = true ∧ inR t 300 700 = true then dUp (c_dr (C c.toNatClampNeg) * mxI 0 (c_sg (C c.toNatClampNeg) - t)) t else -1
def dutyF (n : Nat) (C : Nat → CT) (rt s : Int32) : Int32 := if isS n s = true then fN (dutf C rt s) n 0 else -1
def tieX (g : Nat → Int32) (a b : Int32) : Bool := decide (g a.toNatClampNeg = g (6 + b.toNatClampNeg))
def countF (n : Nat) (now rd rt : Int32) (C : Nat → CT) (w : Int32) : Int32 := if w = 0 then now else if w = 1 then nI n else if w = 2 then fN (nEf C) n 0 else if w = 3 then rd else if w = 4 then rt else if w = 5 then fN (allf C) n 0 else -1
def hangX (g h : Nat → Int32) (a b w : Int32) : Int32 := if inR a 0 5 = true ∧ inR b 0 5 = true ∧ inR w 0 1 = true then (if w = 0 then zI (decide (g a.toNatClampNeg = g b.toNatClampNeg)) else if g a.toNatClampNeg = g b.toNatClampNeg then h a.toNatClampNeg - h b.toNatClampNeg else -1000000) else -1000001
theorem isC_of {x : Int32} {n : Nat} (hn : n ≤ 12) (h : isC n x = true) : ∃ j : Nat, j < n ∧ x = nI j := nI_of_in (by omega) h
theorem inR_of {x : Int32} {a : Int32} {k : Nat} (ha : a = nI k) (hk : k < 4096) (h : inR x 0 a = true) : ∃ j : Nat, j ≤ k ∧ x = nI j := by
  have h2 : inR x 0 (nI (k + 1) - 1) = true := by rw [nI_pred]; rw [← ha]; exact h
  obtain ⟨j, hj, e⟩ := nI_of_in (by omega) h2
  exact ⟨j, by omega, e⟩

set_option maxHeartbeats 4000000 in
set_option maxRecDepth 100000 in
theorem kX0_age (l : Launch) (D : va_G) (y : Nat → ClassId) (q : Nat → Nat) (n : Nat) (now rt : Int32) (tr : Int64) (C : Nat → CT) (ah w : Nat → Int32) (mx : MT) (rd ct : Int32) (g h : Nat → Int32) (y0 : Int32) (j : Nat) (hj : j < 12) : Met l yX0_age wsX0_age ({ frames := 0, cells := 0, slots := 0, locals := 0 }) (va_Pc [.ref (q (9 + j)), .int y0] (rdB D (xT y) (xW y q (nI n) now rt tr C ah w mx rd ct g h))) (vp_Si (fun x => x = (y0 - c_la (C j)))) 0 0 nF := by
  refine ro_start (cc := cX0_age) (maxL := 2) (ret := (some .int)) (by decide) rfl (Nat.le_of_ble_eq_true rfl) ?_
  intro p e s m below meth c ls hx hb hr hml hown hlocks hts hnm hB hl
  obtain ⟨hP, hK, hN⟩ := hB
  have hown : s.vm.findClass RX0 = some m.cls := hown
  have F : CallFix p m c cX0_age 2 s [.ref (q (9 + j)), .int y0].toArray wsX0_age RX0 := ⟨hx, hb, hml, hown, hts⟩
  have hl : lv_has ls 2 [(0, .ref (q (9 + j))), (1, .int y0)] := hl
  have iX0 : ∀ w ∈ u_ws RX0 TX0 8, w ∈ wsX0_age := mem_pl [2, 3, 4, 5, 6, 7, 8, 9] rfl
  refine lv_iload_n hx hb dX0_age_0 rfl (lv_at hl 1 rfl) ?_
  refine lv_aload_n hx hb dX0_age_1 rfl (lv_at hl 0 rfl) ?_
  refine va_get (D := D) (ci := 0) (v := .int (c_la (C j))) (C := RX0) (T := TX0) (N := 8) hx hb hts iX0 hown hK hP (9 + j) (xp_at rfl hj) rfl 7 (by decide) (hts _ (List.mem_of_getElem? (i := 1) rfl)) (fun _ h9 => h9) rfl dX0_age_2 ?_
  refine lv_isub hx hb dX0_age_5 ?_
  exact ro_iret hx hb hr hlocks dX0_age_6 rfl

set_option maxHeartbeats 4000000 in
set_option maxRecDepth 100000 in
theorem kX0_cost (l : Launch) (D : va_G) (y : Nat → ClassId) (q : Nat → Nat) (n : Nat) (now rt : Int32) (tr : Int64) (C : Nat → CT) (ah w : Nat → Int32) (mx : MT) (rd ct : Int32) (g h : Nat → Int32) (y0 : Int32) (j : Nat) (hj : j < 12) : Met l yX0_cost wsX0_cost ({ frames := 1, cells := 0, slots := 0, locals := 21 }) (va_Pc [.ref (q (9 + j)), .int y0] (rdB D (xT y) (xW y q (nI n) now rt tr C ah w mx rd ct g h))) (vp_Si (fun x => x = (costX (C j) y0))) 0 0 nF := by
  refine ro_start (cc := cX0_cost) (maxL := 2) (ret := (some .int)) (by decide) rfl (Nat.le_of_ble_eq_true rfl) ?_
  intro p e s m below meth c ls hx hb hr hml hown hlocks hts hnm hB hl
  obtain ⟨hP, hK, hN⟩ := hB
  have hown : s.vm.findClass RX0 = some m.cls := hown
  have F : CallFix p m c cX0_cost 2 s [.ref (q (9 + j)), .int y0].toArray wsX0_cost RX0 := ⟨hx, hb, hml, hown, hts⟩
  have hl : lv_has ls 2 [(0, .ref (q (9 + j))), (1, .int y0)] := hl
  have iX0 : ∀ w ∈ u_ws RX0 TX0 8, w ∈ wsX0_cost := mem_pl [11, 12, 13, 14, 15, 16, 17, 18] rfl
  refine lv_bipush (v := 20) hx hb dX0_cost_0 (by decide) ?_
  refine lv_iconst (v := 3) hx hb dX0_cost_2 (by decide) ?_
  refine lv_aload_n hx hb dX0_cost_3 rfl (lv_at hl 0 rfl) ?_
  refine lv_iload_n hx hb dX0_cost_4 rfl (lv_at hl 1 rfl) ?_
  refine ro_i (va_runV (As := [.int y0]) (rest := [.int 3, .int 20]) F (kX0_age l D y q n now rt tr C ah w mx rd ct g h y0 j hj) (cwV 1 hts gX0_cost_X0_age rfl rfl rfl ⟨rfl, hdX0_age⟩ ⟨(Nat.le_of_ble_eq_true rfl), (Nat.le_of_ble_eq_true rfl)⟩) ⟨rdB_blind, va_recv hK hP (ci := 0) (q0 := (9 + j)) rfl (xp_at rfl hj), rdB_pre hP hK hN⟩ rfl rfl hl.1 rfl (lv_room (Nat.le_of_ble_eq_true rfl)) dX0_cost_5 ⟨Nat.zero_le _, Nat.zero_le _⟩) ?_
  refine lv_imul hx hb dX0_cost_8 ?_
  refine lv_iadd hx hb dX0_cost_9 ?_
  refine lv_aload_n hx hb dX0_cost_10 rfl (lv_at hl 0 rfl) ?_
  refine va_get (D := D) (ci := 0) (v := .int (c_dr (C j))) (C := RX0) (T := TX0) (N := 8) hx hb hts iX0 hown hK hP (9 + j) (xp_at rfl hj) rfl 1 (by decide) (hts _ (List.mem_of_getElem? (i := 1) rfl)) (fun _ h9 => h9) rfl dX0_cost_11 ?_
  refine lv_imul hx hb dX0_cost_14 ?_
  refine lv_bipush (v := 100) hx hb dX0_cost_15 (by decide) ?_
  refine ro_i (va_runSN (As := [.int ((20 + (3 * (y0 - c_la (C j)))) * (c_dr (C j))), .int 100]) (rest := []) F (kX4_dividedUp l ((20 + (3 * (y0 - c_la (C j)))) * (c_dr (C j))) 100) ⟨va_cnB 2 hts gX0_cost_X4_dividedUp_n34 rfl rfl rfl hN.1 (hts _ (List.mem_of_getElem? (i := 9) rfl)) hdX4_dividedUp ⟨(Nat.le_of_ble_eq_true rfl), (Nat.le_of_ble_eq_true rfl)⟩, (hts _ (List.mem_of_getElem? (i := 8) rfl)), trivial⟩ ⟨tr_blind, tr_pre⟩ rfl rfl hl.1 rfl (lv_room (Nat.le_of_ble_eq_true rfl)) dX0_cost_17 ⟨Nat.zero_le _, Nat.zero_le _⟩) ?_
  exact ro_iret hx hb hr hlocks dX0_cost_20 rfl

set_option maxHeartbeats 4000000 in
set_option maxRecDepth 100000 in
theorem kX0_lossIn (l : Launch) (D : va_G) (y : Nat → ClassId) (q : Nat → Nat) (n : Nat) (now rt : Int32) (tr : Int64) (C : Nat → CT) (ah w : Nat → Int32) (mx : MT) (rd ct : Int32) (g h : Nat → Int32) (y0 : Int32) (j : Nat) (hj : j < 12) : Met l yX0_lossIn wsX0_lossIn ({ frames := 2, cells := 0, slots := 0, locals := 45 }) (va_Pc [.ref (q (9 + j)), .int y0] (rdB D (xT y) (xW y q (nI n) now rt tr C ah w mx rd ct g h))) (vp_Si (fun x => x = (lossC (C j) y0))) 0 0 nF := by
  refine ro_start (cc := cX0_lossIn) (maxL := 2) (ret := (some .int)) (by decide) rfl (Nat.le_of_ble_eq_true rfl) ?_
  intro p e s m below meth c ls hx hb hr hml hown hlocks hts hnm hB hl
  obtain ⟨hP, hK, hN⟩ := hB
  have hown : s.vm.findClass RX0 = some m.cls := hown
  have F : CallFix p m c cX0_lossIn 2 s [.ref (q (9 + j)), .int y0].toArray wsX0_lossIn RX0 := ⟨hx, hb, hml, hown, hts⟩
  have hl : lv_has ls 2 [(0, .ref (q (9 + j))), (1, .int y0)] := hl
  have iX0 : ∀ w ∈ u_ws RX0 TX0 8, w ∈ wsX0_lossIn := mem_pl [16, 17, 18, 19, 20, 21, 22, 23] rfl
  refine lv_aload_n hx hb dX0_lossIn_0 rfl (lv_at hl 0 rfl) ?_
  refine va_get (D := D) (ci := 0) (v := .int (c_kd (C j))) (C := RX0) (T := TX0) (N := 8) hx hb hts iX0 hown hK hP (9 + j) (xp_at rfl hj) rfl 0 (by decide) (hts _ (List.mem_of_getElem? (i := 1) rfl)) (fun _ h9 => h9) rfl dX0_lossIn_1 ?_
  refine lv_aload_n hx hb dX0_lossIn_4 rfl (lv_at hl 0 rfl) ?_
  refine va_get (D := D) (ci := 0) (v := .int (c_fl (C j))) (C := RX0) (T := TX0) (N := 8) hx hb hts iX0 hown hK hP (9 + j) (xp_at rfl hj) rfl 3 (by decide) (hts _ (List.mem_of_getElem? (i := 2) rfl)) (fun _ h9 => h9) rfl dX0_lossIn_5 ?_
  refine lv_aload_n hx hb dX0_lossIn_8 rfl (lv_at hl 0 rfl) ?_
  refine lv_iload_n hx hb dX0_lossIn_9 rfl (lv_at hl 1 rfl) ?_
  refine ro_i (va_runV (As := [.int y0]) (rest := [.int (c_fl (C j)), .int (c_kd (C j))]) F (kX0_age l D y q n now rt tr C ah w mx rd ct g h y0 j hj) (cwV 1 hts gX0_lossIn_X0_age rfl rfl rfl ⟨rfl, hdX0_age⟩ ⟨(Nat.le_of_ble_eq_true rfl), (Nat.le_of_ble_eq_true rfl)⟩) ⟨rdB_blind, va_recv hK hP (ci := 0) (q0 := (9 + j)) rfl (xp_at rfl hj), rdB_pre hP hK hN⟩ rfl rfl hl.1 rfl (lv_room (Nat.le_of_ble_eq_true rfl)) dX0_lossIn_10 ⟨Nat.zero_le _, Nat.zero_le _⟩) ?_
  refine ro_i (va_runSN (As := [.int (c_kd (C j)), .int (c_fl (C j)), .int (y0 - c_la (C j))]) (rest := []) F (kX4_lossBy l (c_kd (C j)) (c_fl (C j)) (y0 - c_la (C j))) ⟨va_cnB 3 hts gX0_lossIn_X4_lossBy_n38 rfl rfl rfl hN.2.1 (hts _ (List.mem_of_getElem? (i := 10) rfl)) hdX4_lossBy ⟨(Nat.le_of_ble_eq_true rfl), (Nat.le_of_ble_eq_true rfl)⟩, (hts _ (List.mem_of_getElem? (i := 9) rfl)), trivial⟩ ⟨tr_blind, tr_pre⟩ rfl rfl hl.1 rfl (lv_room (Nat.le_of_ble_eq_true rfl)) dX0_lossIn_13 ⟨Nat.zero_le _, Nat.zero_le _⟩) ?_
  exact ro_iret hx hb hr hlocks dX0_lossIn_16 rfl

set_option maxHeartbeats 4000000 in
set_option maxRecDepth 100000 in
theorem kX1_evenly (l : Launch) (D : va_G) (y : Nat → ClassId) (q : Nat → Nat) (n : Nat) (now rt : Int32) (tr : Int64) (C : Nat → CT) (ah w : Nat → Int32) (mx : MT) (rd ct : Int32) (g h : Nat → Int32) (s0 : Int32) : Met l yX1_evenly wsX1_evenly ({ frames := 0, cells := 0, slots := 0, locals := 0 }) (va_Pc [.ref (q 5), .int s0] (rdB D (xT y) (xW y q (nI n) now rt tr C ah w mx rd ct g h))) (vp_Si (fun x => x = (evX mx s0))) 0 0 nF := by
  refine ro_start (cc := cX1_evenly) (maxL := 2) (ret := (some .int)) (by decide) rfl (Nat.le_of_ble_eq_true rfl) ?_
  intro p e s m below meth c ls hx hb hr hml hown hlocks hts hnm hB hl
  obtain ⟨hP, hK, hN⟩ := hB
  have hown : s.vm.findClass RX1 = some m.cls := hown
  have F : CallFix p m c cX1_evenly 2 s [.ref (q 5), .int s0].toArray wsX1_evenly RX1 := ⟨hx, hb, hml, hown, hts⟩
  have hl : lv_has ls 2 [(0, .ref (q 5)), (1, .int s0)] := hl
  have iX1 : ∀ w ∈ u_ws RX1 TX1 7, w ∈ wsX1_evenly := mem_pl [2, 3, 4, 5, 6, 7, 8] rfl
  refine lv_aload_n hx hb dX1_evenly_0 rfl (lv_at hl 0 rfl) ?_
  refine va_get (D := D) (ci := 1) (v := .int (m_dr mx)) (C := RX1) (T := TX1) (N := 7) hx hb hts iX1 hown hK hP 5 rfl rfl 0 (by decide) (hts _ (List.mem_of_getElem? (i := 1) rfl)) (fun _ h9 => h9) rfl dX1_evenly_1 ?_
  refine lv_iconst (v := 1) hx hb dX1_evenly_4 (by decide) ?_
  refine lv_icmp_ge (tgt := 12) hx hb dX1_evenly_5 (by decide) (fun c_1 => ?_) (fun c_1 => ?_)
  · skip
    refine lv_iload_n hx hb dX1_evenly_12 rfl (lv_at hl 1 rfl) ?_
    refine lv_aload_n hx hb dX1_evenly_13 rfl (lv_at hl 0 rfl) ?_
    refine va_get (D := D) (ci := 1) (v := .int (m_dr mx)) (C := RX1) (T := TX1) (N := 7) hx hb hts iX1 hown hK hP 5 rfl rfl 0 (by decide) (hts _ (List.mem_of_getElem? (i := 1) rfl)) (fun _ h9 => h9) rfl dX1_evenly_14 ?_
    refine lv_idiv hx hb dX1_evenly_17 (fun h => by rw [h] at c_1; exact absurd c_1 (by decide)) ?_
    exact ro_iret hx hb hr hlocks dX1_evenly_18 (by unfold evX; rw [if_neg (Int32.not_lt.mpr c_1)])
  · skip
    refine lv_iconst (v := 0) hx hb dX1_evenly_8 (by decide) ?_
    refine lv_goto (tgt := 18) hx hb dX1_evenly_9 (by decide) ?_
    exact ro_iret hx hb hr hlocks dX1_evenly_18 (by unfold evX; rw [if_pos (Int32.not_le.mp c_1)])

set_option maxHeartbeats 4000000 in
set_option maxRecDepth 100000 in
theorem kX3_isOldEnough (l : Launch) (D : va_G) (y : Nat → ClassId) (q : Nat → Nat) (n : Nat) (now rt : Int32) (tr : Int64) (C : Nat → CT) (ah w : Nat → Int32) (mx : MT) (rd ct : Int32) (g h : Nat → Int32) : Met l yX3_isOldEnough wsX3_isOldEnough ({ frames := 0, cells := 0, slots := 0, locals := 0 }) (va_Pc [.ref (q 3), .ref (q 5)] (rdB D (xT y) (xW y q (nI n) now rt tr C ah w mx rd ct g h))) (vp_Si (fun x => x = (zI (oldX w mx)))) 0 0 nF := by
  refine ro_start (cc := cX3_isOldEnough) (maxL := 2) (ret := (some .boolean)) (by decide) rfl (Nat.le_of_ble_eq_true rfl) ?_
  intro p e s m below meth c ls hx hb hr hml hown hlocks hts hnm hB hl
  obtain ⟨hP, hK, hN⟩ := hB
  have hown : s.vm.findClass RX3 = some m.cls := hown
  have F : CallFix p m c cX3_isOldEnough 2 s [.ref (q 3), .ref (q 5)].toArray wsX3_isOldEnough RX3 := ⟨hx, hb, hml, hown, hts⟩
  have hl : lv_has ls 2 [(0, .ref (q 3)), (1, .ref (q 5))] := hl
  have iX1 : ∀ w ∈ u_ws RX1 TX1 7, w ∈ wsX3_isOldEnough := mem_pl [3, 4, 5, 6, 7, 8, 9] rfl
  have iX3 : ∀ w ∈ u_ws RX3 TX3 1, w ∈ wsX3_isOldEnough := mem_pl [10] rfl
  refine lv_aload_n hx hb dX3_isOldEnough_0 rfl (lv_at hl 1 rfl) ?_
  refine va_get (D := D) (ci := 1) (v := .int (m_ag mx)) (C := RX1) (T := TX1) (N := 7) hx hb hts iX1 hown hK hP 5 rfl rfl 6 (by decide) (hts _ (List.mem_of_getElem? (i := 1) rfl)) (fun _ h9 => h9) rfl dX3_isOldEnough_1 ?_
  refine lv_aload_n hx hb dX3_isOldEnough_4 rfl (lv_at hl 0 rfl) ?_
  refine va_get (D := D) (ci := 3) (v := .ref (q 4)) (C := RX3) (T := TX3) (N := 1) hx hb hts iX3 hown hK hP 3 rfl rfl 0 (by decide) (hts _ (List.mem_of_getElem? (i := 2) rfl)) (fun _ h9 => h9) rfl dX3_isOldEnough_5 ?_
  refine lv_iconst (v := 1) hx hb dX3_isOldEnough_8 (by decide) ?_
  refine wa_iald hx hb hK hP 4 2 rfl rfl 1 (by decide) (by omega) (by decide) dX3_isOldEnough_9 ?_
  refine lv_icmp_lt (tgt := 17) hx hb dX3_isOldEnough_10 (by decide) (fun c_1 => ?_) (fun c_1 => ?_)
  · skip
    refine lv_iconst (v := 0) hx hb dX3_isOldEnough_17 (by decide) ?_
    exact ro_zret hx hb hr hlocks rfl dX3_isOldEnough_18 (by unfold oldX; rw [decide_eq_false (Int32.not_le.mpr c_1)]; rfl)
  · skip
    refine lv_iconst (v := 1) hx hb dX3_isOldEnough_13 (by decide) ?_
    refine lv_goto (tgt := 18) hx hb dX3_isOldEnough_14 (by decide) ?_
    exact ro_zret hx hb hr hlocks rfl dX3_isOldEnough_18 (by unfold oldX; rw [decide_eq_true (Int32.not_lt.mp c_1)]; rfl)

set_option maxHeartbeats 4000000 in
set_option maxRecDepth 100000 in
theorem kX3_isMetBy (l : Launch) (D : va_G) (y : Nat → ClassId) (q : Nat → Nat) (n : Nat) (now rt : Int32) (tr : Int64) (C : Nat → CT) (ah w : Nat → Int32) (mx : MT) (rd ct : Int32) (g h : Nat → Int32) : Met l yX3_isMetBy wsX3_isMetBy ({ frames := 1, cells := 0, slots := 0, locals := 22 }) (va_Pc [.ref (q 3), .ref (q 5)] (rdB D (xT y) (xW y q (nI n) now rt tr C ah w mx rd ct g h))) (vp_Si (fun x => x = (zI (metX w mx)))) 0 0 nF := by
  refine ro_start (cc := cX3_isMetBy) (maxL := 2) (ret := (some .boolean)) (by decide) rfl (Nat.le_of_ble_eq_true rfl) ?_
  intro p e s m below meth c ls hx hb hr hml hown hlocks hts hnm hB hl
  obtain ⟨hP, hK, hN⟩ := hB
  have hown : s.vm.findClass RX3 = some m.cls := hown
  have F : CallFix p m c cX3_isMetBy 2 s [.ref (q 3), .ref (q 5)].toArray wsX3_isMetBy RX3 := ⟨hx, hb, hml, hown, hts⟩
  have hl : lv_has ls 2 [(0, .ref (q 3)), (1, .ref (q 5))] := hl
  have iX1 : ∀ w ∈ u_ws RX1 TX1 7, w ∈ wsX3_isMetBy := mem_pl [21, 22, 23, 24, 25, 26, 27] rfl
  have iX3 : ∀ w ∈ u_ws RX3 TX3 1, w ∈ wsX3_isMetBy := mem_pl [28] rfl
  refine lv_aload_n hx hb dX3_isMetBy_0 rfl (lv_at hl 1 rfl) ?_
  refine va_get (D := D) (ci := 1) (v := .int (m_dr mx)) (C := RX1) (T := TX1) (N := 7) hx hb hts iX1 hown hK hP 5 rfl rfl 0 (by decide) (hts _ (List.mem_of_getElem? (i := 1) rfl)) (fun _ h9 => h9) rfl dX3_isMetBy_1 ?_
  refine lv_aload_n hx hb dX3_isMetBy_4 rfl (lv_at hl 0 rfl) ?_
  refine va_get (D := D) (ci := 3) (v := .ref (q 4)) (C := RX3) (T := TX3) (N := 1) hx hb hts iX3 hown hK hP 3 rfl rfl 0 (by decide) (hts _ (List.mem_of_getElem? (i := 2) rfl)) (fun _ h9 => h9) rfl dX3_isMetBy_5 ?_
  refine lv_iconst (v := 0) hx hb dX3_isMetBy_8 (by decide) ?_
  refine wa_iald hx hb hK hP 4 2 rfl rfl 0 (by decide) (by omega) (by decide) dX3_isMetBy_9 ?_
  refine lv_icmp_lt (tgt := 105) hx hb dX3_isMetBy_10 (by decide) (fun c_1 => ?_) (fun c_1 => ?_)
  · skip
    refine lv_iconst (v := 0) hx hb dX3_isMetBy_105 (by decide) ?_
    exact ro_zret hx hb hr hlocks rfl dX3_isMetBy_106 (by unfold metX; rw [decide_eq_false (Int32.not_le.mpr c_1)]; rfl)
  · skip
    refine lv_aload_n hx hb dX3_isMetBy_13 rfl (lv_at hl 0 rfl) ?_
    refine lv_aload_n hx hb dX3_isMetBy_14 rfl (lv_at hl 1 rfl) ?_
    refine ro_i (va_runV (As := [.ref (q 5)]) (rest := []) F (kX3_isOldEnough l D y q n now rt tr C ah w mx rd ct g h) (cwV 1 hts gX3_isMetBy_X3_isOldEnough rfl rfl rfl ⟨rfl, hdX3_isOldEnough⟩ ⟨(Nat.le_of_ble_eq_true rfl), (Nat.le_of_ble_eq_true rfl)⟩) ⟨rdB_blind, va_recv hK hP (ci := 3) (q0 := 3) rfl rfl, rdB_pre hP hK hN⟩ rfl rfl hl.1 rfl (lv_room (Nat.le_of_ble_eq_true rfl)) dX3_isMetBy_15 ⟨Nat.zero_le _, Nat.zero_le _⟩) ?_
    refine lv_if_eq (tgt := 105) hx hb dX3_isMetBy_18 (by decide) (fun c_2 => ?_) (fun c_2 => ?_)
    · skip
      have c_2 := zI_0 c_2
      refine lv_iconst (v := 0) hx hb dX3_isMetBy_105 (by decide) ?_
      exact ro_zret hx hb hr hlocks rfl dX3_isMetBy_106 (by unfold metX; rw [decide_eq_true (Int32.not_lt.mp c_1)]; simp [zI, c_2])
    · skip
      have c_2 := zI_1 c_2
      refine lv_aload_n hx hb dX3_isMetBy_21 rfl (lv_at hl 1 rfl) ?_
      refine lv_aload_n hx hb dX3_isMetBy_22 rfl (lv_at hl 1 rfl) ?_
      refine va_get (D := D) (ci := 1) (v := .int (m_ok mx)) (C := RX1) (T := TX1) (N := 7) hx hb hts iX1 hown hK hP 5 rfl rfl 2 (by decide) (hts _ (List.mem_of_getElem? (i := 3) rfl)) (fun _ h9 => h9) rfl dX3_isMetBy_23 ?_
      refine ro_i (va_runV (As := [.int (m_ok mx)]) (rest := []) F (kX1_evenly l D y q n now rt tr C ah w mx rd ct g h (m_ok mx)) (cwV 1 hts gX3_isMetBy_X1_evenly rfl rfl rfl ⟨rfl, hdX1_evenly⟩ ⟨(Nat.le_of_ble_eq_true rfl), (Nat.le_of_ble_eq_true rfl)⟩) ⟨rdB_blind, va_recv hK hP (ci := 1) (q0 := 5) rfl rfl, rdB_pre hP hK hN⟩ rfl rfl hl.1 rfl (lv_room (Nat.le_of_ble_eq_true rfl)) dX3_isMetBy_26 ⟨Nat.zero_le _, Nat.zero_le _⟩) ?_
      refine lv_aload_n hx hb dX3_isMetBy_29 rfl (lv_at hl 0 rfl) ?_
      refine va_get (D := D) (ci := 3) (v := .ref (q 4)) (C := RX3) (T := TX3) (N := 1) hx hb hts iX3 hown hK hP 3 rfl rfl 0 (by decide) (hts _ (List.mem_of_getElem? (i := 2) rfl)) (fun _ h9 => h9) rfl dX3_isMetBy_30 ?_
      refine lv_iconst (v := 2) hx hb dX3_isMetBy_33 (by decide) ?_
      refine wa_iald hx hb hK hP 4 2 rfl rfl 2 (by decide) (by omega) (by decide) dX3_isMetBy_34 ?_
      refine lv_aload_n hx hb dX3_isMetBy_35 rfl (lv_at hl 0 rfl) ?_
      refine va_get (D := D) (ci := 3) (v := .ref (q 4)) (C := RX3) (T := TX3) (N := 1) hx hb hts iX3 hown hK hP 3 rfl rfl 0 (by decide) (hts _ (List.mem_of_getElem? (i := 2) rfl)) (fun _ h9 => h9) rfl dX3_isMetBy_36 ?_
      refine lv_iconst (v := 3) hx hb dX3_isMetBy_39 (by decide) ?_
      refine wa_iald hx hb hK hP 4 2 rfl rfl 3 (by decide) (by omega) (by decide) dX3_isMetBy_40 ?_
      refine ro_i (va_runSN (As := [.int (evX mx (m_ok mx)), .int (w 2), .int (w 3)]) (rest := []) F (kX4_isWithin l (evX mx (m_ok mx)) (w 2) (w 3)) ⟨va_cnB 3 hts gX3_isMetBy_X4_isWithin_n36 rfl rfl rfl hN.2.2.2.1 (hts _ (List.mem_of_getElem? (i := 19) rfl)) hdX4_isWithin ⟨(Nat.le_of_ble_eq_true rfl), (Nat.le_of_ble_eq_true rfl)⟩, (hts _ (List.mem_of_getElem? (i := 18) rfl)), trivial⟩ ⟨tr_blind, tr_pre⟩ rfl rfl hl.1 rfl (lv_room (Nat.le_of_ble_eq_true rfl)) dX3_isMetBy_41 ⟨Nat.zero_le _, Nat.zero_le _⟩) ?_
      refine lv_if_eq (tgt := 105) hx hb dX3_isMetBy_44 (by decide) (fun c_3 => ?_) (fun c_3 => ?_)
      · skip
        have c_3 := zI_0 c_3
        refine lv_iconst (v := 0) hx hb dX3_isMetBy_105 (by decide) ?_
        exact ro_zret hx hb hr hlocks rfl dX3_isMetBy_106 (by unfold metX; rw [decide_eq_true (Int32.not_lt.mp c_1)]; simp [zI, c_2, c_3])
      · skip
        have c_3 := zI_1 c_3
        refine lv_aload_n hx hb dX3_isMetBy_47 rfl (lv_at hl 1 rfl) ?_
        refine lv_aload_n hx hb dX3_isMetBy_48 rfl (lv_at hl 1 rfl) ?_
        refine va_get (D := D) (ci := 1) (v := .int (m_sm mx)) (C := RX1) (T := TX1) (N := 7) hx hb hts iX1 hown hK hP 5 rfl rfl 3 (by decide) (hts _ (List.mem_of_getElem? (i := 4) rfl)) (fun _ h9 => h9) rfl dX3_isMetBy_49 ?_
        refine ro_i (va_runV (As := [.int (m_sm mx)]) (rest := []) F (kX1_evenly l D y q n now rt tr C ah w mx rd ct g h (m_sm mx)) (cwV 1 hts gX3_isMetBy_X1_evenly rfl rfl rfl ⟨rfl, hdX1_evenly⟩ ⟨(Nat.le_of_ble_eq_true rfl), (Nat.le_of_ble_eq_true rfl)⟩) ⟨rdB_blind, va_recv hK hP (ci := 1) (q0 := 5) rfl rfl, rdB_pre hP hK hN⟩ rfl rfl hl.1 rfl (lv_room (Nat.le_of_ble_eq_true rfl)) dX3_isMetBy_52 ⟨Nat.zero_le _, Nat.zero_le _⟩) ?_
        refine lv_aload_n hx hb dX3_isMetBy_55 rfl (lv_at hl 0 rfl) ?_
        refine va_get (D := D) (ci := 3) (v := .ref (q 4)) (C := RX3) (T := TX3) (N := 1) hx hb hts iX3 hown hK hP 3 rfl rfl 0 (by decide) (hts _ (List.mem_of_getElem? (i := 2) rfl)) (fun _ h9 => h9) rfl dX3_isMetBy_56 ?_
        refine lv_iconst (v := 4) hx hb dX3_isMetBy_59 (by decide) ?_
        refine wa_iald hx hb hK hP 4 2 rfl rfl 4 (by decide) (by omega) (by decide) dX3_isMetBy_60 ?_
        refine lv_aload_n hx hb dX3_isMetBy_61 rfl (lv_at hl 0 rfl) ?_
        refine va_get (D := D) (ci := 3) (v := .ref (q 4)) (C := RX3) (T := TX3) (N := 1) hx hb hts iX3 hown hK hP 3 rfl rfl 0 (by decide) (hts _ (List.mem_of_getElem? (i := 2) rfl)) (fun _ h9 => h9) rfl dX3_isMetBy_62 ?_
        refine lv_iconst (v := 5) hx hb dX3_isMetBy_65 (by decide) ?_
        refine wa_iald hx hb hK hP 4 2 rfl rfl 5 (by decide) (by omega) (by decide) dX3_isMetBy_66 ?_
        refine ro_i (va_runSN (As := [.int (evX mx (m_sm mx)), .int (w 4), .int (w 5)]) (rest := []) F (kX4_isWithin l (evX mx (m_sm mx)) (w 4) (w 5)) ⟨va_cnB 3 hts gX3_isMetBy_X4_isWithin_n36 rfl rfl rfl hN.2.2.2.1 (hts _ (List.mem_of_getElem? (i := 19) rfl)) hdX4_isWithin ⟨(Nat.le_of_ble_eq_true rfl), (Nat.le_of_ble_eq_true rfl)⟩, (hts _ (List.mem_of_getElem? (i := 18) rfl)), trivial⟩ ⟨tr_blind, tr_pre⟩ rfl rfl hl.1 rfl (lv_room (Nat.le_of_ble_eq_true rfl)) dX3_isMetBy_67 ⟨Nat.zero_le _, Nat.zero_le _⟩) ?_
        refine lv_if_eq (tgt := 105) hx hb dX3_isMetBy_70 (by decide) (fun c_4 => ?_) (fun c_4 => ?_)
        · skip
          have c_4 := zI_0 c_4
          refine lv_iconst (v := 0) hx hb dX3_isMetBy_105 (by decide) ?_
          exact ro_zret hx hb hr hlocks rfl dX3_isMetBy_106 (by unfold metX; rw [decide_eq_true (Int32.not_lt.mp c_1)]; simp [zI, c_2, c_3, c_4])
        · skip
          have c_4 := zI_1 c_4
          refine lv_aload_n hx hb dX3_isMetBy_73 rfl (lv_at hl 1 rfl) ?_
          refine lv_aload_n hx hb dX3_isMetBy_74 rfl (lv_at hl 1 rfl) ?_
          refine va_get (D := D) (ci := 1) (v := .int (m_sw mx)) (C := RX1) (T := TX1) (N := 7) hx hb hts iX1 hown hK hP 5 rfl rfl 4 (by decide) (hts _ (List.mem_of_getElem? (i := 5) rfl)) (fun _ h9 => h9) rfl dX3_isMetBy_75 ?_
          refine ro_i (va_runV (As := [.int (m_sw mx)]) (rest := []) F (kX1_evenly l D y q n now rt tr C ah w mx rd ct g h (m_sw mx)) (cwV 1 hts gX3_isMetBy_X1_evenly rfl rfl rfl ⟨rfl, hdX1_evenly⟩ ⟨(Nat.le_of_ble_eq_true rfl), (Nat.le_of_ble_eq_true rfl)⟩) ⟨rdB_blind, va_recv hK hP (ci := 1) (q0 := 5) rfl rfl, rdB_pre hP hK hN⟩ rfl rfl hl.1 rfl (lv_room (Nat.le_of_ble_eq_true rfl)) dX3_isMetBy_78 ⟨Nat.zero_le _, Nat.zero_le _⟩) ?_
          refine lv_aload_n hx hb dX3_isMetBy_81 rfl (lv_at hl 0 rfl) ?_
          refine va_get (D := D) (ci := 3) (v := .ref (q 4)) (C := RX3) (T := TX3) (N := 1) hx hb hts iX3 hown hK hP 3 rfl rfl 0 (by decide) (hts _ (List.mem_of_getElem? (i := 2) rfl)) (fun _ h9 => h9) rfl dX3_isMetBy_82 ?_
          refine lv_bipush (v := 6) hx hb dX3_isMetBy_85 (by decide) ?_
          refine wa_iald hx hb hK hP 4 2 rfl rfl 6 (by decide) (by omega) (by decide) dX3_isMetBy_87 ?_
          refine lv_aload_n hx hb dX3_isMetBy_88 rfl (lv_at hl 0 rfl) ?_
          refine va_get (D := D) (ci := 3) (v := .ref (q 4)) (C := RX3) (T := TX3) (N := 1) hx hb hts iX3 hown hK hP 3 rfl rfl 0 (by decide) (hts _ (List.mem_of_getElem? (i := 2) rfl)) (fun _ h9 => h9) rfl dX3_isMetBy_89 ?_
          refine lv_bipush (v := 7) hx hb dX3_isMetBy_92 (by decide) ?_
          refine wa_iald hx hb hK hP 4 2 rfl rfl 7 (by decide) (by omega) (by decide) dX3_isMetBy_94 ?_
          refine ro_i (va_runSN (As := [.int (evX mx (m_sw mx)), .int (w 6), .int (w 7)]) (rest := []) F (kX4_isWithin l (evX mx (m_sw mx)) (w 6) (w 7)) ⟨va_cnB 3 hts gX3_isMetBy_X4_isWithin_n36 rfl rfl rfl hN.2.2.2.1 (hts _ (List.mem_of_getElem? (i := 19) rfl)) hdX4_isWithin ⟨(Nat.le_of_ble_eq_true rfl), (Nat.le_of_ble_eq_true rfl)⟩, (hts _ (List.mem_of_getElem? (i := 18) rfl)), trivial⟩ ⟨tr_blind, tr_pre⟩ rfl rfl hl.1 rfl (lv_room (Nat.le_of_ble_eq_true rfl)) dX3_isMetBy_95 ⟨Nat.zero_le _, Nat.zero_le _⟩) ?_
          refine lv_if_eq (tgt := 105) hx hb dX3_isMetBy_98 (by decide) (fun c_5 => ?_) (fun c_5 => ?_)
          · skip
            have c_5 := zI_0 c_5
            refine lv_iconst (v := 0) hx hb dX3_isMetBy_105 (by decide) ?_
            exact ro_zret hx hb hr hlocks rfl dX3_isMetBy_106 (by unfold metX; rw [decide_eq_true (Int32.not_lt.mp c_1)]; simp [zI, c_2, c_3, c_4, c_5])
          · skip
            have c_5 := zI_1 c_5
            refine lv_iconst (v := 1) hx hb dX3_isMetBy_101 (by decide) ?_
            refine lv_goto (tgt := 106) hx hb dX3_isMetBy_102 (by decide) ?_
            exact ro_zret hx hb hr hlocks rfl dX3_isMetBy_106 (by unfold metX; rw [decide_eq_true (Int32.not_lt.mp c_1)]; simp [zI, c_2, c_3, c_4, c_5])

set_option maxHeartbeats 4000000 in
set_option maxRecDepth 100000 in
theorem kX4_isCask (l : Launch) (D : va_G) (y : Nat → ClassId) (q : Nat → Nat) (n : Nat) (now rt : Int32) (tr : Int64) (C : Nat → CT) (ah w : Nat → Int32) (mx : MT) (rd ct : Int32) (g h : Nat → Int32) (c0 : Int32) : Met l yX4_isCask wsX4_isCask ({ frames := 1, cells := 0, slots := 0, locals := 22 }) (va_Pc [.ref (q 0), .int c0] (rdB D (xT y) (xW y q (nI n) now rt tr C ah w mx rd ct g h))) (vp_Si (fun x => x = (zI (isC n c0)))) 0 0 nF := by
  refine ro_start (cc := cX4_isCask) (maxL := 2) (ret := (some .boolean)) (by decide) rfl (Nat.le_of_ble_eq_true rfl) ?_
  intro p e s m below meth c ls hx hb hr hml hown hlocks hts hnm hB hl
  obtain ⟨hP, hK, hN⟩ := hB
  have hown : s.vm.findClass RX4 = some m.cls := hown
  have F : CallFix p m c cX4_isCask 2 s [.ref (q 0), .int c0].toArray wsX4_isCask RX4 := ⟨hx, hb, hml, hown, hts⟩
  have hl : lv_has ls 2 [(0, .ref (q 0)), (1, .int c0)] := hl
  have iX4 : ∀ w ∈ u_ws RX4 TX4 9, w ∈ wsX4_isCask := mem_pl [6, 7, 8, 9, 10, 11, 12, 13, 14] rfl
  refine lv_iload_n hx hb dX4_isCask_0 rfl (lv_at hl 1 rfl) ?_
  refine lv_iconst (v := 0) hx hb dX4_isCask_1 (by decide) ?_
  refine lv_aload_n hx hb dX4_isCask_2 rfl (lv_at hl 0 rfl) ?_
  refine va_get (D := D) (ci := 4) (v := .int (nI n)) (C := RX4) (T := TX4) (N := 9) hx hb hts iX4 hown hK hP 0 rfl rfl 5 (by decide) (hts _ (List.mem_of_getElem? (i := 1) rfl)) (fun _ h9 => h9) rfl dX4_isCask_3 ?_
  refine lv_iconst (v := 1) hx hb dX4_isCask_6 (by decide) ?_
  refine lv_isub hx hb dX4_isCask_7 ?_
  refine ro_i (va_runS (As := [.int c0, .int 0, .int ((nI n) - 1)]) (rest := []) F (kX4_isWithin l c0 0 ((nI n) - 1)) (va_cwS 3 hts gX4_isCask_X4_isWithin rfl rfl rfl hdX4_isWithin ⟨(Nat.le_of_ble_eq_true rfl), (Nat.le_of_ble_eq_true rfl)⟩) ⟨tr_blind, tr_pre⟩ rfl rfl hl.1 rfl (lv_room (Nat.le_of_ble_eq_true rfl)) dX4_isCask_8 ⟨Nat.zero_le _, Nat.zero_le _⟩) ?_
  exact ro_zret hx hb hr hlocks (zI_nar _) dX4_isCask_11 rfl

set_option maxHeartbeats 4000000 in
set_option maxRecDepth 100000 in
theorem kX4_isSet (l : Launch) (D : va_G) (y : Nat → ClassId) (q : Nat → Nat) (n : Nat) (now rt : Int32) (tr : Int64) (C : Nat → CT) (ah w : Nat → Int32) (mx : MT) (rd ct : Int32) (g h : Nat → Int32) (s0 : Int32) : Met l yX4_isSet wsX4_isSet ({ frames := 1, cells := 0, slots := 0, locals := 22 }) (va_Pc [.ref (q 0), .int s0] (rdB D (xT y) (xW y q (nI n) now rt tr C ah w mx rd ct g h))) (vp_Si (fun x => x = (zI (isS n s0)))) 0 0 nF := by
  refine ro_start (cc := cX4_isSet) (maxL := 2) (ret := (some .boolean)) (by decide) rfl (Nat.le_of_ble_eq_true rfl) ?_
  intro p e s m below meth c ls hx hb hr hml hown hlocks hts hnm hB hl
  obtain ⟨hP, hK, hN⟩ := hB
  have hown : s.vm.findClass RX4 = some m.cls := hown
  have F : CallFix p m c cX4_isSet 2 s [.ref (q 0), .int s0].toArray wsX4_isSet RX4 := ⟨hx, hb, hml, hown, hts⟩
  have hl : lv_has ls 2 [(0, .ref (q 0)), (1, .int s0)] := hl
  have iX4 : ∀ w ∈ u_ws RX4 TX4 9, w ∈ wsX4_isSet := mem_pl [6, 7, 8, 9, 10, 11, 12, 13, 14] rfl
  refine lv_iload_n hx hb dX4_isSet_0 rfl (lv_at hl 1 rfl) ?_
  refine lv_iconst (v := 0) hx hb dX4_isSet_1 (by decide) ?_
  refine lv_iconst (v := 1) hx hb dX4_isSet_2 (by decide) ?_
  refine lv_aload_n hx hb dX4_isSet_3 rfl (lv_at hl 0 rfl) ?_
  refine va_get (D := D) (ci := 4) (v := .int (nI n)) (C := RX4) (T := TX4) (N := 9) hx hb hts iX4 hown hK hP 0 rfl rfl 5 (by decide) (hts _ (List.mem_of_getElem? (i := 1) rfl)) (fun _ h9 => h9) rfl dX4_isSet_4 ?_
  refine lv_ishl hx hb dX4_isSet_7 ?_
  refine lv_iconst (v := 1) hx hb dX4_isSet_8 (by decide) ?_
  refine lv_isub hx hb dX4_isSet_9 ?_
  refine ro_i (va_runS (As := [.int s0, .int 0, .int ((1 <<< ((nI n) &&& 31)) - 1)]) (rest := []) F (kX4_isWithin l s0 0 ((1 <<< ((nI n) &&& 31)) - 1)) (va_cwS 3 hts gX4_isSet_X4_isWithin rfl rfl rfl hdX4_isWithin ⟨(Nat.le_of_ble_eq_true rfl), (Nat.le_of_ble_eq_true rfl)⟩) ⟨tr_blind, tr_pre⟩ rfl rfl hl.1 rfl (lv_room (Nat.le_of_ble_eq_true rfl)) dX4_isSet_10 ⟨Nat.zero_le _, Nat.zero_le _⟩) ?_
  exact ro_zret hx hb hr hlocks (zI_nar _) dX4_isSet_13 rfl

set_option maxHeartbeats 4000000 in
set_option maxRecDepth 100000 in
theorem kX4_notEmpty (l : Launch) (D : va_G) (y : Nat → ClassId) (q : Nat → Nat) (n : Nat) (now rt : Int32) (tr : Int64) (C : Nat → CT) (ah w : Nat → Int32) (mx : MT) (rd ct : Int32) (g h : Nat → Int32) (hn : n ≤ 12) : Met l yX4_notEmpty wsX4_notEmpty ({ frames := 0, cells := 0, slots := 0, locals := 0 }) (va_Pc [.ref (q 0)] (rdB D (xT y) (xW y q (nI n) now rt tr C ah w mx rd ct g h))) (vp_Si (fun x => x = (fN (nEf C) n 0))) 0 0 nF := by
  refine ro_start (cc := cX4_notEmpty) (maxL := 3) (ret := (some .int)) (by decide) rfl (Nat.le_of_ble_eq_true rfl) ?_
  intro p e s m below meth c ls hx hb hr hml hown hlocks hts hnm hB hl
  obtain ⟨hP, hK, hN⟩ := hB
  have hown : s.vm.findClass RX4 = some m.cls := hown
  have F : CallFix p m c cX4_notEmpty 3 s [.ref (q 0)].toArray wsX4_notEmpty RX4 := ⟨hx, hb, hml, hown, hts⟩
  have hl : lv_has ls 3 [(0, .ref (q 0))] := hl
  have iX0 : ∀ w ∈ u_ws RX0 TX0 8, w ∈ wsX4_notEmpty := mem_pl [13, 14, 15, 16, 17, 18, 19, 20] rfl
  have iX4 : ∀ w ∈ u_ws RX4 TX4 9, w ∈ wsX4_notEmpty := mem_pl [4, 5, 6, 7, 8, 9, 10, 11, 12] rfl
  refine lv_iconst (v := 0) hx hb dX4_notEmpty_0 (by decide) ?_
  refine lv_istore_n (lv' := [(1, .int 0), (0, .ref (q 0))]) hx hb dX4_notEmpty_1 rfl hl (by decide) rfl (fun ls hl => ?_)
  refine lv_iconst (v := 0) hx hb dX4_notEmpty_2 (by decide) ?_
  refine lv_istore_n (lv' := [(2, .int 0), (1, .int 0), (0, .ref (q 0))]) hx hb dX4_notEmpty_3 rfl hl (by decide) rfl (fun ls hl => ?_)
  refine W.lpR (pc := 4) (τ := Nat) (fun i => i ≤ n) (fun i ls => lv_has ls 3 [(0, .ref (q 0)), (1, .int (fN (nEf C) i 0)), (2, .int (nI i))]) (fun i => n - i) ?_ 0 ls (Nat.zero_le _) (lv_sub hl [2, 1, 0] rfl)
  intro i ls hi hl ihi
  have hi : i ≤ n := hi
  have hl : lv_has ls 3 [(0, .ref (q 0)), (1, .int (fN (nEf C) i 0)), (2, .int (nI i))] := hl
  refine lv_iload_n hx hb dX4_notEmpty_4 rfl (lv_at hl 2 rfl) ?_
  refine lv_aload_n hx hb dX4_notEmpty_5 rfl (lv_at hl 0 rfl) ?_
  refine va_get (D := D) (ci := 4) (v := .int (nI n)) (C := RX4) (T := TX4) (N := 9) hx hb hts iX4 hown hK hP 0 rfl rfl 5 (by decide) (hts _ (List.mem_of_getElem? (i := 1) rfl)) (fun _ h9 => h9) rfl dX4_notEmpty_6 ?_
  refine lv_icmp_ge (tgt := 33) hx hb dX4_notEmpty_9 (by decide) (fun c_1 => ?_) (fun c_1 => ?_)
  · skip
    have c_1 : n ≤ i := (nI_leI (a := n) (b := i) (by omega) (by omega)).mp c_1
    refine lv_iload_n hx hb dX4_notEmpty_33 rfl (lv_at hl 1 rfl) ?_
    exact ro_iret hx hb hr hlocks dX4_notEmpty_34 (by rw [Nat.le_antisymm hi c_1])
  · skip
    have c_1 : ¬ n ≤ i := fun h => c_1 ((nI_leI (a := n) (b := i) (by omega) (by omega)).mpr h)
    refine lv_aload_n hx hb dX4_notEmpty_12 rfl (lv_at hl 0 rfl) ?_
    refine va_get (D := D) (ci := 4) (v := .ref (q 1)) (C := RX4) (T := TX4) (N := 9) hx hb hts iX4 hown hK hP 0 rfl rfl 0 (by decide) (hts _ (List.mem_of_getElem? (i := 2) rfl)) (fun _ h9 => h9) rfl dX4_notEmpty_13 ?_
    refine lv_iload_n hx hb dX4_notEmpty_16 rfl (lv_at hl 2 rfl) ?_
    refine wa_aldq hx hb hK hP 1 0 rfl rfl i rfl (by omega) (by decide) rfl dX4_notEmpty_17 ?_
    refine va_get (D := D) (ci := 0) (v := .int (c_dr (C i))) (C := RX0) (T := TX0) (N := 8) hx hb hts iX0 hown hK hP (9 + i) (xp_at rfl (by omega)) rfl 1 (by decide) (hts _ (List.mem_of_getElem? (i := 3) rfl)) (fun _ h9 => h9) rfl dX4_notEmpty_18 ?_
    refine lv_if_le (tgt := 27) hx hb dX4_notEmpty_21 (by decide) (fun c_2 => ?_) (fun c_2 => ?_)
    · skip
      refine lv_iinc (v := (nI i + 1)) (lv' := [(2, .int (nI i + 1)), (0, .ref (q 0)), (1, .int (fN (nEf C) i 0))]) hx hb dX4_notEmpty_27 hl (k := 2) rfl rfl (by decide) rfl (fun ls hl => ?_)
      refine lv_goto (tgt := 4) hx hb dX4_notEmpty_30 (by decide) ?_
      exact ihi (i + 1) ls (by show n - (i + 1) < n - i; omega) (by show i + 1 ≤ n; omega) (lv_sub hl [1, 2, 0] (by
        show ([(0, .ref (q 0)), (1, .int (fN (nEf C) i 0)), (2, .int (nI i + 1))] : List (Nat × Value)) = [(0, .ref (q 0)), (1, .int (fN (nEf C) (i + 1) 0)), (2, .int (nI (i + 1)))]
        have e1 : fN (nEf C) (i + 1) 0 = fN (nEf C) i 0 := by rw [fN_s]; unfold nEf; simp [c_2]
        rw [e1]
        rw [← nI_1]))
    · skip
      refine lv_iinc (v := (fN (nEf C) i 0 + 1)) (lv' := [(1, .int (fN (nEf C) i 0 + 1)), (0, .ref (q 0)), (2, .int (nI i))]) hx hb dX4_notEmpty_24 hl (k := 1) rfl rfl (by decide) rfl (fun ls hl => ?_)
      refine lv_iinc (v := (nI i + 1)) (lv' := [(2, .int (nI i + 1)), (1, .int (fN (nEf C) i 0 + 1)), (0, .ref (q 0))]) hx hb dX4_notEmpty_27 hl (k := 2) rfl rfl (by decide) rfl (fun ls hl => ?_)
      refine lv_goto (tgt := 4) hx hb dX4_notEmpty_30 (by decide) ?_
      exact ihi (i + 1) ls (by show n - (i + 1) < n - i; omega) (by show i + 1 ≤ n; omega) (lv_sub hl [2, 1, 0] (by
        show ([(0, .ref (q 0)), (1, .int (fN (nEf C) i 0 + 1)), (2, .int (nI i + 1))] : List (Nat × Value)) = [(0, .ref (q 0)), (1, .int (fN (nEf C) (i + 1) 0)), (2, .int (nI (i + 1)))]
        have e1 : fN (nEf C) (i + 1) 0 = (fN (nEf C) i 0 + 1) := by rw [fN_s]; unfold nEf; simp [c_2]
        rw [e1]
        rw [← nI_1]))

set_option maxHeartbeats 4000000 in
set_option maxRecDepth 100000 in
theorem kX4_allDrops (l : Launch) (D : va_G) (y : Nat → ClassId) (q : Nat → Nat) (n : Nat) (now rt : Int32) (tr : Int64) (C : Nat → CT) (ah w : Nat → Int32) (mx : MT) (rd ct : Int32) (g h : Nat → Int32) (hn : n ≤ 12) : Met l yX4_allDrops wsX4_allDrops ({ frames := 0, cells := 0, slots := 0, locals := 0 }) (va_Pc [.ref (q 0)] (rdB D (xT y) (xW y q (nI n) now rt tr C ah w mx rd ct g h))) (vp_Si (fun x => x = (fN (allf C) n 0))) 0 0 nF := by
  refine ro_start (cc := cX4_allDrops) (maxL := 3) (ret := (some .int)) (by decide) rfl (Nat.le_of_ble_eq_true rfl) ?_
  intro p e s m below meth c ls hx hb hr hml hown hlocks hts hnm hB hl
  obtain ⟨hP, hK, hN⟩ := hB
  have hown : s.vm.findClass RX4 = some m.cls := hown
  have F : CallFix p m c cX4_allDrops 3 s [.ref (q 0)].toArray wsX4_allDrops RX4 := ⟨hx, hb, hml, hown, hts⟩
  have hl : lv_has ls 3 [(0, .ref (q 0))] := hl
  have iX0 : ∀ w ∈ u_ws RX0 TX0 8, w ∈ wsX4_allDrops := mem_pl [13, 14, 15, 16, 17, 18, 19, 20] rfl
  have iX4 : ∀ w ∈ u_ws RX4 TX4 9, w ∈ wsX4_allDrops := mem_pl [4, 5, 6, 7, 8, 9, 10, 11, 12] rfl
  refine lv_iconst (v := 0) hx hb dX4_allDrops_0 (by decide) ?_
  refine lv_istore_n (lv' := [(1, .int 0), (0, .ref (q 0))]) hx hb dX4_allDrops_1 rfl hl (by decide) rfl (fun ls hl => ?_)
  refine lv_iconst (v := 0) hx hb dX4_allDrops_2 (by decide) ?_
  refine lv_istore_n (lv' := [(2, .int 0), (1, .int 0), (0, .ref (q 0))]) hx hb dX4_allDrops_3 rfl hl (by decide) rfl (fun ls hl => ?_)
  refine W.lpR (pc := 4) (τ := Nat) (fun i => i ≤ n) (fun i ls => lv_has ls 3 [(0, .ref (q 0)), (1, .int (fN (allf C) i 0)), (2, .int (nI i))]) (fun i => n - i) ?_ 0 ls (Nat.zero_le _) (lv_sub hl [2, 1, 0] rfl)
  intro i ls hi hl ihi
  have hi : i ≤ n := hi
  have hl : lv_has ls 3 [(0, .ref (q 0)), (1, .int (fN (allf C) i 0)), (2, .int (nI i))] := hl
  refine lv_iload_n hx hb dX4_allDrops_4 rfl (lv_at hl 2 rfl) ?_
  refine lv_aload_n hx hb dX4_allDrops_5 rfl (lv_at hl 0 rfl) ?_
  refine va_get (D := D) (ci := 4) (v := .int (nI n)) (C := RX4) (T := TX4) (N := 9) hx hb hts iX4 hown hK hP 0 rfl rfl 5 (by decide) (hts _ (List.mem_of_getElem? (i := 1) rfl)) (fun _ h9 => h9) rfl dX4_allDrops_6 ?_
  refine lv_icmp_ge (tgt := 30) hx hb dX4_allDrops_9 (by decide) (fun c_1 => ?_) (fun c_1 => ?_)
  · skip
    have c_1 : n ≤ i := (nI_leI (a := n) (b := i) (by omega) (by omega)).mp c_1
    refine lv_iload_n hx hb dX4_allDrops_30 rfl (lv_at hl 1 rfl) ?_
    exact ro_iret hx hb hr hlocks dX4_allDrops_31 (by rw [Nat.le_antisymm hi c_1])
  · skip
    have c_1 : ¬ n ≤ i := fun h => c_1 ((nI_leI (a := n) (b := i) (by omega) (by omega)).mpr h)
    refine lv_iload_n hx hb dX4_allDrops_12 rfl (lv_at hl 1 rfl) ?_
    refine lv_aload_n hx hb dX4_allDrops_13 rfl (lv_at hl 0 rfl) ?_
    refine va_get (D := D) (ci := 4) (v := .ref (q 1)) (C := RX4) (T := TX4) (N := 9) hx hb hts iX4 hown hK hP 0 rfl rfl 0 (by decide) (hts _ (List.mem_of_getElem? (i := 2) rfl)) (fun _ h9 => h9) rfl dX4_allDrops_14 ?_
    refine lv_iload_n hx hb dX4_allDrops_17 rfl (lv_at hl 2 rfl) ?_
    refine wa_aldq hx hb hK hP 1 0 rfl rfl i rfl (by omega) (by decide) rfl dX4_allDrops_18 ?_
    refine va_get (D := D) (ci := 0) (v := .int (c_dr (C i))) (C := RX0) (T := TX0) (N := 8) hx hb hts iX0 hown hK hP (9 + i) (xp_at rfl (by omega)) rfl 1 (by decide) (hts _ (List.mem_of_getElem? (i := 3) rfl)) (fun _ h9 => h9) rfl dX4_allDrops_19 ?_
    refine lv_iadd hx hb dX4_allDrops_22 ?_
    refine lv_istore_n (lv' := [(1, .int ((fN (allf C) i 0) + (c_dr (C i)))), (0, .ref (q 0)), (2, .int (nI i))]) hx hb dX4_allDrops_23 rfl hl (by decide) rfl (fun ls hl => ?_)
    refine lv_iinc (v := (nI i + 1)) (lv' := [(2, .int (nI i + 1)), (1, .int ((fN (allf C) i 0) + (c_dr (C i)))), (0, .ref (q 0))]) hx hb dX4_allDrops_24 hl (k := 2) rfl rfl (by decide) rfl (fun ls hl => ?_)
    refine lv_goto (tgt := 4) hx hb dX4_allDrops_27 (by decide) ?_
    exact ihi (i + 1) ls (by show n - (i + 1) < n - i; omega) (by show i + 1 ≤ n; omega) (lv_sub hl [2, 1, 0] (by
      show ([(0, .ref (q 0)), (1, .int ((fN (allf C) i 0) + (c_dr (C i)))), (2, .int (nI i + 1))] : List (Nat × Value)) = [(0, .ref (q 0)), (1, .int (fN (allf C) (i + 1) 0)), (2, .int (nI (i + 1)))]
      have e1 : fN (allf C) (i + 1) 0 = ((fN (allf C) i 0) + (c_dr (C i))) := rfl
      rw [e1]
      rw [← nI_1]))

set_option maxHeartbeats 4000000 in
set_option maxRecDepth 100000 in
theorem kX4_about (l : Launch) (D : va_G) (y : Nat → ClassId) (q : Nat → Nat) (n : Nat) (now rt : Int32) (tr : Int64) (C : Nat → CT) (ah w : Nat → Int32) (mx : MT) (rd ct : Int32) (g h : Nat → Int32) (c0 : Int32) (w0 : Int32) (hn : n ≤ 12) : Met l yX4_about wsX4_about ({ frames := 2, cells := 0, slots := 0, locals := 43 }) (va_Pc [.ref (q 0), .int c0, .int w0] (rdB D (xT y) (xW y q (nI n) now rt tr C ah w mx rd ct g h))) (vp_Si (fun x => x = (aboutF n C now c0 w0))) 0 0 nF := by
  refine ro_start (cc := cX4_about) (maxL := 4) (ret := (some .int)) (by decide) rfl (Nat.le_of_ble_eq_true rfl) ?_
  intro p e s m below meth c ls hx hb hr hml hown hlocks hts hnm hB hl
  obtain ⟨hP, hK, hN⟩ := hB
  have hown : s.vm.findClass RX4 = some m.cls := hown
  have F : CallFix p m c cX4_about 4 s [.ref (q 0), .int c0, .int w0].toArray wsX4_about RX4 := ⟨hx, hb, hml, hown, hts⟩
  have hl : lv_has ls 4 [(0, .ref (q 0)), (1, .int c0), (2, .int w0)] := hl
  have iX0 : ∀ w ∈ u_ws RX0 TX0 8, w ∈ wsX4_about := mem_pl [42, 43, 44, 45, 46, 47, 48, 49] rfl
  have iX4 : ∀ w ∈ u_ws RX4 TX4 9, w ∈ wsX4_about := mem_pl [33, 34, 35, 36, 37, 38, 39, 40, 41] rfl
  refine lv_aload_n hx hb dX4_about_0 rfl (lv_at hl 0 rfl) ?_
  refine lv_iload_n hx hb dX4_about_1 rfl (lv_at hl 1 rfl) ?_
  refine ro_i (va_runV (As := [.int c0]) (rest := []) F (kX4_isCask l D y q n now rt tr C ah w mx rd ct g h c0) (cwV 1 hts gX4_about_X4_isCask rfl rfl rfl ⟨rfl, hdX4_isCask⟩ ⟨(Nat.le_of_ble_eq_true rfl), (Nat.le_of_ble_eq_true rfl)⟩) ⟨rdB_blind, va_recv hK hP (ci := 4) (q0 := 0) rfl rfl, rdB_pre hP hK hN⟩ rfl rfl hl.1 rfl (lv_room (Nat.le_of_ble_eq_true rfl)) dX4_about_2 ⟨Nat.zero_le _, Nat.zero_le _⟩) ?_
  refine lv_if_ne (tgt := 10) hx hb dX4_about_5 (by decide) (fun c_1 => ?_) (fun c_1 => ?_)
  · skip
    have c_1 := zI_1 c_1
    obtain ⟨j, hzj, rfl⟩ := isC_of hn c_1
    have ej : (nI j).toNatClampNeg = j := nI_clamp (by omega)
    refine lv_aload_n hx hb dX4_about_10 rfl (lv_at hl 0 rfl) ?_
    refine va_get (D := D) (ci := 4) (v := .ref (q 1)) (C := RX4) (T := TX4) (N := 9) hx hb hts iX4 hown hK hP 0 rfl rfl 0 (by decide) (hts _ (List.mem_of_getElem? (i := 1) rfl)) (fun _ h9 => h9) rfl dX4_about_11 ?_
    refine lv_iload_n hx hb dX4_about_14 rfl (lv_at hl 1 rfl) ?_
    refine wa_aldq hx hb hK hP 1 0 rfl rfl j rfl (by omega) (by decide) rfl dX4_about_15 ?_
    refine lv_astore_n (lv' := [(3, .ref (q (9 + j))), (0, .ref (q 0)), (1, .int (nI j)), (2, .int w0)]) hx hb dX4_about_16 rfl hl (by decide) rfl (fun ls hl => ?_)
    refine lv_iload_n hx hb dX4_about_17 rfl (lv_at hl 3 rfl) ?_
    by_cases t_2 : w0 = 0
    · skip
      subst t_2
      refine lv_tableIn (off := 50) (tgt := 68) hx hb dX4_about_18 (by decide) (by decide) rfl (by decide) ?_
      refine lv_aload_n hx hb dX4_about_68 rfl (lv_at hl 0 rfl) ?_
      refine va_get (D := D) (ci := 0) (v := .int (c_dr (C j))) (C := RX0) (T := TX0) (N := 8) hx hb hts iX0 hown hK hP (9 + j) (xp_at rfl (by omega)) rfl 1 (by decide) (hts _ (List.mem_of_getElem? (i := 2) rfl)) (fun _ h9 => h9) rfl dX4_about_69 ?_
      exact ro_iret hx hb hr hlocks dX4_about_72 (by simp [aboutF, aboutX, costX, c_1, ej])
    by_cases t_3 : w0 = 1
    · skip
      subst t_3
      refine lv_tableIn (off := 55) (tgt := 73) hx hb dX4_about_18 (by decide) (by decide) rfl (by decide) ?_
      refine lv_aload_n hx hb dX4_about_73 rfl (lv_at hl 0 rfl) ?_
      refine va_get (D := D) (ci := 0) (v := .int (c_sg (C j))) (C := RX0) (T := TX0) (N := 8) hx hb hts iX0 hown hK hP (9 + j) (xp_at rfl (by omega)) rfl 2 (by decide) (hts _ (List.mem_of_getElem? (i := 3) rfl)) (fun _ h9 => h9) rfl dX4_about_74 ?_
      exact ro_iret hx hb hr hlocks dX4_about_77 (by simp [aboutF, aboutX, costX, c_1, ej])
    by_cases t_4 : w0 = 2
    · skip
      subst t_4
      refine lv_tableIn (off := 60) (tgt := 78) hx hb dX4_about_18 (by decide) (by decide) rfl (by decide) ?_
      refine lv_aload_n hx hb dX4_about_78 rfl (lv_at hl 0 rfl) ?_
      refine lv_aload_n hx hb dX4_about_79 rfl (lv_at hl 1 rfl) ?_
      refine va_get (D := D) (ci := 4) (v := .int now) (C := RX4) (T := TX4) (N := 9) hx hb hts iX4 hown hK hP 0 rfl rfl 6 (by decide) (hts _ (List.mem_of_getElem? (i := 4) rfl)) (fun _ h9 => h9) rfl dX4_about_80 ?_
      refine ro_i (va_runV (As := [.int now]) (rest := []) F (kX0_age l D y q n now rt tr C ah w mx rd ct g h now j (by omega)) (cwV 1 hts gX4_about_X0_age rfl rfl rfl ⟨rfl, hdX0_age⟩ ⟨(Nat.le_of_ble_eq_true rfl), (Nat.le_of_ble_eq_true rfl)⟩) ⟨rdB_blind, va_recv hK hP (ci := 0) (q0 := (9 + j)) rfl (xp_at rfl (by omega)), rdB_pre hP hK hN⟩ rfl rfl hl.1 rfl (lv_room (Nat.le_of_ble_eq_true rfl)) dX4_about_83 ⟨Nat.zero_le _, Nat.zero_le _⟩) ?_
      exact ro_iret hx hb hr hlocks dX4_about_86 (by simp [aboutF, aboutX, costX, c_1, ej])
    by_cases t_5 : w0 = 3
    · skip
      subst t_5
      refine lv_tableIn (off := 69) (tgt := 87) hx hb dX4_about_18 (by decide) (by decide) rfl (by decide) ?_
      refine lv_aload_n hx hb dX4_about_87 rfl (lv_at hl 0 rfl) ?_
      refine va_get (D := D) (ci := 0) (v := .int (c_ok (C j))) (C := RX0) (T := TX0) (N := 8) hx hb hts iX0 hown hK hP (9 + j) (xp_at rfl (by omega)) rfl 4 (by decide) (hts _ (List.mem_of_getElem? (i := 5) rfl)) (fun _ h9 => h9) rfl dX4_about_88 ?_
      exact ro_iret hx hb hr hlocks dX4_about_91 (by simp [aboutF, aboutX, costX, c_1, ej])
    by_cases t_6 : w0 = 4
    · skip
      subst t_6
      refine lv_tableIn (off := 74) (tgt := 92) hx hb dX4_about_18 (by decide) (by decide) rfl (by decide) ?_
      refine lv_aload_n hx hb dX4_about_92 rfl (lv_at hl 0 rfl) ?_
      refine va_get (D := D) (ci := 0) (v := .int (c_sm (C j))) (C := RX0) (T := TX0) (N := 8) hx hb hts iX0 hown hK hP (9 + j) (xp_at rfl (by omega)) rfl 5 (by decide) (hts _ (List.mem_of_getElem? (i := 6) rfl)) (fun _ h9 => h9) rfl dX4_about_93 ?_
      exact ro_iret hx hb hr hlocks dX4_about_96 (by simp [aboutF, aboutX, costX, c_1, ej])
    by_cases t_7 : w0 = 5
    · skip
      subst t_7
      refine lv_tableIn (off := 79) (tgt := 97) hx hb dX4_about_18 (by decide) (by decide) rfl (by decide) ?_
      refine lv_aload_n hx hb dX4_about_97 rfl (lv_at hl 0 rfl) ?_
      refine va_get (D := D) (ci := 0) (v := .int (c_sw (C j))) (C := RX0) (T := TX0) (N := 8) hx hb hts iX0 hown hK hP (9 + j) (xp_at rfl (by omega)) rfl 6 (by decide) (hts _ (List.mem_of_getElem? (i := 7) rfl)) (fun _ h9 => h9) rfl dX4_about_98 ?_
      exact ro_iret hx hb hr hlocks dX4_about_101 (by simp [aboutF, aboutX, costX, c_1, ej])
    by_cases t_8 : w0 = 6
    · skip
      subst t_8
      refine lv_tableIn (off := 84) (tgt := 102) hx hb dX4_about_18 (by decide) (by decide) rfl (by decide) ?_
      refine lv_aload_n hx hb dX4_about_102 rfl (lv_at hl 0 rfl) ?_
      refine va_get (D := D) (ci := 0) (v := .int (c_kd (C j))) (C := RX0) (T := TX0) (N := 8) hx hb hts iX0 hown hK hP (9 + j) (xp_at rfl (by omega)) rfl 0 (by decide) (hts _ (List.mem_of_getElem? (i := 8) rfl)) (fun _ h9 => h9) rfl dX4_about_103 ?_
      exact ro_iret hx hb hr hlocks dX4_about_106 (by simp [aboutF, aboutX, costX, c_1, ej])
    by_cases t_9 : w0 = 7
    · skip
      subst t_9
      refine lv_tableIn (off := 89) (tgt := 107) hx hb dX4_about_18 (by decide) (by decide) rfl (by decide) ?_
      refine lv_aload_n hx hb dX4_about_107 rfl (lv_at hl 0 rfl) ?_
      refine va_get (D := D) (ci := 0) (v := .int (c_fl (C j))) (C := RX0) (T := TX0) (N := 8) hx hb hts iX0 hown hK hP (9 + j) (xp_at rfl (by omega)) rfl 3 (by decide) (hts _ (List.mem_of_getElem? (i := 9) rfl)) (fun _ h9 => h9) rfl dX4_about_108 ?_
      exact ro_iret hx hb hr hlocks dX4_about_111 (by simp [aboutF, aboutX, costX, c_1, ej])
    by_cases t_10 : w0 = 8
    · skip
      subst t_10
      refine lv_tableIn (off := 94) (tgt := 112) hx hb dX4_about_18 (by decide) (by decide) rfl (by decide) ?_
      refine lv_aload_n hx hb dX4_about_112 rfl (lv_at hl 0 rfl) ?_
      refine lv_aload_n hx hb dX4_about_113 rfl (lv_at hl 1 rfl) ?_
      refine va_get (D := D) (ci := 4) (v := .int now) (C := RX4) (T := TX4) (N := 9) hx hb hts iX4 hown hK hP 0 rfl rfl 6 (by decide) (hts _ (List.mem_of_getElem? (i := 4) rfl)) (fun _ h9 => h9) rfl dX4_about_114 ?_
      refine ro_i (va_runV (As := [.int now]) (rest := []) F (kX0_cost l D y q n now rt tr C ah w mx rd ct g h now j (by omega)) (cwV 1 hts gX4_about_X0_cost rfl rfl rfl ⟨rfl, hdX0_cost⟩ ⟨(Nat.le_of_ble_eq_true rfl), (Nat.le_of_ble_eq_true rfl)⟩) ⟨rdB_blind, va_recv hK hP (ci := 0) (q0 := (9 + j)) rfl (xp_at rfl (by omega)), rdB_pre hP hK hN⟩ rfl rfl hl.1 rfl (lv_room (Nat.le_of_ble_eq_true rfl)) dX4_about_117 ⟨Nat.zero_le _, Nat.zero_le _⟩) ?_
      exact ro_iret hx hb hr hlocks dX4_about_120 (by simp [aboutF, aboutX, costX, c_1, ej])
    have u_2 : ¬ (w0).toInt = 0 := fun h => t_2 (Int32.toInt_inj.mp h)
    have u_3 : ¬ (w0).toInt = 1 := fun h => t_3 (Int32.toInt_inj.mp h)
    have u_4 : ¬ (w0).toInt = 2 := fun h => t_4 (Int32.toInt_inj.mp h)
    have u_5 : ¬ (w0).toInt = 3 := fun h => t_5 (Int32.toInt_inj.mp h)
    have u_6 : ¬ (w0).toInt = 4 := fun h => t_6 (Int32.toInt_inj.mp h)
    have u_7 : ¬ (w0).toInt = 5 := fun h => t_7 (Int32.toInt_inj.mp h)
    have u_8 : ¬ (w0).toInt = 6 := fun h => t_8 (Int32.toInt_inj.mp h)
    have u_9 : ¬ (w0).toInt = 7 := fun h => t_9 (Int32.toInt_inj.mp h)
    have u_10 : ¬ (w0).toInt = 8 := fun h => t_10 (Int32.toInt_inj.mp h)
    refine lv_tableOut (tgt := 121) hx hb dX4_about_18 (by omega) (by decide) ?_
    refine lv_iconst (v := (-1)) hx hb dX4_about_121 (by decide) ?_
    exact ro_iret hx hb hr hlocks dX4_about_122 (by simp [aboutF, aboutX, costX, c_1, ej, t_2, t_3, t_4, t_5, t_6, t_7, t_8, t_9, t_10])
  · skip
    have c_1 := zI_0 c_1
    refine lv_iconst (v := (-1)) hx hb dX4_about_8 (by decide) ?_
    exact ro_iret hx hb hr hlocks dX4_about_9 (by simp [aboutF, aboutX, costX, c_1])

set_option maxHeartbeats 4000000 in
set_option maxRecDepth 100000 in
theorem kX4_cut (l : Launch) (D : va_G) (y : Nat → ClassId) (q : Nat → Nat) (n : Nat) (now rt : Int32) (tr : Int64) (C : Nat → CT) (ah w : Nat → Int32) (mx : MT) (rd ct : Int32) (g h : Nat → Int32) (c0 : Int32) (t0 : Int32) (hn : n ≤ 12) : Met l yX4_cut wsX4_cut ({ frames := 2, cells := 0, slots := 0, locals := 43 }) (va_Pc [.ref (q 0), .int c0, .int t0] (rdB D (xT y) (xW y q (nI n) now rt tr C ah w mx rd ct g h))) (vp_Si (fun x => x = (cutF n C c0 t0))) 0 0 nF := by
  refine ro_start (cc := cX4_cut) (maxL := 4) (ret := (some .int)) (by decide) rfl (Nat.le_of_ble_eq_true rfl) ?_
  intro p e s m below meth c ls hx hb hr hml hown hlocks hts hnm hB hl
  obtain ⟨hP, hK, hN⟩ := hB
  have hown : s.vm.findClass RX4 = some m.cls := hown
  have F : CallFix p m c cX4_cut 4 s [.ref (q 0), .int c0, .int t0].toArray wsX4_cut RX4 := ⟨hx, hb, hml, hown, hts⟩
  have hl : lv_has ls 4 [(0, .ref (q 0)), (1, .int c0), (2, .int t0)] := hl
  have iX0 : ∀ w ∈ u_ws RX0 TX0 8, w ∈ wsX4_cut := mem_pl [29, 30, 31, 32, 33, 34, 35, 36] rfl
  have iX4 : ∀ w ∈ u_ws RX4 TX4 9, w ∈ wsX4_cut := mem_pl [20, 21, 22, 23, 24, 25, 26, 27, 28] rfl
  refine lv_aload_n hx hb dX4_cut_0 rfl (lv_at hl 0 rfl) ?_
  refine lv_iload_n hx hb dX4_cut_1 rfl (lv_at hl 1 rfl) ?_
  refine ro_i (va_runV (As := [.int c0]) (rest := []) F (kX4_isCask l D y q n now rt tr C ah w mx rd ct g h c0) (cwV 1 hts gX4_cut_X4_isCask rfl rfl rfl ⟨rfl, hdX4_isCask⟩ ⟨(Nat.le_of_ble_eq_true rfl), (Nat.le_of_ble_eq_true rfl)⟩) ⟨rdB_blind, va_recv hK hP (ci := 4) (q0 := 0) rfl rfl, rdB_pre hP hK hN⟩ rfl rfl hl.1 rfl (lv_room (Nat.le_of_ble_eq_true rfl)) dX4_cut_2 ⟨Nat.zero_le _, Nat.zero_le _⟩) ?_
  refine lv_if_eq (tgt := 21) hx hb dX4_cut_5 (by decide) (fun c_1 => ?_) (fun c_1 => ?_)
  · skip
    have c_1 := zI_0 c_1
    refine lv_iconst (v := (-1)) hx hb dX4_cut_21 (by decide) ?_
    exact ro_iret hx hb hr hlocks dX4_cut_22 (by simp [cutF, c_1])
  · skip
    have c_1 := zI_1 c_1
    obtain ⟨j, hzj, rfl⟩ := isC_of hn c_1
    have ej : (nI j).toNatClampNeg = j := nI_clamp (by omega)
    refine lv_iload_n hx hb dX4_cut_8 rfl (lv_at hl 2 rfl) ?_
    refine lv_sipush (v := 300) hx hb dX4_cut_9 (by decide) ?_
    refine lv_sipush (v := 700) hx hb dX4_cut_12 (by decide) ?_
    refine ro_i (va_runS (As := [.int t0, .int 300, .int 700]) (rest := []) F (kX4_isWithin l t0 300 700) (va_cwS 3 hts gX4_cut_X4_isWithin rfl rfl rfl hdX4_isWithin ⟨(Nat.le_of_ble_eq_true rfl), (Nat.le_of_ble_eq_true rfl)⟩) ⟨tr_blind, tr_pre⟩ rfl rfl hl.1 rfl (lv_room (Nat.le_of_ble_eq_true rfl)) dX4_cut_15 ⟨Nat.zero_le _, Nat.zero_le _⟩) ?_
    refine lv_if_ne (tgt := 23) hx hb dX4_cut_18 (by decide) (fun c_2 => ?_) (fun c_2 => ?_)
    · skip
      have c_2 := zI_1 c_2
      refine lv_iconst (v := 0) hx hb dX4_cut_23 (by decide) ?_
      refine lv_aload_n hx hb dX4_cut_24 rfl (lv_at hl 0 rfl) ?_
      refine va_get (D := D) (ci := 4) (v := .ref (q 1)) (C := RX4) (T := TX4) (N := 9) hx hb hts iX4 hown hK hP 0 rfl rfl 0 (by decide) (hts _ (List.mem_of_getElem? (i := 1) rfl)) (fun _ h9 => h9) rfl dX4_cut_25 ?_
      refine lv_iload_n hx hb dX4_cut_28 rfl (lv_at hl 1 rfl) ?_
      refine wa_aldq hx hb hK hP 1 0 rfl rfl j rfl (by omega) (by decide) rfl dX4_cut_29 ?_
      refine va_get (D := D) (ci := 0) (v := .int (c_sg (C j))) (C := RX0) (T := TX0) (N := 8) hx hb hts iX0 hown hK hP (9 + j) (xp_at rfl (by omega)) rfl 2 (by decide) (hts _ (List.mem_of_getElem? (i := 2) rfl)) (fun _ h9 => h9) rfl dX4_cut_30 ?_
      refine lv_iload_n hx hb dX4_cut_33 rfl (lv_at hl 2 rfl) ?_
      refine lv_isub hx hb dX4_cut_34 ?_
      refine wm_max hx hb (hml.trans hl.1.symm) hown (hts _ (List.mem_of_getElem? (i := 3) rfl)) (hts _ (List.mem_of_getElem? (i := 4) rfl)) (hts _ (List.mem_of_getElem? (i := 5) rfl)) (hts _ (List.mem_of_getElem? (i := 6) rfl)) (Nat.le_of_ble_eq_true rfl) (Nat.le_of_ble_eq_true rfl) (Nat.zero_le _) (Nat.zero_le _) dX4_cut_35 ?_
      refine lv_istore_n (lv' := [(3, .int (mxI 0 ((c_sg (C j)) - t0))), (0, .ref (q 0)), (1, .int (nI j)), (2, .int t0)]) hx hb dX4_cut_38 rfl hl (by decide) rfl (fun ls hl => ?_)
      refine lv_aload_n hx hb dX4_cut_39 rfl (lv_at hl 1 rfl) ?_
      refine va_get (D := D) (ci := 4) (v := .ref (q 1)) (C := RX4) (T := TX4) (N := 9) hx hb hts iX4 hown hK hP 0 rfl rfl 0 (by decide) (hts _ (List.mem_of_getElem? (i := 1) rfl)) (fun _ h9 => h9) rfl dX4_cut_40 ?_
      refine lv_iload_n hx hb dX4_cut_43 rfl (lv_at hl 2 rfl) ?_
      refine wa_aldq hx hb hK hP 1 0 rfl rfl j rfl (by omega) (by decide) rfl dX4_cut_44 ?_
      refine va_get (D := D) (ci := 0) (v := .int (c_dr (C j))) (C := RX0) (T := TX0) (N := 8) hx hb hts iX0 hown hK hP (9 + j) (xp_at rfl (by omega)) rfl 1 (by decide) (hts _ (List.mem_of_getElem? (i := 7) rfl)) (fun _ h9 => h9) rfl dX4_cut_45 ?_
      refine lv_iload_n hx hb dX4_cut_48 rfl (lv_at hl 0 rfl) ?_
      refine lv_imul hx hb dX4_cut_49 ?_
      refine lv_iload_n hx hb dX4_cut_50 rfl (lv_at hl 3 rfl) ?_
      refine ro_i (va_runS (As := [.int ((c_dr (C j)) * (mxI 0 ((c_sg (C j)) - t0))), .int t0]) (rest := []) F (kX4_dividedUp l ((c_dr (C j)) * (mxI 0 ((c_sg (C j)) - t0))) t0) (va_cwS 2 hts gX4_cut_X4_dividedUp rfl rfl rfl hdX4_dividedUp ⟨(Nat.le_of_ble_eq_true rfl), (Nat.le_of_ble_eq_true rfl)⟩) ⟨tr_blind, tr_pre⟩ rfl rfl hl.1 rfl (lv_room (Nat.le_of_ble_eq_true rfl)) dX4_cut_51 ⟨Nat.zero_le _, Nat.zero_le _⟩) ?_
      exact ro_iret hx hb hr hlocks dX4_cut_54 (by simp [cutF, c_1, ej, c_2])
    · skip
      have c_2 := zI_0 c_2
      refine lv_iconst (v := (-1)) hx hb dX4_cut_21 (by decide) ?_
      exact ro_iret hx hb hr hlocks dX4_cut_22 (by simp [cutF, c_1, ej, c_2])

set_option maxHeartbeats 4000000 in
set_option maxRecDepth 100000 in
theorem kX4_duty (l : Launch) (D : va_G) (y : Nat → ClassId) (q : Nat → Nat) (n : Nat) (now rt : Int32) (tr : Int64) (C : Nat → CT) (ah w : Nat → Int32) (mx : MT) (rd ct : Int32) (g h : Nat → Int32) (s0 : Int32) (hn : n ≤ 12) : Met l yX4_duty wsX4_duty ({ frames := 2, cells := 0, slots := 0, locals := 43 }) (va_Pc [.ref (q 0), .int s0] (rdB D (xT y) (xW y q (nI n) now rt tr C ah w mx rd ct g h))) (vp_Si (fun x => x = (dutyF n C rt s0))) 0 0 nF := by
  refine ro_start (cc := cX4_duty) (maxL := 4) (ret := (some .int)) (by decide) rfl (Nat.le_of_ble_eq_true rfl) ?_
  intro p e s m below meth c ls hx hb hr hml hown hlocks hts hnm hB hl
  obtain ⟨hP, hK, hN⟩ := hB
  have hown : s.vm.findClass RX4 = some m.cls := hown
  have F : CallFix p m c cX4_duty 4 s [.ref (q 0), .int s0].toArray wsX4_duty RX4 := ⟨hx, hb, hml, hown, hts⟩
  have hl : lv_has ls 4 [(0, .ref (q 0)), (1, .int s0)] := hl
  have iX0 : ∀ w ∈ u_ws RX0 TX0 8, w ∈ wsX4_duty := mem_pl [26, 27, 28, 29, 30, 31, 32, 33] rfl
  have iX4 : ∀ w ∈ u_ws RX4 TX4 9, w ∈ wsX4_duty := mem_pl [17, 18, 19, 20, 21, 22, 23, 24, 25] rfl
  refine lv_aload_n hx hb dX4_duty_0 rfl (lv_at hl 0 rfl) ?_
  refine lv_iload_n hx hb dX4_duty_1 rfl (lv_at hl 1 rfl) ?_
  refine ro_i (va_runV (As := [.int s0]) (rest := []) F (kX4_isSet l D y q n now rt tr C ah w mx rd ct g h s0) (cwV 1 hts gX4_duty_X4_isSet rfl rfl rfl ⟨rfl, hdX4_isSet⟩ ⟨(Nat.le_of_ble_eq_true rfl), (Nat.le_of_ble_eq_true rfl)⟩) ⟨rdB_blind, va_recv hK hP (ci := 4) (q0 := 0) rfl rfl, rdB_pre hP hK hN⟩ rfl rfl hl.1 rfl (lv_room (Nat.le_of_ble_eq_true rfl)) dX4_duty_2 ⟨Nat.zero_le _, Nat.zero_le _⟩) ?_
  refine lv_if_ne (tgt := 10) hx hb dX4_duty_5 (by decide) (fun c_1 => ?_) (fun c_1 => ?_)
  · skip
    have c_1 := zI_1 c_1
    refine lv_iconst (v := 0) hx hb dX4_duty_10 (by decide) ?_
    refine lv_istore_n (lv' := [(2, .int 0), (0, .ref (q 0)), (1, .int s0)]) hx hb dX4_duty_11 rfl hl (by decide) rfl (fun ls hl => ?_)
    refine lv_iconst (v := 0) hx hb dX4_duty_12 (by decide) ?_
    refine lv_istore_n (lv' := [(3, .int 0), (2, .int 0), (0, .ref (q 0)), (1, .int s0)]) hx hb dX4_duty_13 rfl hl (by decide) rfl (fun ls hl => ?_)
    refine W.lpR (pc := 14) (τ := Nat) (fun i => i ≤ n) (fun i ls => lv_has ls 4 [(0, .ref (q 0)), (1, .int s0), (2, .int (fN (dutf C rt s0) i 0)), (3, .int (nI i))]) (fun i => n - i) ?_ 0 ls (Nat.zero_le _) (lv_sub hl [2, 3, 1, 0] rfl)
    intro i ls hi hl ihi
    have hi : i ≤ n := hi
    have hl : lv_has ls 4 [(0, .ref (q 0)), (1, .int s0), (2, .int (fN (dutf C rt s0) i 0)), (3, .int (nI i))] := hl
    refine lv_iload_n hx hb dX4_duty_14 rfl (lv_at hl 3 rfl) ?_
    refine lv_aload_n hx hb dX4_duty_15 rfl (lv_at hl 0 rfl) ?_
    refine va_get (D := D) (ci := 4) (v := .int (nI n)) (C := RX4) (T := TX4) (N := 9) hx hb hts iX4 hown hK hP 0 rfl rfl 5 (by decide) (hts _ (List.mem_of_getElem? (i := 1) rfl)) (fun _ h9 => h9) rfl dX4_duty_16 ?_
    refine lv_icmp_ge (tgt := 67) hx hb dX4_duty_19 (by decide) (fun c_2 => ?_) (fun c_2 => ?_)
    · skip
      have c_2 : n ≤ i := (nI_leI (a := n) (b := i) (by omega) (by omega)).mp c_2
      refine lv_iload_n hx hb dX4_duty_67 rfl (lv_at hl 2 rfl) ?_
      exact ro_iret hx hb hr hlocks dX4_duty_68 (by unfold dutyF; rw [if_pos c_1, Nat.le_antisymm hi c_2])
    · skip
      have c_2 : ¬ n ≤ i := fun h => c_2 ((nI_leI (a := n) (b := i) (by omega) (by omega)).mpr h)
      refine lv_iload_n hx hb dX4_duty_22 rfl (lv_at hl 1 rfl) ?_
      refine lv_iload_n hx hb dX4_duty_23 rfl (lv_at hl 3 rfl) ?_
      refine ro_i (va_runS (As := [.int s0, .int (nI i)]) (rest := []) F (kX4_holds l s0 (nI i)) (va_cwS 2 hts gX4_duty_X4_holds rfl rfl rfl hdX4_holds ⟨(Nat.le_of_ble_eq_true rfl), (Nat.le_of_ble_eq_true rfl)⟩) ⟨tr_blind, tr_pre⟩ rfl rfl hl.1 rfl (lv_room (Nat.le_of_ble_eq_true rfl)) dX4_duty_24 ⟨Nat.zero_le _, Nat.zero_le _⟩) ?_
      refine lv_if_eq (tgt := 61) hx hb dX4_duty_27 (by decide) (fun c_3 => ?_) (fun c_3 => ?_)
      · skip
        have c_3 := zI_0 c_3
        refine lv_iinc (v := (nI i + 1)) (lv' := [(3, .int (nI i + 1)), (0, .ref (q 0)), (1, .int s0), (2, .int (fN (dutf C rt s0) i 0))]) hx hb dX4_duty_61 hl (k := 3) rfl rfl (by decide) rfl (fun ls hl => ?_)
        refine lv_goto (tgt := 14) hx hb dX4_duty_64 (by decide) ?_
        exact ihi (i + 1) ls (by show n - (i + 1) < n - i; omega) (by show i + 1 ≤ n; omega) (lv_sub hl [1, 2, 3, 0] (by
          show ([(0, .ref (q 0)), (1, .int s0), (2, .int (fN (dutf C rt s0) i 0)), (3, .int (nI i + 1))] : List (Nat × Value)) = [(0, .ref (q 0)), (1, .int s0), (2, .int (fN (dutf C rt s0) (i + 1) 0)), (3, .int (nI (i + 1)))]
          have e1 : fN (dutf C rt s0) (i + 1) 0 = fN (dutf C rt s0) i 0 := by rw [fN_s]; unfold dutf; simp [c_3]
          rw [e1]
          rw [← nI_1]))
      · skip
        have c_3 := zI_1 c_3
        refine lv_iload_n hx hb dX4_duty_30 rfl (lv_at hl 2 rfl) ?_
        refine lv_aload_n hx hb dX4_duty_31 rfl (lv_at hl 0 rfl) ?_
        refine va_get (D := D) (ci := 4) (v := .ref (q 1)) (C := RX4) (T := TX4) (N := 9) hx hb hts iX4 hown hK hP 0 rfl rfl 0 (by decide) (hts _ (List.mem_of_getElem? (i := 2) rfl)) (fun _ h9 => h9) rfl dX4_duty_32 ?_
        refine lv_iload_n hx hb dX4_duty_35 rfl (lv_at hl 3 rfl) ?_
        refine wa_aldq hx hb hK hP 1 0 rfl rfl i rfl (by omega) (by decide) rfl dX4_duty_36 ?_
        refine va_get (D := D) (ci := 0) (v := .int (c_dr (C i))) (C := RX0) (T := TX0) (N := 8) hx hb hts iX0 hown hK hP (9 + i) (xp_at rfl (by omega)) rfl 1 (by decide) (hts _ (List.mem_of_getElem? (i := 3) rfl)) (fun _ h9 => h9) rfl dX4_duty_37 ?_
        refine lv_aload_n hx hb dX4_duty_40 rfl (lv_at hl 0 rfl) ?_
        refine va_get (D := D) (ci := 4) (v := .ref (q 1)) (C := RX4) (T := TX4) (N := 9) hx hb hts iX4 hown hK hP 0 rfl rfl 0 (by decide) (hts _ (List.mem_of_getElem? (i := 2) rfl)) (fun _ h9 => h9) rfl dX4_duty_41 ?_
        refine lv_iload_n hx hb dX4_duty_44 rfl (lv_at hl 3 rfl) ?_
        refine wa_aldq hx hb hK hP 1 0 rfl rfl i rfl (by omega) (by decide) rfl dX4_duty_45 ?_
        refine va_get (D := D) (ci := 0) (v := .int (c_sg (C i))) (C := RX0) (T := TX0) (N := 8) hx hb hts iX0 hown hK hP (9 + i) (xp_at rfl (by omega)) rfl 2 (by decide) (hts _ (List.mem_of_getElem? (i := 4) rfl)) (fun _ h9 => h9) rfl dX4_duty_46 ?_
        refine lv_imul hx hb dX4_duty_49 ?_
        refine lv_sipush (v := 1000) hx hb dX4_duty_50 (by decide) ?_
        refine lv_idiv hx hb dX4_duty_53 (by decide) ?_
        refine lv_aload_n hx hb dX4_duty_54 rfl (lv_at hl 0 rfl) ?_
        refine va_get (D := D) (ci := 4) (v := .int rt) (C := RX4) (T := TX4) (N := 9) hx hb hts iX4 hown hK hP 0 rfl rfl 7 (by decide) (hts _ (List.mem_of_getElem? (i := 5) rfl)) (fun _ h9 => h9) rfl dX4_duty_55 ?_
        refine lv_imul hx hb dX4_duty_58 ?_
        refine lv_iadd hx hb dX4_duty_59 ?_
        refine lv_istore_n (lv' := [(2, .int ((fN (dutf C rt s0) i 0) + ((((c_dr (C i)) * (c_sg (C i))) / 1000) * rt))), (0, .ref (q 0)), (1, .int s0), (3, .int (nI i))]) hx hb dX4_duty_60 rfl hl (by decide) rfl (fun ls hl => ?_)
        refine lv_iinc (v := (nI i + 1)) (lv' := [(3, .int (nI i + 1)), (2, .int ((fN (dutf C rt s0) i 0) + ((((c_dr (C i)) * (c_sg (C i))) / 1000) * rt))), (0, .ref (q 0)), (1, .int s0)]) hx hb dX4_duty_61 hl (k := 3) rfl rfl (by decide) rfl (fun ls hl => ?_)
        refine lv_goto (tgt := 14) hx hb dX4_duty_64 (by decide) ?_
        exact ihi (i + 1) ls (by show n - (i + 1) < n - i; omega) (by show i + 1 ≤ n; omega) (lv_sub hl [2, 3, 1, 0] (by
          show ([(0, .ref (q 0)), (1, .int s0), (2, .int ((fN (dutf C rt s0) i 0) + ((((c_dr (C i)) * (c_sg (C i))) / 1000) * rt))), (3, .int (nI i + 1))] : List (Nat × Value)) = [(0, .ref (q 0)), (1, .int s0), (2, .int (fN (dutf C rt s0) (i + 1) 0)), (3, .int (nI (i + 1)))]
          have e1 : fN (dutf C rt s0) (i + 1) 0 = ((fN (dutf C rt s0) i 0) + ((((c_dr (C i)) * (c_sg (C i))) / 1000) * rt)) := by rw [fN_s]; unfold dutf; simp [c_3]
          rw [e1]
          rw [← nI_1]))
  · skip
    have c_1 := zI_0 c_1
    refine lv_iconst (v := (-1)) hx hb dX4_duty_8 (by decide) ?_
    exact ro_iret hx hb hr hlocks dX4_duty_9 (by simp [dutyF, c_1])

set_option maxHeartbeats 4000000 in
set_option maxRecDepth 100000 in
theorem kX4_count (l : Launch) (D : va_G) (y : Nat → ClassId) (q : Nat → Nat) (n : Nat) (now rt : Int32) (tr : Int64) (C : Nat → CT) (ah w : Nat → Int32) (mx : MT) (rd ct : Int32) (g h : Nat → Int32) (w0 : Int32) (hn : n ≤ 12) : Met l yX4_count wsX4_count ({ frames := 1, cells := 0, slots := 0, locals := 22 }) (va_Pc [.ref (q 0), .int w0] (rdB D (xT y) (xW y q (nI n) now rt tr C ah w mx rd ct g h))) (vp_Si (fun x => x = (countF n now rd rt C w0))) 0 0 nF := by
  refine ro_start (cc := cX4_count) (maxL := 2) (ret := (some .int)) (by decide) rfl (Nat.le_of_ble_eq_true rfl) ?_
  intro p e s m below meth c ls hx hb hr hml hown hlocks hts hnm hB hl
  obtain ⟨hP, hK, hN⟩ := hB
  have hown : s.vm.findClass RX4 = some m.cls := hown
  have F : CallFix p m c cX4_count 2 s [.ref (q 0), .int w0].toArray wsX4_count RX4 := ⟨hx, hb, hml, hown, hts⟩
  have hl : lv_has ls 2 [(0, .ref (q 0)), (1, .int w0)] := hl
  have iX2 : ∀ w ∈ u_ws RX2 TX2 4, w ∈ wsX4_count := mem_pl [26, 27, 28, 29] rfl
  have iX4 : ∀ w ∈ u_ws RX4 TX4 9, w ∈ wsX4_count := mem_pl [17, 18, 19, 20, 21, 22, 23, 24, 25] rfl
  refine lv_iload_n hx hb dX4_count_0 rfl (lv_at hl 1 rfl) ?_
  by_cases t_1 : w0 = 0
  · skip
    subst t_1
    refine lv_tableIn (off := 39) (tgt := 40) hx hb dX4_count_1 (by decide) (by decide) rfl (by decide) ?_
    refine lv_aload_n hx hb dX4_count_40 rfl (lv_at hl 0 rfl) ?_
    refine va_get (D := D) (ci := 4) (v := .int now) (C := RX4) (T := TX4) (N := 9) hx hb hts iX4 hown hK hP 0 rfl rfl 6 (by decide) (hts _ (List.mem_of_getElem? (i := 1) rfl)) (fun _ h9 => h9) rfl dX4_count_41 ?_
    exact ro_iret hx hb hr hlocks dX4_count_44 (by simp [countF])
  by_cases t_2 : w0 = 1
  · skip
    subst t_2
    refine lv_tableIn (off := 44) (tgt := 45) hx hb dX4_count_1 (by decide) (by decide) rfl (by decide) ?_
    refine lv_aload_n hx hb dX4_count_45 rfl (lv_at hl 0 rfl) ?_
    refine va_get (D := D) (ci := 4) (v := .int (nI n)) (C := RX4) (T := TX4) (N := 9) hx hb hts iX4 hown hK hP 0 rfl rfl 5 (by decide) (hts _ (List.mem_of_getElem? (i := 2) rfl)) (fun _ h9 => h9) rfl dX4_count_46 ?_
    exact ro_iret hx hb hr hlocks dX4_count_49 (by simp [countF])
  by_cases t_3 : w0 = 2
  · skip
    subst t_3
    refine lv_tableIn (off := 49) (tgt := 50) hx hb dX4_count_1 (by decide) (by decide) rfl (by decide) ?_
    refine lv_aload_n hx hb dX4_count_50 rfl (lv_at hl 0 rfl) ?_
    refine ro_i (va_runV (As := []) (rest := []) F (kX4_notEmpty l D y q n now rt tr C ah w mx rd ct g h hn) (cwV 0 hts gX4_count_X4_notEmpty rfl rfl rfl ⟨rfl, hdX4_notEmpty⟩ ⟨(Nat.le_of_ble_eq_true rfl), (Nat.le_of_ble_eq_true rfl)⟩) ⟨rdB_blind, va_recv hK hP (ci := 4) (q0 := 0) rfl rfl, rdB_pre hP hK hN⟩ rfl rfl hl.1 rfl (lv_room (Nat.le_of_ble_eq_true rfl)) dX4_count_51 ⟨Nat.zero_le _, Nat.zero_le _⟩) ?_
    exact ro_iret hx hb hr hlocks dX4_count_54 (by simp [countF])
  by_cases t_4 : w0 = 3
  · skip
    subst t_4
    refine lv_tableIn (off := 54) (tgt := 55) hx hb dX4_count_1 (by decide) (by decide) rfl (by decide) ?_
    refine lv_aload_n hx hb dX4_count_55 rfl (lv_at hl 0 rfl) ?_
    refine va_get (D := D) (ci := 4) (v := .ref (q 6)) (C := RX4) (T := TX4) (N := 9) hx hb hts iX4 hown hK hP 0 rfl rfl 4 (by decide) (hts _ (List.mem_of_getElem? (i := 3) rfl)) (fun _ h9 => h9) rfl dX4_count_56 ?_
    refine va_get (D := D) (ci := 2) (v := .int rd) (C := RX2) (T := TX2) (N := 4) hx hb hts iX2 hown hK hP 6 rfl rfl 2 (by decide) (hts _ (List.mem_of_getElem? (i := 4) rfl)) (fun _ h9 => h9) rfl dX4_count_59 ?_
    exact ro_iret hx hb hr hlocks dX4_count_62 (by simp [countF])
  by_cases t_5 : w0 = 4
  · skip
    subst t_5
    refine lv_tableIn (off := 62) (tgt := 63) hx hb dX4_count_1 (by decide) (by decide) rfl (by decide) ?_
    refine lv_aload_n hx hb dX4_count_63 rfl (lv_at hl 0 rfl) ?_
    refine va_get (D := D) (ci := 4) (v := .int rt) (C := RX4) (T := TX4) (N := 9) hx hb hts iX4 hown hK hP 0 rfl rfl 7 (by decide) (hts _ (List.mem_of_getElem? (i := 5) rfl)) (fun _ h9 => h9) rfl dX4_count_64 ?_
    exact ro_iret hx hb hr hlocks dX4_count_67 (by simp [countF])
  by_cases t_6 : w0 = 5
  · skip
    subst t_6
    refine lv_tableIn (off := 67) (tgt := 68) hx hb dX4_count_1 (by decide) (by decide) rfl (by decide) ?_
    refine lv_aload_n hx hb dX4_count_68 rfl (lv_at hl 0 rfl) ?_
    refine ro_i (va_runV (As := []) (rest := []) F (kX4_allDrops l D y q n now rt tr C ah w mx rd ct g h hn) (cwV 0 hts gX4_count_X4_allDrops rfl rfl rfl ⟨rfl, hdX4_allDrops⟩ ⟨(Nat.le_of_ble_eq_true rfl), (Nat.le_of_ble_eq_true rfl)⟩) ⟨rdB_blind, va_recv hK hP (ci := 4) (q0 := 0) rfl rfl, rdB_pre hP hK hN⟩ rfl rfl hl.1 rfl (lv_room (Nat.le_of_ble_eq_true rfl)) dX4_count_69 ⟨Nat.zero_le _, Nat.zero_le _⟩) ?_
    exact ro_iret hx hb hr hlocks dX4_count_72 (by simp [countF])
  have u_1 : ¬ (w0).toInt = 0 := fun h => t_1 (Int32.toInt_inj.mp h)
  have u_2 : ¬ (w0).toInt = 1 := fun h => t_2 (Int32.toInt_inj.mp h)
  have u_3 : ¬ (w0).toInt = 2 := fun h => t_3 (Int32.toInt_inj.mp h)
  have u_4 : ¬ (w0).toInt = 3 := fun h => t_4 (Int32.toInt_inj.mp h)
  have u_5 : ¬ (w0).toInt = 4 := fun h => t_5 (Int32.toInt_inj.mp h)
  have u_6 : ¬ (w0).toInt = 5 := fun h => t_6 (Int32.toInt_inj.mp h)
  refine lv_tableOut (tgt := 73) hx hb dX4_count_1 (by omega) (by decide) ?_
  refine lv_iconst (v := (-1)) hx hb dX4_count_73 (by decide) ?_
  exact ro_iret hx hb hr hlocks dX4_count_74 (by simp [countF, t_1, t_2, t_3, t_4, t_5, t_6])

set_option maxHeartbeats 4000000 in
set_option maxRecDepth 100000 in
theorem kX4_trace (l : Launch) (D : va_G) (y : Nat → ClassId) (q : Nat → Nat) (n : Nat) (now rt : Int32) (tr : Int64) (C : Nat → CT) (ah w : Nat → Int32) (mx : MT) (rd ct : Int32) (g h : Nat → Int32) : Met l yX4_trace wsX4_trace ({ frames := 0, cells := 0, slots := 0, locals := 0 }) (va_Pc [.ref (q 0)] (rdB D (xT y) (xW y q (nI n) now rt tr C ah w mx rd ct g h))) (vp_Sl (fun x => x = tr)) 0 0 nF := by
  refine ro_start (cc := cX4_trace) (maxL := 1) (ret := (some .long)) (by decide) rfl (Nat.le_of_ble_eq_true rfl) ?_
  intro p e s m below meth c ls hx hb hr hml hown hlocks hts hnm hB hl
  obtain ⟨hP, hK, hN⟩ := hB
  have hown : s.vm.findClass RX4 = some m.cls := hown
  have F : CallFix p m c cX4_trace 1 s [.ref (q 0)].toArray wsX4_trace RX4 := ⟨hx, hb, hml, hown, hts⟩
  have hl : lv_has ls 1 [(0, .ref (q 0))] := hl
  have iX4 : ∀ w ∈ u_ws RX4 TX4 9, w ∈ wsX4_trace := mem_pl [2, 3, 4, 5, 6, 7, 8, 9, 10] rfl
  refine lv_aload_n hx hb dX4_trace_0 rfl (lv_at hl 0 rfl) ?_
  refine va_get (D := D) (ci := 4) (v := .long tr) (C := RX4) (T := TX4) (N := 9) hx hb hts iX4 hown hK hP 0 rfl rfl 8 (by decide) (hts _ (List.mem_of_getElem? (i := 1) rfl)) (fun _ h9 => h9) rfl dX4_trace_1 ?_
  exact ro_lret hx hb hr hlocks dX4_trace_4 rfl

set_option maxHeartbeats 4000000 in
set_option maxRecDepth 100000 in
theorem kX4_contradicts (l : Launch) (D : va_G) (y : Nat → ClassId) (q : Nat → Nat) (n : Nat) (now rt : Int32) (tr : Int64) (C : Nat → CT) (ah w : Nat → Int32) (mx : MT) (rd ct : Int32) (g h : Nat → Int32) : Met l yX4_contradicts wsX4_contradicts ({ frames := 0, cells := 0, slots := 0, locals := 0 }) (va_Pc [.ref (q 0)] (rdB D (xT y) (xW y q (nI n) now rt tr C ah w mx rd ct g h))) (vp_Si (fun x => x = ct)) 0 0 nF := by
  refine ro_start (cc := cX4_contradicts) (maxL := 1) (ret := (some .int)) (by decide) rfl (Nat.le_of_ble_eq_true rfl) ?_
  intro p e s m below meth c ls hx hb hr hml hown hlocks hts hnm hB hl
  obtain ⟨hP, hK, hN⟩ := hB
  have hown : s.vm.findClass RX4 = some m.cls := hown
  have F : CallFix p m c cX4_contradicts 1 s [.ref (q 0)].toArray wsX4_contradicts RX4 := ⟨hx, hb, hml, hown, hts⟩
  have hl : lv_has ls 1 [(0, .ref (q 0))] := hl
  have iX2 : ∀ w ∈ u_ws RX2 TX2 4, w ∈ wsX4_contradicts := mem_pl [12, 13, 14, 15] rfl
  have iX4 : ∀ w ∈ u_ws RX4 TX4 9, w ∈ wsX4_contradicts := mem_pl [3, 4, 5, 6, 7, 8, 9, 10, 11] rfl
  refine lv_aload_n hx hb dX4_contradicts_0 rfl (lv_at hl 0 rfl) ?_
  refine va_get (D := D) (ci := 4) (v := .ref (q 6)) (C := RX4) (T := TX4) (N := 9) hx hb hts iX4 hown hK hP 0 rfl rfl 4 (by decide) (hts _ (List.mem_of_getElem? (i := 1) rfl)) (fun _ h9 => h9) rfl dX4_contradicts_1 ?_
  refine va_get (D := D) (ci := 2) (v := .int ct) (C := RX2) (T := TX2) (N := 4) hx hb hts iX2 hown hK hP 6 rfl rfl 3 (by decide) (hts _ (List.mem_of_getElem? (i := 2) rfl)) (fun _ h9 => h9) rfl dX4_contradicts_4 ?_
  exact ro_iret hx hb hr hlocks dX4_contradicts_7 rfl
