def yearC (c : CT) (now : Int32) : CT := (c_kd c, c_dr c - lostX (c_dr c) (lossC c now), mxI 400 (c_sg c - 3), c_fl c, c_ok c + mxI 0 (lossC c now - 10), c_sm c - dUp (c_sm c) 10, c_sw c + (6 - 2 * c_kd c), c_la c)
def addX (mx : MT) (c : CT) (now : Int32) : MT := (m_dr mx + c_dr c, m_sg mx + c_dr c * c_sg c, m_ok mx + c_dr c * c_ok c, m_sm mx + c_dr c * c_sm c, m_sw mx + c_dr c * c_sw c, m_co mx + costX c now, mnI (m_ag mx) (now - c_la c))
def yrC (C : Nat → CT) (now : Int32) (i : Nat) : Nat → CT := fun k => if k < i then (if c_dr (C k) ≤ 0 then C k else yearC (C k) now) else C k
theorem yrC_0 (C : Nat → CT) (now : Int32) : yrC C now 0 = C := by funext k; simp [yrC]
theorem yrC_i (C : Nat → CT) (now : Int32) (i : Nat) : yrC C now i i = C i := by simp [yrC]
theorem va_ap {α : Type} (f : Nat → α) (i k : Nat) (x : α) : va_up f i x k = if k = i then x else f k := rfl
theorem yrC_t {C : Nat → CT} {now : Int32} {i : Nat} (c : ¬ c_dr (C i) ≤ 0) : va_up (yrC C now i) i (yearC (yrC C now i i) now) = yrC C now (i + 1) := by
  funext k
  rw [va_ap, yrC_i]
  by_cases h : k = i
  · subst h; simp [yrC, c]
  · have : k < i + 1 ↔ k < i := by omega
    simp [yrC, h, this]
theorem yrC_n {C : Nat → CT} {now : Int32} {i : Nat} (c : c_dr (C i) ≤ 0) : yrC C now i = yrC C now (i + 1) := by
  funext k
  by_cases h : k = i
  · subst h; simp [yrC, c]
  · have : k < i + 1 ↔ k < i := by omega
    simp [yrC, this]
def yrs (n : Nat) (now : Int32) (C : Nat → CT) (i : Nat) : Int32 × (Nat → CT) := fN (fun _ s => (s.1 + 1, yrC s.2 s.1 n)) i (now, C)
def yearsF (n : Nat) (now : Int32) (C : Nat → CT) (k : Int32) : Int32 × Int32 × (Nat → CT) := if inR k 1 30 = true then (if now + k ≤ 60 then ((yrs n now C k.toNatClampNeg).1, yrs n now C k.toNatClampNeg) else (-2, now, C)) else (-1, now, C)
def layF (n : Nat) (now : Int32) (C : Nat → CT) (k d s f m : Int32) : Int32 × Int32 × (Nat → CT) := if inR k 0 2 = true ∧ inR d 1 9000 = true ∧ inR s 400 700 = true ∧ inR f 0 3 = true ∧ inR m 0 500 = true then (if n < 12 then (nI n + 1 - 1, nI n + 1, va_up C n (k, d, s, f, c_ok (C n), m, c_sw (C n), now)) else (-3, nI n, C)) else (-1, nI n, C)
def setF (c : CT) (v : Int32) : CT := (c_kd c, c_dr c, c_sg c, v, c_ok c, c_sm c, c_sw c, c_la c)
def setD (c : CT) (v : Int32) : CT := (c_kd c, v, c_sg c, c_fl c, c_ok c, c_sm c, c_sw c, c_la c)
def moveF (n : Nat) (C : Nat → CT) (c f : Int32) : Int32 × (Nat → CT) := if isC n c = true ∧ inR f 0 3 = true then (c_fl (C c.toNatClampNeg), va_up C c.toNatClampNeg (setF (C c.toNatClampNeg) f)) else (-1, C)
def drawF (n : Nat) (C : Nat → CT) (c v : Int32) : Int32 × (Nat → CT) := if isC n c = true ∧ inR v 0 (c_dr (C c.toNatClampNeg)) = true then (c_dr (C c.toNatClampNeg) - v, va_up C c.toNatClampNeg (setD (C c.toNatClampNeg) (c_dr (C c.toNatClampNeg) - v))) else (-1, C)
def mostW (k : Int32) : Int32 := if k = 0 then 99999 else if k = 1 then 60 else 9999
def wantF (w : Nat → Int32) (k v : Int32) : Int32 × (Nat → Int32) := if inR k 0 7 = true ∧ inR v 0 (mostW k) = true then (w k.toNatClampNeg, upd w k.toNatClampNeg v) else (-1, w)
def rateF (rt v : Int32) : Int32 × Int32 := if inR v 0 100 = true then (rt, v) else (-1, rt)
abbrev mx0 : MT := (0, 0, 0, 0, 0, 0, 60)
def gMf (C : Nat → CT) (now s : Int32) (i : Nat) (mx : MT) : MT := if hasB s (nI i) = true then addX mx (C i) now else mx
def gMx (n : Nat) (C : Nat → CT) (now s : Int32) : MT := fN (gMf C now s) n mx0
def okf (C : Nat → CT) (s : Int32) (i : Nat) (b : Bool) : Bool := b && (!hasB s (nI i) || decide (1 ≤ c_dr (C i)))
def okG (n : Nat) (C : Nat → CT) (s : Int32) : Bool := fN (okf C s) n true
def bOK (n : Nat) (C : Nat → CT) (now s : Int32) : Bool := okG n C s && decide (0 < m_dr (gMx n C now s))
theorem okG_f {C : Nat → CT} {s : Int32} {i : Nat} (h : okG i C s = false) : ∀ n, i ≤ n → okG n C s = false := by
  intro n hn
  induction n with
  | zero => rw [Nat.le_zero.mp hn] at h; exact h
  | succ n ih =>
    rcases Nat.lt_or_ge n i with h2 | h2
    · have : i = n + 1 := by omega
      rw [← this]; exact h
    · show okf C s n (okG n C s) = false
      rw [ih h2]; rfl
theorem ga_bad {n : Nat} {C : Nat → CT} {now s : Int32} {u : MT} (h : okG n C s = false) : 0 = zI (bOK n C now s) ∧ (bOK n C now s = true → u = gMx n C now s) := by
  have h2 : bOK n C now s = false := by unfold bOK; rw [h]; rfl
  rw [h2]; exact ⟨rfl, fun h => absurd h (by decide)⟩
def blX (w : Nat → Int32) (mx : MT) (k : Int32) : Int32 := if k = 0 then m_dr mx else if k = 1 then evX mx (m_sg mx) else if k = 2 then m_ag mx else if k = 3 then evX mx (m_ok mx) else if k = 4 then evX mx (m_sm mx) else if k = 5 then evX mx (m_sw mx) else if k = 6 then m_co mx else if k = 7 then zI (metX w mx) else -1
def blendF (n : Nat) (C : Nat → CT) (now : Int32) (w : Nat → Int32) (s k : Int32) : Int32 := if isS n s = true ∧ bOK n C now s = true then blX w (gMx n C now s) k else -1

set_option maxHeartbeats 4000000 in
set_option maxRecDepth 100000 in
theorem kX0_fill (l : Launch) (D : va_G) (y : Nat → ClassId) (q : Nat → Nat) (n : Nat) (now rt : Int32) (tr : Int64) (C : Nat → CT) (ah w : Nat → Int32) (mx : MT) (rd ct : Int32) (g h : Nat → Int32) (k0 : Int32) (d0 : Int32) (s0 : Int32) (f0 : Int32) (m0 : Int32) (y0 : Int32) (j : Nat) (hj : j < 12) (sz : Nat) : Met l yX0_fill wsX0_fill ({ frames := 0, cells := 0, slots := 0, locals := 0 }) (va_Pc [.ref (q (9 + j)), .int k0, .int d0, .int s0, .int f0, .int m0, .int y0] (muB D (xT y) (xW y q (nI n) now rt tr C ah w mx rd ct g h) sz eT)) (QV (σ := Unit) D (fun u => True) (fun u => (xW y q (nI n) now rt tr (va_up C j (k0, d0, s0, f0, c_ok (C j), m0, c_sw (C j), y0)) ah w mx rd ct g h)) (va_A (xW y q (nI n) now rt tr C ah w mx rd ct g h) sz)) 0 0 (va_A (xW y q (nI n) now rt tr C ah w mx rd ct g h) sz) := by
  refine mu_start (Qc := QV (σ := Unit) D (fun u => True) (fun u => (xW y q (nI n) now rt tr (va_up C j (k0, d0, s0, f0, c_ok (C j), m0, c_sw (C j), y0)) ah w mx rd ct g h))) (cc := cX0_fill) (maxL := 7) (ret := none) (by decide) rfl (Nat.le_of_ble_eq_true rfl) ?_
  intro p e s m below meth c ls A hx hb hr hml hown hlocks hts hnm hA hP hK hN hD hE hAA hsz hl
  have hS : va_S A s.heap s.heap [] := va_S.rf
  have hown : s.vm.findClass RX0 = some m.cls := hown
  have F : CallFix p m c cX0_fill 7 s [.ref (q (9 + j)), .int k0, .int d0, .int s0, .int f0, .int m0, .int y0].toArray wsX0_fill RX0 := ⟨hx, hb, hml, hown, hts⟩
  have hl : lv_has ls 7 [(0, .ref (q (9 + j))), (1, .int k0), (2, .int d0), (3, .int s0), (4, .int f0), (5, .int m0), (6, .int y0)] := hl
  have iX0 : ∀ w ∈ u_ws RX0 TX0 8, w ∈ wsX0_fill := mem_pl [7, 8, 9, 10, 11, 12, 13, 14] rfl
  refine lv_aload_n hx hb dX0_fill_0 rfl (lv_at hl 0 rfl) ?_
  refine lv_iload_n hx hb dX0_fill_1 rfl (lv_at hl 1 rfl) ?_
  refine va_put (D := D) (ci := 0) (v := .int k0) (ty := .int) (C := RX0) (T := TX0) (N := 8) hx hb hts iX0 tyX0 tyX0_ok nmX0 hown hK hP hD hS (9 + j) (xp_at rfl hj) rfl 0 (by decide) (hts _ (List.mem_of_getElem? (i := 1) rfl)) (fun _ h9 => h9) rfl (by decide +kernel) rfl rfl (Nat.le_of_ble_eq_true rfl) dX0_fill_2 (fun H locs hP hD hS => ?_)
  have hP : va_P D vwCl (xW y q (nI n) now rt tr (va_up C j (k0, c_dr (C j), c_sg (C j), c_fl (C j), c_ok (C j), c_sm (C j), c_sw (C j), c_la (C j))) ah w mx rd ct g h) H := xp_P rfl hj hP
  have hD : va_D A (xW y q (nI n) now rt tr (va_up C j (k0, c_dr (C j), c_sg (C j), c_fl (C j), c_ok (C j), c_sm (C j), c_sw (C j), c_la (C j))) ah w mx rd ct g h) := xp_D rfl hj hD
  refine lv_aload_n hx hb dX0_fill_5 rfl (lv_at hl 0 rfl) ?_
  refine lv_iload_n hx hb dX0_fill_6 rfl (lv_at hl 2 rfl) ?_
  refine va_put (D := D) (ci := 0) (v := .int d0) (ty := .int) (C := RX0) (T := TX0) (N := 8) hx hb hts iX0 tyX0 tyX0_ok nmX0 hown hK hP hD hS (9 + j) (xp_atF rfl hj) rfl 1 (by decide) (hts _ (List.mem_of_getElem? (i := 2) rfl)) (fun _ h9 => h9) rfl (by decide +kernel) rfl rfl (Nat.le_of_ble_eq_true rfl) dX0_fill_7 (fun H locs hP hD hS => ?_)
  have hP : va_P D vwCl (xW y q (nI n) now rt tr (va_up C j (k0, d0, c_sg (C j), c_fl (C j), c_ok (C j), c_sm (C j), c_sw (C j), c_la (C j))) ah w mx rd ct g h) H := xp_PF rfl hj hP
  have hD : va_D A (xW y q (nI n) now rt tr (va_up C j (k0, d0, c_sg (C j), c_fl (C j), c_ok (C j), c_sm (C j), c_sw (C j), c_la (C j))) ah w mx rd ct g h) := xp_DF rfl hj hD
  refine lv_aload_n hx hb dX0_fill_10 rfl (lv_at hl 0 rfl) ?_
  refine lv_iload_n hx hb dX0_fill_11 rfl (lv_at hl 3 rfl) ?_
  refine va_put (D := D) (ci := 0) (v := .int s0) (ty := .int) (C := RX0) (T := TX0) (N := 8) hx hb hts iX0 tyX0 tyX0_ok nmX0 hown hK hP hD hS (9 + j) (xp_atF rfl hj) rfl 2 (by decide) (hts _ (List.mem_of_getElem? (i := 3) rfl)) (fun _ h9 => h9) rfl (by decide +kernel) rfl rfl (Nat.le_of_ble_eq_true rfl) dX0_fill_12 (fun H locs hP hD hS => ?_)
  have hP : va_P D vwCl (xW y q (nI n) now rt tr (va_up C j (k0, d0, s0, c_fl (C j), c_ok (C j), c_sm (C j), c_sw (C j), c_la (C j))) ah w mx rd ct g h) H := xp_PF rfl hj hP
  have hD : va_D A (xW y q (nI n) now rt tr (va_up C j (k0, d0, s0, c_fl (C j), c_ok (C j), c_sm (C j), c_sw (C j), c_la (C j))) ah w mx rd ct g h) := xp_DF rfl hj hD
  refine lv_aload_n hx hb dX0_fill_15 rfl (lv_at hl 0 rfl) ?_
  refine lv_iload hx hb dX0_fill_16 (lv_at hl 4 rfl) ?_
  refine va_put (D := D) (ci := 0) (v := .int f0) (ty := .int) (C := RX0) (T := TX0) (N := 8) hx hb hts iX0 tyX0 tyX0_ok nmX0 hown hK hP hD hS (9 + j) (xp_atF rfl hj) rfl 3 (by decide) (hts _ (List.mem_of_getElem? (i := 4) rfl)) (fun _ h9 => h9) rfl (by decide +kernel) rfl rfl (Nat.le_of_ble_eq_true rfl) dX0_fill_18 (fun H locs hP hD hS => ?_)
  have hP : va_P D vwCl (xW y q (nI n) now rt tr (va_up C j (k0, d0, s0, f0, c_ok (C j), c_sm (C j), c_sw (C j), c_la (C j))) ah w mx rd ct g h) H := xp_PF rfl hj hP
  have hD : va_D A (xW y q (nI n) now rt tr (va_up C j (k0, d0, s0, f0, c_ok (C j), c_sm (C j), c_sw (C j), c_la (C j))) ah w mx rd ct g h) := xp_DF rfl hj hD
  refine lv_aload_n hx hb dX0_fill_21 rfl (lv_at hl 0 rfl) ?_
  refine lv_iload hx hb dX0_fill_22 (lv_at hl 5 rfl) ?_
  refine va_put (D := D) (ci := 0) (v := .int m0) (ty := .int) (C := RX0) (T := TX0) (N := 8) hx hb hts iX0 tyX0 tyX0_ok nmX0 hown hK hP hD hS (9 + j) (xp_atF rfl hj) rfl 5 (by decide) (hts _ (List.mem_of_getElem? (i := 5) rfl)) (fun _ h9 => h9) rfl (by decide +kernel) rfl rfl (Nat.le_of_ble_eq_true rfl) dX0_fill_24 (fun H locs hP hD hS => ?_)
  have hP : va_P D vwCl (xW y q (nI n) now rt tr (va_up C j (k0, d0, s0, f0, c_ok (C j), m0, c_sw (C j), c_la (C j))) ah w mx rd ct g h) H := xp_PF rfl hj hP
  have hD : va_D A (xW y q (nI n) now rt tr (va_up C j (k0, d0, s0, f0, c_ok (C j), m0, c_sw (C j), c_la (C j))) ah w mx rd ct g h) := xp_DF rfl hj hD
  refine lv_aload_n hx hb dX0_fill_27 rfl (lv_at hl 0 rfl) ?_
  refine lv_iload hx hb dX0_fill_28 (lv_at hl 6 rfl) ?_
  refine va_put (D := D) (ci := 0) (v := .int y0) (ty := .int) (C := RX0) (T := TX0) (N := 8) hx hb hts iX0 tyX0 tyX0_ok nmX0 hown hK hP hD hS (9 + j) (xp_atF rfl hj) rfl 7 (by decide) (hts _ (List.mem_of_getElem? (i := 6) rfl)) (fun _ h9 => h9) rfl (by decide +kernel) rfl rfl (Nat.le_of_ble_eq_true rfl) dX0_fill_30 (fun H locs hP hD hS => ?_)
  have hP : va_P D vwCl (xW y q (nI n) now rt tr (va_up C j (k0, d0, s0, f0, c_ok (C j), m0, c_sw (C j), y0)) ah w mx rd ct g h) H := xp_PF rfl hj hP
  have hD : va_D A (xW y q (nI n) now rt tr (va_up C j (k0, d0, s0, f0, c_ok (C j), m0, c_sw (C j), y0)) ah w mx rd ct g h) := xp_DF rfl hj hD
  exact mu_vret () hx hb hr hlocks hP hD hS dX0_fill_33 trivial

set_option maxHeartbeats 4000000 in
set_option maxRecDepth 100000 in
theorem kX0_passYear (l : Launch) (D : va_G) (y : Nat → ClassId) (q : Nat → Nat) (n : Nat) (now rt : Int32) (tr : Int64) (C : Nat → CT) (ah w : Nat → Int32) (mx : MT) (rd ct : Int32) (g h : Nat → Int32) (y0 : Int32) (j : Nat) (hj : j < 12) (sz : Nat) : Met l yX0_passYear wsX0_passYear ({ frames := 3, cells := 0, slots := 0, locals := 66 }) (va_Pc [.ref (q (9 + j)), .int y0] (muB D (xT y) (xW y q (nI n) now rt tr C ah w mx rd ct g h) sz eT)) (QV (σ := Unit) D (fun u => True) (fun u => (xW y q (nI n) now rt tr (va_up C j (yearC (C j) y0)) ah w mx rd ct g h)) (va_A (xW y q (nI n) now rt tr C ah w mx rd ct g h) sz)) 0 0 (va_A (xW y q (nI n) now rt tr C ah w mx rd ct g h) sz) := by
  refine mu_start (Qc := QV (σ := Unit) D (fun u => True) (fun u => (xW y q (nI n) now rt tr (va_up C j (yearC (C j) y0)) ah w mx rd ct g h))) (cc := cX0_passYear) (maxL := 3) (ret := none) (by decide) rfl (Nat.le_of_ble_eq_true rfl) ?_
  intro p e s m below meth c ls A hx hb hr hml hown hlocks hts hnm hA hP hK hN hD hE hAA hsz hl
  have hS : va_S A s.heap s.heap [] := va_S.rf
  have hown : s.vm.findClass RX0 = some m.cls := hown
  have F : CallFix p m c cX0_passYear 3 s [.ref (q (9 + j)), .int y0].toArray wsX0_passYear RX0 := ⟨hx, hb, hml, hown, hts⟩
  have hl : lv_has ls 3 [(0, .ref (q (9 + j))), (1, .int y0)] := hl
  have iX0 : ∀ w ∈ u_ws RX0 TX0 8, w ∈ wsX0_passYear := mem_pl [31, 32, 33, 34, 35, 36, 37, 38] rfl
  refine lv_aload_n hx hb dX0_passYear_0 rfl (lv_at hl 0 rfl) ?_
  refine lv_iload_n hx hb dX0_passYear_1 rfl (lv_at hl 1 rfl) ?_
  refine ro_i (va_runV (As := [.int y0]) (rest := []) F (kX0_lossIn l D y q n now rt tr C ah w mx rd ct g h y0 j hj) (cwV 1 hts gX0_passYear_X0_lossIn rfl rfl rfl ⟨rfl, hdX0_lossIn⟩ ⟨(Nat.le_of_ble_eq_true rfl), (Nat.le_of_ble_eq_true rfl)⟩) ⟨rdB_blind, va_recv hK hP (ci := 0) (q0 := (9 + j)) rfl (xp_at rfl hj), rdB_pre hP hK hN⟩ rfl rfl hl.1 rfl (lv_room (Nat.le_of_ble_eq_true rfl)) dX0_passYear_2 ⟨Nat.zero_le _, Nat.zero_le _⟩) ?_
  refine lv_istore_n (lv' := [(2, .int (lossC (C j) y0)), (0, .ref (q (9 + j))), (1, .int y0)]) hx hb dX0_passYear_5 rfl hl (by decide) rfl (fun ls hl => ?_)
  refine lv_aload_n hx hb dX0_passYear_6 rfl (lv_at hl 1 rfl) ?_
  refine lv_dup hx hb dX0_passYear_7 rfl ?_
  refine va_get (D := D) (ci := 0) (v := .int (c_dr (C j))) (C := RX0) (T := TX0) (N := 8) hx hb hts iX0 hown hK hP (9 + j) (xp_at rfl hj) rfl 1 (by decide) (hts _ (List.mem_of_getElem? (i := 1) rfl)) (fun _ h9 => h9) rfl dX0_passYear_8 ?_
  refine lv_aload_n hx hb dX0_passYear_11 rfl (lv_at hl 1 rfl) ?_
  refine va_get (D := D) (ci := 0) (v := .int (c_dr (C j))) (C := RX0) (T := TX0) (N := 8) hx hb hts iX0 hown hK hP (9 + j) (xp_at rfl hj) rfl 1 (by decide) (hts _ (List.mem_of_getElem? (i := 1) rfl)) (fun _ h9 => h9) rfl dX0_passYear_12 ?_
  refine lv_iload_n hx hb dX0_passYear_15 rfl (lv_at hl 0 rfl) ?_
  refine ro_i (va_runSN (As := [.int (c_dr (C j)), .int (lossC (C j) y0)]) (rest := [.int (c_dr (C j)), .ref (q (9 + j))]) F (kX4_lostOf l (c_dr (C j)) (lossC (C j) y0)) ⟨va_cnB 2 hts gX0_passYear_X4_lostOf_n45 rfl rfl rfl hN.2.2.1 (hts _ (List.mem_of_getElem? (i := 23) rfl)) hdX4_lostOf ⟨(Nat.le_of_ble_eq_true rfl), (Nat.le_of_ble_eq_true rfl)⟩, (hts _ (List.mem_of_getElem? (i := 26) rfl)), trivial⟩ ⟨tr_blind, tr_pre⟩ rfl rfl hl.1 rfl (lv_room (Nat.le_of_ble_eq_true rfl)) dX0_passYear_16 ⟨Nat.zero_le _, Nat.zero_le _⟩) ?_
  refine lv_isub hx hb dX0_passYear_19 ?_
  refine va_put (D := D) (ci := 0) (v := .int ((c_dr (C j)) - (lostX (c_dr (C j)) (lossC (C j) y0)))) (ty := .int) (C := RX0) (T := TX0) (N := 8) hx hb hts iX0 tyX0 tyX0_ok nmX0 hown hK hP hD hS (9 + j) (xp_at rfl hj) rfl 1 (by decide) (hts _ (List.mem_of_getElem? (i := 1) rfl)) (fun _ h9 => h9) rfl (by decide +kernel) rfl rfl (Nat.le_of_ble_eq_true rfl) dX0_passYear_20 (fun H locs hP hD hS => ?_)
  have hP : va_P D vwCl (xW y q (nI n) now rt tr (va_up C j (c_kd (C j), ((c_dr (C j)) - (lostX (c_dr (C j)) (lossC (C j) y0))), c_sg (C j), c_fl (C j), c_ok (C j), c_sm (C j), c_sw (C j), c_la (C j))) ah w mx rd ct g h) H := xp_P rfl hj hP
  have hD : va_D A (xW y q (nI n) now rt tr (va_up C j (c_kd (C j), ((c_dr (C j)) - (lostX (c_dr (C j)) (lossC (C j) y0))), c_sg (C j), c_fl (C j), c_ok (C j), c_sm (C j), c_sw (C j), c_la (C j))) ah w mx rd ct g h) := xp_D rfl hj hD
  refine lv_aload_n hx hb dX0_passYear_23 rfl (lv_at hl 1 rfl) ?_
  refine lv_dup hx hb dX0_passYear_24 rfl ?_
  refine va_get (D := D) (ci := 0) (v := .int (c_ok (C j))) (C := RX0) (T := TX0) (N := 8) hx hb hts iX0 hown hK hP (9 + j) (xp_atF rfl hj) rfl 4 (by decide) (hts _ (List.mem_of_getElem? (i := 2) rfl)) (fun _ h9 => h9) rfl dX0_passYear_25 ?_
  refine lv_iconst (v := 0) hx hb dX0_passYear_28 (by decide) ?_
  refine lv_iload_n hx hb dX0_passYear_29 rfl (lv_at hl 0 rfl) ?_
  refine lv_bipush (v := 10) hx hb dX0_passYear_30 (by decide) ?_
  refine lv_isub hx hb dX0_passYear_32 ?_
  refine wm_max hx hb (hml.trans hl.1.symm) hown (hts _ (List.mem_of_getElem? (i := 3) rfl)) (hts _ (List.mem_of_getElem? (i := 4) rfl)) (hts _ (List.mem_of_getElem? (i := 5) rfl)) (hts _ (List.mem_of_getElem? (i := 6) rfl)) (Nat.le_of_ble_eq_true rfl) (Nat.le_of_ble_eq_true rfl) (Nat.zero_le _) (Nat.zero_le _) dX0_passYear_33 ?_
  refine lv_iadd hx hb dX0_passYear_36 ?_
  refine va_put (D := D) (ci := 0) (v := .int ((c_ok (C j)) + (mxI 0 ((lossC (C j) y0) - 10)))) (ty := .int) (C := RX0) (T := TX0) (N := 8) hx hb hts iX0 tyX0 tyX0_ok nmX0 hown hK hP hD hS (9 + j) (xp_atF rfl hj) rfl 4 (by decide) (hts _ (List.mem_of_getElem? (i := 2) rfl)) (fun _ h9 => h9) rfl (by decide +kernel) rfl rfl (Nat.le_of_ble_eq_true rfl) dX0_passYear_37 (fun H locs hP hD hS => ?_)
  have hP : va_P D vwCl (xW y q (nI n) now rt tr (va_up C j (c_kd (C j), ((c_dr (C j)) - (lostX (c_dr (C j)) (lossC (C j) y0))), c_sg (C j), c_fl (C j), ((c_ok (C j)) + (mxI 0 ((lossC (C j) y0) - 10))), c_sm (C j), c_sw (C j), c_la (C j))) ah w mx rd ct g h) H := xp_PF rfl hj hP
  have hD : va_D A (xW y q (nI n) now rt tr (va_up C j (c_kd (C j), ((c_dr (C j)) - (lostX (c_dr (C j)) (lossC (C j) y0))), c_sg (C j), c_fl (C j), ((c_ok (C j)) + (mxI 0 ((lossC (C j) y0) - 10))), c_sm (C j), c_sw (C j), c_la (C j))) ah w mx rd ct g h) := xp_DF rfl hj hD
  refine lv_aload_n hx hb dX0_passYear_40 rfl (lv_at hl 1 rfl) ?_
  refine lv_dup hx hb dX0_passYear_41 rfl ?_
  refine va_get (D := D) (ci := 0) (v := .int (c_sm (C j))) (C := RX0) (T := TX0) (N := 8) hx hb hts iX0 hown hK hP (9 + j) (xp_atF rfl hj) rfl 5 (by decide) (hts _ (List.mem_of_getElem? (i := 7) rfl)) (fun _ h9 => h9) rfl dX0_passYear_42 ?_
  refine lv_aload_n hx hb dX0_passYear_45 rfl (lv_at hl 1 rfl) ?_
  refine va_get (D := D) (ci := 0) (v := .int (c_sm (C j))) (C := RX0) (T := TX0) (N := 8) hx hb hts iX0 hown hK hP (9 + j) (xp_atF rfl hj) rfl 5 (by decide) (hts _ (List.mem_of_getElem? (i := 7) rfl)) (fun _ h9 => h9) rfl dX0_passYear_46 ?_
  refine lv_bipush (v := 10) hx hb dX0_passYear_49 (by decide) ?_
  refine ro_i (va_runSN (As := [.int (c_sm (C j)), .int 10]) (rest := [.int (c_sm (C j)), .ref (q (9 + j))]) F (kX4_dividedUp l (c_sm (C j)) 10) ⟨va_cnB 2 hts gX0_passYear_X4_dividedUp_n34 rfl rfl rfl hN.1 (hts _ (List.mem_of_getElem? (i := 23) rfl)) hdX4_dividedUp ⟨(Nat.le_of_ble_eq_true rfl), (Nat.le_of_ble_eq_true rfl)⟩, (hts _ (List.mem_of_getElem? (i := 29) rfl)), trivial⟩ ⟨tr_blind, tr_pre⟩ rfl rfl hl.1 rfl (lv_room (Nat.le_of_ble_eq_true rfl)) dX0_passYear_51 ⟨Nat.zero_le _, Nat.zero_le _⟩) ?_
  refine lv_isub hx hb dX0_passYear_54 ?_
  refine va_put (D := D) (ci := 0) (v := .int ((c_sm (C j)) - (dUp (c_sm (C j)) 10))) (ty := .int) (C := RX0) (T := TX0) (N := 8) hx hb hts iX0 tyX0 tyX0_ok nmX0 hown hK hP hD hS (9 + j) (xp_atF rfl hj) rfl 5 (by decide) (hts _ (List.mem_of_getElem? (i := 7) rfl)) (fun _ h9 => h9) rfl (by decide +kernel) rfl rfl (Nat.le_of_ble_eq_true rfl) dX0_passYear_55 (fun H locs hP hD hS => ?_)
  have hP : va_P D vwCl (xW y q (nI n) now rt tr (va_up C j (c_kd (C j), ((c_dr (C j)) - (lostX (c_dr (C j)) (lossC (C j) y0))), c_sg (C j), c_fl (C j), ((c_ok (C j)) + (mxI 0 ((lossC (C j) y0) - 10))), ((c_sm (C j)) - (dUp (c_sm (C j)) 10)), c_sw (C j), c_la (C j))) ah w mx rd ct g h) H := xp_PF rfl hj hP
  have hD : va_D A (xW y q (nI n) now rt tr (va_up C j (c_kd (C j), ((c_dr (C j)) - (lostX (c_dr (C j)) (lossC (C j) y0))), c_sg (C j), c_fl (C j), ((c_ok (C j)) + (mxI 0 ((lossC (C j) y0) - 10))), ((c_sm (C j)) - (dUp (c_sm (C j)) 10)), c_sw (C j), c_la (C j))) ah w mx rd ct g h) := xp_DF rfl hj hD
  refine lv_aload_n hx hb dX0_passYear_58 rfl (lv_at hl 1 rfl) ?_
  refine lv_dup hx hb dX0_passYear_59 rfl ?_
  refine va_get (D := D) (ci := 0) (v := .int (c_sw (C j))) (C := RX0) (T := TX0) (N := 8) hx hb hts iX0 hown hK hP (9 + j) (xp_atF rfl hj) rfl 6 (by decide) (hts _ (List.mem_of_getElem? (i := 8) rfl)) (fun _ h9 => h9) rfl dX0_passYear_60 ?_
  refine lv_bipush (v := 6) hx hb dX0_passYear_63 (by decide) ?_
  refine lv_iconst (v := 2) hx hb dX0_passYear_65 (by decide) ?_
  refine lv_aload_n hx hb dX0_passYear_66 rfl (lv_at hl 1 rfl) ?_
  refine va_get (D := D) (ci := 0) (v := .int (c_kd (C j))) (C := RX0) (T := TX0) (N := 8) hx hb hts iX0 hown hK hP (9 + j) (xp_atF rfl hj) rfl 0 (by decide) (hts _ (List.mem_of_getElem? (i := 9) rfl)) (fun _ h9 => h9) rfl dX0_passYear_67 ?_
  refine lv_imul hx hb dX0_passYear_70 ?_
  refine lv_isub hx hb dX0_passYear_71 ?_
  refine lv_iadd hx hb dX0_passYear_72 ?_
  refine va_put (D := D) (ci := 0) (v := .int ((c_sw (C j)) + (6 - (2 * (c_kd (C j)))))) (ty := .int) (C := RX0) (T := TX0) (N := 8) hx hb hts iX0 tyX0 tyX0_ok nmX0 hown hK hP hD hS (9 + j) (xp_atF rfl hj) rfl 6 (by decide) (hts _ (List.mem_of_getElem? (i := 8) rfl)) (fun _ h9 => h9) rfl (by decide +kernel) rfl rfl (Nat.le_of_ble_eq_true rfl) dX0_passYear_73 (fun H locs hP hD hS => ?_)
  have hP : va_P D vwCl (xW y q (nI n) now rt tr (va_up C j (c_kd (C j), ((c_dr (C j)) - (lostX (c_dr (C j)) (lossC (C j) y0))), c_sg (C j), c_fl (C j), ((c_ok (C j)) + (mxI 0 ((lossC (C j) y0) - 10))), ((c_sm (C j)) - (dUp (c_sm (C j)) 10)), ((c_sw (C j)) + (6 - (2 * (c_kd (C j))))), c_la (C j))) ah w mx rd ct g h) H := xp_PF rfl hj hP
  have hD : va_D A (xW y q (nI n) now rt tr (va_up C j (c_kd (C j), ((c_dr (C j)) - (lostX (c_dr (C j)) (lossC (C j) y0))), c_sg (C j), c_fl (C j), ((c_ok (C j)) + (mxI 0 ((lossC (C j) y0) - 10))), ((c_sm (C j)) - (dUp (c_sm (C j)) 10)), ((c_sw (C j)) + (6 - (2 * (c_kd (C j))))), c_la (C j))) ah w mx rd ct g h) := xp_DF rfl hj hD
  refine lv_aload_n hx hb dX0_passYear_76 rfl (lv_at hl 1 rfl) ?_
  refine lv_sipush (v := 400) hx hb dX0_passYear_77 (by decide) ?_
  refine lv_aload_n hx hb dX0_passYear_80 rfl (lv_at hl 1 rfl) ?_
  refine va_get (D := D) (ci := 0) (v := .int (c_sg (C j))) (C := RX0) (T := TX0) (N := 8) hx hb hts iX0 hown hK hP (9 + j) (xp_atF rfl hj) rfl 2 (by decide) (hts _ (List.mem_of_getElem? (i := 10) rfl)) (fun _ h9 => h9) rfl dX0_passYear_81 ?_
  refine lv_iconst (v := 3) hx hb dX0_passYear_84 (by decide) ?_
  refine lv_isub hx hb dX0_passYear_85 ?_
  refine wm_max hx hb (hml.trans hl.1.symm) hown (hts _ (List.mem_of_getElem? (i := 3) rfl)) (hts _ (List.mem_of_getElem? (i := 4) rfl)) (hts _ (List.mem_of_getElem? (i := 5) rfl)) (hts _ (List.mem_of_getElem? (i := 6) rfl)) (Nat.le_of_ble_eq_true rfl) (Nat.le_of_ble_eq_true rfl) (Nat.zero_le _) (Nat.zero_le _) dX0_passYear_86 ?_
  refine va_put (D := D) (ci := 0) (v := .int (mxI 400 ((c_sg (C j)) - 3))) (ty := .int) (C := RX0) (T := TX0) (N := 8) hx hb hts iX0 tyX0 tyX0_ok nmX0 hown hK hP hD hS (9 + j) (xp_atF rfl hj) rfl 2 (by decide) (hts _ (List.mem_of_getElem? (i := 10) rfl)) (fun _ h9 => h9) rfl (by decide +kernel) rfl rfl (Nat.le_of_ble_eq_true rfl) dX0_passYear_89 (fun H locs hP hD hS => ?_)
  have hP : va_P D vwCl (xW y q (nI n) now rt tr (va_up C j (c_kd (C j), ((c_dr (C j)) - (lostX (c_dr (C j)) (lossC (C j) y0))), (mxI 400 ((c_sg (C j)) - 3)), c_fl (C j), ((c_ok (C j)) + (mxI 0 ((lossC (C j) y0) - 10))), ((c_sm (C j)) - (dUp (c_sm (C j)) 10)), ((c_sw (C j)) + (6 - (2 * (c_kd (C j))))), c_la (C j))) ah w mx rd ct g h) H := xp_PF rfl hj hP
  have hD : va_D A (xW y q (nI n) now rt tr (va_up C j (c_kd (C j), ((c_dr (C j)) - (lostX (c_dr (C j)) (lossC (C j) y0))), (mxI 400 ((c_sg (C j)) - 3)), c_fl (C j), ((c_ok (C j)) + (mxI 0 ((lossC (C j) y0) - 10))), ((c_sm (C j)) - (dUp (c_sm (C j)) 10)), ((c_sw (C j)) + (6 - (2 * (c_kd (C j))))), c_la (C j))) ah w mx rd ct g h) := xp_DF rfl hj hD
  exact mu_vret () hx hb hr hlocks hP hD hS dX0_passYear_92 trivial

set_option maxHeartbeats 4000000 in
set_option maxRecDepth 100000 in
theorem kX1_start (l : Launch) (D : va_G) (y : Nat → ClassId) (q : Nat → Nat) (n : Nat) (now rt : Int32) (tr : Int64) (C : Nat → CT) (ah w : Nat → Int32) (mx : MT) (rd ct : Int32) (g h : Nat → Int32) (sz : Nat) : Met l yX1_start wsX1_start ({ frames := 0, cells := 0, slots := 0, locals := 0 }) (va_Pc [.ref (q 5)] (muB D (xT y) (xW y q (nI n) now rt tr C ah w mx rd ct g h) sz eT)) (QV (σ := Unit) D (fun u => True) (fun u => (xW y q (nI n) now rt tr C ah w mx0 rd ct g h)) (va_A (xW y q (nI n) now rt tr C ah w mx rd ct g h) sz)) 0 0 (va_A (xW y q (nI n) now rt tr C ah w mx rd ct g h) sz) := by
  refine mu_start (Qc := QV (σ := Unit) D (fun u => True) (fun u => (xW y q (nI n) now rt tr C ah w mx0 rd ct g h))) (cc := cX1_start) (maxL := 1) (ret := none) (by decide) rfl (Nat.le_of_ble_eq_true rfl) ?_
  intro p e s m below meth c ls A hx hb hr hml hown hlocks hts hnm hA hP hK hN hD hE hAA hsz hl
  have hS : va_S A s.heap s.heap [] := va_S.rf
  have hown : s.vm.findClass RX1 = some m.cls := hown
  have F : CallFix p m c cX1_start 1 s [.ref (q 5)].toArray wsX1_start RX1 := ⟨hx, hb, hml, hown, hts⟩
  have hl : lv_has ls 1 [(0, .ref (q 5))] := hl
  have iX1 : ∀ w ∈ u_ws RX1 TX1 7, w ∈ wsX1_start := mem_pl [8, 9, 10, 11, 12, 13, 14] rfl
  refine lv_aload_n hx hb dX1_start_0 rfl (lv_at hl 0 rfl) ?_
  refine lv_iconst (v := 0) hx hb dX1_start_1 (by decide) ?_
  refine va_put (D := D) (ci := 1) (v := .int 0) (ty := .int) (C := RX1) (T := TX1) (N := 7) hx hb hts iX1 tyX1 tyX1_ok nmX1 hown hK hP hD hS 5 rfl rfl 0 (by decide) (hts _ (List.mem_of_getElem? (i := 1) rfl)) (fun _ h9 => h9) rfl (by decide +kernel) rfl rfl (Nat.le_of_ble_eq_true rfl) dX1_start_2 (fun H locs hP hD hS => ?_)
  have hP : va_P D vwCl (xW y q (nI n) now rt tr C ah w (0, m_sg mx, m_ok mx, m_sm mx, m_sw mx, m_co mx, m_ag mx) rd ct g h) H := hP
  have hD : va_D A (xW y q (nI n) now rt tr C ah w (0, m_sg mx, m_ok mx, m_sm mx, m_sw mx, m_co mx, m_ag mx) rd ct g h) := hD
  refine lv_aload_n hx hb dX1_start_5 rfl (lv_at hl 0 rfl) ?_
  refine lv_iconst (v := 0) hx hb dX1_start_6 (by decide) ?_
  refine va_put (D := D) (ci := 1) (v := .int 0) (ty := .int) (C := RX1) (T := TX1) (N := 7) hx hb hts iX1 tyX1 tyX1_ok nmX1 hown hK hP hD hS 5 rfl rfl 1 (by decide) (hts _ (List.mem_of_getElem? (i := 2) rfl)) (fun _ h9 => h9) rfl (by decide +kernel) rfl rfl (Nat.le_of_ble_eq_true rfl) dX1_start_7 (fun H locs hP hD hS => ?_)
  have hP : va_P D vwCl (xW y q (nI n) now rt tr C ah w (0, 0, m_ok mx, m_sm mx, m_sw mx, m_co mx, m_ag mx) rd ct g h) H := hP
  have hD : va_D A (xW y q (nI n) now rt tr C ah w (0, 0, m_ok mx, m_sm mx, m_sw mx, m_co mx, m_ag mx) rd ct g h) := hD
  refine lv_aload_n hx hb dX1_start_10 rfl (lv_at hl 0 rfl) ?_
  refine lv_iconst (v := 0) hx hb dX1_start_11 (by decide) ?_
  refine va_put (D := D) (ci := 1) (v := .int 0) (ty := .int) (C := RX1) (T := TX1) (N := 7) hx hb hts iX1 tyX1 tyX1_ok nmX1 hown hK hP hD hS 5 rfl rfl 2 (by decide) (hts _ (List.mem_of_getElem? (i := 3) rfl)) (fun _ h9 => h9) rfl (by decide +kernel) rfl rfl (Nat.le_of_ble_eq_true rfl) dX1_start_12 (fun H locs hP hD hS => ?_)
  have hP : va_P D vwCl (xW y q (nI n) now rt tr C ah w (0, 0, 0, m_sm mx, m_sw mx, m_co mx, m_ag mx) rd ct g h) H := hP
  have hD : va_D A (xW y q (nI n) now rt tr C ah w (0, 0, 0, m_sm mx, m_sw mx, m_co mx, m_ag mx) rd ct g h) := hD
  refine lv_aload_n hx hb dX1_start_15 rfl (lv_at hl 0 rfl) ?_
  refine lv_iconst (v := 0) hx hb dX1_start_16 (by decide) ?_
  refine va_put (D := D) (ci := 1) (v := .int 0) (ty := .int) (C := RX1) (T := TX1) (N := 7) hx hb hts iX1 tyX1 tyX1_ok nmX1 hown hK hP hD hS 5 rfl rfl 3 (by decide) (hts _ (List.mem_of_getElem? (i := 4) rfl)) (fun _ h9 => h9) rfl (by decide +kernel) rfl rfl (Nat.le_of_ble_eq_true rfl) dX1_start_17 (fun H locs hP hD hS => ?_)
  have hP : va_P D vwCl (xW y q (nI n) now rt tr C ah w (0, 0, 0, 0, m_sw mx, m_co mx, m_ag mx) rd ct g h) H := hP
  have hD : va_D A (xW y q (nI n) now rt tr C ah w (0, 0, 0, 0, m_sw mx, m_co mx, m_ag mx) rd ct g h) := hD
  refine lv_aload_n hx hb dX1_start_20 rfl (lv_at hl 0 rfl) ?_
  refine lv_iconst (v := 0) hx hb dX1_start_21 (by decide) ?_
  refine va_put (D := D) (ci := 1) (v := .int 0) (ty := .int) (C := RX1) (T := TX1) (N := 7) hx hb hts iX1 tyX1 tyX1_ok nmX1 hown hK hP hD hS 5 rfl rfl 4 (by decide) (hts _ (List.mem_of_getElem? (i := 5) rfl)) (fun _ h9 => h9) rfl (by decide +kernel) rfl rfl (Nat.le_of_ble_eq_true rfl) dX1_start_22 (fun H locs hP hD hS => ?_)
  have hP : va_P D vwCl (xW y q (nI n) now rt tr C ah w (0, 0, 0, 0, 0, m_co mx, m_ag mx) rd ct g h) H := hP
  have hD : va_D A (xW y q (nI n) now rt tr C ah w (0, 0, 0, 0, 0, m_co mx, m_ag mx) rd ct g h) := hD
  refine lv_aload_n hx hb dX1_start_25 rfl (lv_at hl 0 rfl) ?_
  refine lv_iconst (v := 0) hx hb dX1_start_26 (by decide) ?_
  refine va_put (D := D) (ci := 1) (v := .int 0) (ty := .int) (C := RX1) (T := TX1) (N := 7) hx hb hts iX1 tyX1 tyX1_ok nmX1 hown hK hP hD hS 5 rfl rfl 5 (by decide) (hts _ (List.mem_of_getElem? (i := 6) rfl)) (fun _ h9 => h9) rfl (by decide +kernel) rfl rfl (Nat.le_of_ble_eq_true rfl) dX1_start_27 (fun H locs hP hD hS => ?_)
  have hP : va_P D vwCl (xW y q (nI n) now rt tr C ah w (0, 0, 0, 0, 0, 0, m_ag mx) rd ct g h) H := hP
  have hD : va_D A (xW y q (nI n) now rt tr C ah w (0, 0, 0, 0, 0, 0, m_ag mx) rd ct g h) := hD
  refine lv_aload_n hx hb dX1_start_30 rfl (lv_at hl 0 rfl) ?_
  refine lv_bipush (v := 60) hx hb dX1_start_31 (by decide) ?_
  refine va_put (D := D) (ci := 1) (v := .int 60) (ty := .int) (C := RX1) (T := TX1) (N := 7) hx hb hts iX1 tyX1 tyX1_ok nmX1 hown hK hP hD hS 5 rfl rfl 6 (by decide) (hts _ (List.mem_of_getElem? (i := 7) rfl)) (fun _ h9 => h9) rfl (by decide +kernel) rfl rfl (Nat.le_of_ble_eq_true rfl) dX1_start_33 (fun H locs hP hD hS => ?_)
  have hP : va_P D vwCl (xW y q (nI n) now rt tr C ah w (0, 0, 0, 0, 0, 0, 60) rd ct g h) H := hP
  have hD : va_D A (xW y q (nI n) now rt tr C ah w (0, 0, 0, 0, 0, 0, 60) rd ct g h) := hD
  exact mu_vret () hx hb hr hlocks hP hD hS dX1_start_36 trivial

set_option maxHeartbeats 4000000 in
set_option maxRecDepth 100000 in
theorem kX1_add (l : Launch) (D : va_G) (y : Nat → ClassId) (q : Nat → Nat) (n : Nat) (now rt : Int32) (tr : Int64) (C : Nat → CT) (ah w : Nat → Int32) (mx : MT) (rd ct : Int32) (g h : Nat → Int32) (y0 : Int32) (j : Nat) (hj : j < 12) (sz : Nat) : Met l yX1_add wsX1_add ({ frames := 2, cells := 0, slots := 0, locals := 42 }) (va_Pc [.ref (q 5), .ref (q (9 + j)), .int y0] (muB D (xT y) (xW y q (nI n) now rt tr C ah w mx rd ct g h) sz eT)) (QV (σ := Unit) D (fun u => True) (fun u => (xW y q (nI n) now rt tr C ah w (addX mx (C j) y0) rd ct g h)) (va_A (xW y q (nI n) now rt tr C ah w mx rd ct g h) sz)) 0 0 (va_A (xW y q (nI n) now rt tr C ah w mx rd ct g h) sz) := by
  refine mu_start (Qc := QV (σ := Unit) D (fun u => True) (fun u => (xW y q (nI n) now rt tr C ah w (addX mx (C j) y0) rd ct g h))) (cc := cX1_add) (maxL := 3) (ret := none) (by decide) rfl (Nat.le_of_ble_eq_true rfl) ?_
  intro p e s m below meth c ls A hx hb hr hml hown hlocks hts hnm hA hP hK hN hD hE hAA hsz hl
  have hS : va_S A s.heap s.heap [] := va_S.rf
  have hown : s.vm.findClass RX1 = some m.cls := hown
  have F : CallFix p m c cX1_add 3 s [.ref (q 5), .ref (q (9 + j)), .int y0].toArray wsX1_add RX1 := ⟨hx, hb, hml, hown, hts⟩
  have hl : lv_has ls 3 [(0, .ref (q 5)), (1, .ref (q (9 + j))), (2, .int y0)] := hl
  have iX0 : ∀ w ∈ u_ws RX0 TX0 8, w ∈ wsX1_add := mem_pl [39, 40, 41, 42, 43, 44, 45, 46] rfl
  have iX1 : ∀ w ∈ u_ws RX1 TX1 7, w ∈ wsX1_add := mem_pl [32, 33, 34, 35, 36, 37, 38] rfl
  refine lv_aload_n hx hb dX1_add_0 rfl (lv_at hl 0 rfl) ?_
  refine lv_dup hx hb dX1_add_1 rfl ?_
  refine va_get (D := D) (ci := 1) (v := .int (m_dr mx)) (C := RX1) (T := TX1) (N := 7) hx hb hts iX1 hown hK hP 5 rfl rfl 0 (by decide) (hts _ (List.mem_of_getElem? (i := 1) rfl)) (fun _ h9 => h9) rfl dX1_add_2 ?_
  refine lv_aload_n hx hb dX1_add_5 rfl (lv_at hl 1 rfl) ?_
  refine va_get (D := D) (ci := 0) (v := .int (c_dr (C j))) (C := RX0) (T := TX0) (N := 8) hx hb hts iX0 hown hK hP (9 + j) (xp_at rfl hj) rfl 1 (by decide) (hts _ (List.mem_of_getElem? (i := 2) rfl)) (fun _ h9 => h9) rfl dX1_add_6 ?_
  refine lv_iadd hx hb dX1_add_9 ?_
  refine va_put (D := D) (ci := 1) (v := .int ((m_dr mx) + (c_dr (C j)))) (ty := .int) (C := RX1) (T := TX1) (N := 7) hx hb hts iX1 tyX1 tyX1_ok nmX1 hown hK hP hD hS 5 rfl rfl 0 (by decide) (hts _ (List.mem_of_getElem? (i := 1) rfl)) (fun _ h9 => h9) rfl (by decide +kernel) rfl rfl (Nat.le_of_ble_eq_true rfl) dX1_add_10 (fun H locs hP hD hS => ?_)
  have hP : va_P D vwCl (xW y q (nI n) now rt tr C ah w (((m_dr mx) + (c_dr (C j))), m_sg mx, m_ok mx, m_sm mx, m_sw mx, m_co mx, m_ag mx) rd ct g h) H := hP
  have hD : va_D A (xW y q (nI n) now rt tr C ah w (((m_dr mx) + (c_dr (C j))), m_sg mx, m_ok mx, m_sm mx, m_sw mx, m_co mx, m_ag mx) rd ct g h) := hD
  refine lv_aload_n hx hb dX1_add_13 rfl (lv_at hl 0 rfl) ?_
  refine lv_dup hx hb dX1_add_14 rfl ?_
  refine va_get (D := D) (ci := 1) (v := .int (m_sg mx)) (C := RX1) (T := TX1) (N := 7) hx hb hts iX1 hown hK hP 5 rfl rfl 1 (by decide) (hts _ (List.mem_of_getElem? (i := 3) rfl)) (fun _ h9 => h9) rfl dX1_add_15 ?_
  refine lv_aload_n hx hb dX1_add_18 rfl (lv_at hl 1 rfl) ?_
  refine va_get (D := D) (ci := 0) (v := .int (c_dr (C j))) (C := RX0) (T := TX0) (N := 8) hx hb hts iX0 hown hK hP (9 + j) (xp_at rfl hj) rfl 1 (by decide) (hts _ (List.mem_of_getElem? (i := 2) rfl)) (fun _ h9 => h9) rfl dX1_add_19 ?_
  refine lv_aload_n hx hb dX1_add_22 rfl (lv_at hl 1 rfl) ?_
  refine va_get (D := D) (ci := 0) (v := .int (c_sg (C j))) (C := RX0) (T := TX0) (N := 8) hx hb hts iX0 hown hK hP (9 + j) (xp_at rfl hj) rfl 2 (by decide) (hts _ (List.mem_of_getElem? (i := 4) rfl)) (fun _ h9 => h9) rfl dX1_add_23 ?_
  refine lv_imul hx hb dX1_add_26 ?_
  refine lv_iadd hx hb dX1_add_27 ?_
  refine va_put (D := D) (ci := 1) (v := .int ((m_sg mx) + ((c_dr (C j)) * (c_sg (C j))))) (ty := .int) (C := RX1) (T := TX1) (N := 7) hx hb hts iX1 tyX1 tyX1_ok nmX1 hown hK hP hD hS 5 rfl rfl 1 (by decide) (hts _ (List.mem_of_getElem? (i := 3) rfl)) (fun _ h9 => h9) rfl (by decide +kernel) rfl rfl (Nat.le_of_ble_eq_true rfl) dX1_add_28 (fun H locs hP hD hS => ?_)
  have hP : va_P D vwCl (xW y q (nI n) now rt tr C ah w (((m_dr mx) + (c_dr (C j))), ((m_sg mx) + ((c_dr (C j)) * (c_sg (C j)))), m_ok mx, m_sm mx, m_sw mx, m_co mx, m_ag mx) rd ct g h) H := hP
  have hD : va_D A (xW y q (nI n) now rt tr C ah w (((m_dr mx) + (c_dr (C j))), ((m_sg mx) + ((c_dr (C j)) * (c_sg (C j)))), m_ok mx, m_sm mx, m_sw mx, m_co mx, m_ag mx) rd ct g h) := hD
  refine lv_aload_n hx hb dX1_add_31 rfl (lv_at hl 0 rfl) ?_
  refine lv_dup hx hb dX1_add_32 rfl ?_
  refine va_get (D := D) (ci := 1) (v := .int (m_ok mx)) (C := RX1) (T := TX1) (N := 7) hx hb hts iX1 hown hK hP 5 rfl rfl 2 (by decide) (hts _ (List.mem_of_getElem? (i := 5) rfl)) (fun _ h9 => h9) rfl dX1_add_33 ?_
  refine lv_aload_n hx hb dX1_add_36 rfl (lv_at hl 1 rfl) ?_
  refine va_get (D := D) (ci := 0) (v := .int (c_dr (C j))) (C := RX0) (T := TX0) (N := 8) hx hb hts iX0 hown hK hP (9 + j) (xp_at rfl hj) rfl 1 (by decide) (hts _ (List.mem_of_getElem? (i := 2) rfl)) (fun _ h9 => h9) rfl dX1_add_37 ?_
  refine lv_aload_n hx hb dX1_add_40 rfl (lv_at hl 1 rfl) ?_
  refine va_get (D := D) (ci := 0) (v := .int (c_ok (C j))) (C := RX0) (T := TX0) (N := 8) hx hb hts iX0 hown hK hP (9 + j) (xp_at rfl hj) rfl 4 (by decide) (hts _ (List.mem_of_getElem? (i := 6) rfl)) (fun _ h9 => h9) rfl dX1_add_41 ?_
  refine lv_imul hx hb dX1_add_44 ?_
  refine lv_iadd hx hb dX1_add_45 ?_
  refine va_put (D := D) (ci := 1) (v := .int ((m_ok mx) + ((c_dr (C j)) * (c_ok (C j))))) (ty := .int) (C := RX1) (T := TX1) (N := 7) hx hb hts iX1 tyX1 tyX1_ok nmX1 hown hK hP hD hS 5 rfl rfl 2 (by decide) (hts _ (List.mem_of_getElem? (i := 5) rfl)) (fun _ h9 => h9) rfl (by decide +kernel) rfl rfl (Nat.le_of_ble_eq_true rfl) dX1_add_46 (fun H locs hP hD hS => ?_)
  have hP : va_P D vwCl (xW y q (nI n) now rt tr C ah w (((m_dr mx) + (c_dr (C j))), ((m_sg mx) + ((c_dr (C j)) * (c_sg (C j)))), ((m_ok mx) + ((c_dr (C j)) * (c_ok (C j)))), m_sm mx, m_sw mx, m_co mx, m_ag mx) rd ct g h) H := hP
  have hD : va_D A (xW y q (nI n) now rt tr C ah w (((m_dr mx) + (c_dr (C j))), ((m_sg mx) + ((c_dr (C j)) * (c_sg (C j)))), ((m_ok mx) + ((c_dr (C j)) * (c_ok (C j)))), m_sm mx, m_sw mx, m_co mx, m_ag mx) rd ct g h) := hD
  refine lv_aload_n hx hb dX1_add_49 rfl (lv_at hl 0 rfl) ?_
  refine lv_dup hx hb dX1_add_50 rfl ?_
  refine va_get (D := D) (ci := 1) (v := .int (m_sm mx)) (C := RX1) (T := TX1) (N := 7) hx hb hts iX1 hown hK hP 5 rfl rfl 3 (by decide) (hts _ (List.mem_of_getElem? (i := 7) rfl)) (fun _ h9 => h9) rfl dX1_add_51 ?_
  refine lv_aload_n hx hb dX1_add_54 rfl (lv_at hl 1 rfl) ?_
  refine va_get (D := D) (ci := 0) (v := .int (c_dr (C j))) (C := RX0) (T := TX0) (N := 8) hx hb hts iX0 hown hK hP (9 + j) (xp_at rfl hj) rfl 1 (by decide) (hts _ (List.mem_of_getElem? (i := 2) rfl)) (fun _ h9 => h9) rfl dX1_add_55 ?_
  refine lv_aload_n hx hb dX1_add_58 rfl (lv_at hl 1 rfl) ?_
  refine va_get (D := D) (ci := 0) (v := .int (c_sm (C j))) (C := RX0) (T := TX0) (N := 8) hx hb hts iX0 hown hK hP (9 + j) (xp_at rfl hj) rfl 5 (by decide) (hts _ (List.mem_of_getElem? (i := 8) rfl)) (fun _ h9 => h9) rfl dX1_add_59 ?_
  refine lv_imul hx hb dX1_add_62 ?_
  refine lv_iadd hx hb dX1_add_63 ?_
  refine va_put (D := D) (ci := 1) (v := .int ((m_sm mx) + ((c_dr (C j)) * (c_sm (C j))))) (ty := .int) (C := RX1) (T := TX1) (N := 7) hx hb hts iX1 tyX1 tyX1_ok nmX1 hown hK hP hD hS 5 rfl rfl 3 (by decide) (hts _ (List.mem_of_getElem? (i := 7) rfl)) (fun _ h9 => h9) rfl (by decide +kernel) rfl rfl (Nat.le_of_ble_eq_true rfl) dX1_add_64 (fun H locs hP hD hS => ?_)
  have hP : va_P D vwCl (xW y q (nI n) now rt tr C ah w (((m_dr mx) + (c_dr (C j))), ((m_sg mx) + ((c_dr (C j)) * (c_sg (C j)))), ((m_ok mx) + ((c_dr (C j)) * (c_ok (C j)))), ((m_sm mx) + ((c_dr (C j)) * (c_sm (C j)))), m_sw mx, m_co mx, m_ag mx) rd ct g h) H := hP
  have hD : va_D A (xW y q (nI n) now rt tr C ah w (((m_dr mx) + (c_dr (C j))), ((m_sg mx) + ((c_dr (C j)) * (c_sg (C j)))), ((m_ok mx) + ((c_dr (C j)) * (c_ok (C j)))), ((m_sm mx) + ((c_dr (C j)) * (c_sm (C j)))), m_sw mx, m_co mx, m_ag mx) rd ct g h) := hD
  refine lv_aload_n hx hb dX1_add_67 rfl (lv_at hl 0 rfl) ?_
  refine lv_dup hx hb dX1_add_68 rfl ?_
  refine va_get (D := D) (ci := 1) (v := .int (m_sw mx)) (C := RX1) (T := TX1) (N := 7) hx hb hts iX1 hown hK hP 5 rfl rfl 4 (by decide) (hts _ (List.mem_of_getElem? (i := 9) rfl)) (fun _ h9 => h9) rfl dX1_add_69 ?_
  refine lv_aload_n hx hb dX1_add_72 rfl (lv_at hl 1 rfl) ?_
  refine va_get (D := D) (ci := 0) (v := .int (c_dr (C j))) (C := RX0) (T := TX0) (N := 8) hx hb hts iX0 hown hK hP (9 + j) (xp_at rfl hj) rfl 1 (by decide) (hts _ (List.mem_of_getElem? (i := 2) rfl)) (fun _ h9 => h9) rfl dX1_add_73 ?_
  refine lv_aload_n hx hb dX1_add_76 rfl (lv_at hl 1 rfl) ?_
  refine va_get (D := D) (ci := 0) (v := .int (c_sw (C j))) (C := RX0) (T := TX0) (N := 8) hx hb hts iX0 hown hK hP (9 + j) (xp_at rfl hj) rfl 6 (by decide) (hts _ (List.mem_of_getElem? (i := 10) rfl)) (fun _ h9 => h9) rfl dX1_add_77 ?_
  refine lv_imul hx hb dX1_add_80 ?_
  refine lv_iadd hx hb dX1_add_81 ?_
  refine va_put (D := D) (ci := 1) (v := .int ((m_sw mx) + ((c_dr (C j)) * (c_sw (C j))))) (ty := .int) (C := RX1) (T := TX1) (N := 7) hx hb hts iX1 tyX1 tyX1_ok nmX1 hown hK hP hD hS 5 rfl rfl 4 (by decide) (hts _ (List.mem_of_getElem? (i := 9) rfl)) (fun _ h9 => h9) rfl (by decide +kernel) rfl rfl (Nat.le_of_ble_eq_true rfl) dX1_add_82 (fun H locs hP hD hS => ?_)
  have hP : va_P D vwCl (xW y q (nI n) now rt tr C ah w (((m_dr mx) + (c_dr (C j))), ((m_sg mx) + ((c_dr (C j)) * (c_sg (C j)))), ((m_ok mx) + ((c_dr (C j)) * (c_ok (C j)))), ((m_sm mx) + ((c_dr (C j)) * (c_sm (C j)))), ((m_sw mx) + ((c_dr (C j)) * (c_sw (C j)))), m_co mx, m_ag mx) rd ct g h) H := hP
  have hD : va_D A (xW y q (nI n) now rt tr C ah w (((m_dr mx) + (c_dr (C j))), ((m_sg mx) + ((c_dr (C j)) * (c_sg (C j)))), ((m_ok mx) + ((c_dr (C j)) * (c_ok (C j)))), ((m_sm mx) + ((c_dr (C j)) * (c_sm (C j)))), ((m_sw mx) + ((c_dr (C j)) * (c_sw (C j)))), m_co mx, m_ag mx) rd ct g h) := hD
  refine lv_aload_n hx hb dX1_add_85 rfl (lv_at hl 0 rfl) ?_
  refine lv_dup hx hb dX1_add_86 rfl ?_
  refine va_get (D := D) (ci := 1) (v := .int (m_co mx)) (C := RX1) (T := TX1) (N := 7) hx hb hts iX1 hown hK hP 5 rfl rfl 5 (by decide) (hts _ (List.mem_of_getElem? (i := 11) rfl)) (fun _ h9 => h9) rfl dX1_add_87 ?_
  refine lv_aload_n hx hb dX1_add_90 rfl (lv_at hl 1 rfl) ?_
  refine lv_iload_n hx hb dX1_add_91 rfl (lv_at hl 2 rfl) ?_
  refine ro_i (va_runV (As := [.int y0]) (rest := [.int (m_co mx), .ref (q 5)]) F (kX0_cost l D y q n now rt tr C ah w (((m_dr mx) + (c_dr (C j))), ((m_sg mx) + ((c_dr (C j)) * (c_sg (C j)))), ((m_ok mx) + ((c_dr (C j)) * (c_ok (C j)))), ((m_sm mx) + ((c_dr (C j)) * (c_sm (C j)))), ((m_sw mx) + ((c_dr (C j)) * (c_sw (C j)))), m_co mx, m_ag mx) rd ct g h y0 j hj) (cwV 1 hts gX1_add_X0_cost rfl rfl rfl ⟨rfl, hdX0_cost⟩ ⟨(Nat.le_of_ble_eq_true rfl), (Nat.le_of_ble_eq_true rfl)⟩) ⟨rdB_blind, va_recv hK hP (ci := 0) (q0 := (9 + j)) rfl (xp_at rfl hj), rdB_pre hP hK hN⟩ rfl rfl hl.1 rfl (lv_room (Nat.le_of_ble_eq_true rfl)) dX1_add_92 ⟨Nat.zero_le _, Nat.zero_le _⟩) ?_
  refine lv_iadd hx hb dX1_add_95 ?_
  refine va_put (D := D) (ci := 1) (v := .int ((m_co mx) + (costX (C j) y0))) (ty := .int) (C := RX1) (T := TX1) (N := 7) hx hb hts iX1 tyX1 tyX1_ok nmX1 hown hK hP hD hS 5 rfl rfl 5 (by decide) (hts _ (List.mem_of_getElem? (i := 11) rfl)) (fun _ h9 => h9) rfl (by decide +kernel) rfl rfl (Nat.le_of_ble_eq_true rfl) dX1_add_96 (fun H locs hP hD hS => ?_)
  have hP : va_P D vwCl (xW y q (nI n) now rt tr C ah w (((m_dr mx) + (c_dr (C j))), ((m_sg mx) + ((c_dr (C j)) * (c_sg (C j)))), ((m_ok mx) + ((c_dr (C j)) * (c_ok (C j)))), ((m_sm mx) + ((c_dr (C j)) * (c_sm (C j)))), ((m_sw mx) + ((c_dr (C j)) * (c_sw (C j)))), ((m_co mx) + (costX (C j) y0)), m_ag mx) rd ct g h) H := hP
  have hD : va_D A (xW y q (nI n) now rt tr C ah w (((m_dr mx) + (c_dr (C j))), ((m_sg mx) + ((c_dr (C j)) * (c_sg (C j)))), ((m_ok mx) + ((c_dr (C j)) * (c_ok (C j)))), ((m_sm mx) + ((c_dr (C j)) * (c_sm (C j)))), ((m_sw mx) + ((c_dr (C j)) * (c_sw (C j)))), ((m_co mx) + (costX (C j) y0)), m_ag mx) rd ct g h) := hD
  refine lv_aload_n hx hb dX1_add_99 rfl (lv_at hl 0 rfl) ?_
  refine lv_aload_n hx hb dX1_add_100 rfl (lv_at hl 0 rfl) ?_
  refine va_get (D := D) (ci := 1) (v := .int (m_ag mx)) (C := RX1) (T := TX1) (N := 7) hx hb hts iX1 hown hK hP 5 rfl rfl 6 (by decide) (hts _ (List.mem_of_getElem? (i := 12) rfl)) (fun _ h9 => h9) rfl dX1_add_101 ?_
  refine lv_aload_n hx hb dX1_add_104 rfl (lv_at hl 1 rfl) ?_
  refine lv_iload_n hx hb dX1_add_105 rfl (lv_at hl 2 rfl) ?_
  refine ro_i (va_runV (As := [.int y0]) (rest := [.int (m_ag mx), .ref (q 5)]) F (kX0_age l D y q n now rt tr C ah w (((m_dr mx) + (c_dr (C j))), ((m_sg mx) + ((c_dr (C j)) * (c_sg (C j)))), ((m_ok mx) + ((c_dr (C j)) * (c_ok (C j)))), ((m_sm mx) + ((c_dr (C j)) * (c_sm (C j)))), ((m_sw mx) + ((c_dr (C j)) * (c_sw (C j)))), ((m_co mx) + (costX (C j) y0)), m_ag mx) rd ct g h y0 j hj) (cwV 1 hts gX1_add_X0_age rfl rfl rfl ⟨rfl, hdX0_age⟩ ⟨(Nat.le_of_ble_eq_true rfl), (Nat.le_of_ble_eq_true rfl)⟩) ⟨rdB_blind, va_recv hK hP (ci := 0) (q0 := (9 + j)) rfl (xp_at rfl hj), rdB_pre hP hK hN⟩ rfl rfl hl.1 rfl (lv_room (Nat.le_of_ble_eq_true rfl)) dX1_add_106 ⟨Nat.zero_le _, Nat.zero_le _⟩) ?_
  refine wm_min hx hb (hml.trans hl.1.symm) hown (hts _ (List.mem_of_getElem? (i := 13) rfl)) (hts _ (List.mem_of_getElem? (i := 14) rfl)) (hts _ (List.mem_of_getElem? (i := 15) rfl)) (hts _ (List.mem_of_getElem? (i := 16) rfl)) (Nat.le_of_ble_eq_true rfl) (Nat.le_of_ble_eq_true rfl) (Nat.zero_le _) (Nat.zero_le _) dX1_add_109 ?_
  refine va_put (D := D) (ci := 1) (v := .int (mnI (m_ag mx) (y0 - c_la (C j)))) (ty := .int) (C := RX1) (T := TX1) (N := 7) hx hb hts iX1 tyX1 tyX1_ok nmX1 hown hK hP hD hS 5 rfl rfl 6 (by decide) (hts _ (List.mem_of_getElem? (i := 12) rfl)) (fun _ h9 => h9) rfl (by decide +kernel) rfl rfl (Nat.le_of_ble_eq_true rfl) dX1_add_112 (fun H locs hP hD hS => ?_)
  have hP : va_P D vwCl (xW y q (nI n) now rt tr C ah w (((m_dr mx) + (c_dr (C j))), ((m_sg mx) + ((c_dr (C j)) * (c_sg (C j)))), ((m_ok mx) + ((c_dr (C j)) * (c_ok (C j)))), ((m_sm mx) + ((c_dr (C j)) * (c_sm (C j)))), ((m_sw mx) + ((c_dr (C j)) * (c_sw (C j)))), ((m_co mx) + (costX (C j) y0)), (mnI (m_ag mx) (y0 - c_la (C j)))) rd ct g h) H := hP
  have hD : va_D A (xW y q (nI n) now rt tr C ah w (((m_dr mx) + (c_dr (C j))), ((m_sg mx) + ((c_dr (C j)) * (c_sg (C j)))), ((m_ok mx) + ((c_dr (C j)) * (c_ok (C j)))), ((m_sm mx) + ((c_dr (C j)) * (c_sm (C j)))), ((m_sw mx) + ((c_dr (C j)) * (c_sw (C j)))), ((m_co mx) + (costX (C j) y0)), (mnI (m_ag mx) (y0 - c_la (C j)))) rd ct g h) := hD
  exact mu_vret () hx hb hr hlocks hP hD hS dX1_add_115 trivial

set_option maxHeartbeats 4000000 in
set_option maxRecDepth 100000 in
theorem kX4_passYear (l : Launch) (D : va_G) (y : Nat → ClassId) (q : Nat → Nat) (n : Nat) (now rt : Int32) (tr : Int64) (C : Nat → CT) (ah w : Nat → Int32) (mx : MT) (rd ct : Int32) (g h : Nat → Int32) (sz : Nat) (hn : n ≤ 12) : Met l yX4_passYear wsX4_passYear ({ frames := 4, cells := 0, slots := 0, locals := 88 }) (va_Pc [.ref (q 0)] (muB D (xT y) (xW y q (nI n) now rt tr C ah w mx rd ct g h) sz eT)) (QV (σ := Unit) D (fun u => True) (fun u => (xW y q (nI n) (now + 1) rt tr (yrC C now n) ah w mx rd ct g h)) (va_A (xW y q (nI n) now rt tr C ah w mx rd ct g h) sz)) 0 0 (va_A (xW y q (nI n) now rt tr C ah w mx rd ct g h) sz) := by
  refine mu_start (Qc := QV (σ := Unit) D (fun u => True) (fun u => (xW y q (nI n) (now + 1) rt tr (yrC C now n) ah w mx rd ct g h))) (cc := cX4_passYear) (maxL := 2) (ret := none) (by decide) rfl (Nat.le_of_ble_eq_true rfl) ?_
  intro p e s m below meth c ls A hx hb hr hml hown hlocks hts hnm hA hP hK hN hD hE hAA hsz hl
  have hS : va_S A s.heap s.heap [] := va_S.rf
  have hown : s.vm.findClass RX4 = some m.cls := hown
  have F : CallFix p m c cX4_passYear 2 s [.ref (q 0)].toArray wsX4_passYear RX4 := ⟨hx, hb, hml, hown, hts⟩
  have hl : lv_has ls 2 [(0, .ref (q 0))] := hl
  have iX0 : ∀ w ∈ u_ws RX0 TX0 8, w ∈ wsX4_passYear := mem_pl [48, 49, 50, 51, 52, 53, 54, 55] rfl
  have iX4 : ∀ w ∈ u_ws RX4 TX4 9, w ∈ wsX4_passYear := mem_pl [39, 40, 41, 42, 43, 44, 45, 46, 47] rfl
  refine lv_iconst (v := 0) hx hb dX4_passYear_0 (by decide) ?_
  refine lv_istore_n (lv' := [(1, .int 0), (0, .ref (q 0))]) hx hb dX4_passYear_1 rfl hl (by decide) rfl (fun ls hl => ?_)
  refine W.lpW (pc := 2) (τ := Nat) (D := D) (A := A) (H0 := s.heap) (cl := vwCl) (fun i => i ≤ n) (fun i => (xW y q (nI n) now rt tr (yrC C now i) ah w mx rd ct g h)) (fun i ls => lv_has ls 2 [(0, .ref (q 0)), (1, .int (nI i))]) (fun i => n - i) ?_ 0 ls (Nat.zero_le _) (lv_sub hl [1, 0] rfl) (by show va_P D vwCl (xW y q (nI n) now rt tr (yrC C now 0) ah w mx rd ct g h) _; rw [yrC_0]; exact hP) (by show va_D A (xW y q (nI n) now rt tr (yrC C now 0) ah w mx rd ct g h); rw [yrC_0]; exact hD) hS
  intro i ls H locs hi hl hP hD hS ihi
  have hi : i ≤ n := hi
  have hl : lv_has ls 2 [(0, .ref (q 0)), (1, .int (nI i))] := hl
  have hP : va_P D vwCl (xW y q (nI n) now rt tr (yrC C now i) ah w mx rd ct g h) H := hP
  have hD : va_D A (xW y q (nI n) now rt tr (yrC C now i) ah w mx rd ct g h) := hD
  refine lv_iload_n hx hb dX4_passYear_2 rfl (lv_at hl 1 rfl) ?_
  refine lv_aload_n hx hb dX4_passYear_3 rfl (lv_at hl 0 rfl) ?_
  refine va_get (D := D) (ci := 4) (v := .int (nI n)) (C := RX4) (T := TX4) (N := 9) hx hb hts iX4 hown hK hP 0 rfl rfl 5 (by decide) (hts _ (List.mem_of_getElem? (i := 1) rfl)) (fun _ h9 => h9) rfl dX4_passYear_4 ?_
  refine lv_icmp_ge (tgt := 41) hx hb dX4_passYear_7 (by decide) (fun c_1 => ?_) (fun c_1 => ?_)
  · skip
    have c_1 : n ≤ i := (nI_leI (a := n) (b := i) (by omega) (by omega)).mp c_1
    have hin : i = n := Nat.le_antisymm hi c_1
    rw [hin] at hP hD
    refine lv_aload_n hx hb dX4_passYear_41 rfl (lv_at hl 0 rfl) ?_
    refine lv_dup hx hb dX4_passYear_42 rfl ?_
    refine va_get (D := D) (ci := 4) (v := .int now) (C := RX4) (T := TX4) (N := 9) hx hb hts iX4 hown hK hP 0 rfl rfl 6 (by decide) (hts _ (List.mem_of_getElem? (i := 4) rfl)) (fun _ h9 => h9) rfl dX4_passYear_43 ?_
    refine lv_iconst (v := 1) hx hb dX4_passYear_46 (by decide) ?_
    refine lv_iadd hx hb dX4_passYear_47 ?_
    refine va_put (D := D) (ci := 4) (v := .int (now + 1)) (ty := .int) (C := RX4) (T := TX4) (N := 9) hx hb hts iX4 tyX4 tyX4_ok nmX4 hown hK hP hD hS 0 rfl rfl 6 (by decide) (hts _ (List.mem_of_getElem? (i := 4) rfl)) (fun _ h9 => h9) rfl (by decide +kernel) rfl rfl (Nat.le_of_ble_eq_true rfl) dX4_passYear_48 (fun H locs hP hD hS => ?_)
    have hP : va_P D vwCl (xW y q (nI n) (now + 1) rt tr (yrC C now n) ah w mx rd ct g h) H := hP
    have hD : va_D A (xW y q (nI n) (now + 1) rt tr (yrC C now n) ah w mx rd ct g h) := hD
    exact mu_vret () hx hb hr hlocks hP hD hS dX4_passYear_51 trivial
  · skip
    have c_1 : ¬ n ≤ i := fun h => c_1 ((nI_leI (a := n) (b := i) (by omega) (by omega)).mpr h)
    refine lv_aload_n hx hb dX4_passYear_10 rfl (lv_at hl 0 rfl) ?_
    refine va_get (D := D) (ci := 4) (v := .ref (q 1)) (C := RX4) (T := TX4) (N := 9) hx hb hts iX4 hown hK hP 0 rfl rfl 0 (by decide) (hts _ (List.mem_of_getElem? (i := 2) rfl)) (fun _ h9 => h9) rfl dX4_passYear_11 ?_
    refine lv_iload_n hx hb dX4_passYear_14 rfl (lv_at hl 1 rfl) ?_
    refine wa_aldq hx hb hK hP 1 0 rfl rfl i rfl (by omega) (by decide) rfl dX4_passYear_15 ?_
    refine va_get (D := D) (ci := 0) (v := .int (c_dr ((yrC C now i) i))) (C := RX0) (T := TX0) (N := 8) hx hb hts iX0 hown hK hP (9 + i) (xp_at rfl (by omega)) rfl 1 (by decide) (hts _ (List.mem_of_getElem? (i := 3) rfl)) (fun _ h9 => h9) rfl dX4_passYear_16 ?_
    refine lv_if_le (tgt := 35) hx hb dX4_passYear_19 (by decide) (fun c_2 => ?_) (fun c_2 => ?_)
    · skip
      refine lv_iinc (v := (nI i + 1)) (lv' := [(1, .int (nI i + 1)), (0, .ref (q 0))]) hx hb dX4_passYear_35 hl (k := 1) rfl rfl (by decide) rfl (fun ls hl => ?_)
      refine lv_goto (tgt := 2) hx hb dX4_passYear_38 (by decide) ?_
      rw [yrC_i] at c_2
      rw [yrC_n c_2] at hP hD
      have hP : va_P D vwCl (xW y q (nI n) now rt tr (yrC C now (i + 1)) ah w mx rd ct g h) H := hP
      have hD : va_D A (xW y q (nI n) now rt tr (yrC C now (i + 1)) ah w mx rd ct g h) := hD
      exact ihi (i + 1) ls H locs (by show n - (i + 1) < n - i; omega) (by show i + 1 ≤ n; omega) (lv_sub hl [1, 0] (by
        show ([(0, .ref (q 0)), (1, .int (nI i + 1))] : List (Nat × Value)) = [(0, .ref (q 0)), (1, .int (nI (i + 1)))]
        rw [← nI_1])) hP hD hS
    · skip
      refine lv_aload_n hx hb dX4_passYear_22 rfl (lv_at hl 0 rfl) ?_
      refine va_get (D := D) (ci := 4) (v := .ref (q 1)) (C := RX4) (T := TX4) (N := 9) hx hb hts iX4 hown hK hP 0 rfl rfl 0 (by decide) (hts _ (List.mem_of_getElem? (i := 2) rfl)) (fun _ h9 => h9) rfl dX4_passYear_23 ?_
      refine lv_iload_n hx hb dX4_passYear_26 rfl (lv_at hl 1 rfl) ?_
      refine wa_aldq hx hb hK hP 1 0 rfl rfl i rfl (by omega) (by decide) rfl dX4_passYear_27 ?_
      refine lv_aload_n hx hb dX4_passYear_28 rfl (lv_at hl 0 rfl) ?_
      refine va_get (D := D) (ci := 4) (v := .int now) (C := RX4) (T := TX4) (N := 9) hx hb hts iX4 hown hK hP 0 rfl rfl 6 (by decide) (hts _ (List.mem_of_getElem? (i := 4) rfl)) (fun _ h9 => h9) rfl dX4_passYear_29 ?_
      refine muF_v (va_runV (As := [.int now]) (rest := []) F (kX0_passYear l D y q n now rt tr (yrC C now i) ah w mx rd ct g h now i (by omega) _) (cwV 1 hts gX4_passYear_X0_passYear rfl rfl rfl ⟨rfl, hdX0_passYear⟩ ⟨(Nat.le_of_ble_eq_true rfl), (Nat.le_of_ble_eq_true rfl)⟩) ⟨(muB_blind (fun _ _ _ _ _ => trivial)), va_recv hK hP (ci := 0) (q0 := (9 + i)) rfl (xp_at rfl (by omega)), muF_pre hP hK hN hD (fun _ _ _ => trivial)⟩ rfl rfl hl.1 rfl (lv_room (Nat.le_of_ble_eq_true rfl)) dX4_passYear_32 ⟨Nat.zero_le _, Nat.zero_le _⟩) hP hD hS hA (fun u_4 H locs w_5 hP hD hS => ?_)
      have hP : va_P D vwCl (xW y q (nI n) now rt tr (va_up (yrC C now i) i (yearC ((yrC C now i) i) now)) ah w mx rd ct g h) H := hP
      have hD : va_D A (xW y q (nI n) now rt tr (va_up (yrC C now i) i (yearC ((yrC C now i) i) now)) ah w mx rd ct g h) := hD
      refine lv_iinc (v := (nI i + 1)) (lv' := [(1, .int (nI i + 1)), (0, .ref (q 0))]) hx hb dX4_passYear_35 hl (k := 1) rfl rfl (by decide) rfl (fun ls hl => ?_)
      refine lv_goto (tgt := 2) hx hb dX4_passYear_38 (by decide) ?_
      rw [yrC_i] at c_2
      rw [yrC_t c_2] at hP hD
      have hP : va_P D vwCl (xW y q (nI n) now rt tr (yrC C now (i + 1)) ah w mx rd ct g h) H := hP
      have hD : va_D A (xW y q (nI n) now rt tr (yrC C now (i + 1)) ah w mx rd ct g h) := hD
      exact ihi (i + 1) ls H locs (by show n - (i + 1) < n - i; omega) (by show i + 1 ≤ n; omega) (lv_sub hl [1, 0] (by
        show ([(0, .ref (q 0)), (1, .int (nI i + 1))] : List (Nat × Value)) = [(0, .ref (q 0)), (1, .int (nI (i + 1)))]
        rw [← nI_1])) hP hD hS

theorem in1_of {x : Int32} (h : inR x 1 30 = true) : ∃ j : Nat, j ≤ 30 ∧ x = nI j := by
  unfold inR at h
  rw [Bool.and_eq_true, decide_eq_true_eq, decide_eq_true_eq, Int32.le_iff_toInt_le, Int32.le_iff_toInt_le] at h
  have h0 : (1 : Int32).toInt = 1 := rfl
  have h1 : (30 : Int32).toInt = 30 := rfl
  have h2 : (0 : Int32).toInt = 0 := rfl
  rw [h0, h1] at h
  obtain ⟨j, hj, e⟩ := nI_of (x := x) (by rw [Int32.lt_iff_toInt_lt, h2]; omega)
  refine ⟨j, ?_, e⟩
  rw [e, nI_toInt hj] at h
  omega

set_option maxHeartbeats 4000000 in
set_option maxRecDepth 100000 in
theorem kX4_years (l : Launch) (D : va_G) (y : Nat → ClassId) (q : Nat → Nat) (n : Nat) (now rt : Int32) (tr : Int64) (C : Nat → CT) (ah w : Nat → Int32) (mx : MT) (rd ct : Int32) (g h : Nat → Int32) (k0 : Int32) (sz : Nat) (hn : n ≤ 12) : Met l yX4_years wsX4_years ({ frames := 5, cells := 0, slots := 0, locals := 109 }) (va_Pc [.ref (q 0), .int k0] (muB D (xT y) (xW y q (nI n) now rt tr C ah w mx rd ct g h) sz eT)) (QI (σ := Int32 × (Nat → CT)) D (fun r u => (r, u) = yearsF n now C k0) (fun u => (xW y q (nI n) u.1 rt tr u.2 ah w mx rd ct g h)) (va_A (xW y q (nI n) now rt tr C ah w mx rd ct g h) sz)) 0 0 (va_A (xW y q (nI n) now rt tr C ah w mx rd ct g h) sz) := by
  refine mu_start (Qc := QI (σ := Int32 × (Nat → CT)) D (fun r u => (r, u) = yearsF n now C k0) (fun u => (xW y q (nI n) u.1 rt tr u.2 ah w mx rd ct g h))) (cc := cX4_years) (maxL := 3) (ret := (some .int)) (by decide) rfl (Nat.le_of_ble_eq_true rfl) ?_
  intro p e s m below meth c ls A hx hb hr hml hown hlocks hts hnm hA hP hK hN hD hE hAA hsz hl
  have hS : va_S A s.heap s.heap [] := va_S.rf
  have hown : s.vm.findClass RX4 = some m.cls := hown
  have F : CallFix p m c cX4_years 3 s [.ref (q 0), .int k0].toArray wsX4_years RX4 := ⟨hx, hb, hml, hown, hts⟩
  have hl : lv_has ls 3 [(0, .ref (q 0)), (1, .int k0)] := hl
  have iX4 : ∀ w ∈ u_ws RX4 TX4 9, w ∈ wsX4_years := mem_pl [46, 47, 48, 49, 50, 51, 52, 53, 54] rfl
  refine lv_iload_n hx hb dX4_years_0 rfl (lv_at hl 1 rfl) ?_
  refine lv_iconst (v := 1) hx hb dX4_years_1 (by decide) ?_
  refine lv_bipush (v := 30) hx hb dX4_years_2 (by decide) ?_
  refine ro_i (va_runS (As := [.int k0, .int 1, .int 30]) (rest := []) F (kX4_isWithin l k0 1 30) (va_cwS 3 hts gX4_years_X4_isWithin rfl rfl rfl hdX4_isWithin ⟨(Nat.le_of_ble_eq_true rfl), (Nat.le_of_ble_eq_true rfl)⟩) ⟨tr_blind, tr_pre⟩ rfl rfl hl.1 rfl (lv_room (Nat.le_of_ble_eq_true rfl)) dX4_years_4 ⟨Nat.zero_le _, Nat.zero_le _⟩) ?_
  refine lv_if_ne (tgt := 12) hx hb dX4_years_7 (by decide) (fun c_1 => ?_) (fun c_1 => ?_)
  · skip
    have c_1 := zI_1 c_1
    obtain ⟨k, hk, rfl⟩ := in1_of c_1
    have ek : (nI k).toNatClampNeg = k := nI_clamp (by omega)
    refine lv_aload_n hx hb dX4_years_12 rfl (lv_at hl 0 rfl) ?_
    refine va_get (D := D) (ci := 4) (v := .int now) (C := RX4) (T := TX4) (N := 9) hx hb hts iX4 hown hK hP 0 rfl rfl 6 (by decide) (hts _ (List.mem_of_getElem? (i := 1) rfl)) (fun _ h9 => h9) rfl dX4_years_13 ?_
    refine lv_iload_n hx hb dX4_years_16 rfl (lv_at hl 1 rfl) ?_
    refine lv_iadd hx hb dX4_years_17 ?_
    refine lv_bipush (v := 60) hx hb dX4_years_18 (by decide) ?_
    refine lv_icmp_le (tgt := 26) hx hb dX4_years_20 (by decide) (fun c_2 => ?_) (fun c_2 => ?_)
    · skip
      refine lv_iconst (v := 0) hx hb dX4_years_26 (by decide) ?_
      refine lv_istore_n (lv' := [(2, .int 0), (0, .ref (q 0)), (1, .int (nI k))]) hx hb dX4_years_27 rfl hl (by decide) rfl (fun ls hl => ?_)
      refine W.lpW (pc := 28) (τ := Nat) (D := D) (A := A) (H0 := s.heap) (cl := vwCl) (fun i => i ≤ k) (fun i => (xW y q (nI n) ((yrs n now C i).1) rt tr ((yrs n now C i).2) ah w mx rd ct g h)) (fun i ls => lv_has ls 3 [(0, .ref (q 0)), (1, .int (nI k)), (2, .int (nI i))]) (fun i => k - i) ?_ 0 ls (Nat.zero_le _) (lv_sub hl [1, 2, 0] rfl) hP hD hS
      intro i ls H locs hi hl hP hD hS ihi
      have hi : i ≤ k := hi
      have hl : lv_has ls 3 [(0, .ref (q 0)), (1, .int (nI k)), (2, .int (nI i))] := hl
      have hP : va_P D vwCl (xW y q (nI n) ((yrs n now C i).1) rt tr ((yrs n now C i).2) ah w mx rd ct g h) H := hP
      have hD : va_D A (xW y q (nI n) ((yrs n now C i).1) rt tr ((yrs n now C i).2) ah w mx rd ct g h) := hD
      refine lv_iload_n hx hb dX4_years_28 rfl (lv_at hl 2 rfl) ?_
      refine lv_iload_n hx hb dX4_years_29 rfl (lv_at hl 1 rfl) ?_
      refine lv_icmp_ge (tgt := 43) hx hb dX4_years_30 (by decide) (fun c_3 => ?_) (fun c_3 => ?_)
      · skip
        have c_3 : k ≤ i := (nI_leI (a := k) (b := i) (by omega) (by omega)).mp c_3
        have hin : i = k := Nat.le_antisymm hi c_3
        rw [hin] at hP hD
        refine lv_aload_n hx hb dX4_years_43 rfl (lv_at hl 0 rfl) ?_
        refine va_get (D := D) (ci := 4) (v := .int ((yrs n now C k).1)) (C := RX4) (T := TX4) (N := 9) hx hb hts iX4 hown hK hP 0 rfl rfl 6 (by decide) (hts _ (List.mem_of_getElem? (i := 1) rfl)) (fun _ h9 => h9) rfl dX4_years_44 ?_
        exact mu_iret ((yrs n now C k).1, (yrs n now C k).2) hx hb hr hlocks hP hD hS dX4_years_47 (by simp [yearsF, c_1, ek, c_2])
      · skip
        have c_3 : ¬ k ≤ i := fun h => c_3 ((nI_leI (a := k) (b := i) (by omega) (by omega)).mpr h)
        refine lv_aload_n hx hb dX4_years_33 rfl (lv_at hl 0 rfl) ?_
        refine muF_v (va_runV (As := []) (rest := []) F (kX4_passYear l D y q n ((yrs n now C i).1) rt tr ((yrs n now C i).2) ah w mx rd ct g h _ hn) (cwV 0 hts gX4_years_X4_passYear rfl rfl rfl ⟨rfl, hdX4_passYear⟩ ⟨(Nat.le_of_ble_eq_true rfl), (Nat.le_of_ble_eq_true rfl)⟩) ⟨(muB_blind (fun _ _ _ _ _ => trivial)), va_recv hK hP (ci := 4) (q0 := 0) rfl rfl, muF_pre hP hK hN hD (fun _ _ _ => trivial)⟩ rfl rfl hl.1 rfl (lv_room (Nat.le_of_ble_eq_true rfl)) dX4_years_34 ⟨Nat.zero_le _, Nat.zero_le _⟩) hP hD hS hA (fun u_5 H locs w_6 hP hD hS => ?_)
        have hP : va_P D vwCl (xW y q (nI n) (((yrs n now C i).1) + 1) rt tr (yrC ((yrs n now C i).2) ((yrs n now C i).1) n) ah w mx rd ct g h) H := hP
        have hD : va_D A (xW y q (nI n) (((yrs n now C i).1) + 1) rt tr (yrC ((yrs n now C i).2) ((yrs n now C i).1) n) ah w mx rd ct g h) := hD
        refine lv_iinc (v := (nI i + 1)) (lv' := [(2, .int (nI i + 1)), (0, .ref (q 0)), (1, .int (nI k))]) hx hb dX4_years_37 hl (k := 2) rfl rfl (by decide) rfl (fun ls hl => ?_)
        refine lv_goto (tgt := 28) hx hb dX4_years_40 (by decide) ?_
        have hP : va_P D vwCl (xW y q (nI n) ((yrs n now C (i + 1)).1) rt tr ((yrs n now C (i + 1)).2) ah w mx rd ct g h) H := hP
        have hD : va_D A (xW y q (nI n) ((yrs n now C (i + 1)).1) rt tr ((yrs n now C (i + 1)).2) ah w mx rd ct g h) := hD
        exact ihi (i + 1) ls H locs (by show k - (i + 1) < k - i; omega) (by show i + 1 ≤ k; omega) (lv_sub hl [1, 2, 0] (by
          show ([(0, .ref (q 0)), (1, .int (nI k)), (2, .int (nI i + 1))] : List (Nat × Value)) = [(0, .ref (q 0)), (1, .int (nI k)), (2, .int (nI (i + 1)))]
          rw [← nI_1])) hP hD hS
    · skip
      refine lv_bipush (v := (-2)) hx hb dX4_years_23 (by decide) ?_
      exact mu_iret (now, C) hx hb hr hlocks hP hD hS dX4_years_25 (by simp [yearsF, c_1, ek, c_2])
  · skip
    have c_1 := zI_0 c_1
    refine lv_iconst (v := (-1)) hx hb dX4_years_10 (by decide) ?_
    exact mu_iret (now, C) hx hb hr hlocks hP hD hS dX4_years_11 (by simp [yearsF, c_1])

set_option maxHeartbeats 4000000 in
set_option maxRecDepth 100000 in
theorem kX4_lay (l : Launch) (D : va_G) (y : Nat → ClassId) (q : Nat → Nat) (n : Nat) (now rt : Int32) (tr : Int64) (C : Nat → CT) (ah w : Nat → Int32) (mx : MT) (rd ct : Int32) (g h : Nat → Int32) (k0 : Int32) (d0 : Int32) (s0 : Int32) (f0 : Int32) (m0 : Int32) (sz : Nat) (hn : n ≤ 12) : Met l yX4_lay wsX4_lay ({ frames := 1, cells := 0, slots := 0, locals := 26 }) (va_Pc [.ref (q 0), .int k0, .int d0, .int s0, .int f0, .int m0] (muB D (xT y) (xW y q (nI n) now rt tr C ah w mx rd ct g h) sz eT)) (QI (σ := Int32 × (Nat → CT)) D (fun r u => (r, u) = layF n now C k0 d0 s0 f0 m0) (fun u => (xW y q u.1 now rt tr u.2 ah w mx rd ct g h)) (va_A (xW y q (nI n) now rt tr C ah w mx rd ct g h) sz)) 0 0 (va_A (xW y q (nI n) now rt tr C ah w mx rd ct g h) sz) := by
  refine mu_start (Qc := QI (σ := Int32 × (Nat → CT)) D (fun r u => (r, u) = layF n now C k0 d0 s0 f0 m0) (fun u => (xW y q u.1 now rt tr u.2 ah w mx rd ct g h))) (cc := cX4_lay) (maxL := 6) (ret := (some .int)) (by decide) rfl (Nat.le_of_ble_eq_true rfl) ?_
  intro p e s m below meth c ls A hx hb hr hml hown hlocks hts hnm hA hP hK hN hD hE hAA hsz hl
  have hS : va_S A s.heap s.heap [] := va_S.rf
  have hown : s.vm.findClass RX4 = some m.cls := hown
  have F : CallFix p m c cX4_lay 6 s [.ref (q 0), .int k0, .int d0, .int s0, .int f0, .int m0].toArray wsX4_lay RX4 := ⟨hx, hb, hml, hown, hts⟩
  have hl : lv_has ls 6 [(0, .ref (q 0)), (1, .int k0), (2, .int d0), (3, .int s0), (4, .int f0), (5, .int m0)] := hl
  have iX4 : ∀ w ∈ u_ws RX4 TX4 9, w ∈ wsX4_lay := mem_pl [19, 20, 21, 22, 23, 24, 25, 26, 27] rfl
  refine lv_iload_n hx hb dX4_lay_0 rfl (lv_at hl 1 rfl) ?_
  refine lv_iconst (v := 0) hx hb dX4_lay_1 (by decide) ?_
  refine lv_iconst (v := 2) hx hb dX4_lay_2 (by decide) ?_
  refine ro_i (va_runS (As := [.int k0, .int 0, .int 2]) (rest := []) F (kX4_isWithin l k0 0 2) (va_cwS 3 hts gX4_lay_X4_isWithin rfl rfl rfl hdX4_isWithin ⟨(Nat.le_of_ble_eq_true rfl), (Nat.le_of_ble_eq_true rfl)⟩) ⟨tr_blind, tr_pre⟩ rfl rfl hl.1 rfl (lv_room (Nat.le_of_ble_eq_true rfl)) dX4_lay_3 ⟨Nat.zero_le _, Nat.zero_le _⟩) ?_
  refine lv_if_eq (tgt := 55) hx hb dX4_lay_6 (by decide) (fun c_1 => ?_) (fun c_1 => ?_)
  · skip
    have c_1 := zI_0 c_1
    refine lv_iconst (v := (-1)) hx hb dX4_lay_55 (by decide) ?_
    exact mu_iret (nI n, C) hx hb hr hlocks hP hD hS dX4_lay_56 (by simp [layF, c_1])
  · skip
    have c_1 := zI_1 c_1
    refine lv_iload_n hx hb dX4_lay_9 rfl (lv_at hl 2 rfl) ?_
    refine lv_iconst (v := 1) hx hb dX4_lay_10 (by decide) ?_
    refine lv_sipush (v := 9000) hx hb dX4_lay_11 (by decide) ?_
    refine ro_i (va_runS (As := [.int d0, .int 1, .int 9000]) (rest := []) F (kX4_isWithin l d0 1 9000) (va_cwS 3 hts gX4_lay_X4_isWithin rfl rfl rfl hdX4_isWithin ⟨(Nat.le_of_ble_eq_true rfl), (Nat.le_of_ble_eq_true rfl)⟩) ⟨tr_blind, tr_pre⟩ rfl rfl hl.1 rfl (lv_room (Nat.le_of_ble_eq_true rfl)) dX4_lay_14 ⟨Nat.zero_le _, Nat.zero_le _⟩) ?_
    refine lv_if_eq (tgt := 55) hx hb dX4_lay_17 (by decide) (fun c_2 => ?_) (fun c_2 => ?_)
    · skip
      have c_2 := zI_0 c_2
      refine lv_iconst (v := (-1)) hx hb dX4_lay_55 (by decide) ?_
      exact mu_iret (nI n, C) hx hb hr hlocks hP hD hS dX4_lay_56 (by simp [layF, c_1, c_2])
    · skip
      have c_2 := zI_1 c_2
      refine lv_iload_n hx hb dX4_lay_20 rfl (lv_at hl 3 rfl) ?_
      refine lv_sipush (v := 400) hx hb dX4_lay_21 (by decide) ?_
      refine lv_sipush (v := 700) hx hb dX4_lay_24 (by decide) ?_
      refine ro_i (va_runS (As := [.int s0, .int 400, .int 700]) (rest := []) F (kX4_isWithin l s0 400 700) (va_cwS 3 hts gX4_lay_X4_isWithin rfl rfl rfl hdX4_isWithin ⟨(Nat.le_of_ble_eq_true rfl), (Nat.le_of_ble_eq_true rfl)⟩) ⟨tr_blind, tr_pre⟩ rfl rfl hl.1 rfl (lv_room (Nat.le_of_ble_eq_true rfl)) dX4_lay_27 ⟨Nat.zero_le _, Nat.zero_le _⟩) ?_
      refine lv_if_eq (tgt := 55) hx hb dX4_lay_30 (by decide) (fun c_3 => ?_) (fun c_3 => ?_)
      · skip
        have c_3 := zI_0 c_3
        refine lv_iconst (v := (-1)) hx hb dX4_lay_55 (by decide) ?_
        exact mu_iret (nI n, C) hx hb hr hlocks hP hD hS dX4_lay_56 (by simp [layF, c_1, c_2, c_3])
      · skip
        have c_3 := zI_1 c_3
        refine lv_iload hx hb dX4_lay_33 (lv_at hl 4 rfl) ?_
        refine lv_iconst (v := 0) hx hb dX4_lay_35 (by decide) ?_
        refine lv_iconst (v := 3) hx hb dX4_lay_36 (by decide) ?_
        refine ro_i (va_runS (As := [.int f0, .int 0, .int 3]) (rest := []) F (kX4_isWithin l f0 0 3) (va_cwS 3 hts gX4_lay_X4_isWithin rfl rfl rfl hdX4_isWithin ⟨(Nat.le_of_ble_eq_true rfl), (Nat.le_of_ble_eq_true rfl)⟩) ⟨tr_blind, tr_pre⟩ rfl rfl hl.1 rfl (lv_room (Nat.le_of_ble_eq_true rfl)) dX4_lay_37 ⟨Nat.zero_le _, Nat.zero_le _⟩) ?_
        refine lv_if_eq (tgt := 55) hx hb dX4_lay_40 (by decide) (fun c_4 => ?_) (fun c_4 => ?_)
        · skip
          have c_4 := zI_0 c_4
          refine lv_iconst (v := (-1)) hx hb dX4_lay_55 (by decide) ?_
          exact mu_iret (nI n, C) hx hb hr hlocks hP hD hS dX4_lay_56 (by simp [layF, c_1, c_2, c_3, c_4])
        · skip
          have c_4 := zI_1 c_4
          refine lv_iload hx hb dX4_lay_43 (lv_at hl 5 rfl) ?_
          refine lv_iconst (v := 0) hx hb dX4_lay_45 (by decide) ?_
          refine lv_sipush (v := 500) hx hb dX4_lay_46 (by decide) ?_
          refine ro_i (va_runS (As := [.int m0, .int 0, .int 500]) (rest := []) F (kX4_isWithin l m0 0 500) (va_cwS 3 hts gX4_lay_X4_isWithin rfl rfl rfl hdX4_isWithin ⟨(Nat.le_of_ble_eq_true rfl), (Nat.le_of_ble_eq_true rfl)⟩) ⟨tr_blind, tr_pre⟩ rfl rfl hl.1 rfl (lv_room (Nat.le_of_ble_eq_true rfl)) dX4_lay_49 ⟨Nat.zero_le _, Nat.zero_le _⟩) ?_
          refine lv_if_ne (tgt := 57) hx hb dX4_lay_52 (by decide) (fun c_5 => ?_) (fun c_5 => ?_)
          · skip
            have c_5 := zI_1 c_5
            refine lv_aload_n hx hb dX4_lay_57 rfl (lv_at hl 0 rfl) ?_
            refine va_get (D := D) (ci := 4) (v := .int (nI n)) (C := RX4) (T := TX4) (N := 9) hx hb hts iX4 hown hK hP 0 rfl rfl 5 (by decide) (hts _ (List.mem_of_getElem? (i := 1) rfl)) (fun _ h9 => h9) rfl dX4_lay_58 ?_
            refine lv_bipush (v := 12) hx hb dX4_lay_61 (by decide) ?_
            refine lv_icmp_lt (tgt := 69) hx hb dX4_lay_63 (by decide) (fun c_6 => ?_) (fun c_6 => ?_)
            · skip
              have c_6 : n < 12 := (nI_ltI (a := n) (b := 12) (by omega) (by omega)).mp c_6
              refine lv_aload_n hx hb dX4_lay_69 rfl (lv_at hl 0 rfl) ?_
              refine va_get (D := D) (ci := 4) (v := .ref (q 1)) (C := RX4) (T := TX4) (N := 9) hx hb hts iX4 hown hK hP 0 rfl rfl 0 (by decide) (hts _ (List.mem_of_getElem? (i := 2) rfl)) (fun _ h9 => h9) rfl dX4_lay_70 ?_
              refine lv_aload_n hx hb dX4_lay_73 rfl (lv_at hl 0 rfl) ?_
              refine va_get (D := D) (ci := 4) (v := .int (nI n)) (C := RX4) (T := TX4) (N := 9) hx hb hts iX4 hown hK hP 0 rfl rfl 5 (by decide) (hts _ (List.mem_of_getElem? (i := 1) rfl)) (fun _ h9 => h9) rfl dX4_lay_74 ?_
              refine wa_aldq hx hb hK hP 1 0 rfl rfl n rfl (by omega) (by decide) rfl dX4_lay_77 ?_
              refine lv_iload_n hx hb dX4_lay_78 rfl (lv_at hl 1 rfl) ?_
              refine lv_iload_n hx hb dX4_lay_79 rfl (lv_at hl 2 rfl) ?_
              refine lv_iload_n hx hb dX4_lay_80 rfl (lv_at hl 3 rfl) ?_
              refine lv_iload hx hb dX4_lay_81 (lv_at hl 4 rfl) ?_
              refine lv_iload hx hb dX4_lay_83 (lv_at hl 5 rfl) ?_
              refine lv_aload_n hx hb dX4_lay_85 rfl (lv_at hl 0 rfl) ?_
              refine va_get (D := D) (ci := 4) (v := .int now) (C := RX4) (T := TX4) (N := 9) hx hb hts iX4 hown hK hP 0 rfl rfl 6 (by decide) (hts _ (List.mem_of_getElem? (i := 3) rfl)) (fun _ h9 => h9) rfl dX4_lay_86 ?_
              refine muF_v (va_runV (As := [.int k0, .int d0, .int s0, .int f0, .int m0, .int now]) (rest := []) F (kX0_fill l D y q n now rt tr C ah w mx rd ct g h k0 d0 s0 f0 m0 now n (by omega) _) (cwV 6 hts gX4_lay_X0_fill rfl rfl rfl ⟨rfl, hdX0_fill⟩ ⟨(Nat.le_of_ble_eq_true rfl), (Nat.le_of_ble_eq_true rfl)⟩) ⟨(muB_blind (fun _ _ _ _ _ => trivial)), va_recv hK hP (ci := 0) (q0 := (9 + n)) rfl (xp_at rfl (by omega)), muF_pre hP hK hN hD (fun _ _ _ => trivial)⟩ rfl rfl hl.1 rfl (lv_room (Nat.le_of_ble_eq_true rfl)) dX4_lay_89 ⟨Nat.zero_le _, Nat.zero_le _⟩) hP hD hS hA (fun u_8 H locs w_9 hP hD hS => ?_)
              have hP : va_P D vwCl (xW y q (nI n) now rt tr (va_up C n (k0, d0, s0, f0, c_ok (C n), m0, c_sw (C n), now)) ah w mx rd ct g h) H := hP
              have hD : va_D A (xW y q (nI n) now rt tr (va_up C n (k0, d0, s0, f0, c_ok (C n), m0, c_sw (C n), now)) ah w mx rd ct g h) := hD
              refine lv_aload_n hx hb dX4_lay_92 rfl (lv_at hl 0 rfl) ?_
              refine lv_dup hx hb dX4_lay_93 rfl ?_
              refine va_get (D := D) (ci := 4) (v := .int (nI n)) (C := RX4) (T := TX4) (N := 9) hx hb hts iX4 hown hK hP 0 rfl rfl 5 (by decide) (hts _ (List.mem_of_getElem? (i := 1) rfl)) (fun _ h9 => h9) rfl dX4_lay_94 ?_
              refine lv_iconst (v := 1) hx hb dX4_lay_97 (by decide) ?_
              refine lv_iadd hx hb dX4_lay_98 ?_
              refine va_put (D := D) (ci := 4) (v := .int ((nI n) + 1)) (ty := .int) (C := RX4) (T := TX4) (N := 9) hx hb hts iX4 tyX4 tyX4_ok nmX4 hown hK hP hD hS 0 rfl rfl 5 (by decide) (hts _ (List.mem_of_getElem? (i := 1) rfl)) (fun _ h9 => h9) rfl (by decide +kernel) rfl rfl (Nat.le_of_ble_eq_true rfl) dX4_lay_99 (fun H locs hP hD hS => ?_)
              have hP : va_P D vwCl (xW y q ((nI n) + 1) now rt tr (va_up C n (k0, d0, s0, f0, c_ok (C n), m0, c_sw (C n), now)) ah w mx rd ct g h) H := hP
              have hD : va_D A (xW y q ((nI n) + 1) now rt tr (va_up C n (k0, d0, s0, f0, c_ok (C n), m0, c_sw (C n), now)) ah w mx rd ct g h) := hD
              refine lv_aload_n hx hb dX4_lay_102 rfl (lv_at hl 0 rfl) ?_
              refine va_get (D := D) (ci := 4) (v := .int ((nI n) + 1)) (C := RX4) (T := TX4) (N := 9) hx hb hts iX4 hown hK hP 0 rfl rfl 5 (by decide) (hts _ (List.mem_of_getElem? (i := 1) rfl)) (fun _ h9 => h9) rfl dX4_lay_103 ?_
              refine lv_iconst (v := 1) hx hb dX4_lay_106 (by decide) ?_
              refine lv_isub hx hb dX4_lay_107 ?_
              exact mu_iret (((nI n) + 1), (va_up C n (k0, d0, s0, f0, c_ok (C n), m0, c_sw (C n), now))) hx hb hr hlocks hP hD hS dX4_lay_108 (by simp [layF, c_1, c_2, c_3, c_4, c_5, c_6])
            · skip
              have c_6 : ¬ n < 12 := fun h => c_6 ((nI_ltI (a := n) (b := 12) (by omega) (by omega)).mpr h)
              refine lv_bipush (v := (-3)) hx hb dX4_lay_66 (by decide) ?_
              exact mu_iret (nI n, C) hx hb hr hlocks hP hD hS dX4_lay_68 (by simp [layF, c_1, c_2, c_3, c_4, c_5, c_6])
          · skip
            have c_5 := zI_0 c_5
            refine lv_iconst (v := (-1)) hx hb dX4_lay_55 (by decide) ?_
            exact mu_iret (nI n, C) hx hb hr hlocks hP hD hS dX4_lay_56 (by simp [layF, c_1, c_2, c_3, c_4, c_5])

set_option maxHeartbeats 4000000 in
set_option maxRecDepth 100000 in
theorem kX4_move (l : Launch) (D : va_G) (y : Nat → ClassId) (q : Nat → Nat) (n : Nat) (now rt : Int32) (tr : Int64) (C : Nat → CT) (ah w : Nat → Int32) (mx : MT) (rd ct : Int32) (g h : Nat → Int32) (c0 : Int32) (f0 : Int32) (sz : Nat) (hn : n ≤ 12) : Met l yX4_move wsX4_move ({ frames := 2, cells := 0, slots := 0, locals := 43 }) (va_Pc [.ref (q 0), .int c0, .int f0] (muB D (xT y) (xW y q (nI n) now rt tr C ah w mx rd ct g h) sz eT)) (QI (σ := Nat → CT) D (fun r u => (r, u) = moveF n C c0 f0) (fun u => (xW y q (nI n) now rt tr u ah w mx rd ct g h)) (va_A (xW y q (nI n) now rt tr C ah w mx rd ct g h) sz)) 0 0 (va_A (xW y q (nI n) now rt tr C ah w mx rd ct g h) sz) := by
  refine mu_start (Qc := QI (σ := Nat → CT) D (fun r u => (r, u) = moveF n C c0 f0) (fun u => (xW y q (nI n) now rt tr u ah w mx rd ct g h))) (cc := cX4_move) (maxL := 4) (ret := (some .int)) (by decide) rfl (Nat.le_of_ble_eq_true rfl) ?_
  intro p e s m below meth c ls A hx hb hr hml hown hlocks hts hnm hA hP hK hN hD hE hAA hsz hl
  have hS : va_S A s.heap s.heap [] := va_S.rf
  have hown : s.vm.findClass RX4 = some m.cls := hown
  have F : CallFix p m c cX4_move 4 s [.ref (q 0), .int c0, .int f0].toArray wsX4_move RX4 := ⟨hx, hb, hml, hown, hts⟩
  have hl : lv_has ls 4 [(0, .ref (q 0)), (1, .int c0), (2, .int f0)] := hl
  have iX0 : ∀ w ∈ u_ws RX0 TX0 8, w ∈ wsX4_move := mem_pl [21, 22, 23, 24, 25, 26, 27, 28] rfl
  have iX4 : ∀ w ∈ u_ws RX4 TX4 9, w ∈ wsX4_move := mem_pl [12, 13, 14, 15, 16, 17, 18, 19, 20] rfl
  refine lv_aload_n hx hb dX4_move_0 rfl (lv_at hl 0 rfl) ?_
  refine lv_iload_n hx hb dX4_move_1 rfl (lv_at hl 1 rfl) ?_
  refine ro_i (va_runV (As := [.int c0]) (rest := []) F (kX4_isCask l D y q n now rt tr C ah w mx rd ct g h c0) (cwV 1 hts gX4_move_X4_isCask rfl rfl rfl ⟨rfl, hdX4_isCask⟩ ⟨(Nat.le_of_ble_eq_true rfl), (Nat.le_of_ble_eq_true rfl)⟩) ⟨rdB_blind, va_recv hK hP (ci := 4) (q0 := 0) rfl rfl, rdB_pre hP hK hN⟩ rfl rfl hl.1 rfl (lv_room (Nat.le_of_ble_eq_true rfl)) dX4_move_2 ⟨Nat.zero_le _, Nat.zero_le _⟩) ?_
  refine lv_if_eq (tgt := 17) hx hb dX4_move_5 (by decide) (fun c_1 => ?_) (fun c_1 => ?_)
  · skip
    have c_1 := zI_0 c_1
    refine lv_iconst (v := (-1)) hx hb dX4_move_17 (by decide) ?_
    exact mu_iret C hx hb hr hlocks hP hD hS dX4_move_18 (by simp [moveF, setF, c_1])
  · skip
    have c_1 := zI_1 c_1
    obtain ⟨j, hzj, rfl⟩ := isC_of hn c_1
    have ej : (nI j).toNatClampNeg = j := nI_clamp (by omega)
    refine lv_iload_n hx hb dX4_move_8 rfl (lv_at hl 2 rfl) ?_
    refine lv_iconst (v := 0) hx hb dX4_move_9 (by decide) ?_
    refine lv_iconst (v := 3) hx hb dX4_move_10 (by decide) ?_
    refine ro_i (va_runS (As := [.int f0, .int 0, .int 3]) (rest := []) F (kX4_isWithin l f0 0 3) (va_cwS 3 hts gX4_move_X4_isWithin rfl rfl rfl hdX4_isWithin ⟨(Nat.le_of_ble_eq_true rfl), (Nat.le_of_ble_eq_true rfl)⟩) ⟨tr_blind, tr_pre⟩ rfl rfl hl.1 rfl (lv_room (Nat.le_of_ble_eq_true rfl)) dX4_move_11 ⟨Nat.zero_le _, Nat.zero_le _⟩) ?_
    refine lv_if_ne (tgt := 19) hx hb dX4_move_14 (by decide) (fun c_2 => ?_) (fun c_2 => ?_)
    · skip
      have c_2 := zI_1 c_2
      refine lv_aload_n hx hb dX4_move_19 rfl (lv_at hl 0 rfl) ?_
      refine va_get (D := D) (ci := 4) (v := .ref (q 1)) (C := RX4) (T := TX4) (N := 9) hx hb hts iX4 hown hK hP 0 rfl rfl 0 (by decide) (hts _ (List.mem_of_getElem? (i := 1) rfl)) (fun _ h9 => h9) rfl dX4_move_20 ?_
      refine lv_iload_n hx hb dX4_move_23 rfl (lv_at hl 1 rfl) ?_
      refine wa_aldq hx hb hK hP 1 0 rfl rfl j rfl (by omega) (by decide) rfl dX4_move_24 ?_
      refine va_get (D := D) (ci := 0) (v := .int (c_fl (C j))) (C := RX0) (T := TX0) (N := 8) hx hb hts iX0 hown hK hP (9 + j) (xp_at rfl (by omega)) rfl 3 (by decide) (hts _ (List.mem_of_getElem? (i := 2) rfl)) (fun _ h9 => h9) rfl dX4_move_25 ?_
      refine lv_istore_n (lv' := [(3, .int (c_fl (C j))), (0, .ref (q 0)), (1, .int (nI j)), (2, .int f0)]) hx hb dX4_move_28 rfl hl (by decide) rfl (fun ls hl => ?_)
      refine lv_aload_n hx hb dX4_move_29 rfl (lv_at hl 1 rfl) ?_
      refine va_get (D := D) (ci := 4) (v := .ref (q 1)) (C := RX4) (T := TX4) (N := 9) hx hb hts iX4 hown hK hP 0 rfl rfl 0 (by decide) (hts _ (List.mem_of_getElem? (i := 1) rfl)) (fun _ h9 => h9) rfl dX4_move_30 ?_
      refine lv_iload_n hx hb dX4_move_33 rfl (lv_at hl 2 rfl) ?_
      refine wa_aldq hx hb hK hP 1 0 rfl rfl j rfl (by omega) (by decide) rfl dX4_move_34 ?_
      refine lv_iload_n hx hb dX4_move_35 rfl (lv_at hl 3 rfl) ?_
      refine va_put (D := D) (ci := 0) (v := .int f0) (ty := .int) (C := RX0) (T := TX0) (N := 8) hx hb hts iX0 tyX0 tyX0_ok nmX0 hown hK hP hD hS (9 + j) (xp_at rfl (by omega)) rfl 3 (by decide) (hts _ (List.mem_of_getElem? (i := 2) rfl)) (fun _ h9 => h9) rfl (by decide +kernel) rfl rfl (Nat.le_of_ble_eq_true rfl) dX4_move_36 (fun H locs hP hD hS => ?_)
      have hP : va_P D vwCl (xW y q (nI n) now rt tr (va_up C j (c_kd (C j), c_dr (C j), c_sg (C j), f0, c_ok (C j), c_sm (C j), c_sw (C j), c_la (C j))) ah w mx rd ct g h) H := xp_P rfl (by omega) hP
      have hD : va_D A (xW y q (nI n) now rt tr (va_up C j (c_kd (C j), c_dr (C j), c_sg (C j), f0, c_ok (C j), c_sm (C j), c_sw (C j), c_la (C j))) ah w mx rd ct g h) := xp_D rfl (by omega) hD
      refine lv_iload_n hx hb dX4_move_39 rfl (lv_at hl 0 rfl) ?_
      exact mu_iret (va_up C j (c_kd (C j), c_dr (C j), c_sg (C j), f0, c_ok (C j), c_sm (C j), c_sw (C j), c_la (C j))) hx hb hr hlocks hP hD hS dX4_move_40 (by simp [moveF, setF, c_1, ej, c_2])
    · skip
      have c_2 := zI_0 c_2
      refine lv_iconst (v := (-1)) hx hb dX4_move_17 (by decide) ?_
      exact mu_iret C hx hb hr hlocks hP hD hS dX4_move_18 (by simp [moveF, setF, c_1, ej, c_2])

set_option maxHeartbeats 4000000 in
set_option maxRecDepth 100000 in
theorem kX4_draw (l : Launch) (D : va_G) (y : Nat → ClassId) (q : Nat → Nat) (n : Nat) (now rt : Int32) (tr : Int64) (C : Nat → CT) (ah w : Nat → Int32) (mx : MT) (rd ct : Int32) (g h : Nat → Int32) (c0 : Int32) (v0 : Int32) (sz : Nat) (hn : n ≤ 12) : Met l yX4_draw wsX4_draw ({ frames := 2, cells := 0, slots := 0, locals := 43 }) (va_Pc [.ref (q 0), .int c0, .int v0] (muB D (xT y) (xW y q (nI n) now rt tr C ah w mx rd ct g h) sz eT)) (QI (σ := Nat → CT) D (fun r u => (r, u) = drawF n C c0 v0) (fun u => (xW y q (nI n) now rt tr u ah w mx rd ct g h)) (va_A (xW y q (nI n) now rt tr C ah w mx rd ct g h) sz)) 0 0 (va_A (xW y q (nI n) now rt tr C ah w mx rd ct g h) sz) := by
  refine mu_start (Qc := QI (σ := Nat → CT) D (fun r u => (r, u) = drawF n C c0 v0) (fun u => (xW y q (nI n) now rt tr u ah w mx rd ct g h))) (cc := cX4_draw) (maxL := 3) (ret := (some .int)) (by decide) rfl (Nat.le_of_ble_eq_true rfl) ?_
  intro p e s m below meth c ls A hx hb hr hml hown hlocks hts hnm hA hP hK hN hD hE hAA hsz hl
  have hS : va_S A s.heap s.heap [] := va_S.rf
  have hown : s.vm.findClass RX4 = some m.cls := hown
  have F : CallFix p m c cX4_draw 3 s [.ref (q 0), .int c0, .int v0].toArray wsX4_draw RX4 := ⟨hx, hb, hml, hown, hts⟩
  have hl : lv_has ls 3 [(0, .ref (q 0)), (1, .int c0), (2, .int v0)] := hl
  have iX0 : ∀ w ∈ u_ws RX0 TX0 8, w ∈ wsX4_draw := mem_pl [21, 22, 23, 24, 25, 26, 27, 28] rfl
  have iX4 : ∀ w ∈ u_ws RX4 TX4 9, w ∈ wsX4_draw := mem_pl [12, 13, 14, 15, 16, 17, 18, 19, 20] rfl
  refine lv_aload_n hx hb dX4_draw_0 rfl (lv_at hl 0 rfl) ?_
  refine lv_iload_n hx hb dX4_draw_1 rfl (lv_at hl 1 rfl) ?_
  refine ro_i (va_runV (As := [.int c0]) (rest := []) F (kX4_isCask l D y q n now rt tr C ah w mx rd ct g h c0) (cwV 1 hts gX4_draw_X4_isCask rfl rfl rfl ⟨rfl, hdX4_isCask⟩ ⟨(Nat.le_of_ble_eq_true rfl), (Nat.le_of_ble_eq_true rfl)⟩) ⟨rdB_blind, va_recv hK hP (ci := 4) (q0 := 0) rfl rfl, rdB_pre hP hK hN⟩ rfl rfl hl.1 rfl (lv_room (Nat.le_of_ble_eq_true rfl)) dX4_draw_2 ⟨Nat.zero_le _, Nat.zero_le _⟩) ?_
  refine lv_if_eq (tgt := 25) hx hb dX4_draw_5 (by decide) (fun c_1 => ?_) (fun c_1 => ?_)
  · skip
    have c_1 := zI_0 c_1
    refine lv_iconst (v := (-1)) hx hb dX4_draw_25 (by decide) ?_
    exact mu_iret C hx hb hr hlocks hP hD hS dX4_draw_26 (by simp [drawF, setD, c_1])
  · skip
    have c_1 := zI_1 c_1
    obtain ⟨j, hzj, rfl⟩ := isC_of hn c_1
    have ej : (nI j).toNatClampNeg = j := nI_clamp (by omega)
    refine lv_iload_n hx hb dX4_draw_8 rfl (lv_at hl 2 rfl) ?_
    refine lv_iconst (v := 0) hx hb dX4_draw_9 (by decide) ?_
    refine lv_aload_n hx hb dX4_draw_10 rfl (lv_at hl 0 rfl) ?_
    refine va_get (D := D) (ci := 4) (v := .ref (q 1)) (C := RX4) (T := TX4) (N := 9) hx hb hts iX4 hown hK hP 0 rfl rfl 0 (by decide) (hts _ (List.mem_of_getElem? (i := 1) rfl)) (fun _ h9 => h9) rfl dX4_draw_11 ?_
    refine lv_iload_n hx hb dX4_draw_14 rfl (lv_at hl 1 rfl) ?_
    refine wa_aldq hx hb hK hP 1 0 rfl rfl j rfl (by omega) (by decide) rfl dX4_draw_15 ?_
    refine va_get (D := D) (ci := 0) (v := .int (c_dr (C j))) (C := RX0) (T := TX0) (N := 8) hx hb hts iX0 hown hK hP (9 + j) (xp_at rfl (by omega)) rfl 1 (by decide) (hts _ (List.mem_of_getElem? (i := 2) rfl)) (fun _ h9 => h9) rfl dX4_draw_16 ?_
    refine ro_i (va_runS (As := [.int v0, .int 0, .int (c_dr (C j))]) (rest := []) F (kX4_isWithin l v0 0 (c_dr (C j))) (va_cwS 3 hts gX4_draw_X4_isWithin rfl rfl rfl hdX4_isWithin ⟨(Nat.le_of_ble_eq_true rfl), (Nat.le_of_ble_eq_true rfl)⟩) ⟨tr_blind, tr_pre⟩ rfl rfl hl.1 rfl (lv_room (Nat.le_of_ble_eq_true rfl)) dX4_draw_19 ⟨Nat.zero_le _, Nat.zero_le _⟩) ?_
    refine lv_if_ne (tgt := 27) hx hb dX4_draw_22 (by decide) (fun c_2 => ?_) (fun c_2 => ?_)
    · skip
      have c_2 := zI_1 c_2
      refine lv_aload_n hx hb dX4_draw_27 rfl (lv_at hl 0 rfl) ?_
      refine va_get (D := D) (ci := 4) (v := .ref (q 1)) (C := RX4) (T := TX4) (N := 9) hx hb hts iX4 hown hK hP 0 rfl rfl 0 (by decide) (hts _ (List.mem_of_getElem? (i := 1) rfl)) (fun _ h9 => h9) rfl dX4_draw_28 ?_
      refine lv_iload_n hx hb dX4_draw_31 rfl (lv_at hl 1 rfl) ?_
      refine wa_aldq hx hb hK hP 1 0 rfl rfl j rfl (by omega) (by decide) rfl dX4_draw_32 ?_
      refine lv_dup hx hb dX4_draw_33 rfl ?_
      refine va_get (D := D) (ci := 0) (v := .int (c_dr (C j))) (C := RX0) (T := TX0) (N := 8) hx hb hts iX0 hown hK hP (9 + j) (xp_at rfl (by omega)) rfl 1 (by decide) (hts _ (List.mem_of_getElem? (i := 2) rfl)) (fun _ h9 => h9) rfl dX4_draw_34 ?_
      refine lv_iload_n hx hb dX4_draw_37 rfl (lv_at hl 2 rfl) ?_
      refine lv_isub hx hb dX4_draw_38 ?_
      refine va_put (D := D) (ci := 0) (v := .int ((c_dr (C j)) - v0)) (ty := .int) (C := RX0) (T := TX0) (N := 8) hx hb hts iX0 tyX0 tyX0_ok nmX0 hown hK hP hD hS (9 + j) (xp_at rfl (by omega)) rfl 1 (by decide) (hts _ (List.mem_of_getElem? (i := 2) rfl)) (fun _ h9 => h9) rfl (by decide +kernel) rfl rfl (Nat.le_of_ble_eq_true rfl) dX4_draw_39 (fun H locs hP hD hS => ?_)
      have hP : va_P D vwCl (xW y q (nI n) now rt tr (va_up C j (c_kd (C j), ((c_dr (C j)) - v0), c_sg (C j), c_fl (C j), c_ok (C j), c_sm (C j), c_sw (C j), c_la (C j))) ah w mx rd ct g h) H := xp_P rfl (by omega) hP
      have hD : va_D A (xW y q (nI n) now rt tr (va_up C j (c_kd (C j), ((c_dr (C j)) - v0), c_sg (C j), c_fl (C j), c_ok (C j), c_sm (C j), c_sw (C j), c_la (C j))) ah w mx rd ct g h) := xp_D rfl (by omega) hD
      refine lv_aload_n hx hb dX4_draw_42 rfl (lv_at hl 0 rfl) ?_
      refine va_get (D := D) (ci := 4) (v := .ref (q 1)) (C := RX4) (T := TX4) (N := 9) hx hb hts iX4 hown hK hP 0 rfl rfl 0 (by decide) (hts _ (List.mem_of_getElem? (i := 1) rfl)) (fun _ h9 => h9) rfl dX4_draw_43 ?_
      refine lv_iload_n hx hb dX4_draw_46 rfl (lv_at hl 1 rfl) ?_
      refine wa_aldq hx hb hK hP 1 0 rfl rfl j rfl (by omega) (by decide) rfl dX4_draw_47 ?_
      refine va_get (D := D) (ci := 0) (v := .int ((c_dr (C j)) - v0)) (C := RX0) (T := TX0) (N := 8) hx hb hts iX0 hown hK hP (9 + j) (xp_atF rfl (by omega)) rfl 1 (by decide) (hts _ (List.mem_of_getElem? (i := 2) rfl)) (fun _ h9 => h9) rfl dX4_draw_48 ?_
      exact mu_iret (va_up C j (c_kd (C j), ((c_dr (C j)) - v0), c_sg (C j), c_fl (C j), c_ok (C j), c_sm (C j), c_sw (C j), c_la (C j))) hx hb hr hlocks hP hD hS dX4_draw_51 (by simp [drawF, setD, c_1, ej, c_2])
    · skip
      have c_2 := zI_0 c_2
      refine lv_iconst (v := (-1)) hx hb dX4_draw_25 (by decide) ?_
      exact mu_iret C hx hb hr hlocks hP hD hS dX4_draw_26 (by simp [drawF, setD, c_1, ej, c_2])

set_option maxHeartbeats 4000000 in
set_option maxRecDepth 100000 in
theorem kX4_want (l : Launch) (D : va_G) (y : Nat → ClassId) (q : Nat → Nat) (n : Nat) (now rt : Int32) (tr : Int64) (C : Nat → CT) (ah w : Nat → Int32) (mx : MT) (rd ct : Int32) (g h : Nat → Int32) (k0 : Int32) (v0 : Int32) (sz : Nat) : Met l yX4_want wsX4_want ({ frames := 1, cells := 0, slots := 0, locals := 22 }) (va_Pc [.ref (q 0), .int k0, .int v0] (muB D (xT y) (xW y q (nI n) now rt tr C ah w mx rd ct g h) sz eT)) (QI (σ := Nat → Int32) D (fun r u => (r, u) = wantF w k0 v0) (fun u => (xW y q (nI n) now rt tr C ah u mx rd ct g h)) (va_A (xW y q (nI n) now rt tr C ah w mx rd ct g h) sz)) 0 0 (va_A (xW y q (nI n) now rt tr C ah w mx rd ct g h) sz) := by
  refine mu_start (Qc := QI (σ := Nat → Int32) D (fun r u => (r, u) = wantF w k0 v0) (fun u => (xW y q (nI n) now rt tr C ah u mx rd ct g h))) (cc := cX4_want) (maxL := 4) (ret := (some .int)) (by decide) rfl (Nat.le_of_ble_eq_true rfl) ?_
  intro p e s m below meth c ls A hx hb hr hml hown hlocks hts hnm hA hP hK hN hD hE hAA hsz hl
  have hS : va_S A s.heap s.heap [] := va_S.rf
  have hown : s.vm.findClass RX4 = some m.cls := hown
  have F : CallFix p m c cX4_want 4 s [.ref (q 0), .int k0, .int v0].toArray wsX4_want RX4 := ⟨hx, hb, hml, hown, hts⟩
  have hl : lv_has ls 4 [(0, .ref (q 0)), (1, .int k0), (2, .int v0)] := hl
  have iX3 : ∀ w ∈ u_ws RX3 TX3 1, w ∈ wsX4_want := mem_pl [21] rfl
  have iX4 : ∀ w ∈ u_ws RX4 TX4 9, w ∈ wsX4_want := mem_pl [12, 13, 14, 15, 16, 17, 18, 19, 20] rfl
  refine lv_iload_n hx hb dX4_want_0 rfl (lv_at hl 1 rfl) ?_
  refine lv_iconst (v := 0) hx hb dX4_want_1 (by decide) ?_
  refine lv_bipush (v := 7) hx hb dX4_want_2 (by decide) ?_
  refine ro_i (va_runS (As := [.int k0, .int 0, .int 7]) (rest := []) F (kX4_isWithin l k0 0 7) (va_cwS 3 hts gX4_want_X4_isWithin rfl rfl rfl hdX4_isWithin ⟨(Nat.le_of_ble_eq_true rfl), (Nat.le_of_ble_eq_true rfl)⟩) ⟨tr_blind, tr_pre⟩ rfl rfl hl.1 rfl (lv_room (Nat.le_of_ble_eq_true rfl)) dX4_want_4 ⟨Nat.zero_le _, Nat.zero_le _⟩) ?_
  refine lv_if_eq (tgt := 22) hx hb dX4_want_7 (by decide) (fun c_1 => ?_) (fun c_1 => ?_)
  · skip
    have c_1 := zI_0 c_1
    refine lv_iconst (v := (-1)) hx hb dX4_want_22 (by decide) ?_
    exact mu_iret w hx hb hr hlocks hP hD hS dX4_want_23 (by simp [wantF, mostW, c_1])
  · skip
    have c_1 := zI_1 c_1
    obtain ⟨k, hzk, rfl⟩ := inR_of (k := 7) (by decide) (by decide) c_1
    have ek : (nI k).toNatClampNeg = k := nI_clamp (by omega)
    refine lv_iload_n hx hb dX4_want_10 rfl (lv_at hl 2 rfl) ?_
    refine lv_iconst (v := 0) hx hb dX4_want_11 (by decide) ?_
    refine lv_iload_n hx hb dX4_want_12 rfl (lv_at hl 1 rfl) ?_
    refine ro_i (va_runS (As := [.int (nI k)]) (rest := [.int 0, .int v0]) F (kX3_most l (nI k)) (va_cwS 1 hts gX4_want_X3_most rfl rfl rfl hdX3_most ⟨(Nat.le_of_ble_eq_true rfl), (Nat.le_of_ble_eq_true rfl)⟩) ⟨tr_blind, tr_pre⟩ rfl rfl hl.1 rfl (lv_room (Nat.le_of_ble_eq_true rfl)) dX4_want_13 ⟨Nat.zero_le _, Nat.zero_le _⟩) ?_
    refine ro_i (va_runS (As := [.int v0, .int 0, .int (if (nI k) = 0 then 99999 else if (nI k) = 1 then 60 else 9999)]) (rest := []) F (kX4_isWithin l v0 0 (if (nI k) = 0 then 99999 else if (nI k) = 1 then 60 else 9999)) (va_cwS 3 hts gX4_want_X4_isWithin rfl rfl rfl hdX4_isWithin ⟨(Nat.le_of_ble_eq_true rfl), (Nat.le_of_ble_eq_true rfl)⟩) ⟨tr_blind, tr_pre⟩ rfl rfl hl.1 rfl (lv_room (Nat.le_of_ble_eq_true rfl)) dX4_want_16 ⟨Nat.zero_le _, Nat.zero_le _⟩) ?_
    refine lv_if_ne (tgt := 24) hx hb dX4_want_19 (by decide) (fun c_2 => ?_) (fun c_2 => ?_)
    · skip
      have c_2 := zI_1 c_2
      refine lv_aload_n hx hb dX4_want_24 rfl (lv_at hl 0 rfl) ?_
      refine va_get (D := D) (ci := 4) (v := .ref (q 3)) (C := RX4) (T := TX4) (N := 9) hx hb hts iX4 hown hK hP 0 rfl rfl 2 (by decide) (hts _ (List.mem_of_getElem? (i := 1) rfl)) (fun _ h9 => h9) rfl dX4_want_25 ?_
      refine va_get (D := D) (ci := 3) (v := .ref (q 4)) (C := RX3) (T := TX3) (N := 1) hx hb hts iX3 hown hK hP 3 rfl rfl 0 (by decide) (hts _ (List.mem_of_getElem? (i := 2) rfl)) (fun _ h9 => h9) rfl dX4_want_28 ?_
      refine lv_iload_n hx hb dX4_want_31 rfl (lv_at hl 1 rfl) ?_
      refine wa_iald hx hb hK hP 4 2 rfl rfl k rfl (by omega) (by decide) dX4_want_32 ?_
      refine lv_istore_n (lv' := [(3, .int (w k)), (0, .ref (q 0)), (1, .int (nI k)), (2, .int v0)]) hx hb dX4_want_33 rfl hl (by decide) rfl (fun ls hl => ?_)
      refine lv_aload_n hx hb dX4_want_34 rfl (lv_at hl 1 rfl) ?_
      refine va_get (D := D) (ci := 4) (v := .ref (q 3)) (C := RX4) (T := TX4) (N := 9) hx hb hts iX4 hown hK hP 0 rfl rfl 2 (by decide) (hts _ (List.mem_of_getElem? (i := 1) rfl)) (fun _ h9 => h9) rfl dX4_want_35 ?_
      refine va_get (D := D) (ci := 3) (v := .ref (q 4)) (C := RX3) (T := TX3) (N := 1) hx hb hts iX3 hown hK hP 3 rfl rfl 0 (by decide) (hts _ (List.mem_of_getElem? (i := 2) rfl)) (fun _ h9 => h9) rfl dX4_want_38 ?_
      refine lv_iload_n hx hb dX4_want_41 rfl (lv_at hl 2 rfl) ?_
      refine lv_iload_n hx hb dX4_want_42 rfl (lv_at hl 3 rfl) ?_
      refine wa_iast (v := v0) hx hb hK hP hD hS 4 2 rfl rfl k rfl (by omega) (by decide) dX4_want_43 (fun H locs hP hD hS => ?_)
      have hP : va_P D vwCl (xW y q (nI n) now rt tr C ah (upd w k v0) mx rd ct g h) H := hP
      have hD : va_D A (xW y q (nI n) now rt tr C ah (upd w k v0) mx rd ct g h) := hD
      refine lv_iload_n hx hb dX4_want_44 rfl (lv_at hl 0 rfl) ?_
      exact mu_iret (upd w k v0) hx hb hr hlocks hP hD hS dX4_want_45 (by simp [wantF, mostW, c_1, ek, c_2])
    · skip
      have c_2 := zI_0 c_2
      refine lv_iconst (v := (-1)) hx hb dX4_want_22 (by decide) ?_
      exact mu_iret w hx hb hr hlocks hP hD hS dX4_want_23 (by simp [wantF, mostW, c_1, ek, c_2])

set_option maxHeartbeats 4000000 in
set_option maxRecDepth 100000 in
theorem kX4_rate (l : Launch) (D : va_G) (y : Nat → ClassId) (q : Nat → Nat) (n : Nat) (now rt : Int32) (tr : Int64) (C : Nat → CT) (ah w : Nat → Int32) (mx : MT) (rd ct : Int32) (g h : Nat → Int32) (v0 : Int32) (sz : Nat) : Met l yX4_rate wsX4_rate ({ frames := 1, cells := 0, slots := 0, locals := 22 }) (va_Pc [.ref (q 0), .int v0] (muB D (xT y) (xW y q (nI n) now rt tr C ah w mx rd ct g h) sz eT)) (QI (σ := Int32) D (fun r u => (r, u) = rateF rt v0) (fun u => (xW y q (nI n) now u tr C ah w mx rd ct g h)) (va_A (xW y q (nI n) now rt tr C ah w mx rd ct g h) sz)) 0 0 (va_A (xW y q (nI n) now rt tr C ah w mx rd ct g h) sz) := by
  refine mu_start (Qc := QI (σ := Int32) D (fun r u => (r, u) = rateF rt v0) (fun u => (xW y q (nI n) now u tr C ah w mx rd ct g h))) (cc := cX4_rate) (maxL := 3) (ret := (some .int)) (by decide) rfl (Nat.le_of_ble_eq_true rfl) ?_
  intro p e s m below meth c ls A hx hb hr hml hown hlocks hts hnm hA hP hK hN hD hE hAA hsz hl
  have hS : va_S A s.heap s.heap [] := va_S.rf
  have hown : s.vm.findClass RX4 = some m.cls := hown
  have F : CallFix p m c cX4_rate 3 s [.ref (q 0), .int v0].toArray wsX4_rate RX4 := ⟨hx, hb, hml, hown, hts⟩
  have hl : lv_has ls 3 [(0, .ref (q 0)), (1, .int v0)] := hl
  have iX4 : ∀ w ∈ u_ws RX4 TX4 9, w ∈ wsX4_rate := mem_pl [6, 7, 8, 9, 10, 11, 12, 13, 14] rfl
  refine lv_iload_n hx hb dX4_rate_0 rfl (lv_at hl 1 rfl) ?_
  refine lv_iconst (v := 0) hx hb dX4_rate_1 (by decide) ?_
  refine lv_bipush (v := 100) hx hb dX4_rate_2 (by decide) ?_
  refine ro_i (va_runS (As := [.int v0, .int 0, .int 100]) (rest := []) F (kX4_isWithin l v0 0 100) (va_cwS 3 hts gX4_rate_X4_isWithin rfl rfl rfl hdX4_isWithin ⟨(Nat.le_of_ble_eq_true rfl), (Nat.le_of_ble_eq_true rfl)⟩) ⟨tr_blind, tr_pre⟩ rfl rfl hl.1 rfl (lv_room (Nat.le_of_ble_eq_true rfl)) dX4_rate_4 ⟨Nat.zero_le _, Nat.zero_le _⟩) ?_
  refine lv_if_ne (tgt := 12) hx hb dX4_rate_7 (by decide) (fun c_1 => ?_) (fun c_1 => ?_)
  · skip
    have c_1 := zI_1 c_1
    refine lv_aload_n hx hb dX4_rate_12 rfl (lv_at hl 0 rfl) ?_
    refine va_get (D := D) (ci := 4) (v := .int rt) (C := RX4) (T := TX4) (N := 9) hx hb hts iX4 hown hK hP 0 rfl rfl 7 (by decide) (hts _ (List.mem_of_getElem? (i := 1) rfl)) (fun _ h9 => h9) rfl dX4_rate_13 ?_
    refine lv_istore_n (lv' := [(2, .int rt), (0, .ref (q 0)), (1, .int v0)]) hx hb dX4_rate_16 rfl hl (by decide) rfl (fun ls hl => ?_)
    refine lv_aload_n hx hb dX4_rate_17 rfl (lv_at hl 1 rfl) ?_
    refine lv_iload_n hx hb dX4_rate_18 rfl (lv_at hl 2 rfl) ?_
    refine va_put (D := D) (ci := 4) (v := .int v0) (ty := .int) (C := RX4) (T := TX4) (N := 9) hx hb hts iX4 tyX4 tyX4_ok nmX4 hown hK hP hD hS 0 rfl rfl 7 (by decide) (hts _ (List.mem_of_getElem? (i := 1) rfl)) (fun _ h9 => h9) rfl (by decide +kernel) rfl rfl (Nat.le_of_ble_eq_true rfl) dX4_rate_19 (fun H locs hP hD hS => ?_)
    have hP : va_P D vwCl (xW y q (nI n) now v0 tr C ah w mx rd ct g h) H := hP
    have hD : va_D A (xW y q (nI n) now v0 tr C ah w mx rd ct g h) := hD
    refine lv_iload_n hx hb dX4_rate_22 rfl (lv_at hl 0 rfl) ?_
    exact mu_iret v0 hx hb hr hlocks hP hD hS dX4_rate_23 (by simp [rateF, c_1])
  · skip
    have c_1 := zI_0 c_1
    refine lv_iconst (v := (-1)) hx hb dX4_rate_10 (by decide) ?_
    exact mu_iret rt hx hb hr hlocks hP hD hS dX4_rate_11 (by simp [rateF, c_1])

set_option maxHeartbeats 4000000 in
set_option maxRecDepth 100000 in
theorem kX4_gather (l : Launch) (D : va_G) (y : Nat → ClassId) (q : Nat → Nat) (n : Nat) (now rt : Int32) (tr : Int64) (C : Nat → CT) (ah w : Nat → Int32) (mx : MT) (rd ct : Int32) (g h : Nat → Int32) (s0 : Int32) (sz : Nat) (hn : n ≤ 12) : Met l yX4_gather wsX4_gather ({ frames := 3, cells := 0, slots := 0, locals := 64 }) (va_Pc [.ref (q 0), .int s0] (muB D (xT y) (xW y q (nI n) now rt tr C ah w mx rd ct g h) sz eT)) (QI (σ := MT) D (fun r u => r = zI (bOK n C now s0) ∧ (bOK n C now s0 = true → u = gMx n C now s0)) (fun u => (xW y q (nI n) now rt tr C ah w u rd ct g h)) (va_A (xW y q (nI n) now rt tr C ah w mx rd ct g h) sz)) 0 0 (va_A (xW y q (nI n) now rt tr C ah w mx rd ct g h) sz) := by
  refine mu_start (Qc := QI (σ := MT) D (fun r u => r = zI (bOK n C now s0) ∧ (bOK n C now s0 = true → u = gMx n C now s0)) (fun u => (xW y q (nI n) now rt tr C ah w u rd ct g h))) (cc := cX4_gather) (maxL := 3) (ret := (some .boolean)) (by decide) rfl (Nat.le_of_ble_eq_true rfl) ?_
  intro p e s m below meth c ls A hx hb hr hml hown hlocks hts hnm hA hP hK hN hD hE hAA hsz hl
  have hS : va_S A s.heap s.heap [] := va_S.rf
  have hown : s.vm.findClass RX4 = some m.cls := hown
  have F : CallFix p m c cX4_gather 3 s [.ref (q 0), .int s0].toArray wsX4_gather RX4 := ⟨hx, hb, hml, hown, hts⟩
  have hl : lv_has ls 3 [(0, .ref (q 0)), (1, .int s0)] := hl
  have iX0 : ∀ w ∈ u_ws RX0 TX0 8, w ∈ wsX4_gather := mem_pl [59, 60, 61, 62, 63, 64, 65, 66] rfl
  have iX1 : ∀ w ∈ u_ws RX1 TX1 7, w ∈ wsX4_gather := mem_pl [67, 68, 69, 70, 71, 72, 73] rfl
  have iX4 : ∀ w ∈ u_ws RX4 TX4 9, w ∈ wsX4_gather := mem_pl [50, 51, 52, 53, 54, 55, 56, 57, 58] rfl
  refine lv_aload_n hx hb dX4_gather_0 rfl (lv_at hl 0 rfl) ?_
  refine va_get (D := D) (ci := 4) (v := .ref (q 5)) (C := RX4) (T := TX4) (N := 9) hx hb hts iX4 hown hK hP 0 rfl rfl 3 (by decide) (hts _ (List.mem_of_getElem? (i := 1) rfl)) (fun _ h9 => h9) rfl dX4_gather_1 ?_
  refine muF_v (va_runV (As := []) (rest := []) F (kX1_start l D y q n now rt tr C ah w mx rd ct g h _) (cwV 0 hts gX4_gather_X1_start rfl rfl rfl ⟨rfl, hdX1_start⟩ ⟨(Nat.le_of_ble_eq_true rfl), (Nat.le_of_ble_eq_true rfl)⟩) ⟨(muB_blind (fun _ _ _ _ _ => trivial)), va_recv hK hP (ci := 1) (q0 := 5) rfl rfl, muF_pre hP hK hN hD (fun _ _ _ => trivial)⟩ rfl rfl hl.1 rfl (lv_room (Nat.le_of_ble_eq_true rfl)) dX4_gather_4 ⟨Nat.zero_le _, Nat.zero_le _⟩) hP hD hS hA (fun u_2 H locs w_3 hP hD hS => ?_)
  have hP : va_P D vwCl (xW y q (nI n) now rt tr C ah w mx0 rd ct g h) H := hP
  have hD : va_D A (xW y q (nI n) now rt tr C ah w mx0 rd ct g h) := hD
  refine lv_iconst (v := 0) hx hb dX4_gather_7 (by decide) ?_
  refine lv_istore_n (lv' := [(2, .int 0), (0, .ref (q 0)), (1, .int s0)]) hx hb dX4_gather_8 rfl hl (by decide) rfl (fun ls hl => ?_)
  refine W.lpW (pc := 9) (τ := Nat) (D := D) (A := A) (H0 := s.heap) (cl := vwCl) (fun i => i ≤ n ∧ okG i C s0 = true) (fun i => (xW y q (nI n) now rt tr C ah w (fN (gMf C now s0) i mx0) rd ct g h)) (fun i ls => lv_has ls 3 [(0, .ref (q 0)), (1, .int s0), (2, .int (nI i))]) (fun i => n - i) ?_ 0 ls ⟨Nat.zero_le _, rfl⟩ (lv_sub hl [1, 2, 0] rfl) hP hD hS
  intro i ls H locs hi hl hP hD hS ihi
  have fi : okG i C s0 = true := hi.2
  have hi := hi.1
  have hi : i ≤ n := hi
  have hl : lv_has ls 3 [(0, .ref (q 0)), (1, .int s0), (2, .int (nI i))] := hl
  have hP : va_P D vwCl (xW y q (nI n) now rt tr C ah w (fN (gMf C now s0) i mx0) rd ct g h) H := hP
  have hD : va_D A (xW y q (nI n) now rt tr C ah w (fN (gMf C now s0) i mx0) rd ct g h) := hD
  refine lv_iload_n hx hb dX4_gather_9 rfl (lv_at hl 2 rfl) ?_
  refine lv_aload_n hx hb dX4_gather_10 rfl (lv_at hl 0 rfl) ?_
  refine va_get (D := D) (ci := 4) (v := .int (nI n)) (C := RX4) (T := TX4) (N := 9) hx hb hts iX4 hown hK hP 0 rfl rfl 5 (by decide) (hts _ (List.mem_of_getElem? (i := 2) rfl)) (fun _ h9 => h9) rfl dX4_gather_11 ?_
  refine lv_icmp_ge (tgt := 63) hx hb dX4_gather_14 (by decide) (fun c_4 => ?_) (fun c_4 => ?_)
  · skip
    have c_4 : n ≤ i := (nI_leI (a := n) (b := i) (by omega) (by omega)).mp c_4
    have hin : i = n := Nat.le_antisymm hi c_4
    rw [hin] at hP hD fi
    have fi : okG n C s0 = true := fi
    refine lv_aload_n hx hb dX4_gather_63 rfl (lv_at hl 0 rfl) ?_
    refine va_get (D := D) (ci := 4) (v := .ref (q 5)) (C := RX4) (T := TX4) (N := 9) hx hb hts iX4 hown hK hP 0 rfl rfl 3 (by decide) (hts _ (List.mem_of_getElem? (i := 1) rfl)) (fun _ h9 => h9) rfl dX4_gather_64 ?_
    refine va_get (D := D) (ci := 1) (v := .int (m_dr (fN (gMf C now s0) n mx0))) (C := RX1) (T := TX1) (N := 7) hx hb hts iX1 hown hK hP 5 rfl rfl 0 (by decide) (hts _ (List.mem_of_getElem? (i := 6) rfl)) (fun _ h9 => h9) rfl dX4_gather_67 ?_
    refine lv_if_le (tgt := 77) hx hb dX4_gather_70 (by decide) (fun c_5 => ?_) (fun c_5 => ?_)
    · skip
      refine lv_iconst (v := 0) hx hb dX4_gather_77 (by decide) ?_
      exact mu_zret (fN (gMf C now s0) n mx0) hx hb hr hlocks rfl hP hD hS dX4_gather_78 ⟨by unfold bOK; rw [fi, show decide (0 < m_dr (gMx n C now s0)) = false from decide_eq_false (Int32.not_lt.mpr c_5)]; rfl, fun _ => rfl⟩
    · skip
      refine lv_iconst (v := 1) hx hb dX4_gather_73 (by decide) ?_
      refine lv_goto (tgt := 78) hx hb dX4_gather_74 (by decide) ?_
      exact mu_zret (fN (gMf C now s0) n mx0) hx hb hr hlocks rfl hP hD hS dX4_gather_78 ⟨by unfold bOK; rw [fi, show decide (0 < m_dr (gMx n C now s0)) = true from decide_eq_true (Int32.not_le.mp c_5)]; rfl, fun _ => rfl⟩
  · skip
    have c_4 : ¬ n ≤ i := fun h => c_4 ((nI_leI (a := n) (b := i) (by omega) (by omega)).mpr h)
    refine lv_iload_n hx hb dX4_gather_17 rfl (lv_at hl 1 rfl) ?_
    refine lv_iload_n hx hb dX4_gather_18 rfl (lv_at hl 2 rfl) ?_
    refine ro_i (va_runS (As := [.int s0, .int (nI i)]) (rest := []) F (kX4_holds l s0 (nI i)) (va_cwS 2 hts gX4_gather_X4_holds rfl rfl rfl hdX4_holds ⟨(Nat.le_of_ble_eq_true rfl), (Nat.le_of_ble_eq_true rfl)⟩) ⟨tr_blind, tr_pre⟩ rfl rfl hl.1 rfl (lv_room (Nat.le_of_ble_eq_true rfl)) dX4_gather_19 ⟨Nat.zero_le _, Nat.zero_le _⟩) ?_
    refine lv_if_eq (tgt := 57) hx hb dX4_gather_22 (by decide) (fun c_6 => ?_) (fun c_6 => ?_)
    · skip
      have c_6 := zI_0 c_6
      refine lv_iinc (v := (nI i + 1)) (lv' := [(2, .int (nI i + 1)), (0, .ref (q 0)), (1, .int s0)]) hx hb dX4_gather_57 hl (k := 2) rfl rfl (by decide) rfl (fun ls hl => ?_)
      refine lv_goto (tgt := 9) hx hb dX4_gather_60 (by decide) ?_
      have em : fN (gMf C now s0) i mx0 = fN (gMf C now s0) (i + 1) mx0 := by rw [fN_s]; unfold gMf; rw [if_neg (by rw [c_6]; decide)]
      rw [em] at hP hD
      have hP : va_P D vwCl (xW y q (nI n) now rt tr C ah w (fN (gMf C now s0) (i + 1) mx0) rd ct g h) H := hP
      have hD : va_D A (xW y q (nI n) now rt tr C ah w (fN (gMf C now s0) (i + 1) mx0) rd ct g h) := hD
      exact ihi (i + 1) ls H locs (by show n - (i + 1) < n - i; omega) ⟨by omega, (by show okf C s0 i (okG i C s0) = true; rw [fi]; unfold okf; simp [c_6])⟩ (lv_sub hl [1, 2, 0] (by
        show ([(0, .ref (q 0)), (1, .int s0), (2, .int (nI i + 1))] : List (Nat × Value)) = [(0, .ref (q 0)), (1, .int s0), (2, .int (nI (i + 1)))]
        rw [← nI_1])) hP hD hS
    · skip
      have c_6 := zI_1 c_6
      refine lv_aload_n hx hb dX4_gather_25 rfl (lv_at hl 0 rfl) ?_
      refine va_get (D := D) (ci := 4) (v := .ref (q 1)) (C := RX4) (T := TX4) (N := 9) hx hb hts iX4 hown hK hP 0 rfl rfl 0 (by decide) (hts _ (List.mem_of_getElem? (i := 3) rfl)) (fun _ h9 => h9) rfl dX4_gather_26 ?_
      refine lv_iload_n hx hb dX4_gather_29 rfl (lv_at hl 2 rfl) ?_
      refine wa_aldq hx hb hK hP 1 0 rfl rfl i rfl (by omega) (by decide) rfl dX4_gather_30 ?_
      refine va_get (D := D) (ci := 0) (v := .int (c_dr (C i))) (C := RX0) (T := TX0) (N := 8) hx hb hts iX0 hown hK hP (9 + i) (xp_at rfl (by omega)) rfl 1 (by decide) (hts _ (List.mem_of_getElem? (i := 4) rfl)) (fun _ h9 => h9) rfl dX4_gather_31 ?_
      refine lv_iconst (v := 1) hx hb dX4_gather_34 (by decide) ?_
      refine lv_icmp_ge (tgt := 40) hx hb dX4_gather_35 (by decide) (fun c_7 => ?_) (fun c_7 => ?_)
      · skip
        refine lv_aload_n hx hb dX4_gather_40 rfl (lv_at hl 0 rfl) ?_
        refine va_get (D := D) (ci := 4) (v := .ref (q 5)) (C := RX4) (T := TX4) (N := 9) hx hb hts iX4 hown hK hP 0 rfl rfl 3 (by decide) (hts _ (List.mem_of_getElem? (i := 1) rfl)) (fun _ h9 => h9) rfl dX4_gather_41 ?_
        refine lv_aload_n hx hb dX4_gather_44 rfl (lv_at hl 0 rfl) ?_
        refine va_get (D := D) (ci := 4) (v := .ref (q 1)) (C := RX4) (T := TX4) (N := 9) hx hb hts iX4 hown hK hP 0 rfl rfl 0 (by decide) (hts _ (List.mem_of_getElem? (i := 3) rfl)) (fun _ h9 => h9) rfl dX4_gather_45 ?_
        refine lv_iload_n hx hb dX4_gather_48 rfl (lv_at hl 2 rfl) ?_
        refine wa_aldq hx hb hK hP 1 0 rfl rfl i rfl (by omega) (by decide) rfl dX4_gather_49 ?_
        refine lv_aload_n hx hb dX4_gather_50 rfl (lv_at hl 0 rfl) ?_
        refine va_get (D := D) (ci := 4) (v := .int now) (C := RX4) (T := TX4) (N := 9) hx hb hts iX4 hown hK hP 0 rfl rfl 6 (by decide) (hts _ (List.mem_of_getElem? (i := 5) rfl)) (fun _ h9 => h9) rfl dX4_gather_51 ?_
        refine muF_v (va_runV (As := [.ref (q (9 + i)), .int now]) (rest := []) F (kX1_add l D y q n now rt tr C ah w (fN (gMf C now s0) i mx0) rd ct g h now i (by omega) _) (cwV 2 hts gX4_gather_X1_add rfl rfl rfl ⟨rfl, hdX1_add⟩ ⟨(Nat.le_of_ble_eq_true rfl), (Nat.le_of_ble_eq_true rfl)⟩) ⟨(muB_blind (fun _ _ _ _ _ => trivial)), va_recv hK hP (ci := 1) (q0 := 5) rfl rfl, muF_pre hP hK hN hD (fun _ _ _ => trivial)⟩ rfl rfl hl.1 rfl (lv_room (Nat.le_of_ble_eq_true rfl)) dX4_gather_54 ⟨Nat.zero_le _, Nat.zero_le _⟩) hP hD hS hA (fun u_9 H locs w_10 hP hD hS => ?_)
        have hP : va_P D vwCl (xW y q (nI n) now rt tr C ah w (addX (fN (gMf C now s0) i mx0) (C i) now) rd ct g h) H := hP
        have hD : va_D A (xW y q (nI n) now rt tr C ah w (addX (fN (gMf C now s0) i mx0) (C i) now) rd ct g h) := hD
        refine lv_iinc (v := (nI i + 1)) (lv' := [(2, .int (nI i + 1)), (0, .ref (q 0)), (1, .int s0)]) hx hb dX4_gather_57 hl (k := 2) rfl rfl (by decide) rfl (fun ls hl => ?_)
        refine lv_goto (tgt := 9) hx hb dX4_gather_60 (by decide) ?_
        have em : addX (fN (gMf C now s0) i mx0) (C i) now = fN (gMf C now s0) (i + 1) mx0 := by rw [fN_s]; unfold gMf; rw [if_pos c_6]
        rw [em] at hP hD
        have hP : va_P D vwCl (xW y q (nI n) now rt tr C ah w (fN (gMf C now s0) (i + 1) mx0) rd ct g h) H := hP
        have hD : va_D A (xW y q (nI n) now rt tr C ah w (fN (gMf C now s0) (i + 1) mx0) rd ct g h) := hD
        exact ihi (i + 1) ls H locs (by show n - (i + 1) < n - i; omega) ⟨by omega, (by show okf C s0 i (okG i C s0) = true; rw [fi]; unfold okf; simp [c_6, c_7])⟩ (lv_sub hl [1, 2, 0] (by
          show ([(0, .ref (q 0)), (1, .int s0), (2, .int (nI i + 1))] : List (Nat × Value)) = [(0, .ref (q 0)), (1, .int s0), (2, .int (nI (i + 1)))]
          rw [← nI_1])) hP hD hS
      · skip
        refine lv_iconst (v := 0) hx hb dX4_gather_38 (by decide) ?_
        exact mu_zret (fN (gMf C now s0) i mx0) hx hb hr hlocks rfl hP hD hS dX4_gather_39 (ga_bad (okG_f (i := i + 1) (by show okf C s0 i (okG i C s0) = false; rw [fi]; unfold okf; simp [c_6, c_7]) n (by omega)))

set_option maxHeartbeats 4000000 in
set_option maxRecDepth 100000 in
theorem kX4_blend (l : Launch) (D : va_G) (y : Nat → ClassId) (q : Nat → Nat) (n : Nat) (now rt : Int32) (tr : Int64) (C : Nat → CT) (ah w : Nat → Int32) (mx : MT) (rd ct : Int32) (g h : Nat → Int32) (s0 : Int32) (k0 : Int32) (sz : Nat) (hn : n ≤ 12) : Met l yX4_blend wsX4_blend ({ frames := 4, cells := 0, slots := 0, locals := 86 }) (va_Pc [.ref (q 0), .int s0, .int k0] (muB D (xT y) (xW y q (nI n) now rt tr C ah w mx rd ct g h) sz eT)) (QI (σ := MT) D (fun r u => r = blendF n C now w s0 k0) (fun u => (xW y q (nI n) now rt tr C ah w u rd ct g h)) (va_A (xW y q (nI n) now rt tr C ah w mx rd ct g h) sz)) 0 0 (va_A (xW y q (nI n) now rt tr C ah w mx rd ct g h) sz) := by
  refine mu_start (Qc := QI (σ := MT) D (fun r u => r = blendF n C now w s0 k0) (fun u => (xW y q (nI n) now rt tr C ah w u rd ct g h))) (cc := cX4_blend) (maxL := 3) (ret := (some .int)) (by decide) rfl (Nat.le_of_ble_eq_true rfl) ?_
  intro p e s m below meth c ls A hx hb hr hml hown hlocks hts hnm hA hP hK hN hD hE hAA hsz hl
  have hS : va_S A s.heap s.heap [] := va_S.rf
  have hown : s.vm.findClass RX4 = some m.cls := hown
  have F : CallFix p m c cX4_blend 3 s [.ref (q 0), .int s0, .int k0].toArray wsX4_blend RX4 := ⟨hx, hb, hml, hown, hts⟩
  have hl : lv_has ls 3 [(0, .ref (q 0)), (1, .int s0), (2, .int k0)] := hl
  have iX1 : ∀ w ∈ u_ws RX1 TX1 7, w ∈ wsX4_blend := mem_pl [97, 98, 99, 100, 101, 102, 103] rfl
  have iX4 : ∀ w ∈ u_ws RX4 TX4 9, w ∈ wsX4_blend := mem_pl [88, 89, 90, 91, 92, 93, 94, 95, 96] rfl
  refine lv_aload_n hx hb dX4_blend_0 rfl (lv_at hl 0 rfl) ?_
  refine lv_iload_n hx hb dX4_blend_1 rfl (lv_at hl 1 rfl) ?_
  refine ro_i (va_runV (As := [.int s0]) (rest := []) F (kX4_isSet l D y q n now rt tr C ah w mx rd ct g h s0) (cwV 1 hts gX4_blend_X4_isSet rfl rfl rfl ⟨rfl, hdX4_isSet⟩ ⟨(Nat.le_of_ble_eq_true rfl), (Nat.le_of_ble_eq_true rfl)⟩) ⟨rdB_blind, va_recv hK hP (ci := 4) (q0 := 0) rfl rfl, rdB_pre hP hK hN⟩ rfl rfl hl.1 rfl (lv_room (Nat.le_of_ble_eq_true rfl)) dX4_blend_2 ⟨Nat.zero_le _, Nat.zero_le _⟩) ?_
  refine lv_if_eq (tgt := 16) hx hb dX4_blend_5 (by decide) (fun c_1 => ?_) (fun c_1 => ?_)
  · skip
    have c_1 := zI_0 c_1
    refine lv_iconst (v := (-1)) hx hb dX4_blend_16 (by decide) ?_
    exact mu_iret mx hx hb hr hlocks hP hD hS dX4_blend_17 (by simp [blendF, blX, zI, c_1])
  · skip
    have c_1 := zI_1 c_1
    refine lv_aload_n hx hb dX4_blend_8 rfl (lv_at hl 0 rfl) ?_
    refine lv_iload_n hx hb dX4_blend_9 rfl (lv_at hl 1 rfl) ?_
    refine muF_i (va_runV (As := [.int s0]) (rest := []) F (kX4_gather l D y q n now rt tr C ah w mx rd ct g h s0 _ hn) (cwV 1 hts gX4_blend_X4_gather rfl rfl rfl ⟨rfl, hdX4_gather⟩ ⟨(Nat.le_of_ble_eq_true rfl), (Nat.le_of_ble_eq_true rfl)⟩) ⟨(muB_blind (fun _ _ _ _ _ => trivial)), va_recv hK hP (ci := 4) (q0 := 0) rfl rfl, muF_pre hP hK hN hD (fun _ _ _ => trivial)⟩ rfl rfl hl.1 rfl (lv_room (Nat.le_of_ble_eq_true rfl)) dX4_blend_10 ⟨Nat.zero_le _, Nat.zero_le _⟩) hP hD hS hA (fun r_2 u_3 H locs w_4 hP hD hS => ?_)
    obtain ⟨rfl, w_4⟩ := w_4
    have hP : va_P D vwCl (xW y q (nI n) now rt tr C ah w u_3 rd ct g h) H := hP
    have hD : va_D A (xW y q (nI n) now rt tr C ah w u_3 rd ct g h) := hD
    refine lv_if_ne (tgt := 18) hx hb dX4_blend_13 (by decide) (fun c_5 => ?_) (fun c_5 => ?_)
    · skip
      have c_5 := zI_1 c_5
      obtain rfl := w_4 c_5
      refine lv_iload_n hx hb dX4_blend_18 rfl (lv_at hl 2 rfl) ?_
      by_cases t_6 : k0 = 0
      · skip
        subst t_6
        refine lv_tableIn (off := 45) (tgt := 64) hx hb dX4_blend_19 (by decide) (by decide) rfl (by decide) ?_
        refine lv_aload_n hx hb dX4_blend_64 rfl (lv_at hl 0 rfl) ?_
        refine va_get (D := D) (ci := 4) (v := .ref (q 5)) (C := RX4) (T := TX4) (N := 9) hx hb hts iX4 hown hK hP 0 rfl rfl 3 (by decide) (hts _ (List.mem_of_getElem? (i := 1) rfl)) (fun _ h9 => h9) rfl dX4_blend_65 ?_
        refine va_get (D := D) (ci := 1) (v := .int (m_dr (gMx n C now s0))) (C := RX1) (T := TX1) (N := 7) hx hb hts iX1 hown hK hP 5 rfl rfl 0 (by decide) (hts _ (List.mem_of_getElem? (i := 2) rfl)) (fun _ h9 => h9) rfl dX4_blend_68 ?_
        exact mu_iret (gMx n C now s0) hx hb hr hlocks hP hD hS dX4_blend_71 (by simp [blendF, blX, zI, c_1, c_5])
      by_cases t_7 : k0 = 1
      · skip
        subst t_7
        refine lv_tableIn (off := 53) (tgt := 72) hx hb dX4_blend_19 (by decide) (by decide) rfl (by decide) ?_
        refine lv_aload_n hx hb dX4_blend_72 rfl (lv_at hl 0 rfl) ?_
        refine va_get (D := D) (ci := 4) (v := .ref (q 5)) (C := RX4) (T := TX4) (N := 9) hx hb hts iX4 hown hK hP 0 rfl rfl 3 (by decide) (hts _ (List.mem_of_getElem? (i := 1) rfl)) (fun _ h9 => h9) rfl dX4_blend_73 ?_
        refine lv_aload_n hx hb dX4_blend_76 rfl (lv_at hl 0 rfl) ?_
        refine va_get (D := D) (ci := 4) (v := .ref (q 5)) (C := RX4) (T := TX4) (N := 9) hx hb hts iX4 hown hK hP 0 rfl rfl 3 (by decide) (hts _ (List.mem_of_getElem? (i := 1) rfl)) (fun _ h9 => h9) rfl dX4_blend_77 ?_
        refine va_get (D := D) (ci := 1) (v := .int (m_sg (gMx n C now s0))) (C := RX1) (T := TX1) (N := 7) hx hb hts iX1 hown hK hP 5 rfl rfl 1 (by decide) (hts _ (List.mem_of_getElem? (i := 3) rfl)) (fun _ h9 => h9) rfl dX4_blend_80 ?_
        refine ro_i (va_runV (As := [.int (m_sg (gMx n C now s0))]) (rest := []) F (kX1_evenly l D y q n now rt tr C ah w (gMx n C now s0) rd ct g h (m_sg (gMx n C now s0))) (cwV 1 hts gX4_blend_X1_evenly rfl rfl rfl ⟨rfl, hdX1_evenly⟩ ⟨(Nat.le_of_ble_eq_true rfl), (Nat.le_of_ble_eq_true rfl)⟩) ⟨rdB_blind, va_recv hK hP (ci := 1) (q0 := 5) rfl rfl, rdB_pre hP hK hN⟩ rfl rfl hl.1 rfl (lv_room (Nat.le_of_ble_eq_true rfl)) dX4_blend_83 ⟨Nat.zero_le _, Nat.zero_le _⟩) ?_
        exact mu_iret (gMx n C now s0) hx hb hr hlocks hP hD hS dX4_blend_86 (by simp [blendF, blX, zI, c_1, c_5])
      by_cases t_8 : k0 = 2
      · skip
        subst t_8
        refine lv_tableIn (off := 68) (tgt := 87) hx hb dX4_blend_19 (by decide) (by decide) rfl (by decide) ?_
        refine lv_aload_n hx hb dX4_blend_87 rfl (lv_at hl 0 rfl) ?_
        refine va_get (D := D) (ci := 4) (v := .ref (q 5)) (C := RX4) (T := TX4) (N := 9) hx hb hts iX4 hown hK hP 0 rfl rfl 3 (by decide) (hts _ (List.mem_of_getElem? (i := 1) rfl)) (fun _ h9 => h9) rfl dX4_blend_88 ?_
        refine va_get (D := D) (ci := 1) (v := .int (m_ag (gMx n C now s0))) (C := RX1) (T := TX1) (N := 7) hx hb hts iX1 hown hK hP 5 rfl rfl 6 (by decide) (hts _ (List.mem_of_getElem? (i := 4) rfl)) (fun _ h9 => h9) rfl dX4_blend_91 ?_
        exact mu_iret (gMx n C now s0) hx hb hr hlocks hP hD hS dX4_blend_94 (by simp [blendF, blX, zI, c_1, c_5])
      by_cases t_9 : k0 = 3
      · skip
        subst t_9
        refine lv_tableIn (off := 76) (tgt := 95) hx hb dX4_blend_19 (by decide) (by decide) rfl (by decide) ?_
        refine lv_aload_n hx hb dX4_blend_95 rfl (lv_at hl 0 rfl) ?_
        refine va_get (D := D) (ci := 4) (v := .ref (q 5)) (C := RX4) (T := TX4) (N := 9) hx hb hts iX4 hown hK hP 0 rfl rfl 3 (by decide) (hts _ (List.mem_of_getElem? (i := 1) rfl)) (fun _ h9 => h9) rfl dX4_blend_96 ?_
        refine lv_aload_n hx hb dX4_blend_99 rfl (lv_at hl 0 rfl) ?_
        refine va_get (D := D) (ci := 4) (v := .ref (q 5)) (C := RX4) (T := TX4) (N := 9) hx hb hts iX4 hown hK hP 0 rfl rfl 3 (by decide) (hts _ (List.mem_of_getElem? (i := 1) rfl)) (fun _ h9 => h9) rfl dX4_blend_100 ?_
        refine va_get (D := D) (ci := 1) (v := .int (m_ok (gMx n C now s0))) (C := RX1) (T := TX1) (N := 7) hx hb hts iX1 hown hK hP 5 rfl rfl 2 (by decide) (hts _ (List.mem_of_getElem? (i := 5) rfl)) (fun _ h9 => h9) rfl dX4_blend_103 ?_
        refine ro_i (va_runV (As := [.int (m_ok (gMx n C now s0))]) (rest := []) F (kX1_evenly l D y q n now rt tr C ah w (gMx n C now s0) rd ct g h (m_ok (gMx n C now s0))) (cwV 1 hts gX4_blend_X1_evenly rfl rfl rfl ⟨rfl, hdX1_evenly⟩ ⟨(Nat.le_of_ble_eq_true rfl), (Nat.le_of_ble_eq_true rfl)⟩) ⟨rdB_blind, va_recv hK hP (ci := 1) (q0 := 5) rfl rfl, rdB_pre hP hK hN⟩ rfl rfl hl.1 rfl (lv_room (Nat.le_of_ble_eq_true rfl)) dX4_blend_106 ⟨Nat.zero_le _, Nat.zero_le _⟩) ?_
        exact mu_iret (gMx n C now s0) hx hb hr hlocks hP hD hS dX4_blend_109 (by simp [blendF, blX, zI, c_1, c_5])
      by_cases t_10 : k0 = 4
      · skip
        subst t_10
        refine lv_tableIn (off := 91) (tgt := 110) hx hb dX4_blend_19 (by decide) (by decide) rfl (by decide) ?_
        refine lv_aload_n hx hb dX4_blend_110 rfl (lv_at hl 0 rfl) ?_
        refine va_get (D := D) (ci := 4) (v := .ref (q 5)) (C := RX4) (T := TX4) (N := 9) hx hb hts iX4 hown hK hP 0 rfl rfl 3 (by decide) (hts _ (List.mem_of_getElem? (i := 1) rfl)) (fun _ h9 => h9) rfl dX4_blend_111 ?_
        refine lv_aload_n hx hb dX4_blend_114 rfl (lv_at hl 0 rfl) ?_
        refine va_get (D := D) (ci := 4) (v := .ref (q 5)) (C := RX4) (T := TX4) (N := 9) hx hb hts iX4 hown hK hP 0 rfl rfl 3 (by decide) (hts _ (List.mem_of_getElem? (i := 1) rfl)) (fun _ h9 => h9) rfl dX4_blend_115 ?_
        refine va_get (D := D) (ci := 1) (v := .int (m_sm (gMx n C now s0))) (C := RX1) (T := TX1) (N := 7) hx hb hts iX1 hown hK hP 5 rfl rfl 3 (by decide) (hts _ (List.mem_of_getElem? (i := 6) rfl)) (fun _ h9 => h9) rfl dX4_blend_118 ?_
        refine ro_i (va_runV (As := [.int (m_sm (gMx n C now s0))]) (rest := []) F (kX1_evenly l D y q n now rt tr C ah w (gMx n C now s0) rd ct g h (m_sm (gMx n C now s0))) (cwV 1 hts gX4_blend_X1_evenly rfl rfl rfl ⟨rfl, hdX1_evenly⟩ ⟨(Nat.le_of_ble_eq_true rfl), (Nat.le_of_ble_eq_true rfl)⟩) ⟨rdB_blind, va_recv hK hP (ci := 1) (q0 := 5) rfl rfl, rdB_pre hP hK hN⟩ rfl rfl hl.1 rfl (lv_room (Nat.le_of_ble_eq_true rfl)) dX4_blend_121 ⟨Nat.zero_le _, Nat.zero_le _⟩) ?_
        exact mu_iret (gMx n C now s0) hx hb hr hlocks hP hD hS dX4_blend_124 (by simp [blendF, blX, zI, c_1, c_5])
      by_cases t_11 : k0 = 5
      · skip
        subst t_11
        refine lv_tableIn (off := 106) (tgt := 125) hx hb dX4_blend_19 (by decide) (by decide) rfl (by decide) ?_
        refine lv_aload_n hx hb dX4_blend_125 rfl (lv_at hl 0 rfl) ?_
        refine va_get (D := D) (ci := 4) (v := .ref (q 5)) (C := RX4) (T := TX4) (N := 9) hx hb hts iX4 hown hK hP 0 rfl rfl 3 (by decide) (hts _ (List.mem_of_getElem? (i := 1) rfl)) (fun _ h9 => h9) rfl dX4_blend_126 ?_
        refine lv_aload_n hx hb dX4_blend_129 rfl (lv_at hl 0 rfl) ?_
        refine va_get (D := D) (ci := 4) (v := .ref (q 5)) (C := RX4) (T := TX4) (N := 9) hx hb hts iX4 hown hK hP 0 rfl rfl 3 (by decide) (hts _ (List.mem_of_getElem? (i := 1) rfl)) (fun _ h9 => h9) rfl dX4_blend_130 ?_
        refine va_get (D := D) (ci := 1) (v := .int (m_sw (gMx n C now s0))) (C := RX1) (T := TX1) (N := 7) hx hb hts iX1 hown hK hP 5 rfl rfl 4 (by decide) (hts _ (List.mem_of_getElem? (i := 7) rfl)) (fun _ h9 => h9) rfl dX4_blend_133 ?_
        refine ro_i (va_runV (As := [.int (m_sw (gMx n C now s0))]) (rest := []) F (kX1_evenly l D y q n now rt tr C ah w (gMx n C now s0) rd ct g h (m_sw (gMx n C now s0))) (cwV 1 hts gX4_blend_X1_evenly rfl rfl rfl ⟨rfl, hdX1_evenly⟩ ⟨(Nat.le_of_ble_eq_true rfl), (Nat.le_of_ble_eq_true rfl)⟩) ⟨rdB_blind, va_recv hK hP (ci := 1) (q0 := 5) rfl rfl, rdB_pre hP hK hN⟩ rfl rfl hl.1 rfl (lv_room (Nat.le_of_ble_eq_true rfl)) dX4_blend_136 ⟨Nat.zero_le _, Nat.zero_le _⟩) ?_
        exact mu_iret (gMx n C now s0) hx hb hr hlocks hP hD hS dX4_blend_139 (by simp [blendF, blX, zI, c_1, c_5])
      by_cases t_12 : k0 = 6
      · skip
        subst t_12
        refine lv_tableIn (off := 121) (tgt := 140) hx hb dX4_blend_19 (by decide) (by decide) rfl (by decide) ?_
        refine lv_aload_n hx hb dX4_blend_140 rfl (lv_at hl 0 rfl) ?_
        refine va_get (D := D) (ci := 4) (v := .ref (q 5)) (C := RX4) (T := TX4) (N := 9) hx hb hts iX4 hown hK hP 0 rfl rfl 3 (by decide) (hts _ (List.mem_of_getElem? (i := 1) rfl)) (fun _ h9 => h9) rfl dX4_blend_141 ?_
        refine va_get (D := D) (ci := 1) (v := .int (m_co (gMx n C now s0))) (C := RX1) (T := TX1) (N := 7) hx hb hts iX1 hown hK hP 5 rfl rfl 5 (by decide) (hts _ (List.mem_of_getElem? (i := 8) rfl)) (fun _ h9 => h9) rfl dX4_blend_144 ?_
        exact mu_iret (gMx n C now s0) hx hb hr hlocks hP hD hS dX4_blend_147 (by simp [blendF, blX, zI, c_1, c_5])
      by_cases t_13 : k0 = 7
      · skip
        subst t_13
        refine lv_tableIn (off := 129) (tgt := 148) hx hb dX4_blend_19 (by decide) (by decide) rfl (by decide) ?_
        refine lv_aload_n hx hb dX4_blend_148 rfl (lv_at hl 0 rfl) ?_
        refine va_get (D := D) (ci := 4) (v := .ref (q 3)) (C := RX4) (T := TX4) (N := 9) hx hb hts iX4 hown hK hP 0 rfl rfl 2 (by decide) (hts _ (List.mem_of_getElem? (i := 9) rfl)) (fun _ h9 => h9) rfl dX4_blend_149 ?_
        refine lv_aload_n hx hb dX4_blend_152 rfl (lv_at hl 0 rfl) ?_
        refine va_get (D := D) (ci := 4) (v := .ref (q 5)) (C := RX4) (T := TX4) (N := 9) hx hb hts iX4 hown hK hP 0 rfl rfl 3 (by decide) (hts _ (List.mem_of_getElem? (i := 1) rfl)) (fun _ h9 => h9) rfl dX4_blend_153 ?_
        refine ro_i (va_runV (As := [.ref (q 5)]) (rest := []) F (kX3_isMetBy l D y q n now rt tr C ah w (gMx n C now s0) rd ct g h) (cwV 1 hts gX4_blend_X3_isMetBy rfl rfl rfl ⟨rfl, hdX3_isMetBy⟩ ⟨(Nat.le_of_ble_eq_true rfl), (Nat.le_of_ble_eq_true rfl)⟩) ⟨rdB_blind, va_recv hK hP (ci := 3) (q0 := 3) rfl rfl, rdB_pre hP hK hN⟩ rfl rfl hl.1 rfl (lv_room (Nat.le_of_ble_eq_true rfl)) dX4_blend_156 ⟨Nat.zero_le _, Nat.zero_le _⟩) ?_
        refine lv_if_eq (tgt := 166) hx hb dX4_blend_159 (by decide) (fun c_14 => ?_) (fun c_14 => ?_)
        · skip
          have c_14 := zI_0 c_14
          refine lv_iconst (v := 0) hx hb dX4_blend_166 (by decide) ?_
          exact mu_iret (gMx n C now s0) hx hb hr hlocks hP hD hS dX4_blend_167 (by simp [blendF, blX, zI, c_1, c_5, c_14])
        · skip
          have c_14 := zI_1 c_14
          refine lv_iconst (v := 1) hx hb dX4_blend_162 (by decide) ?_
          refine lv_goto (tgt := 167) hx hb dX4_blend_163 (by decide) ?_
          exact mu_iret (gMx n C now s0) hx hb hr hlocks hP hD hS dX4_blend_167 (by simp [blendF, blX, zI, c_1, c_5, c_14])
      have u_6 : ¬ (k0).toInt = 0 := fun h => t_6 (Int32.toInt_inj.mp h)
      have u_7 : ¬ (k0).toInt = 1 := fun h => t_7 (Int32.toInt_inj.mp h)
      have u_8 : ¬ (k0).toInt = 2 := fun h => t_8 (Int32.toInt_inj.mp h)
      have u_9 : ¬ (k0).toInt = 3 := fun h => t_9 (Int32.toInt_inj.mp h)
      have u_10 : ¬ (k0).toInt = 4 := fun h => t_10 (Int32.toInt_inj.mp h)
      have u_11 : ¬ (k0).toInt = 5 := fun h => t_11 (Int32.toInt_inj.mp h)
      have u_12 : ¬ (k0).toInt = 6 := fun h => t_12 (Int32.toInt_inj.mp h)
      have u_13 : ¬ (k0).toInt = 7 := fun h => t_13 (Int32.toInt_inj.mp h)
      refine lv_tableOut (tgt := 168) hx hb dX4_blend_19 (by omega) (by decide) ?_
      refine lv_iconst (v := (-1)) hx hb dX4_blend_168 (by decide) ?_
      exact mu_iret (gMx n C now s0) hx hb hr hlocks hP hD hS dX4_blend_169 (by simp [blendF, blX, zI, c_1, c_5, t_6, t_7, t_8, t_9, t_10, t_11, t_12, t_13])
    · skip
      have c_5 := zI_0 c_5
      refine lv_iconst (v := (-1)) hx hb dX4_blend_16 (by decide) ?_
      exact mu_iret u_3 hx hb hr hlocks hP hD hS dX4_blend_17 (by simp [blendF, blX, zI, c_1, c_5])
