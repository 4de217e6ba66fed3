def mkI (j : Nat) : Int32 := if j = 0 then 1 else if j = 1 then 11 else 111
def mkV (j : Nat) : Value := .int (mkI j)
def trE (A : Nat → Prop) (U : State) : Prop := ∃ t : Nat, va_Z "CaskBook" "TRACE_MARKS" "[I" (.ref t) A U U.heap ∧ va_T .int t 3 mkV A U U.heap
def tkf (C : Nat → CT) (a y : Int32) (i : Nat) (s : Int32 × (Nat → Int32)) : Int32 × (Nat → Int32) := if y - c_la (C i) < a then s else (s.1 - mnI s.1 (s.2 i), upd s.2 i (s.2 i - mnI s.1 (s.2 i)))
def tkA (n : Nat) (C : Nat → CT) (w a y : Int32) (ah : Nat → Int32) : Int32 × (Nat → Int32) := fN (tkf C a y) n (w, ah)
def pyA (C : Nat → CT) (ah : Nat → Int32) (y : Int32) (i : Nat) : Nat → Int32 := fun k => if k < i then ah k - lostX (ah k) (lossC (C k) y) else ah k
theorem pyA_0 (C : Nat → CT) (ah : Nat → Int32) (y : Int32) : pyA C ah y 0 = ah := by funext k; simp [pyA]
theorem pyA_t (C : Nat → CT) (ah : Nat → Int32) (y : Int32) (i : Nat) : upd (pyA C ah y i) i (pyA C ah y i i - lostX (pyA C ah y i i) (lossC (C i) y)) = pyA C ah y (i + 1) := by
  funext k
  rw [upd_ap]
  by_cases h : k = i
  · subst h; simp [pyA]
  · have : k < i + 1 ↔ k < i := by omega
    simp [pyA, h, this]
def cpA (C : Nat → CT) (ah : Nat → Int32) (i : Nat) : Nat → Int32 := fun k => if k < i then c_dr (C k) else ah k
theorem cpA_0 (C : Nat → CT) (ah : Nat → Int32) : cpA C ah 0 = ah := by funext k; simp [cpA]
theorem cpA_t (C : Nat → CT) (ah : Nat → Int32) (i : Nat) : upd (cpA C ah i) i (c_dr (C i)) = cpA C ah (i + 1) := by
  funext k
  rw [upd_ap]
  by_cases h : k = i
  · subst h; simp [cpA]
  · have : k < i + 1 ↔ k < i := by omega
    simp [cpA, h, this]
/-- the stock after i years that it lasted -/
def laA (n : Nat) (C : Nat → CT) (w a now : Int32) (f0 : Nat → Int32) : Nat → (Nat → Int32)
  | 0 => f0
  | i + 1 => pyA C (tkA n C w a (now + nI i) (laA n C w a now f0 i)).2 (now + nI i) n
def okL (n : Nat) (C : Nat → CT) (w a now : Int32) (f0 : Nat → Int32) (i : Nat) : Bool := decide ((tkA n C w a (now + nI i) (laA n C w a now f0 i)).1 = 0)
def fBad (ok : Nat → Bool) : Nat → Nat → Nat
  | 0, i => i
  | f + 1, i => if ok i = true then fBad ok f (i + 1) else i
theorem fBad_go {ok : Nat → Bool} : ∀ (k f i : Nat), (∀ j, i ≤ j → j < i + k → ok j = true) → fBad ok (k + f) i = fBad ok f (i + k) := by
  intro k
  induction k with
  | zero => intro f i _; rw [Nat.zero_add, Nat.add_zero]
  | succ k ih =>
    intro f i h
    rw [show k + 1 + f = (k + f) + 1 by omega]
    show (if ok i = true then fBad ok (k + f) (i + 1) else i) = _
    rw [if_pos (h i (Nat.le_refl _) (by omega)), ih f (i + 1) (fun j h1 h2 => h j (by omega) (by omega)), show i + 1 + k = i + (k + 1) by omega]
theorem fBad_at {ok : Nat → Bool} {i : Nat} (hi : i < 30) (h : ∀ j, j < i → ok j = true) (hb : ok i = false) : fBad ok 30 0 = i := by
  have h1 := fBad_go (ok := ok) i (29 - i + 1) 0 (fun j _ h2 => h j (by omega))
  rw [show i + (29 - i + 1) = 30 by omega] at h1
  rw [h1, Nat.zero_add]
  show (if ok i = true then _ else i) = i
  rw [if_neg (by rw [hb]; decide)]
theorem fBad_all {ok : Nat → Bool} (h : ∀ j, j < 30 → ok j = true) : fBad ok 30 0 = 30 := by
  have h1 := fBad_go (ok := ok) 30 0 0 (fun j _ h2 => h j (by omega))
  rw [h1]; rfl
def lastsF (n : Nat) (C : Nat → CT) (now : Int32) (f0 : Nat → Int32) (w a : Int32) : Int32 := if inR w 1 9999 = true ∧ inR a 0 60 = true then nI (fBad (okL n C w a now f0) 30 0) else -1
def lossF (n : Nat) (C : Nat → CT) (tr : Int64) (c k y : Int32) : Int32 × Int64 := if isC n c = true ∧ inR k 0 2 = true ∧ inR y 0 60 = true then (lossX k (c_fl (C c.toNatClampNeg)) y, tr + (mkI k.toNatClampNeg).toInt64) else (-1, tr)
def wyf (a : Nat) (k : Nat) (s : Int64 × Int64) : Int64 × Int64 := (s.1 * 2 * (nI (a - k)).toInt64 / (nI (k + 1)).toInt64, s.2 + s.1 * 2 * (nI (a - k)).toInt64 / (nI (k + 1)).toInt64)
def wyS (a k : Nat) : Int64 × Int64 := fN (wyf a) k (1, 1)
def waysX (a b : Nat) : Int64 := (wyS a (a - b)).2
def oddsF (n c : Int32) : Int64 := if (inR n 1 20 && inR c 0 n) = true then waysX n.toNatClampNeg c.toNatClampNeg else -1
def apartF (n c : Int32) : Int32 := if (inR n 1 20 && inR c 0 n) = true then (if 20 * waysX n.toNatClampNeg c.toNatClampNeg ≤ waysX n.toNatClampNeg 0 then 1 else 0) else -1
theorem lne0 {k : Nat} (h : k < 2 ^ 30) : ¬ (nI (k + 1)).toInt64 = 0 := by
  rw [nI_l (by omega)]
  intro h2
  have h3 := (pk_lEQ (a := k + 1) (b := 0) (by omega) (by omega)).mp h2
  omega
theorem tri_of {x y : Int32} (h : (inR x 1 20 && inR y 0 x) = true) : ∃ a b : Nat, a ≤ 20 ∧ b ≤ a ∧ x = nI a ∧ y = nI b := by
  rw [Bool.and_eq_true] at h
  obtain ⟨h1, h2⟩ := h
  unfold inR at h1
  rw [Bool.and_eq_true, decide_eq_true_eq, decide_eq_true_eq, Int32.le_iff_toInt_le, Int32.le_iff_toInt_le] at h1
  have k0 : (1 : Int32).toInt = 1 := rfl
  have k1 : (20 : Int32).toInt = 20 := rfl
  have k2 : (0 : Int32).toInt = 0 := rfl
  rw [k0, k1] at h1
  obtain ⟨a, ha, e⟩ := nI_of (x := x) (by rw [Int32.lt_iff_toInt_lt, k2]; omega)
  rw [e, nI_toInt ha] at h1
  obtain ⟨b, hb, e2⟩ := inR_of (k := a) e (by omega) h2
  exact ⟨a, b, by omega, hb, e, e2⟩
theorem lg_gt {x y : Int64} : 0 < lg_cmp x y ↔ ¬ x ≤ y := by
  unfold lg_cmp
  rw [Int64.not_le]
  by_cases h : x > y
  · rw [if_pos h]; exact ⟨fun _ => h, fun _ => by decide⟩
  · rw [if_neg h]
    by_cases h2 : x = y
    · rw [if_pos h2]; exact ⟨fun h3 => absurd h3 (by decide), fun h3 => absurd h3 h⟩
    · rw [if_neg h2]; exact ⟨fun h3 => absurd h3 (by decide), fun h3 => absurd h3 h⟩

set_option maxHeartbeats 4000000 in
set_option maxRecDepth 100000 in
theorem kX4_takeAhead (l : Launch) (D : va_G) (y : Nat → ClassId) (q : Nat → Nat) (n : Nat) (now rt : Int32) (tr : Int64) (C : Nat → CT) (ah w : Nat → Int32) (mx : MT) (rd ct : Int32) (g h : Nat → Int32) (w0 : Int32) (a0 : Int32) (y0 : Int32) (sz : Nat) (hn : n ≤ 12) : Met l yX4_takeAhead wsX4_takeAhead ({ frames := 1, cells := 0, slots := 0, locals := 21 }) (va_Pc [.ref (q 0), .int w0, .int a0, .int y0] (muB D (xT y) (xW y q (nI n) now rt tr C ah w mx rd ct g h) sz eT)) (QI (σ := Unit) D (fun r u => r = zI (decide ((tkA n C w0 a0 y0 ah).1 = 0))) (fun u => (xW y q (nI n) now rt tr C ((tkA n C w0 a0 y0 ah).2) w mx rd ct g h)) (va_A (xW y q (nI n) now rt tr C ah w mx rd ct g h) sz)) 0 0 (va_A (xW y q (nI n) now rt tr C ah w mx rd ct g h) sz) := by
  refine mu_start (Qc := QI (σ := Unit) D (fun r u => r = zI (decide ((tkA n C w0 a0 y0 ah).1 = 0))) (fun u => (xW y q (nI n) now rt tr C ((tkA n C w0 a0 y0 ah).2) w mx rd ct g h))) (cc := cX4_takeAhead) (maxL := 7) (ret := (some .boolean)) (by decide) rfl (Nat.le_of_ble_eq_true rfl) ?_
  intro p e s m below meth c ls A hx hb hr hml hown hlocks hts hnm hA hP hK hN hD hE hAA hsz hl
  have hS : va_S A s.heap s.heap [] := va_S.rf
  have hown : s.vm.findClass RX4 = some m.cls := hown
  have F : CallFix p m c cX4_takeAhead 7 s [.ref (q 0), .int w0, .int a0, .int y0].toArray wsX4_takeAhead RX4 := ⟨hx, hb, hml, hown, hts⟩
  have hl : lv_has ls 7 [(0, .ref (q 0)), (1, .int w0), (2, .int a0), (3, .int y0)] := hl
  have iX4 : ∀ w ∈ u_ws RX4 TX4 9, w ∈ wsX4_takeAhead := mem_pl [14, 15, 16, 17, 18, 19, 20, 21, 22] rfl
  refine lv_iload_n hx hb dX4_takeAhead_0 rfl (lv_at hl 1 rfl) ?_
  refine lv_istore (lv' := [(4, .int w0), (0, .ref (q 0)), (1, .int w0), (2, .int a0), (3, .int y0)]) hx hb dX4_takeAhead_1 hl (by decide) rfl (fun ls hl => ?_)
  refine lv_iconst (v := 0) hx hb dX4_takeAhead_3 (by decide) ?_
  refine lv_istore (lv' := [(5, .int 0), (4, .int w0), (0, .ref (q 0)), (1, .int w0), (2, .int a0), (3, .int y0)]) hx hb dX4_takeAhead_4 hl (by decide) rfl (fun ls hl => ?_)
  refine W.lpW (pc := 6) (τ := Nat) (D := D) (A := A) (H0 := s.heap) (cl := vwCl) (fun i => i ≤ n) (fun i => (xW y q (nI n) now rt tr C ((fN (tkf C a0 y0) i (w0, ah)).2) w mx rd ct g h)) (fun i ls => lv_has ls 7 [(0, .ref (q 0)), (1, .int w0), (2, .int a0), (3, .int y0), (4, .int ((fN (tkf C a0 y0) i (w0, ah)).1)), (5, .int (nI i))]) (fun i => n - i) ?_ 0 ls (Nat.zero_le _) (lv_sub hl [2, 3, 4, 5, 1, 0] rfl) hP hD hS
  intro i ls H locs hi hl hP hD hS ihi
  have hi : i ≤ n := hi
  have hl : lv_has ls 7 [(0, .ref (q 0)), (1, .int w0), (2, .int a0), (3, .int y0), (4, .int ((fN (tkf C a0 y0) i (w0, ah)).1)), (5, .int (nI i))] := hl
  have hP : va_P D vwCl (xW y q (nI n) now rt tr C ((fN (tkf C a0 y0) i (w0, ah)).2) w mx rd ct g h) H := hP
  have hD : va_D A (xW y q (nI n) now rt tr C ((fN (tkf C a0 y0) i (w0, ah)).2) w mx rd ct g h) := hD
  refine lv_iload hx hb dX4_takeAhead_6 (lv_at hl 5 rfl) ?_
  refine lv_aload_n hx hb dX4_takeAhead_8 rfl (lv_at hl 0 rfl) ?_
  refine va_get (D := D) (ci := 4) (v := .int (nI n)) (C := RX4) (T := TX4) (N := 9) hx hb hts iX4 hown hK hP 0 rfl rfl 5 (by decide) (hts _ (List.mem_of_getElem? (i := 1) rfl)) (fun _ h9 => h9) rfl dX4_takeAhead_9 ?_
  refine lv_icmp_ge (tgt := 69) hx hb dX4_takeAhead_12 (by decide) (fun c_1 => ?_) (fun c_1 => ?_)
  · skip
    have c_1 : n ≤ i := (nI_leI (a := n) (b := i) (by omega) (by omega)).mp c_1
    have hin : i = n := Nat.le_antisymm hi c_1
    rw [hin] at hP hD hl
    refine lv_iload hx hb dX4_takeAhead_69 (lv_at hl 4 rfl) ?_
    refine lv_if_ne (tgt := 78) hx hb dX4_takeAhead_71 (by decide) (fun c_2 => ?_) (fun c_2 => ?_)
    · skip
      refine lv_iconst (v := 0) hx hb dX4_takeAhead_78 (by decide) ?_
      exact mu_zret () hx hb hr hlocks rfl hP hD hS dX4_takeAhead_79 (by rw [show (tkA n C w0 a0 y0 ah).1 = (fN (tkf C a0 y0) n (w0, ah)).1 from rfl]; simp [zI, c_2])
    · skip
      refine lv_iconst (v := 1) hx hb dX4_takeAhead_74 (by decide) ?_
      refine lv_goto (tgt := 79) hx hb dX4_takeAhead_75 (by decide) ?_
      exact mu_zret () hx hb hr hlocks rfl hP hD hS dX4_takeAhead_79 (by rw [show (tkA n C w0 a0 y0 ah).1 = (fN (tkf C a0 y0) n (w0, ah)).1 from rfl]; simp [zI, c_2])
  · skip
    have c_1 : ¬ n ≤ i := fun h => c_1 ((nI_leI (a := n) (b := i) (by omega) (by omega)).mpr h)
    refine lv_aload_n hx hb dX4_takeAhead_15 rfl (lv_at hl 0 rfl) ?_
    refine va_get (D := D) (ci := 4) (v := .ref (q 1)) (C := RX4) (T := TX4) (N := 9) hx hb hts iX4 hown hK hP 0 rfl rfl 0 (by decide) (hts _ (List.mem_of_getElem? (i := 2) rfl)) (fun _ h9 => h9) rfl dX4_takeAhead_16 ?_
    refine lv_iload hx hb dX4_takeAhead_19 (lv_at hl 5 rfl) ?_
    refine wa_aldq hx hb hK hP 1 0 rfl rfl i rfl (by omega) (by decide) rfl dX4_takeAhead_21 ?_
    refine lv_iload_n hx hb dX4_takeAhead_22 rfl (lv_at hl 3 rfl) ?_
    refine ro_i (va_runV (As := [.int y0]) (rest := []) F (kX0_age l D y q n now rt tr C ((fN (tkf C a0 y0) i (w0, ah)).2) w mx rd ct g h y0 i (by omega)) (cwV 1 hts gX4_takeAhead_X0_age rfl rfl rfl ⟨rfl, hdX0_age⟩ ⟨(Nat.le_of_ble_eq_true rfl), (Nat.le_of_ble_eq_true rfl)⟩) ⟨rdB_blind, va_recv hK hP (ci := 0) (q0 := (9 + i)) rfl (xp_at rfl (by omega)), rdB_pre hP hK hN⟩ rfl rfl hl.1 rfl (lv_room (Nat.le_of_ble_eq_true rfl)) dX4_takeAhead_23 ⟨Nat.zero_le _, Nat.zero_le _⟩) ?_
    refine lv_iload_n hx hb dX4_takeAhead_26 rfl (lv_at hl 2 rfl) ?_
    refine lv_icmp_lt (tgt := 63) hx hb dX4_takeAhead_27 (by decide) (fun c_3 => ?_) (fun c_3 => ?_)
    · skip
      refine lv_iinc (v := (nI i + 1)) (lv' := [(5, .int (nI i + 1)), (0, .ref (q 0)), (1, .int w0), (2, .int a0), (3, .int y0), (4, .int ((fN (tkf C a0 y0) i (w0, ah)).1))]) hx hb dX4_takeAhead_63 hl (k := 5) rfl rfl (by decide) rfl (fun ls hl => ?_)
      refine lv_goto (tgt := 6) hx hb dX4_takeAhead_66 (by decide) ?_
      have et : fN (tkf C a0 y0) (i + 1) (w0, ah) = (fN (tkf C a0 y0) i (w0, ah)) := by rw [fN_s]; unfold tkf; rw [if_pos c_3]
      have hP : va_P D vwCl (xW y q (nI n) now rt tr C ((fN (tkf C a0 y0) (i + 1) (w0, ah)).2) w mx rd ct g h) H := by rw [et]; exact hP
      have hD : va_D A (xW y q (nI n) now rt tr C ((fN (tkf C a0 y0) (i + 1) (w0, ah)).2) w mx rd ct g h) := by rw [et]; exact hD
      have hP : va_P D vwCl (xW y q (nI n) now rt tr C ((fN (tkf C a0 y0) (i + 1) (w0, ah)).2) w mx rd ct g h) H := hP
      have hD : va_D A (xW y q (nI n) now rt tr C ((fN (tkf C a0 y0) (i + 1) (w0, ah)).2) w mx rd ct g h) := hD
      exact ihi (i + 1) ls H locs (by show n - (i + 1) < n - i; omega) (by show i + 1 ≤ n; omega) (lv_sub hl [1, 2, 3, 4, 5, 0] (by
        show ([(0, .ref (q 0)), (1, .int w0), (2, .int a0), (3, .int y0), (4, .int ((fN (tkf C a0 y0) i (w0, ah)).1)), (5, .int (nI i + 1))] : List (Nat × Value)) = [(0, .ref (q 0)), (1, .int w0), (2, .int a0), (3, .int y0), (4, .int ((fN (tkf C a0 y0) (i + 1) (w0, ah)).1)), (5, .int (nI (i + 1)))]
        rw [et]
        rw [← nI_1])) hP hD hS
    · skip
      refine lv_iload hx hb dX4_takeAhead_30 (lv_at hl 4 rfl) ?_
      refine lv_aload_n hx hb dX4_takeAhead_32 rfl (lv_at hl 0 rfl) ?_
      refine va_get (D := D) (ci := 4) (v := .ref (q 2)) (C := RX4) (T := TX4) (N := 9) hx hb hts iX4 hown hK hP 0 rfl rfl 1 (by decide) (hts _ (List.mem_of_getElem? (i := 3) rfl)) (fun _ h9 => h9) rfl dX4_takeAhead_33 ?_
      refine lv_iload hx hb dX4_takeAhead_36 (lv_at hl 5 rfl) ?_
      refine wa_iald hx hb hK hP 2 1 rfl rfl i rfl (by omega) (by decide) dX4_takeAhead_38 ?_
      refine wm_min hx hb (hml.trans hl.1.symm) hown (hts _ (List.mem_of_getElem? (i := 4) rfl)) (hts _ (List.mem_of_getElem? (i := 5) rfl)) (hts _ (List.mem_of_getElem? (i := 6) rfl)) (hts _ (List.mem_of_getElem? (i := 7) rfl)) (Nat.le_of_ble_eq_true rfl) (Nat.le_of_ble_eq_true rfl) (Nat.zero_le _) (Nat.zero_le _) dX4_takeAhead_39 ?_
      refine lv_istore (lv' := [(6, .int (mnI ((fN (tkf C a0 y0) i (w0, ah)).1) (((fN (tkf C a0 y0) i (w0, ah)).2) i))), (0, .ref (q 0)), (1, .int w0), (2, .int a0), (3, .int y0), (4, .int ((fN (tkf C a0 y0) i (w0, ah)).1)), (5, .int (nI i))]) hx hb dX4_takeAhead_42 hl (by decide) rfl (fun ls hl => ?_)
      refine lv_aload_n hx hb dX4_takeAhead_44 rfl (lv_at hl 1 rfl) ?_
      refine va_get (D := D) (ci := 4) (v := .ref (q 2)) (C := RX4) (T := TX4) (N := 9) hx hb hts iX4 hown hK hP 0 rfl rfl 1 (by decide) (hts _ (List.mem_of_getElem? (i := 3) rfl)) (fun _ h9 => h9) rfl dX4_takeAhead_45 ?_
      refine lv_iload hx hb dX4_takeAhead_48 (lv_at hl 6 rfl) ?_
      refine lv_dup2_11 hx hb dX4_takeAhead_50 rfl rfl ?_
      refine wa_iald hx hb hK hP 2 1 rfl rfl i rfl (by omega) (by decide) dX4_takeAhead_51 ?_
      refine lv_iload hx hb dX4_takeAhead_52 (lv_at hl 0 rfl) ?_
      refine lv_isub hx hb dX4_takeAhead_54 ?_
      refine wa_iast (v := ((((fN (tkf C a0 y0) i (w0, ah)).2) i) - (mnI ((fN (tkf C a0 y0) i (w0, ah)).1) (((fN (tkf C a0 y0) i (w0, ah)).2) i)))) hx hb hK hP hD hS 2 1 rfl rfl i rfl (by omega) (by decide) dX4_takeAhead_55 (fun H locs hP hD hS => ?_)
      have hP : va_P D vwCl (xW y q (nI n) now rt tr C (upd ((fN (tkf C a0 y0) i (w0, ah)).2) i ((((fN (tkf C a0 y0) i (w0, ah)).2) i) - (mnI ((fN (tkf C a0 y0) i (w0, ah)).1) (((fN (tkf C a0 y0) i (w0, ah)).2) i)))) w mx rd ct g h) H := hP
      have hD : va_D A (xW y q (nI n) now rt tr C (upd ((fN (tkf C a0 y0) i (w0, ah)).2) i ((((fN (tkf C a0 y0) i (w0, ah)).2) i) - (mnI ((fN (tkf C a0 y0) i (w0, ah)).1) (((fN (tkf C a0 y0) i (w0, ah)).2) i)))) w mx rd ct g h) := hD
      refine lv_iload hx hb dX4_takeAhead_56 (lv_at hl 5 rfl) ?_
      refine lv_iload hx hb dX4_takeAhead_58 (lv_at hl 0 rfl) ?_
      refine lv_isub hx hb dX4_takeAhead_60 ?_
      refine lv_istore (lv' := [(4, .int (((fN (tkf C a0 y0) i (w0, ah)).1) - (mnI ((fN (tkf C a0 y0) i (w0, ah)).1) (((fN (tkf C a0 y0) i (w0, ah)).2) i)))), (6, .int (mnI ((fN (tkf C a0 y0) i (w0, ah)).1) (((fN (tkf C a0 y0) i (w0, ah)).2) i))), (0, .ref (q 0)), (1, .int w0), (2, .int a0), (3, .int y0), (5, .int (nI i))]) hx hb dX4_takeAhead_61 hl (by decide) rfl (fun ls hl => ?_)
      refine lv_iinc (v := (nI i + 1)) (lv' := [(5, .int (nI i + 1)), (4, .int (((fN (tkf C a0 y0) i (w0, ah)).1) - (mnI ((fN (tkf C a0 y0) i (w0, ah)).1) (((fN (tkf C a0 y0) i (w0, ah)).2) i)))), (6, .int (mnI ((fN (tkf C a0 y0) i (w0, ah)).1) (((fN (tkf C a0 y0) i (w0, ah)).2) i))), (0, .ref (q 0)), (1, .int w0), (2, .int a0), (3, .int y0)]) hx hb dX4_takeAhead_63 hl (k := 6) rfl rfl (by decide) rfl (fun ls hl => ?_)
      refine lv_goto (tgt := 6) hx hb dX4_takeAhead_66 (by decide) ?_
      have et : fN (tkf C a0 y0) (i + 1) (w0, ah) = ((((fN (tkf C a0 y0) i (w0, ah)).1) - (mnI ((fN (tkf C a0 y0) i (w0, ah)).1) (((fN (tkf C a0 y0) i (w0, ah)).2) i))), (upd ((fN (tkf C a0 y0) i (w0, ah)).2) i ((((fN (tkf C a0 y0) i (w0, ah)).2) i) - (mnI ((fN (tkf C a0 y0) i (w0, ah)).1) (((fN (tkf C a0 y0) i (w0, ah)).2) i))))) := by rw [fN_s]; unfold tkf; rw [if_neg c_3]
      have hP : va_P D vwCl (xW y q (nI n) now rt tr C ((fN (tkf C a0 y0) (i + 1) (w0, ah)).2) w mx rd ct g h) H := by rw [et]; exact hP
      have hD : va_D A (xW y q (nI n) now rt tr C ((fN (tkf C a0 y0) (i + 1) (w0, ah)).2) w mx rd ct g h) := by rw [et]; exact hD
      have hP : va_P D vwCl (xW y q (nI n) now rt tr C ((fN (tkf C a0 y0) (i + 1) (w0, ah)).2) w mx rd ct g h) H := hP
      have hD : va_D A (xW y q (nI n) now rt tr C ((fN (tkf C a0 y0) (i + 1) (w0, ah)).2) w mx rd ct g h) := hD
      exact ihi (i + 1) ls H locs (by show n - (i + 1) < n - i; omega) (by show i + 1 ≤ n; omega) (lv_sub hl [3, 4, 5, 6, 1, 0] (by
        show ([(0, .ref (q 0)), (1, .int w0), (2, .int a0), (3, .int y0), (4, .int (((fN (tkf C a0 y0) i (w0, ah)).1) - (mnI ((fN (tkf C a0 y0) i (w0, ah)).1) (((fN (tkf C a0 y0) i (w0, ah)).2) i)))), (5, .int (nI i + 1))] : List (Nat × Value)) = [(0, .ref (q 0)), (1, .int w0), (2, .int a0), (3, .int y0), (4, .int ((fN (tkf C a0 y0) (i + 1) (w0, ah)).1)), (5, .int (nI (i + 1)))]
        rw [et]
        rw [← nI_1])) hP hD hS

set_option maxHeartbeats 4000000 in
set_option maxRecDepth 100000 in
theorem kX4_passYearAhead (l : Launch) (D : va_G) (y : Nat → ClassId) (q : Nat → Nat) (n : Nat) (now rt : Int32) (tr : Int64) (C : Nat → CT) (ah w : Nat → Int32) (mx : MT) (rd ct : Int32) (g h : Nat → Int32) (y0 : Int32) (sz : Nat) (hn : n ≤ 12) : Met l yX4_passYearAhead wsX4_passYearAhead ({ frames := 3, cells := 0, slots := 0, locals := 66 }) (va_Pc [.ref (q 0), .int y0] (muB D (xT y) (xW y q (nI n) now rt tr C ah w mx rd ct g h) sz eT)) (QV (σ := Unit) D (fun u => True) (fun u => (xW y q (nI n) now rt tr C (pyA C ah y0 n) w mx rd ct g h)) (va_A (xW y q (nI n) now rt tr C ah w mx rd ct g h) sz)) 0 0 (va_A (xW y q (nI n) now rt tr C ah w mx rd ct g h) sz) := by
  refine mu_start (Qc := QV (σ := Unit) D (fun u => True) (fun u => (xW y q (nI n) now rt tr C (pyA C ah y0 n) w mx rd ct g h))) (cc := cX4_passYearAhead) (maxL := 3) (ret := none) (by decide) rfl (Nat.le_of_ble_eq_true rfl) ?_
  intro p e s m below meth c ls A hx hb hr hml hown hlocks hts hnm hA hP hK hN hD hE hAA hsz hl
  have hS : va_S A s.heap s.heap [] := va_S.rf
  have hown : s.vm.findClass RX4 = some m.cls := hown
  have F : CallFix p m c cX4_passYearAhead 3 s [.ref (q 0), .int y0].toArray wsX4_passYearAhead RX4 := ⟨hx, hb, hml, hown, hts⟩
  have hl : lv_has ls 3 [(0, .ref (q 0)), (1, .int y0)] := hl
  have iX4 : ∀ w ∈ u_ws RX4 TX4 9, w ∈ wsX4_passYearAhead := mem_pl [29, 30, 31, 32, 33, 34, 35, 36, 37] rfl
  refine lv_iconst (v := 0) hx hb dX4_passYearAhead_0 (by decide) ?_
  refine lv_istore_n (lv' := [(2, .int 0), (0, .ref (q 0)), (1, .int y0)]) hx hb dX4_passYearAhead_1 rfl hl (by decide) rfl (fun ls hl => ?_)
  refine W.lpW (pc := 2) (τ := Nat) (D := D) (A := A) (H0 := s.heap) (cl := vwCl) (fun i => i ≤ n) (fun i => (xW y q (nI n) now rt tr C (pyA C ah y0 i) w mx rd ct g h)) (fun i ls => lv_has ls 3 [(0, .ref (q 0)), (1, .int y0), (2, .int (nI i))]) (fun i => n - i) ?_ 0 ls (Nat.zero_le _) (lv_sub hl [1, 2, 0] rfl) (by show va_P D vwCl (xW y q (nI n) now rt tr C (pyA C ah y0 0) w mx rd ct g h) _; rw [pyA_0]; exact hP) (by show va_D A (xW y q (nI n) now rt tr C (pyA C ah y0 0) w mx rd ct g h); rw [pyA_0]; exact hD) hS
  intro i ls H locs hi hl hP hD hS ihi
  have hi : i ≤ n := hi
  have hl : lv_has ls 3 [(0, .ref (q 0)), (1, .int y0), (2, .int (nI i))] := hl
  have hP : va_P D vwCl (xW y q (nI n) now rt tr C (pyA C ah y0 i) w mx rd ct g h) H := hP
  have hD : va_D A (xW y q (nI n) now rt tr C (pyA C ah y0 i) w mx rd ct g h) := hD
  refine lv_iload_n hx hb dX4_passYearAhead_2 rfl (lv_at hl 2 rfl) ?_
  refine lv_aload_n hx hb dX4_passYearAhead_3 rfl (lv_at hl 0 rfl) ?_
  refine va_get (D := D) (ci := 4) (v := .int (nI n)) (C := RX4) (T := TX4) (N := 9) hx hb hts iX4 hown hK hP 0 rfl rfl 5 (by decide) (hts _ (List.mem_of_getElem? (i := 1) rfl)) (fun _ h9 => h9) rfl dX4_passYearAhead_4 ?_
  refine lv_icmp_ge (tgt := 44) hx hb dX4_passYearAhead_7 (by decide) (fun c_1 => ?_) (fun c_1 => ?_)
  · skip
    have c_1 : n ≤ i := (nI_leI (a := n) (b := i) (by omega) (by omega)).mp c_1
    have hin : i = n := Nat.le_antisymm hi c_1
    rw [hin] at hP hD
    exact mu_vret () hx hb hr hlocks hP hD hS dX4_passYearAhead_44 trivial
  · skip
    have c_1 : ¬ n ≤ i := fun h => c_1 ((nI_leI (a := n) (b := i) (by omega) (by omega)).mpr h)
    refine lv_aload_n hx hb dX4_passYearAhead_10 rfl (lv_at hl 0 rfl) ?_
    refine va_get (D := D) (ci := 4) (v := .ref (q 2)) (C := RX4) (T := TX4) (N := 9) hx hb hts iX4 hown hK hP 0 rfl rfl 1 (by decide) (hts _ (List.mem_of_getElem? (i := 2) rfl)) (fun _ h9 => h9) rfl dX4_passYearAhead_11 ?_
    refine lv_iload_n hx hb dX4_passYearAhead_14 rfl (lv_at hl 2 rfl) ?_
    refine lv_dup2_11 hx hb dX4_passYearAhead_15 rfl rfl ?_
    refine wa_iald hx hb hK hP 2 1 rfl rfl i rfl (by omega) (by decide) dX4_passYearAhead_16 ?_
    refine lv_aload_n hx hb dX4_passYearAhead_17 rfl (lv_at hl 0 rfl) ?_
    refine va_get (D := D) (ci := 4) (v := .ref (q 2)) (C := RX4) (T := TX4) (N := 9) hx hb hts iX4 hown hK hP 0 rfl rfl 1 (by decide) (hts _ (List.mem_of_getElem? (i := 2) rfl)) (fun _ h9 => h9) rfl dX4_passYearAhead_18 ?_
    refine lv_iload_n hx hb dX4_passYearAhead_21 rfl (lv_at hl 2 rfl) ?_
    refine wa_iald hx hb hK hP 2 1 rfl rfl i rfl (by omega) (by decide) dX4_passYearAhead_22 ?_
    refine lv_aload_n hx hb dX4_passYearAhead_23 rfl (lv_at hl 0 rfl) ?_
    refine va_get (D := D) (ci := 4) (v := .ref (q 1)) (C := RX4) (T := TX4) (N := 9) hx hb hts iX4 hown hK hP 0 rfl rfl 0 (by decide) (hts _ (List.mem_of_getElem? (i := 3) rfl)) (fun _ h9 => h9) rfl dX4_passYearAhead_24 ?_
    refine lv_iload_n hx hb dX4_passYearAhead_27 rfl (lv_at hl 2 rfl) ?_
    refine wa_aldq hx hb hK hP 1 0 rfl rfl i rfl (by omega) (by decide) rfl dX4_passYearAhead_28 ?_
    refine lv_iload_n hx hb dX4_passYearAhead_29 rfl (lv_at hl 1 rfl) ?_
    refine ro_i (va_runV (As := [.int y0]) (rest := [.int ((pyA C ah y0 i) i), .int ((pyA C ah y0 i) i), .int (nI i), .ref (q 2)]) F (kX0_lossIn l D y q n now rt tr C (pyA C ah y0 i) w mx rd ct g h y0 i (by omega)) (cwV 1 hts gX4_passYearAhead_X0_lossIn rfl rfl rfl ⟨rfl, hdX0_lossIn⟩ ⟨(Nat.le_of_ble_eq_true rfl), (Nat.le_of_ble_eq_true rfl)⟩) ⟨rdB_blind, va_recv hK hP (ci := 0) (q0 := (9 + i)) rfl (xp_at rfl (by omega)), rdB_pre hP hK hN⟩ rfl rfl hl.1 rfl (lv_room (Nat.le_of_ble_eq_true rfl)) dX4_passYearAhead_30 ⟨Nat.zero_le _, Nat.zero_le _⟩) ?_
    refine ro_i (va_runS (As := [.int ((pyA C ah y0 i) i), .int (lossC (C i) y0)]) (rest := [.int ((pyA C ah y0 i) i), .int (nI i), .ref (q 2)]) F (kX4_lostOf l ((pyA C ah y0 i) i) (lossC (C i) y0)) (va_cwS 2 hts gX4_passYearAhead_X4_lostOf rfl rfl rfl hdX4_lostOf ⟨(Nat.le_of_ble_eq_true rfl), (Nat.le_of_ble_eq_true rfl)⟩) ⟨tr_blind, tr_pre⟩ rfl rfl hl.1 rfl (lv_room (Nat.le_of_ble_eq_true rfl)) dX4_passYearAhead_33 ⟨Nat.zero_le _, Nat.zero_le _⟩) ?_
    refine lv_isub hx hb dX4_passYearAhead_36 ?_
    refine wa_iast (v := (((pyA C ah y0 i) i) - (lostX ((pyA C ah y0 i) i) (lossC (C i) y0)))) hx hb hK hP hD hS 2 1 rfl rfl i rfl (by omega) (by decide) dX4_passYearAhead_37 (fun H locs hP hD hS => ?_)
    have hP : va_P D vwCl (xW y q (nI n) now rt tr C (upd (pyA C ah y0 i) i (((pyA C ah y0 i) i) - (lostX ((pyA C ah y0 i) i) (lossC (C i) y0)))) w mx rd ct g h) H := hP
    have hD : va_D A (xW y q (nI n) now rt tr C (upd (pyA C ah y0 i) i (((pyA C ah y0 i) i) - (lostX ((pyA C ah y0 i) i) (lossC (C i) y0)))) w mx rd ct g h) := hD
    refine lv_iinc (v := (nI i + 1)) (lv' := [(2, .int (nI i + 1)), (0, .ref (q 0)), (1, .int y0)]) hx hb dX4_passYearAhead_38 hl (k := 2) rfl rfl (by decide) rfl (fun ls hl => ?_)
    refine lv_goto (tgt := 2) hx hb dX4_passYearAhead_41 (by decide) ?_
    rw [pyA_t] at hP hD
    have hP : va_P D vwCl (xW y q (nI n) now rt tr C (pyA C ah y0 (i + 1)) w mx rd ct g h) H := hP
    have hD : va_D A (xW y q (nI n) now rt tr C (pyA C ah y0 (i + 1)) w mx rd ct g h) := hD
    exact ihi (i + 1) ls H locs (by show n - (i + 1) < n - i; omega) (by show i + 1 ≤ n; omega) (lv_sub hl [1, 2, 0] (by
      show ([(0, .ref (q 0)), (1, .int y0), (2, .int (nI i + 1))] : List (Nat × Value)) = [(0, .ref (q 0)), (1, .int y0), (2, .int (nI (i + 1)))]
      rw [← nI_1])) hP hD hS

set_option maxHeartbeats 4000000 in
set_option maxRecDepth 100000 in
theorem kX4_lasts (l : Launch) (D : va_G) (y : Nat → ClassId) (q : Nat → Nat) (n : Nat) (now rt : Int32) (tr : Int64) (C : Nat → CT) (ah w : Nat → Int32) (mx : MT) (rd ct : Int32) (g h : Nat → Int32) (w0 : Int32) (a0 : Int32) (sz : Nat) (hn : n ≤ 12) : Met l yX4_lasts wsX4_lasts ({ frames := 4, cells := 0, slots := 0, locals := 88 }) (va_Pc [.ref (q 0), .int w0, .int a0] (muB D (xT y) (xW y q (nI n) now rt tr C ah w mx rd ct g h) sz eT)) (QI (σ := Nat → Int32) D (fun r u => r = lastsF n C now (cpA C ah n) w0 a0) (fun u => (xW y q (nI n) now rt tr C u w mx rd ct g h)) (va_A (xW y q (nI n) now rt tr C ah w mx rd ct g h) sz)) 0 0 (va_A (xW y q (nI n) now rt tr C ah w mx rd ct g h) sz) := by
  refine mu_start (Qc := QI (σ := Nat → Int32) D (fun r u => r = lastsF n C now (cpA C ah n) w0 a0) (fun u => (xW y q (nI n) now rt tr C u w mx rd ct g h))) (cc := cX4_lasts) (maxL := 4) (ret := (some .int)) (by decide) rfl (Nat.le_of_ble_eq_true rfl) ?_
  intro p e s m below meth c ls A hx hb hr hml hown hlocks hts hnm hA hP hK hN hD hE hAA hsz hl
  have hS : va_S A s.heap s.heap [] := va_S.rf
  have hown : s.vm.findClass RX4 = some m.cls := hown
  have F : CallFix p m c cX4_lasts 4 s [.ref (q 0), .int w0, .int a0].toArray wsX4_lasts RX4 := ⟨hx, hb, hml, hown, hts⟩
  have hl : lv_has ls 4 [(0, .ref (q 0)), (1, .int w0), (2, .int a0)] := hl
  have iX0 : ∀ w ∈ u_ws RX0 TX0 8, w ∈ wsX4_lasts := mem_pl [55, 56, 57, 58, 59, 60, 61, 62] rfl
  have iX4 : ∀ w ∈ u_ws RX4 TX4 9, w ∈ wsX4_lasts := mem_pl [46, 47, 48, 49, 50, 51, 52, 53, 54] rfl
  refine lv_iload_n hx hb dX4_lasts_0 rfl (lv_at hl 1 rfl) ?_
  refine lv_iconst (v := 1) hx hb dX4_lasts_1 (by decide) ?_
  refine lv_sipush (v := 9999) hx hb dX4_lasts_2 (by decide) ?_
  refine ro_i (va_runS (As := [.int w0, .int 1, .int 9999]) (rest := []) F (kX4_isWithin l w0 1 9999) (va_cwS 3 hts gX4_lasts_X4_isWithin rfl rfl rfl hdX4_isWithin ⟨(Nat.le_of_ble_eq_true rfl), (Nat.le_of_ble_eq_true rfl)⟩) ⟨tr_blind, tr_pre⟩ rfl rfl hl.1 rfl (lv_room (Nat.le_of_ble_eq_true rfl)) dX4_lasts_5 ⟨Nat.zero_le _, Nat.zero_le _⟩) ?_
  refine lv_if_eq (tgt := 21) hx hb dX4_lasts_8 (by decide) (fun c_1 => ?_) (fun c_1 => ?_)
  · skip
    have c_1 := zI_0 c_1
    refine lv_iconst (v := (-1)) hx hb dX4_lasts_21 (by decide) ?_
    exact mu_iret ah hx hb hr hlocks hP hD hS dX4_lasts_22 (by simp [lastsF, c_1])
  · skip
    have c_1 := zI_1 c_1
    refine lv_iload_n hx hb dX4_lasts_11 rfl (lv_at hl 2 rfl) ?_
    refine lv_iconst (v := 0) hx hb dX4_lasts_12 (by decide) ?_
    refine lv_bipush (v := 60) hx hb dX4_lasts_13 (by decide) ?_
    refine ro_i (va_runS (As := [.int a0, .int 0, .int 60]) (rest := []) F (kX4_isWithin l a0 0 60) (va_cwS 3 hts gX4_lasts_X4_isWithin rfl rfl rfl hdX4_isWithin ⟨(Nat.le_of_ble_eq_true rfl), (Nat.le_of_ble_eq_true rfl)⟩) ⟨tr_blind, tr_pre⟩ rfl rfl hl.1 rfl (lv_room (Nat.le_of_ble_eq_true rfl)) dX4_lasts_15 ⟨Nat.zero_le _, Nat.zero_le _⟩) ?_
    refine lv_if_ne (tgt := 23) hx hb dX4_lasts_18 (by decide) (fun c_2 => ?_) (fun c_2 => ?_)
    · skip
      have c_2 := zI_1 c_2
      refine lv_iconst (v := 0) hx hb dX4_lasts_23 (by decide) ?_
      refine lv_istore_n (lv' := [(3, .int 0), (0, .ref (q 0)), (1, .int w0), (2, .int a0)]) hx hb dX4_lasts_24 rfl hl (by decide) rfl (fun ls hl => ?_)
      refine W.lpW (pc := 25) (τ := Nat) (D := D) (A := A) (H0 := s.heap) (cl := vwCl) (fun j => j ≤ n) (fun j => (xW y q (nI n) now rt tr C (cpA C ah j) w mx rd ct g h)) (fun j ls => lv_has ls 4 [(0, .ref (q 0)), (1, .int w0), (2, .int a0), (3, .int (nI j))]) (fun j => n - j) ?_ 0 ls (Nat.zero_le _) (lv_sub hl [1, 2, 3, 0] rfl) (by show va_P D vwCl (xW y q (nI n) now rt tr C (cpA C ah 0) w mx rd ct g h) _; rw [cpA_0]; exact hP) (by show va_D A (xW y q (nI n) now rt tr C (cpA C ah 0) w mx rd ct g h); rw [cpA_0]; exact hD) hS
      intro j ls H locs hj hl hP hD hS ihj
      have hj : j ≤ n := hj
      have hl : lv_has ls 4 [(0, .ref (q 0)), (1, .int w0), (2, .int a0), (3, .int (nI j))] := hl
      have hP : va_P D vwCl (xW y q (nI n) now rt tr C (cpA C ah j) w mx rd ct g h) H := hP
      have hD : va_D A (xW y q (nI n) now rt tr C (cpA C ah j) w mx rd ct g h) := hD
      refine lv_iload_n hx hb dX4_lasts_25 rfl (lv_at hl 3 rfl) ?_
      refine lv_aload_n hx hb dX4_lasts_26 rfl (lv_at hl 0 rfl) ?_
      refine va_get (D := D) (ci := 4) (v := .int (nI n)) (C := RX4) (T := TX4) (N := 9) hx hb hts iX4 hown hK hP 0 rfl rfl 5 (by decide) (hts _ (List.mem_of_getElem? (i := 1) rfl)) (fun _ h9 => h9) rfl dX4_lasts_27 ?_
      refine lv_icmp_ge (tgt := 54) hx hb dX4_lasts_30 (by decide) (fun c_3 => ?_) (fun c_3 => ?_)
      · skip
        have c_3 : n ≤ j := (nI_leI (a := n) (b := j) (by omega) (by omega)).mp c_3
        have hin : j = n := Nat.le_antisymm hj c_3
        rw [hin] at hP hD
        refine lv_iconst (v := 0) hx hb dX4_lasts_54 (by decide) ?_
        refine lv_istore_n (lv' := [(3, .int 0), (0, .ref (q 0)), (1, .int w0), (2, .int a0)]) hx hb dX4_lasts_55 rfl hl (by decide) rfl (fun ls hl => ?_)
        refine W.lpW (pc := 56) (τ := Nat) (D := D) (A := A) (H0 := s.heap) (cl := vwCl) (fun i => i ≤ 30 ∧ ∀ z : Nat, z < i → okL n C w0 a0 now (cpA C ah n) z = true) (fun i => (xW y q (nI n) now rt tr C (laA n C w0 a0 now (cpA C ah n) i) w mx rd ct g h)) (fun i ls => lv_has ls 4 [(0, .ref (q 0)), (1, .int w0), (2, .int a0), (3, .int (nI i))]) (fun i => 30 - i) ?_ 0 ls ⟨Nat.zero_le _, fun z hz => absurd hz (Nat.not_lt_zero _)⟩ (lv_sub hl [1, 2, 3, 0] rfl) hP hD hS
        intro i ls H locs hi hl hP hD hS ihi
        have fi : ∀ z : Nat, z < i → okL n C w0 a0 now (cpA C ah n) z = true := hi.2
        have hi := hi.1
        have hi : i ≤ 30 := hi
        have hl : lv_has ls 4 [(0, .ref (q 0)), (1, .int w0), (2, .int a0), (3, .int (nI i))] := hl
        have hP : va_P D vwCl (xW y q (nI n) now rt tr C (laA n C w0 a0 now (cpA C ah n) i) w mx rd ct g h) H := hP
        have hD : va_D A (xW y q (nI n) now rt tr C (laA n C w0 a0 now (cpA C ah n) i) w mx rd ct g h) := hD
        refine lv_iload_n hx hb dX4_lasts_56 rfl (lv_at hl 3 rfl) ?_
        refine lv_bipush (v := 30) hx hb dX4_lasts_57 (by decide) ?_
        refine lv_icmp_ge (tgt := 95) hx hb dX4_lasts_59 (by decide) (fun c_4 => ?_) (fun c_4 => ?_)
        · skip
          have c_4 : 30 ≤ i := (nI_leI (a := 30) (b := i) (by omega) (by omega)).mp c_4
          refine lv_bipush (v := 30) hx hb dX4_lasts_95 (by decide) ?_
          exact mu_iret (laA n C w0 a0 now (cpA C ah n) i) hx hb hr hlocks hP hD hS dX4_lasts_97 (by unfold lastsF; rw [if_pos ⟨c_1, c_2⟩, fBad_all (fun z hz => fi z (by omega))]; rfl)
        · skip
          have c_4 : ¬ 30 ≤ i := fun h => c_4 ((nI_leI (a := 30) (b := i) (by omega) (by omega)).mpr h)
          refine lv_aload_n hx hb dX4_lasts_62 rfl (lv_at hl 0 rfl) ?_
          refine lv_iload_n hx hb dX4_lasts_63 rfl (lv_at hl 1 rfl) ?_
          refine lv_iload_n hx hb dX4_lasts_64 rfl (lv_at hl 2 rfl) ?_
          refine lv_aload_n hx hb dX4_lasts_65 rfl (lv_at hl 0 rfl) ?_
          refine va_get (D := D) (ci := 4) (v := .int now) (C := RX4) (T := TX4) (N := 9) hx hb hts iX4 hown hK hP 0 rfl rfl 6 (by decide) (hts _ (List.mem_of_getElem? (i := 5) rfl)) (fun _ h9 => h9) rfl dX4_lasts_66 ?_
          refine lv_iload_n hx hb dX4_lasts_69 rfl (lv_at hl 3 rfl) ?_
          refine lv_iadd hx hb dX4_lasts_70 ?_
          refine muF_i (va_runV (As := [.int w0, .int a0, .int (now + (nI i))]) (rest := []) F (kX4_takeAhead l D y q n now rt tr C (laA n C w0 a0 now (cpA C ah n) i) w mx rd ct g h w0 a0 (now + (nI i)) _ hn) (cwV 3 hts gX4_lasts_X4_takeAhead rfl rfl rfl ⟨rfl, hdX4_takeAhead⟩ ⟨(Nat.le_of_ble_eq_true rfl), (Nat.le_of_ble_eq_true rfl)⟩) ⟨(muB_blind (fun _ _ _ _ _ => trivial)), va_recv hK hP (ci := 4) (q0 := 0) rfl rfl, muF_pre hP hK hN hD (fun _ _ _ => trivial)⟩ rfl rfl hl.1 rfl (lv_room (Nat.le_of_ble_eq_true rfl)) dX4_lasts_71 ⟨Nat.zero_le _, Nat.zero_le _⟩) hP hD hS hA (fun r_5 u_6 H locs w_7 hP hD hS => ?_)
          subst w_7
          have hP : va_P D vwCl (xW y q (nI n) now rt tr C ((tkA n C w0 a0 (now + (nI i)) (laA n C w0 a0 now (cpA C ah n) i)).2) w mx rd ct g h) H := hP
          have hD : va_D A (xW y q (nI n) now rt tr C ((tkA n C w0 a0 (now + (nI i)) (laA n C w0 a0 now (cpA C ah n) i)).2) w mx rd ct g h) := hD
          refine lv_if_ne (tgt := 79) hx hb dX4_lasts_74 (by decide) (fun c_8 => ?_) (fun c_8 => ?_)
          · skip
            have c_8 := zI_1 c_8
            refine lv_aload_n hx hb dX4_lasts_79 rfl (lv_at hl 0 rfl) ?_
            refine lv_aload_n hx hb dX4_lasts_80 rfl (lv_at hl 0 rfl) ?_
            refine va_get (D := D) (ci := 4) (v := .int now) (C := RX4) (T := TX4) (N := 9) hx hb hts iX4 hown hK hP 0 rfl rfl 6 (by decide) (hts _ (List.mem_of_getElem? (i := 5) rfl)) (fun _ h9 => h9) rfl dX4_lasts_81 ?_
            refine lv_iload_n hx hb dX4_lasts_84 rfl (lv_at hl 3 rfl) ?_
            refine lv_iadd hx hb dX4_lasts_85 ?_
            refine muF_v (va_runV (As := [.int (now + (nI i))]) (rest := []) F (kX4_passYearAhead l D y q n now rt tr C ((tkA n C w0 a0 (now + (nI i)) (laA n C w0 a0 now (cpA C ah n) i)).2) w mx rd ct g h (now + (nI i)) _ hn) (cwV 1 hts gX4_lasts_X4_passYearAhead rfl rfl rfl ⟨rfl, hdX4_passYearAhead⟩ ⟨(Nat.le_of_ble_eq_true rfl), (Nat.le_of_ble_eq_true rfl)⟩) ⟨(muB_blind (fun _ _ _ _ _ => trivial)), va_recv hK hP (ci := 4) (q0 := 0) rfl rfl, muF_pre hP hK hN hD (fun _ _ _ => trivial)⟩ rfl rfl hl.1 rfl (lv_room (Nat.le_of_ble_eq_true rfl)) dX4_lasts_86 ⟨Nat.zero_le _, Nat.zero_le _⟩) hP hD hS hA (fun u_10 H locs w_11 hP hD hS => ?_)
            have hP : va_P D vwCl (xW y q (nI n) now rt tr C (pyA C ((tkA n C w0 a0 (now + (nI i)) (laA n C w0 a0 now (cpA C ah n) i)).2) (now + (nI i)) n) w mx rd ct g h) H := hP
            have hD : va_D A (xW y q (nI n) now rt tr C (pyA C ((tkA n C w0 a0 (now + (nI i)) (laA n C w0 a0 now (cpA C ah n) i)).2) (now + (nI i)) n) w mx rd ct g h) := hD
            refine lv_iinc (v := (nI i + 1)) (lv' := [(3, .int (nI i + 1)), (0, .ref (q 0)), (1, .int w0), (2, .int a0)]) hx hb dX4_lasts_89 hl (k := 3) rfl rfl (by decide) rfl (fun ls hl => ?_)
            refine lv_goto (tgt := 56) hx hb dX4_lasts_92 (by decide) ?_
            have hP : va_P D vwCl (xW y q (nI n) now rt tr C (laA n C w0 a0 now (cpA C ah n) (i + 1)) w mx rd ct g h) H := hP
            have hD : va_D A (xW y q (nI n) now rt tr C (laA n C w0 a0 now (cpA C ah n) (i + 1)) w mx rd ct g h) := hD
            exact ihi (i + 1) ls H locs (by show 30 - (i + 1) < 30 - i; omega) ⟨by omega, fun z hz => by rcases Nat.lt_or_ge z i with h | h; exact fi z h; have hzi : z = i := (by omega); rw [hzi]; exact c_8⟩ (lv_sub hl [1, 2, 3, 0] (by
              show ([(0, .ref (q 0)), (1, .int w0), (2, .int a0), (3, .int (nI i + 1))] : List (Nat × Value)) = [(0, .ref (q 0)), (1, .int w0), (2, .int a0), (3, .int (nI (i + 1)))]
              rw [← nI_1])) hP hD hS
          · skip
            have c_8 := zI_0 c_8
            refine lv_iload_n hx hb dX4_lasts_77 rfl (lv_at hl 3 rfl) ?_
            exact mu_iret ((tkA n C w0 a0 (now + (nI i)) (laA n C w0 a0 now (cpA C ah n) i)).2) hx hb hr hlocks hP hD hS dX4_lasts_78 (by unfold lastsF; rw [if_pos ⟨c_1, c_2⟩, fBad_at (i := i) (by omega) fi c_8])
      · skip
        have c_3 : ¬ n ≤ j := fun h => c_3 ((nI_leI (a := n) (b := j) (by omega) (by omega)).mpr h)
        refine lv_aload_n hx hb dX4_lasts_33 rfl (lv_at hl 0 rfl) ?_
        refine va_get (D := D) (ci := 4) (v := .ref (q 2)) (C := RX4) (T := TX4) (N := 9) hx hb hts iX4 hown hK hP 0 rfl rfl 1 (by decide) (hts _ (List.mem_of_getElem? (i := 2) rfl)) (fun _ h9 => h9) rfl dX4_lasts_34 ?_
        refine lv_iload_n hx hb dX4_lasts_37 rfl (lv_at hl 3 rfl) ?_
        refine lv_aload_n hx hb dX4_lasts_38 rfl (lv_at hl 0 rfl) ?_
        refine va_get (D := D) (ci := 4) (v := .ref (q 1)) (C := RX4) (T := TX4) (N := 9) hx hb hts iX4 hown hK hP 0 rfl rfl 0 (by decide) (hts _ (List.mem_of_getElem? (i := 3) rfl)) (fun _ h9 => h9) rfl dX4_lasts_39 ?_
        refine lv_iload_n hx hb dX4_lasts_42 rfl (lv_at hl 3 rfl) ?_
        refine wa_aldq hx hb hK hP 1 0 rfl rfl j rfl (by omega) (by decide) rfl dX4_lasts_43 ?_
        refine va_get (D := D) (ci := 0) (v := .int (c_dr (C j))) (C := RX0) (T := TX0) (N := 8) hx hb hts iX0 hown hK hP (9 + j) (xp_at rfl (by omega)) rfl 1 (by decide) (hts _ (List.mem_of_getElem? (i := 4) rfl)) (fun _ h9 => h9) rfl dX4_lasts_44 ?_
        refine wa_iast (v := c_dr (C j)) hx hb hK hP hD hS 2 1 rfl rfl j rfl (by omega) (by decide) dX4_lasts_47 (fun H locs hP hD hS => ?_)
        have hP : va_P D vwCl (xW y q (nI n) now rt tr C (upd (cpA C ah j) j (c_dr (C j))) w mx rd ct g h) H := hP
        have hD : va_D A (xW y q (nI n) now rt tr C (upd (cpA C ah j) j (c_dr (C j))) w mx rd ct g h) := hD
        refine lv_iinc (v := (nI j + 1)) (lv' := [(3, .int (nI j + 1)), (0, .ref (q 0)), (1, .int w0), (2, .int a0)]) hx hb dX4_lasts_48 hl (k := 3) rfl rfl (by decide) rfl (fun ls hl => ?_)
        refine lv_goto (tgt := 25) hx hb dX4_lasts_51 (by decide) ?_
        rw [cpA_t] at hP hD
        have hP : va_P D vwCl (xW y q (nI n) now rt tr C (cpA C ah (j + 1)) w mx rd ct g h) H := hP
        have hD : va_D A (xW y q (nI n) now rt tr C (cpA C ah (j + 1)) w mx rd ct g h) := hD
        exact ihj (j + 1) ls H locs (by show n - (j + 1) < n - j; omega) (by show j + 1 ≤ n; omega) (lv_sub hl [1, 2, 3, 0] (by
          show ([(0, .ref (q 0)), (1, .int w0), (2, .int a0), (3, .int (nI j + 1))] : List (Nat × Value)) = [(0, .ref (q 0)), (1, .int w0), (2, .int a0), (3, .int (nI (j + 1)))]
          rw [← nI_1])) hP hD hS
    · skip
      have c_2 := zI_0 c_2
      refine lv_iconst (v := (-1)) hx hb dX4_lasts_21 (by decide) ?_
      exact mu_iret ah hx hb hr hlocks hP hD hS dX4_lasts_22 (by simp [lastsF, c_1, c_2])

set_option maxHeartbeats 4000000 in
set_option maxRecDepth 100000 in
theorem kX4_ways (l : Launch) (a : Nat) (b : Nat) (ha : a ≤ 20) (hba : b ≤ a) : Met l yX4_ways wsX4_ways ({ frames := 0, cells := 0, slots := 0, locals := 0 }) (va_Pc [.int (nI a), .int (nI b)] (fun _ => True)) (vp_Sl (fun x => x = (waysX a b))) 0 0 nF := by
  refine ro_start (cc := cX4_ways) (maxL := 8) (ret := (some .long)) (by decide) rfl (Nat.le_of_ble_eq_true rfl) ?_
  intro p e s m below meth c ls hx hb hr hml hown hlocks hts hnm hB hl
  have hown : s.vm.findClass RX4 = some m.cls := hown
  have F : CallFix p m c cX4_ways 8 s [.int (nI a), .int (nI b)].toArray wsX4_ways RX4 := ⟨hx, hb, hml, hown, hts⟩
  have hl : lv_has ls 8 [(0, .int (nI a)), (1, .int (nI b))] := hl
  refine lv_lconst (v := 1) hx hb dX4_ways_0 rfl ?_
  refine lv_lstore_n (lv' := [(2, .long 1), (0, .int (nI a)), (1, .int (nI b))]) hx hb dX4_ways_1 rfl hl (by decide) rfl (fun ls hl => ?_)
  refine lv_lconst (v := 1) hx hb dX4_ways_2 rfl ?_
  refine lv_lstore (lv' := [(4, .long 1), (2, .long 1), (0, .int (nI a)), (1, .int (nI b))]) hx hb dX4_ways_3 hl (by decide) rfl (fun ls hl => ?_)
  refine lv_iload_n hx hb dX4_ways_5 rfl (lv_at hl 2 rfl) ?_
  refine lv_istore (lv' := [(6, .int (nI a)), (4, .long 1), (2, .long 1), (0, .int (nI a)), (1, .int (nI b))]) hx hb dX4_ways_6 hl (by decide) rfl (fun ls hl => ?_)
  refine W.lpR (pc := 8) (τ := Nat) (fun k => k ≤ (a - b)) (fun k ls => lv_has ls 8 [(0, .int (nI a)), (1, .int (nI b)), (2, .long ((wyS a k).1)), (4, .long ((wyS a k).2)), (6, .int (nI (a - k)))]) (fun k => (a - b) - k) ?_ 0 ls (Nat.zero_le _) (lv_sub hl [3, 4, 2, 1, 0] rfl)
  intro k ls hk hl ihk
  have hk : k ≤ (a - b) := hk
  have hl : lv_has ls 8 [(0, .int (nI a)), (1, .int (nI b)), (2, .long ((wyS a k).1)), (4, .long ((wyS a k).2)), (6, .int (nI (a - k)))] := hl
  refine lv_iload hx hb dX4_ways_8 (lv_at hl 4 rfl) ?_
  refine lv_iload_n hx hb dX4_ways_10 rfl (lv_at hl 1 rfl) ?_
  refine lv_icmp_le (tgt := 53) hx hb dX4_ways_11 (by decide) (fun c_1 => ?_) (fun c_1 => ?_)
  · skip
    have c_1 : a - k ≤ b := (nI_leI (a := (a - k)) (b := b) (by omega) (by omega)).mp c_1
    refine lv_lload hx hb dX4_ways_53 (lv_at hl 3 rfl) ?_
    exact ro_lret hx hb hr hlocks dX4_ways_55 (by rw [show k = a - b from Nat.le_antisymm hk (by omega)]; rfl)
  · skip
    have c_1 : ¬ a - k ≤ b := fun h => c_1 ((nI_leI (a := (a - k)) (b := b) (by omega) (by omega)).mpr h)
    refine lv_iload_n hx hb dX4_ways_14 rfl (lv_at hl 0 rfl) ?_
    refine lv_iload hx hb dX4_ways_15 (lv_at hl 4 rfl) ?_
    refine lv_isub hx hb dX4_ways_17 ?_
    refine lv_iconst (v := 1) hx hb dX4_ways_18 (by decide) ?_
    refine lv_iadd hx hb dX4_ways_19 ?_
    refine lv_cst (v := nI (k + 1)) (by rw [pk_sub (Nat.sub_le _ _), nI_1]; congr 1; omega) ?_
    refine lv_istore (lv' := [(7, .int (nI (k + 1))), (0, .int (nI a)), (1, .int (nI b)), (2, .long ((wyS a k).1)), (4, .long ((wyS a k).2)), (6, .int (nI (a - k)))]) hx hb dX4_ways_20 hl (by decide) rfl (fun ls hl => ?_)
    refine lv_iload hx hb dX4_ways_22 (lv_at hl 0 rfl) ?_
    refine lv_if_le (tgt := 41) hx hb dX4_ways_24 (by decide) (fun c_2 => ?_) (fun c_2 => ?_)
    · skip
      have c_2 : k + 1 ≤ 0 := (nI_leI (a := (k + 1)) (b := 0) (by omega) (by omega)).mp c_2
      exact absurd c_2 (by omega)
    · skip
      have c_2 : ¬ k + 1 ≤ 0 := fun h => c_2 ((nI_leI (a := (k + 1)) (b := 0) (by omega) (by omega)).mpr h)
      refine lv_lload_n hx hb dX4_ways_27 rfl (lv_at hl 3 rfl) ?_
      refine lv_ldc2 (v := 2) hx hb hown (hts _ (List.mem_of_getElem? (i := 1) rfl)) dX4_ways_28 ?_
      refine lv_lmul hx hb dX4_ways_31 ?_
      refine lv_iload hx hb dX4_ways_32 (lv_at hl 5 rfl) ?_
      refine lv_i2l hx hb dX4_ways_34 rfl ?_
      refine lv_lmul hx hb dX4_ways_35 ?_
      refine lv_iload hx hb dX4_ways_36 (lv_at hl 0 rfl) ?_
      refine lv_i2l hx hb dX4_ways_38 rfl ?_
      refine lv_ldiv hx hb dX4_ways_39 (lne0 (by omega)) ?_
      refine lv_lstore_n (lv' := [(2, .long (((((wyS a k).1) * 2) * ((nI (a - k)).toInt64)) / ((nI (k + 1)).toInt64))), (7, .int (nI (k + 1))), (0, .int (nI a)), (1, .int (nI b)), (4, .long ((wyS a k).2)), (6, .int (nI (a - k)))]) hx hb dX4_ways_40 rfl hl (by decide) rfl (fun ls hl => ?_)
      refine lv_lload hx hb dX4_ways_41 (lv_at hl 4 rfl) ?_
      refine lv_lload_n hx hb dX4_ways_43 rfl (lv_at hl 0 rfl) ?_
      refine lv_ladd hx hb dX4_ways_44 ?_
      refine lv_lstore (lv' := [(4, .long (((wyS a k).2) + (((((wyS a k).1) * 2) * ((nI (a - k)).toInt64)) / ((nI (k + 1)).toInt64)))), (2, .long (((((wyS a k).1) * 2) * ((nI (a - k)).toInt64)) / ((nI (k + 1)).toInt64))), (7, .int (nI (k + 1))), (0, .int (nI a)), (1, .int (nI b)), (6, .int (nI (a - k)))]) hx hb dX4_ways_45 hl (by decide) rfl (fun ls hl => ?_)
      refine lv_iinc (v := (nI (a - k) + (-1))) (lv' := [(6, .int (nI (a - k) + (-1))), (4, .long (((wyS a k).2) + (((((wyS a k).1) * 2) * ((nI (a - k)).toInt64)) / ((nI (k + 1)).toInt64)))), (2, .long (((((wyS a k).1) * 2) * ((nI (a - k)).toInt64)) / ((nI (k + 1)).toInt64))), (7, .int (nI (k + 1))), (0, .int (nI a)), (1, .int (nI b))]) hx hb dX4_ways_47 hl (k := 5) rfl rfl (by decide) rfl (fun ls hl => ?_)
      refine lv_goto (tgt := 8) hx hb dX4_ways_50 (by decide) ?_
      exact ihk (k + 1) ls (by show (a - b) - (k + 1) < (a - b) - k; omega) (by show k + 1 ≤ (a - b); omega) (lv_sub hl [4, 5, 2, 1, 0] (by
        show ([(0, .int (nI a)), (1, .int (nI b)), (2, .long (((((wyS a k).1) * 2) * ((nI (a - k)).toInt64)) / ((nI (k + 1)).toInt64))), (4, .long (((wyS a k).2) + (((((wyS a k).1) * 2) * ((nI (a - k)).toInt64)) / ((nI (k + 1)).toInt64)))), (6, .int (nI (a - k) + (-1)))] : List (Nat × Value)) = [(0, .int (nI a)), (1, .int (nI b)), (2, .long ((wyS a (k + 1)).1)), (4, .long ((wyS a (k + 1)).2)), (6, .int (nI (a - (k + 1))))]
        have e1 : nI (a - k) + (-1) = nI (a - (k + 1)) := by rw [show a - k = (a - (k + 1)) + 1 by omega]; exact pk_m1 _
        rw [e1]
        rfl))

set_option maxHeartbeats 4000000 in
set_option maxRecDepth 100000 in
theorem kX4_odds (l : Launch) (D : va_G) (y : Nat → ClassId) (q : Nat → Nat) (n : Nat) (now rt : Int32) (tr : Int64) (C : Nat → CT) (ah w : Nat → Int32) (mx : MT) (rd ct : Int32) (g h : Nat → Int32) (n0 : Int32) (c0 : Int32) : Met l yX4_odds wsX4_odds ({ frames := 2, cells := 0, slots := 0, locals := 43 }) (va_Pc [.ref (q 0), .int n0, .int c0] (rdB D (xT y) (xW y q (nI n) now rt tr C ah w mx rd ct g h))) (vp_Sl (fun x => x = (oddsF n0 c0))) 0 0 nF := by
  refine ro_start (cc := cX4_odds) (maxL := 3) (ret := (some .long)) (by decide) rfl (Nat.le_of_ble_eq_true rfl) ?_
  intro p e s m below meth c ls hx hb hr hml hown hlocks hts hnm hB hl
  obtain ⟨hP, hK, hN⟩ := hB
  have hown : s.vm.findClass RX4 = some m.cls := hown
  have F : CallFix p m c cX4_odds 3 s [.ref (q 0), .int n0, .int c0].toArray wsX4_odds RX4 := ⟨hx, hb, hml, hown, hts⟩
  have hl : lv_has ls 3 [(0, .ref (q 0)), (1, .int n0), (2, .int c0)] := hl
  refine lv_iload_n hx hb dX4_odds_0 rfl (lv_at hl 1 rfl) ?_
  refine lv_iload_n hx hb dX4_odds_1 rfl (lv_at hl 2 rfl) ?_
  refine ro_i (va_runS (As := [.int n0, .int c0]) (rest := []) F (kX4_isTriangle l n0 c0) (va_cwS 2 hts gX4_odds_X4_isTriangle rfl rfl rfl hdX4_isTriangle ⟨(Nat.le_of_ble_eq_true rfl), (Nat.le_of_ble_eq_true rfl)⟩) ⟨tr_blind, tr_pre⟩ rfl rfl hl.1 rfl (lv_room (Nat.le_of_ble_eq_true rfl)) dX4_odds_2 ⟨Nat.zero_le _, Nat.zero_le _⟩) ?_
  refine lv_if_eq (tgt := 16) hx hb dX4_odds_5 (by decide) (fun c_1 => ?_) (fun c_1 => ?_)
  · skip
    have c_1 := zI_0 c_1
    refine lv_ldc2 (v := (-1)) hx hb hown (hts _ (List.mem_of_getElem? (i := 1) rfl)) dX4_odds_16 ?_
    exact ro_lret hx hb hr hlocks dX4_odds_19 (by simp [oddsF, c_1])
  · skip
    have c_1 := zI_1 c_1
    obtain ⟨a, b, ha, hba, rfl, rfl⟩ := tri_of c_1
    have ea : (nI a).toNatClampNeg = a := nI_clamp (by omega)
    have eb : (nI b).toNatClampNeg = b := nI_clamp (by omega)
    refine lv_iload_n hx hb dX4_odds_8 rfl (lv_at hl 1 rfl) ?_
    refine lv_iload_n hx hb dX4_odds_9 rfl (lv_at hl 2 rfl) ?_
    refine ro_l (va_runS (As := [.int (nI a), .int (nI b)]) (rest := []) F (kX4_ways l a b ha (by omega)) (va_cwS 2 hts gX4_odds_X4_ways rfl rfl rfl hdX4_ways ⟨(Nat.le_of_ble_eq_true rfl), (Nat.le_of_ble_eq_true rfl)⟩) ⟨tr_blind, tr_pre⟩ rfl rfl hl.1 rfl (lv_room (Nat.le_of_ble_eq_true rfl)) dX4_odds_10 ⟨Nat.zero_le _, Nat.zero_le _⟩) ?_
    refine lv_goto (tgt := 19) hx hb dX4_odds_13 (by decide) ?_
    exact ro_lret hx hb hr hlocks dX4_odds_19 (by simp [oddsF, c_1, ea, eb])

set_option maxHeartbeats 4000000 in
set_option maxRecDepth 100000 in
theorem kX4_apart (l : Launch) (D : va_G) (y : Nat → ClassId) (q : Nat → Nat) (n : Nat) (now rt : Int32) (tr : Int64) (C : Nat → CT) (ah w : Nat → Int32) (mx : MT) (rd ct : Int32) (g h : Nat → Int32) (n0 : Int32) (c0 : Int32) : Met l yX4_apart wsX4_apart ({ frames := 2, cells := 0, slots := 0, locals := 43 }) (va_Pc [.ref (q 0), .int n0, .int c0] (rdB D (xT y) (xW y q (nI n) now rt tr C ah w mx rd ct g h))) (vp_Si (fun x => x = (apartF n0 c0))) 0 0 nF := by
  refine ro_start (cc := cX4_apart) (maxL := 3) (ret := (some .int)) (by decide) rfl (Nat.le_of_ble_eq_true rfl) ?_
  intro p e s m below meth c ls hx hb hr hml hown hlocks hts hnm hB hl
  obtain ⟨hP, hK, hN⟩ := hB
  have hown : s.vm.findClass RX4 = some m.cls := hown
  have F : CallFix p m c cX4_apart 3 s [.ref (q 0), .int n0, .int c0].toArray wsX4_apart RX4 := ⟨hx, hb, hml, hown, hts⟩
  have hl : lv_has ls 3 [(0, .ref (q 0)), (1, .int n0), (2, .int c0)] := hl
  refine lv_iload_n hx hb dX4_apart_0 rfl (lv_at hl 1 rfl) ?_
  refine lv_iload_n hx hb dX4_apart_1 rfl (lv_at hl 2 rfl) ?_
  refine ro_i (va_runS (As := [.int n0, .int c0]) (rest := []) F (kX4_isTriangle l n0 c0) (va_cwS 2 hts gX4_apart_X4_isTriangle rfl rfl rfl hdX4_isTriangle ⟨(Nat.le_of_ble_eq_true rfl), (Nat.le_of_ble_eq_true rfl)⟩) ⟨tr_blind, tr_pre⟩ rfl rfl hl.1 rfl (lv_room (Nat.le_of_ble_eq_true rfl)) dX4_apart_2 ⟨Nat.zero_le _, Nat.zero_le _⟩) ?_
  refine lv_if_ne (tgt := 10) hx hb dX4_apart_5 (by decide) (fun c_1 => ?_) (fun c_1 => ?_)
  · skip
    have c_1 := zI_1 c_1
    obtain ⟨a, b, ha, hba, rfl, rfl⟩ := tri_of c_1
    have ea : (nI a).toNatClampNeg = a := nI_clamp (by omega)
    have eb : (nI b).toNatClampNeg = b := nI_clamp (by omega)
    refine lv_ldc2 (v := 20) hx hb hown (hts _ (List.mem_of_getElem? (i := 1) rfl)) dX4_apart_10 ?_
    refine lv_iload_n hx hb dX4_apart_13 rfl (lv_at hl 1 rfl) ?_
    refine lv_iload_n hx hb dX4_apart_14 rfl (lv_at hl 2 rfl) ?_
    refine ro_l (va_runS (As := [.int (nI a), .int (nI b)]) (rest := [.long 20]) F (kX4_ways l a b ha (by omega)) (va_cwS 2 hts gX4_apart_X4_ways rfl rfl rfl hdX4_ways ⟨(Nat.le_of_ble_eq_true rfl), (Nat.le_of_ble_eq_true rfl)⟩) ⟨tr_blind, tr_pre⟩ rfl rfl hl.1 rfl (lv_room (Nat.le_of_ble_eq_true rfl)) dX4_apart_15 ⟨Nat.zero_le _, Nat.zero_le _⟩) ?_
    refine lv_lmul hx hb dX4_apart_18 ?_
    refine lv_iload_n hx hb dX4_apart_19 rfl (lv_at hl 1 rfl) ?_
    refine lv_iconst (v := 0) hx hb dX4_apart_20 (by decide) ?_
    refine ro_l (va_runS (As := [.int (nI a), .int 0]) (rest := [.long (20 * (waysX a b))]) F (kX4_ways l a 0 ha (by omega)) (va_cwS 2 hts gX4_apart_X4_ways rfl rfl rfl hdX4_ways ⟨(Nat.le_of_ble_eq_true rfl), (Nat.le_of_ble_eq_true rfl)⟩) ⟨tr_blind, tr_pre⟩ rfl rfl hl.1 rfl (lv_room (Nat.le_of_ble_eq_true rfl)) dX4_apart_21 ⟨Nat.zero_le _, Nat.zero_le _⟩) ?_
    refine W.lcmp hx hb dX4_apart_24 ?_
    refine lv_if_gt (tgt := 32) hx hb dX4_apart_25 (by decide) (fun c_2 => ?_) (fun c_2 => ?_)
    · skip
      refine lv_iconst (v := 0) hx hb dX4_apart_32 (by decide) ?_
      exact ro_iret hx hb hr hlocks dX4_apart_33 (by unfold apartF; rw [if_pos c_1, ea, eb]; rw [if_neg (lg_gt.mp c_2)])
    · skip
      refine lv_iconst (v := 1) hx hb dX4_apart_28 (by decide) ?_
      refine lv_goto (tgt := 33) hx hb dX4_apart_29 (by decide) ?_
      exact ro_iret hx hb hr hlocks dX4_apart_33 (by unfold apartF; rw [if_pos c_1, ea, eb]; rw [if_pos (Decidable.byContradiction (fun h => c_2 (lg_gt.mpr h)))])
  · skip
    have c_1 := zI_0 c_1
    refine lv_iconst (v := (-1)) hx hb dX4_apart_8 (by decide) ?_
    exact ro_iret hx hb hr hlocks dX4_apart_9 (by unfold apartF; rw [if_neg (by rw [c_1]; decide)])

set_option maxHeartbeats 4000000 in
set_option maxRecDepth 100000 in
theorem kX4_loss (l : Launch) (D : va_G) (y : Nat → ClassId) (q : Nat → Nat) (n : Nat) (now rt : Int32) (tr : Int64) (C : Nat → CT) (ah w : Nat → Int32) (mx : MT) (rd ct : Int32) (g h : Nat → Int32) (c0 : Int32) (k0 : Int32) (y0 : Int32) (sz : Nat) (hn : n ≤ 12) : Met l yX4_loss wsX4_loss ({ frames := 2, cells := 0, slots := 0, locals := 45 }) (va_Pc [.ref (q 0), .int c0, .int k0, .int y0] (muB D (xT y) (xW y q (nI n) now rt tr C ah w mx rd ct g h) sz (trE (va_A (xW y q (nI n) now rt tr C ah w mx rd ct g h) sz)))) (QI (σ := Int64) D (fun r u => (r, u) = lossF n C tr c0 k0 y0) (fun u => (xW y q (nI n) now rt u C ah w mx rd ct g h)) (va_A (xW y q (nI n) now rt tr C ah w mx rd ct g h) sz)) 0 0 (va_A (xW y q (nI n) now rt tr C ah w mx rd ct g h) sz) := by
  refine mu_start (Qc := QI (σ := Int64) D (fun r u => (r, u) = lossF n C tr c0 k0 y0) (fun u => (xW y q (nI n) now rt u C ah w mx rd ct g h))) (cc := cX4_loss) (maxL := 4) (ret := (some .int)) (by decide) rfl (Nat.le_of_ble_eq_true rfl) ?_
  intro p e s m below meth c ls A hx hb hr hml hown hlocks hts hnm hA hP hK hN hD hE hAA hsz hl
  have hS : va_S A s.heap s.heap [] := va_S.rf
  have hown : s.vm.findClass RX4 = some m.cls := hown
  have F : CallFix p m c cX4_loss 4 s [.ref (q 0), .int c0, .int k0, .int y0].toArray wsX4_loss RX4 := ⟨hx, hb, hml, hown, hts⟩
  have hl : lv_has ls 4 [(0, .ref (q 0)), (1, .int c0), (2, .int k0), (3, .int y0)] := hl
  have iX0 : ∀ w ∈ u_ws RX0 TX0 8, w ∈ wsX4_loss := mem_pl [30, 31, 32, 33, 34, 35, 36, 37] rfl
  have iX4 : ∀ w ∈ u_ws RX4 TX4 9, w ∈ wsX4_loss := mem_pl [21, 22, 23, 24, 25, 26, 27, 28, 29] rfl
  subst hsz
  obtain ⟨t, hZ, hT⟩ := hE
  have hZ := hZ.narrow hAA
  have hT := hT.narrow hAA
  refine lv_aload_n hx hb dX4_loss_0 rfl (lv_at hl 0 rfl) ?_
  refine lv_iload_n hx hb dX4_loss_1 rfl (lv_at hl 1 rfl) ?_
  refine ro_i (va_runV (As := [.int c0]) (rest := []) F (kX4_isCask l D y q n now rt tr C ah w mx rd ct g h c0) (cwV 1 hts gX4_loss_X4_isCask rfl rfl rfl ⟨rfl, hdX4_isCask⟩ ⟨(Nat.le_of_ble_eq_true rfl), (Nat.le_of_ble_eq_true rfl)⟩) ⟨rdB_blind, va_recv hK hP (ci := 4) (q0 := 0) rfl rfl, rdB_pre hP hK hN⟩ rfl rfl hl.1 rfl (lv_room (Nat.le_of_ble_eq_true rfl)) dX4_loss_2 ⟨Nat.zero_le _, Nat.zero_le _⟩) ?_
  refine lv_if_eq (tgt := 27) hx hb dX4_loss_5 (by decide) (fun c_1 => ?_) (fun c_1 => ?_)
  · skip
    have c_1 := zI_0 c_1
    refine lv_iconst (v := (-1)) hx hb dX4_loss_27 (by decide) ?_
    exact mu_iret tr hx hb hr hlocks hP hD hS dX4_loss_28 (by simp [lossF, c_1])
  · skip
    have c_1 := zI_1 c_1
    obtain ⟨j, hzj, rfl⟩ := isC_of hn c_1
    have ej : (nI j).toNatClampNeg = j := nI_clamp (by omega)
    refine lv_iload_n hx hb dX4_loss_8 rfl (lv_at hl 2 rfl) ?_
    refine lv_iconst (v := 0) hx hb dX4_loss_9 (by decide) ?_
    refine lv_iconst (v := 2) hx hb dX4_loss_10 (by decide) ?_
    refine ro_i (va_runS (As := [.int k0, .int 0, .int 2]) (rest := []) F (kX4_isWithin l k0 0 2) (va_cwS 3 hts gX4_loss_X4_isWithin rfl rfl rfl hdX4_isWithin ⟨(Nat.le_of_ble_eq_true rfl), (Nat.le_of_ble_eq_true rfl)⟩) ⟨tr_blind, tr_pre⟩ rfl rfl hl.1 rfl (lv_room (Nat.le_of_ble_eq_true rfl)) dX4_loss_11 ⟨Nat.zero_le _, Nat.zero_le _⟩) ?_
    refine lv_if_eq (tgt := 27) hx hb dX4_loss_14 (by decide) (fun c_2 => ?_) (fun c_2 => ?_)
    · skip
      have c_2 := zI_0 c_2
      refine lv_iconst (v := (-1)) hx hb dX4_loss_27 (by decide) ?_
      exact mu_iret tr hx hb hr hlocks hP hD hS dX4_loss_28 (by simp [lossF, c_1, ej, c_2])
    · skip
      have c_2 := zI_1 c_2
      obtain ⟨k, hzk, rfl⟩ := inR_of (k := 2) (by decide) (by decide) c_2
      have ek : (nI k).toNatClampNeg = k := nI_clamp (by omega)
      refine lv_iload_n hx hb dX4_loss_17 rfl (lv_at hl 3 rfl) ?_
      refine lv_iconst (v := 0) hx hb dX4_loss_18 (by decide) ?_
      refine lv_bipush (v := 60) hx hb dX4_loss_19 (by decide) ?_
      refine ro_i (va_runS (As := [.int y0, .int 0, .int 60]) (rest := []) F (kX4_isWithin l y0 0 60) (va_cwS 3 hts gX4_loss_X4_isWithin rfl rfl rfl hdX4_isWithin ⟨(Nat.le_of_ble_eq_true rfl), (Nat.le_of_ble_eq_true rfl)⟩) ⟨tr_blind, tr_pre⟩ rfl rfl hl.1 rfl (lv_room (Nat.le_of_ble_eq_true rfl)) dX4_loss_21 ⟨Nat.zero_le _, Nat.zero_le _⟩) ?_
      refine lv_if_ne (tgt := 29) hx hb dX4_loss_24 (by decide) (fun c_3 => ?_) (fun c_3 => ?_)
      · skip
        have c_3 := zI_1 c_3
        refine lv_aload_n hx hb dX4_loss_29 rfl (lv_at hl 0 rfl) ?_
        refine lv_dup hx hb dX4_loss_30 rfl ?_
        refine va_get (D := D) (ci := 4) (v := .long tr) (C := RX4) (T := TX4) (N := 9) hx hb hts iX4 hown hK hP 0 rfl rfl 8 (by decide) (hts _ (List.mem_of_getElem? (i := 1) rfl)) (fun _ h9 => h9) rfl dX4_loss_31 ?_
        refine va_gets hx hb hZ hS hown (hts _ (List.mem_of_getElem? (i := 2) rfl)) (fun _ h => h) dX4_loss_34 ?_
        refine lv_iload_n hx hb dX4_loss_37 rfl (lv_at hl 2 rfl) ?_
        refine va_ti (v := .int (mkI k)) hx hb hT hS (vp_in_nI (n := k) (N := 3) (by omega) (by decide)) (by rw [nI_clamp (by omega)]; rfl) dX4_loss_38 ?_
        refine lv_i2l hx hb dX4_loss_39 rfl ?_
        refine lv_ladd hx hb dX4_loss_40 ?_
        refine va_put (D := D) (ci := 4) (v := .long (tr + (((mkI k)).toInt64))) (ty := .long) (C := RX4) (T := TX4) (N := 9) hx hb hts iX4 tyX4 tyX4_ok nmX4 hown hK hP hD hS 0 rfl rfl 8 (by decide) (hts _ (List.mem_of_getElem? (i := 1) rfl)) (fun _ h9 => h9) rfl (by decide +kernel) rfl rfl (Nat.le_of_ble_eq_true rfl) dX4_loss_41 (fun H locs hP hD hS => ?_)
        have hP : va_P D vwCl (xW y q (nI n) now rt (tr + (((mkI k)).toInt64)) C ah w mx rd ct g h) H := hP
        have hD : va_D A (xW y q (nI n) now rt (tr + (((mkI k)).toInt64)) C ah w mx rd ct g h) := hD
        refine lv_iload_n hx hb dX4_loss_44 rfl (lv_at hl 2 rfl) ?_
        refine lv_aload_n hx hb dX4_loss_45 rfl (lv_at hl 0 rfl) ?_
        refine va_get (D := D) (ci := 4) (v := .ref (q 1)) (C := RX4) (T := TX4) (N := 9) hx hb hts iX4 hown hK hP 0 rfl rfl 0 (by decide) (hts _ (List.mem_of_getElem? (i := 3) rfl)) (fun _ h9 => h9) rfl dX4_loss_46 ?_
        refine lv_iload_n hx hb dX4_loss_49 rfl (lv_at hl 1 rfl) ?_
        refine wa_aldq hx hb hK hP 1 0 rfl rfl j rfl (by omega) (by decide) rfl dX4_loss_50 ?_
        refine va_get (D := D) (ci := 0) (v := .int (c_fl (C j))) (C := RX0) (T := TX0) (N := 8) hx hb hts iX0 hown hK hP (9 + j) (xp_at rfl (by omega)) rfl 3 (by decide) (hts _ (List.mem_of_getElem? (i := 4) rfl)) (fun _ h9 => h9) rfl dX4_loss_51 ?_
        refine lv_iload_n hx hb dX4_loss_54 rfl (lv_at hl 3 rfl) ?_
        refine ro_i (va_runS (As := [.int (nI k), .int (c_fl (C j)), .int y0]) (rest := []) F (kX4_lossBy l (nI k) (c_fl (C j)) y0) (va_cwS 3 hts gX4_loss_X4_lossBy rfl rfl rfl hdX4_lossBy ⟨(Nat.le_of_ble_eq_true rfl), (Nat.le_of_ble_eq_true rfl)⟩) ⟨tr_blind, tr_pre⟩ rfl rfl hl.1 rfl (lv_room (Nat.le_of_ble_eq_true rfl)) dX4_loss_55 ⟨Nat.zero_le _, Nat.zero_le _⟩) ?_
        exact mu_iret (tr + (((mkI k)).toInt64)) hx hb hr hlocks hP hD hS dX4_loss_58 (by simp [lossF, c_1, ej, c_2, ek, c_3])
      · skip
        have c_3 := zI_0 c_3
        refine lv_iconst (v := (-1)) hx hb dX4_loss_27 (by decide) ?_
        exact mu_iret tr hx hb hr hlocks hP hD hS dX4_loss_28 (by simp [lossF, c_1, ej, c_2, ek, c_3])
