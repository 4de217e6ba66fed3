abbrev xHead (y : Nat → ClassId) (q : Nat → Nat) (L now rt : Int32) (tr : Int64) (ah w : Nat → Int32) (mx : MT) : va_W :=
  [(q 0, .inr (4, [.ref (q 1), .ref (q 2), .ref (q 3), .ref (q 5), .ref (q 6), .int L, .int now, .int rt, .long tr])), (q 1, .inl (y 1, 12, .inr (.inr (.inr (.inr (fun i => some (q (9 + i)))))))), (q 2, .inl (y 2, 12, .inl ah)), (q 3, .inr (3, [.ref (q 4)])), (q 4, .inl (y 4, 8, .inl w)), (q 5, mxE mx)]
def jG (g : Nat → Int32) (f t : Int32) (i : Nat) : Nat → Int32 := fun k => if k < i ∧ g k = f then t else g k
def jH (g h : Nat → Int32) (f x : Int32) (i : Nat) : Nat → Int32 := fun k => if k < i ∧ g k = f then h k - x else h k
def rG (g : Nat → Int32) (i : Nat) : Nat → Int32 := fun k => if k < i then nI k else g k
def rH (h : Nat → Int32) (i : Nat) : Nat → Int32 := fun k => if k < i then 0 else h k
theorem jG_0 (g : Nat → Int32) (f t : Int32) : jG g f t 0 = g := by funext k; simp [jG]
theorem jH_0 (g h : Nat → Int32) (f x : Int32) : jH g h f x 0 = h := by funext k; simp [jH]
theorem rG_0 (g : Nat → Int32) : rG g 0 = g := by funext k; simp [rG]
theorem rH_0 (g : Nat → Int32) : rH g 0 = g := by funext k; simp [rH]
theorem jG_i (g : Nat → Int32) (f t : Int32) (i : Nat) : jG g f t i i = g i := by simp [jG]
theorem jH_i (g h : Nat → Int32) (f x : Int32) (i : Nat) : jH g h f x i i = h i := by simp [jH]
theorem upd_ap (f : Nat → Int32) (i k : Nat) (x : Int32) : upd f i x k = if k = i then x else f k := rfl
theorem jG_t {g : Nat → Int32} {f t : Int32} {i : Nat} (c : g i = f) : upd (jG g f t i) i t = jG g f t (i + 1) := by
  funext k
  rw [upd_ap]
  by_cases h : k = i
  · subst h; simp [jG, c]
  · have : k < i + 1 ↔ k < i := by omega
    simp [jG, h, this]
theorem jH_t {g h : Nat → Int32} {f x : Int32} {i : Nat} (c : g i = f) : upd (jH g h f x i) i (jH g h f x i i - x) = jH g h f x (i + 1) := by
  funext k
  rw [upd_ap]
  by_cases hk : k = i
  · subst hk; simp [jH, c]
  · have : k < i + 1 ↔ k < i := by omega
    simp [jH, hk, this]
theorem jG_n {g : Nat → Int32} {f t : Int32} {i : Nat} (c : ¬ g i = f) : jG g f t i = jG g f t (i + 1) := by
  funext k
  by_cases h : k = i
  · subst h; simp [jG, c]
  · have : k < i + 1 ↔ k < i := by omega
    simp [jG, this]
theorem jH_n {g h : Nat → Int32} {f x : Int32} {i : Nat} (c : ¬ g i = f) : jH g h f x i = jH g h f x (i + 1) := by
  funext k
  by_cases hk : k = i
  · subst hk; simp [jH, c]
  · have : k < i + 1 ↔ k < i := by omega
    simp [jH, this]
theorem rG_t (g : Nat → Int32) (i : Nat) : upd (rG g i) i (nI i) = rG g (i + 1) := by
  funext k
  rw [upd_ap]
  by_cases h : k = i
  · subst h; simp [rG]
  · have : k < i + 1 ↔ k < i := by omega
    simp [rG, h, this]
theorem rH_t (g : Nat → Int32) (i : Nat) : upd (rH g i) i 0 = rH g (i + 1) := by
  funext k
  rw [upd_ap]
  by_cases h : k = i
  · subst h; simp [rH]
  · have : k < i + 1 ↔ k < i := by omega
    simp [rH, h, this]
def fitF (rd ct : Int32) (g h : Nat → Int32) (a b : Nat) (v : Int32) : Int32 × (Nat → Int32) × (Nat → Int32) := if g a = g b then (if h a - h b - v = 0 then (ct, g, h) else (rd, g, h)) else (ct, jG g (g a) (g b) 16, jH g h (g a) (h a - h b - v) 16)
def takeF (rd ct : Int32) (g h : Nat → Int32) (a b : Nat) (v : Int32) : Int32 × (Nat → Int32) × (Nat → Int32) := if ct = -9 then fitF rd ct g h a (6 + b) v else (ct, g, h)
def readF (rd ct : Int32) (g h : Nat → Int32) (a b v : Int32) : Int32 × Int32 × Int32 × (Nat → Int32) × (Nat → Int32) := if inR a 0 5 = true ∧ inR b 0 9 = true ∧ inR v 0 99 = true then (if rd < 30 then (rd + 1, rd + 1, takeF rd ct g h a.toNatClampNeg b.toNatClampNeg v) else (-3, rd, ct, g, h)) else (-1, rd, ct, g, h)

set_option maxHeartbeats 4000000 in
set_option maxRecDepth 100000 in
theorem kX2_ties (l : Launch) (D : va_G) (y : Nat → ClassId) (q : Nat → Nat) (rd ct : Int32) (g h : Nat → Int32) (a : Nat) (b : Nat) (ha : a < 16) (hb2 : b < 16) : Met l yX2_ties wsX2_ties ({ frames := 0, cells := 0, slots := 0, locals := 0 }) (va_Pc [.ref (q 6), .int (nI a), .int (nI b)] (rdB D (sT y) (sW y q rd ct g h))) (vp_Si (fun x => x = (zI (decide (g a = g b))))) 0 0 nF := by
  refine ro_start (cc := cX2_ties) (maxL := 3) (ret := (some .boolean)) (by decide) rfl (Nat.le_of_ble_eq_true rfl) ?_
  intro p e s m below meth c ls hx hb hr hml hown hlocks hts hnm hB hl
  obtain ⟨hP, hK, hN⟩ := hB
  have hown : s.vm.findClass RX2 = some m.cls := hown
  have F : CallFix p m c cX2_ties 3 s [.ref (q 6), .int (nI a), .int (nI b)].toArray wsX2_ties RX2 := ⟨hx, hb, hml, hown, hts⟩
  have hl : lv_has ls 3 [(0, .ref (q 6)), (1, .int (nI a)), (2, .int (nI b))] := hl
  have iX2 : ∀ w ∈ u_ws RX2 TX2 4, w ∈ wsX2_ties := mem_pl [2, 3, 4, 5] rfl
  refine lv_aload_n hx hb dX2_ties_0 rfl (lv_at hl 0 rfl) ?_
  refine va_get (D := D) (ci := 2) (v := .ref (q 7)) (C := RX2) (T := TX2) (N := 4) hx hb hts iX2 hown hK hP 0 rfl rfl 0 (by decide) (hts _ (List.mem_of_getElem? (i := 1) rfl)) (fun _ h9 => h9) rfl dX2_ties_1 ?_
  refine lv_iload_n hx hb dX2_ties_4 rfl (lv_at hl 1 rfl) ?_
  refine wa_iald hx hb hK hP 1 0 rfl rfl a rfl (by omega) (by decide) dX2_ties_5 ?_
  refine lv_aload_n hx hb dX2_ties_6 rfl (lv_at hl 0 rfl) ?_
  refine va_get (D := D) (ci := 2) (v := .ref (q 7)) (C := RX2) (T := TX2) (N := 4) hx hb hts iX2 hown hK hP 0 rfl rfl 0 (by decide) (hts _ (List.mem_of_getElem? (i := 1) rfl)) (fun _ h9 => h9) rfl dX2_ties_7 ?_
  refine lv_iload_n hx hb dX2_ties_10 rfl (lv_at hl 2 rfl) ?_
  refine wa_iald hx hb hK hP 1 0 rfl rfl b rfl (by omega) (by decide) dX2_ties_11 ?_
  refine lv_icmp_ne (tgt := 19) hx hb dX2_ties_12 (by decide) (fun c_1 => ?_) (fun c_1 => ?_)
  · skip
    refine lv_iconst (v := 0) hx hb dX2_ties_19 (by decide) ?_
    exact ro_zret hx hb hr hlocks rfl dX2_ties_20 (by simp [zI, c_1])
  · skip
    refine lv_iconst (v := 1) hx hb dX2_ties_15 (by decide) ?_
    refine lv_goto (tgt := 20) hx hb dX2_ties_16 (by decide) ?_
    exact ro_zret hx hb hr hlocks rfl dX2_ties_20 (by simp [zI, c_1])

set_option maxHeartbeats 4000000 in
set_option maxRecDepth 100000 in
theorem kX2_reset (l : Launch) (D : va_G) (y : Nat → ClassId) (q : Nat → Nat) (rd ct : Int32) (g h : Nat → Int32) (sz : Nat) : Met l yX2_reset wsX2_reset ({ frames := 0, cells := 0, slots := 0, locals := 0 }) (va_Pc [.ref (q 6)] (muB D (sT y) (sW y q rd ct g h) sz eT)) (QV (σ := Unit) D (fun u => True) (fun u => (sW y q 0 (-9) (rG g 16) (rH h 16))) (va_A (sW y q rd ct g h) sz)) 0 0 (va_A (sW y q rd ct g h) sz) := by
  refine mu_start (Qc := QV (σ := Unit) D (fun u => True) (fun u => (sW y q 0 (-9) (rG g 16) (rH h 16)))) (cc := cX2_reset) (maxL := 2) (ret := none) (by decide) rfl (Nat.le_of_ble_eq_true rfl) ?_
  intro p e s m below meth c ls A hx hb hr hml hown hlocks hts hnm hA hP hK hN hD hE hAA hsz hl
  have hS : va_S A s.heap s.heap [] := va_S.rf
  have hown : s.vm.findClass RX2 = some m.cls := hown
  have F : CallFix p m c cX2_reset 2 s [.ref (q 6)].toArray wsX2_reset RX2 := ⟨hx, hb, hml, hown, hts⟩
  have hl : lv_has ls 2 [(0, .ref (q 6))] := hl
  have iX2 : ∀ w ∈ u_ws RX2 TX2 4, w ∈ wsX2_reset := mem_pl [5, 6, 7, 8] rfl
  refine lv_iconst (v := 0) hx hb dX2_reset_0 (by decide) ?_
  refine lv_istore_n (lv' := [(1, .int 0), (0, .ref (q 6))]) hx hb dX2_reset_1 rfl hl (by decide) rfl (fun ls hl => ?_)
  refine W.lpW (pc := 2) (τ := Nat) (D := D) (A := A) (H0 := s.heap) (cl := vwCl) (fun i => i ≤ 16) (fun i => (sW y q rd ct (rG g i) (rH h i))) (fun i ls => lv_has ls 2 [(0, .ref (q 6)), (1, .int (nI i))]) (fun i => 16 - i) ?_ 0 ls (Nat.zero_le _) (lv_sub hl [1, 0] rfl) (by show va_P D vwCl (sW y q rd ct (rG g 0) (rH h 0)) _; rw [rG_0, rH_0]; exact hP) (by show va_D A (sW y q rd ct (rG g 0) (rH h 0)); rw [rG_0, rH_0]; exact hD) hS
  intro i ls H locs hi hl hP hD hS ihi
  have hi : i ≤ 16 := hi
  have hl : lv_has ls 2 [(0, .ref (q 6)), (1, .int (nI i))] := hl
  have hP : va_P D vwCl (sW y q rd ct (rG g i) (rH h i)) H := hP
  have hD : va_D A (sW y q rd ct (rG g i) (rH h i)) := hD
  refine lv_iload_n hx hb dX2_reset_2 rfl (lv_at hl 1 rfl) ?_
  refine lv_bipush (v := 16) hx hb dX2_reset_3 (by decide) ?_
  refine lv_icmp_ge (tgt := 28) hx hb dX2_reset_5 (by decide) (fun c_1 => ?_) (fun c_1 => ?_)
  · skip
    have c_1 : 16 ≤ i := (nI_leI (a := 16) (b := i) (by omega) (by omega)).mp c_1
    have hin : i = 16 := Nat.le_antisymm hi c_1
    rw [hin] at hP hD
    refine lv_aload_n hx hb dX2_reset_28 rfl (lv_at hl 0 rfl) ?_
    refine lv_iconst (v := 0) hx hb dX2_reset_29 (by decide) ?_
    refine va_put (D := D) (ci := 2) (v := .int 0) (ty := .int) (C := RX2) (T := TX2) (N := 4) hx hb hts iX2 tyX2 tyX2_ok nmX2 hown hK hP hD hS 0 rfl rfl 2 (by decide) (hts _ (List.mem_of_getElem? (i := 3) rfl)) (fun _ h9 => h9) rfl (by decide +kernel) rfl rfl (Nat.le_of_ble_eq_true rfl) dX2_reset_30 (fun H locs hP hD hS => ?_)
    have hP : va_P D vwCl (sW y q 0 ct (rG g 16) (rH h 16)) H := hP
    have hD : va_D A (sW y q 0 ct (rG g 16) (rH h 16)) := hD
    refine lv_aload_n hx hb dX2_reset_33 rfl (lv_at hl 0 rfl) ?_
    refine lv_bipush (v := (-9)) hx hb dX2_reset_34 (by decide) ?_
    refine va_put (D := D) (ci := 2) (v := .int (-9)) (ty := .int) (C := RX2) (T := TX2) (N := 4) hx hb hts iX2 tyX2 tyX2_ok nmX2 hown hK hP hD hS 0 rfl rfl 3 (by decide) (hts _ (List.mem_of_getElem? (i := 4) rfl)) (fun _ h9 => h9) rfl (by decide +kernel) rfl rfl (Nat.le_of_ble_eq_true rfl) dX2_reset_36 (fun H locs hP hD hS => ?_)
    have hP : va_P D vwCl (sW y q 0 (-9) (rG g 16) (rH h 16)) H := hP
    have hD : va_D A (sW y q 0 (-9) (rG g 16) (rH h 16)) := hD
    exact mu_vret () hx hb hr hlocks hP hD hS dX2_reset_39 trivial
  · skip
    have c_1 : ¬ 16 ≤ i := fun h => c_1 ((nI_leI (a := 16) (b := i) (by omega) (by omega)).mpr h)
    refine lv_aload_n hx hb dX2_reset_8 rfl (lv_at hl 0 rfl) ?_
    refine va_get (D := D) (ci := 2) (v := .ref (q 7)) (C := RX2) (T := TX2) (N := 4) hx hb hts iX2 hown hK hP 0 rfl rfl 0 (by decide) (hts _ (List.mem_of_getElem? (i := 1) rfl)) (fun _ h9 => h9) rfl dX2_reset_9 ?_
    refine lv_iload_n hx hb dX2_reset_12 rfl (lv_at hl 1 rfl) ?_
    refine lv_iload_n hx hb dX2_reset_13 rfl (lv_at hl 1 rfl) ?_
    refine wa_iast (v := nI i) hx hb hK hP hD hS 1 0 rfl rfl i rfl (by omega) (by decide) dX2_reset_14 (fun H locs hP hD hS => ?_)
    have hP : va_P D vwCl (sW y q rd ct (upd (rG g i) i (nI i)) (rH h i)) H := hP
    have hD : va_D A (sW y q rd ct (upd (rG g i) i (nI i)) (rH h i)) := hD
    refine lv_aload_n hx hb dX2_reset_15 rfl (lv_at hl 0 rfl) ?_
    refine va_get (D := D) (ci := 2) (v := .ref (q 8)) (C := RX2) (T := TX2) (N := 4) hx hb hts iX2 hown hK hP 0 rfl rfl 1 (by decide) (hts _ (List.mem_of_getElem? (i := 2) rfl)) (fun _ h9 => h9) rfl dX2_reset_16 ?_
    refine lv_iload_n hx hb dX2_reset_19 rfl (lv_at hl 1 rfl) ?_
    refine lv_iconst (v := 0) hx hb dX2_reset_20 (by decide) ?_
    refine wa_iast (v := 0) hx hb hK hP hD hS 2 1 rfl rfl i rfl (by omega) (by decide) dX2_reset_21 (fun H locs hP hD hS => ?_)
    have hP : va_P D vwCl (sW y q rd ct (upd (rG g i) i (nI i)) (upd (rH h i) i 0)) H := hP
    have hD : va_D A (sW y q rd ct (upd (rG g i) i (nI i)) (upd (rH h i) i 0)) := hD
    refine lv_iinc (v := (nI i + 1)) (lv' := [(1, .int (nI i + 1)), (0, .ref (q 6))]) hx hb dX2_reset_22 hl (k := 1) rfl rfl (by decide) rfl (fun ls hl => ?_)
    refine lv_goto (tgt := 2) hx hb dX2_reset_25 (by decide) ?_
    rw [rG_t, rH_t] at hP hD
    have hP : va_P D vwCl (sW y q rd ct (rG g (i + 1)) (rH h (i + 1))) H := hP
    have hD : va_D A (sW y q rd ct (rG g (i + 1)) (rH h (i + 1))) := hD
    exact ihi (i + 1) ls H locs (by show 16 - (i + 1) < 16 - i; omega) (by show i + 1 ≤ 16; omega) (lv_sub hl [1, 0] (by
      show ([(0, .ref (q 6)), (1, .int (nI i + 1))] : List (Nat × Value)) = [(0, .ref (q 6)), (1, .int (nI (i + 1)))]
      rw [← nI_1])) hP hD hS

set_option maxHeartbeats 4000000 in
set_option maxRecDepth 100000 in
theorem kX2_join (l : Launch) (D : va_G) (y : Nat → ClassId) (q : Nat → Nat) (rd ct : Int32) (g h : Nat → Int32) (f0 : Int32) (t0 : Int32) (x0 : Int32) (sz : Nat) : Met l yX2_join wsX2_join ({ frames := 0, cells := 0, slots := 0, locals := 0 }) (va_Pc [.ref (q 6), .int f0, .int t0, .int x0] (muB D (sT y) (sW y q rd ct g h) sz eT)) (QV (σ := Unit) D (fun u => True) (fun u => (sW y q rd ct (jG g f0 t0 16) (jH g h f0 x0 16))) (va_A (sW y q rd ct g h) sz)) 0 0 (va_A (sW y q rd ct g h) sz) := by
  refine mu_start (Qc := QV (σ := Unit) D (fun u => True) (fun u => (sW y q rd ct (jG g f0 t0 16) (jH g h f0 x0 16)))) (cc := cX2_join) (maxL := 5) (ret := none) (by decide) rfl (Nat.le_of_ble_eq_true rfl) ?_
  intro p e s m below meth c ls A hx hb hr hml hown hlocks hts hnm hA hP hK hN hD hE hAA hsz hl
  have hS : va_S A s.heap s.heap [] := va_S.rf
  have hown : s.vm.findClass RX2 = some m.cls := hown
  have F : CallFix p m c cX2_join 5 s [.ref (q 6), .int f0, .int t0, .int x0].toArray wsX2_join RX2 := ⟨hx, hb, hml, hown, hts⟩
  have hl : lv_has ls 5 [(0, .ref (q 6)), (1, .int f0), (2, .int t0), (3, .int x0)] := hl
  have iX2 : ∀ w ∈ u_ws RX2 TX2 4, w ∈ wsX2_join := mem_pl [3, 4, 5, 6] rfl
  refine lv_iconst (v := 0) hx hb dX2_join_0 (by decide) ?_
  refine lv_istore (lv' := [(4, .int 0), (0, .ref (q 6)), (1, .int f0), (2, .int t0), (3, .int x0)]) hx hb dX2_join_1 hl (by decide) rfl (fun ls hl => ?_)
  refine W.lpW (pc := 3) (τ := Nat) (D := D) (A := A) (H0 := s.heap) (cl := vwCl) (fun i => i ≤ 16) (fun i => (sW y q rd ct (jG g f0 t0 i) (jH g h f0 x0 i))) (fun i ls => lv_has ls 5 [(0, .ref (q 6)), (1, .int f0), (2, .int t0), (3, .int x0), (4, .int (nI i))]) (fun i => 16 - i) ?_ 0 ls (Nat.zero_le _) (lv_sub hl [1, 2, 3, 4, 0] rfl) (by show va_P D vwCl (sW y q rd ct (jG g f0 t0 0) (jH g h f0 x0 0)) _; rw [jG_0, jH_0]; exact hP) (by show va_D A (sW y q rd ct (jG g f0 t0 0) (jH g h f0 x0 0)); rw [jG_0, jH_0]; exact hD) hS
  intro i ls H locs hi hl hP hD hS ihi
  have hi : i ≤ 16 := hi
  have hl : lv_has ls 5 [(0, .ref (q 6)), (1, .int f0), (2, .int t0), (3, .int x0), (4, .int (nI i))] := hl
  have hP : va_P D vwCl (sW y q rd ct (jG g f0 t0 i) (jH g h f0 x0 i)) H := hP
  have hD : va_D A (sW y q rd ct (jG g f0 t0 i) (jH g h f0 x0 i)) := hD
  refine lv_iload hx hb dX2_join_3 (lv_at hl 4 rfl) ?_
  refine lv_bipush (v := 16) hx hb dX2_join_5 (by decide) ?_
  refine lv_icmp_ge (tgt := 46) hx hb dX2_join_7 (by decide) (fun c_1 => ?_) (fun c_1 => ?_)
  · skip
    have c_1 : 16 ≤ i := (nI_leI (a := 16) (b := i) (by omega) (by omega)).mp c_1
    have hin : i = 16 := Nat.le_antisymm hi c_1
    rw [hin] at hP hD
    exact mu_vret () hx hb hr hlocks hP hD hS dX2_join_46 trivial
  · skip
    have c_1 : ¬ 16 ≤ i := fun h => c_1 ((nI_leI (a := 16) (b := i) (by omega) (by omega)).mpr h)
    refine lv_aload_n hx hb dX2_join_10 rfl (lv_at hl 0 rfl) ?_
    refine va_get (D := D) (ci := 2) (v := .ref (q 7)) (C := RX2) (T := TX2) (N := 4) hx hb hts iX2 hown hK hP 0 rfl rfl 0 (by decide) (hts _ (List.mem_of_getElem? (i := 1) rfl)) (fun _ h9 => h9) rfl dX2_join_11 ?_
    refine lv_iload hx hb dX2_join_14 (lv_at hl 4 rfl) ?_
    refine wa_iald hx hb hK hP 1 0 rfl rfl i rfl (by omega) (by decide) dX2_join_16 ?_
    refine lv_iload_n hx hb dX2_join_17 rfl (lv_at hl 1 rfl) ?_
    refine lv_icmp_ne (tgt := 40) hx hb dX2_join_18 (by decide) (fun c_2 => ?_) (fun c_2 => ?_)
    · skip
      refine lv_iinc (v := (nI i + 1)) (lv' := [(4, .int (nI i + 1)), (0, .ref (q 6)), (1, .int f0), (2, .int t0), (3, .int x0)]) hx hb dX2_join_40 hl (k := 4) rfl rfl (by decide) rfl (fun ls hl => ?_)
      refine lv_goto (tgt := 3) hx hb dX2_join_43 (by decide) ?_
      rw [jG_i] at c_2
      rw [jG_n c_2, jH_n c_2] at hP hD
      have hP : va_P D vwCl (sW y q rd ct (jG g f0 t0 (i + 1)) (jH g h f0 x0 (i + 1))) H := hP
      have hD : va_D A (sW y q rd ct (jG g f0 t0 (i + 1)) (jH g h f0 x0 (i + 1))) := hD
      exact ihi (i + 1) ls H locs (by show 16 - (i + 1) < 16 - i; omega) (by show i + 1 ≤ 16; omega) (lv_sub hl [1, 2, 3, 4, 0] (by
        show ([(0, .ref (q 6)), (1, .int f0), (2, .int t0), (3, .int x0), (4, .int (nI i + 1))] : List (Nat × Value)) = [(0, .ref (q 6)), (1, .int f0), (2, .int t0), (3, .int x0), (4, .int (nI (i + 1)))]
        rw [← nI_1])) hP hD hS
    · skip
      refine lv_aload_n hx hb dX2_join_21 rfl (lv_at hl 0 rfl) ?_
      refine va_get (D := D) (ci := 2) (v := .ref (q 7)) (C := RX2) (T := TX2) (N := 4) hx hb hts iX2 hown hK hP 0 rfl rfl 0 (by decide) (hts _ (List.mem_of_getElem? (i := 1) rfl)) (fun _ h9 => h9) rfl dX2_join_22 ?_
      refine lv_iload hx hb dX2_join_25 (lv_at hl 4 rfl) ?_
      refine lv_iload_n hx hb dX2_join_27 rfl (lv_at hl 2 rfl) ?_
      refine wa_iast (v := t0) hx hb hK hP hD hS 1 0 rfl rfl i rfl (by omega) (by decide) dX2_join_28 (fun H locs hP hD hS => ?_)
      have hP : va_P D vwCl (sW y q rd ct (upd (jG g f0 t0 i) i t0) (jH g h f0 x0 i)) H := hP
      have hD : va_D A (sW y q rd ct (upd (jG g f0 t0 i) i t0) (jH g h f0 x0 i)) := hD
      refine lv_aload_n hx hb dX2_join_29 rfl (lv_at hl 0 rfl) ?_
      refine va_get (D := D) (ci := 2) (v := .ref (q 8)) (C := RX2) (T := TX2) (N := 4) hx hb hts iX2 hown hK hP 0 rfl rfl 1 (by decide) (hts _ (List.mem_of_getElem? (i := 2) rfl)) (fun _ h9 => h9) rfl dX2_join_30 ?_
      refine lv_iload hx hb dX2_join_33 (lv_at hl 4 rfl) ?_
      refine lv_dup2_11 hx hb dX2_join_35 rfl rfl ?_
      refine wa_iald hx hb hK hP 2 1 rfl rfl i rfl (by omega) (by decide) dX2_join_36 ?_
      refine lv_iload_n hx hb dX2_join_37 rfl (lv_at hl 3 rfl) ?_
      refine lv_isub hx hb dX2_join_38 ?_
      refine wa_iast (v := (((jH g h f0 x0 i) i) - x0)) hx hb hK hP hD hS 2 1 rfl rfl i rfl (by omega) (by decide) dX2_join_39 (fun H locs hP hD hS => ?_)
      have hP : va_P D vwCl (sW y q rd ct (upd (jG g f0 t0 i) i t0) (upd (jH g h f0 x0 i) i (((jH g h f0 x0 i) i) - x0))) H := hP
      have hD : va_D A (sW y q rd ct (upd (jG g f0 t0 i) i t0) (upd (jH g h f0 x0 i) i (((jH g h f0 x0 i) i) - x0))) := hD
      refine lv_iinc (v := (nI i + 1)) (lv' := [(4, .int (nI i + 1)), (0, .ref (q 6)), (1, .int f0), (2, .int t0), (3, .int x0)]) hx hb dX2_join_40 hl (k := 4) rfl rfl (by decide) rfl (fun ls hl => ?_)
      refine lv_goto (tgt := 3) hx hb dX2_join_43 (by decide) ?_
      rw [jG_i] at c_2
      rw [jG_t c_2, jH_t c_2] at hP hD
      have hP : va_P D vwCl (sW y q rd ct (jG g f0 t0 (i + 1)) (jH g h f0 x0 (i + 1))) H := hP
      have hD : va_D A (sW y q rd ct (jG g f0 t0 (i + 1)) (jH g h f0 x0 (i + 1))) := hD
      exact ihi (i + 1) ls H locs (by show 16 - (i + 1) < 16 - i; omega) (by show i + 1 ≤ 16; omega) (lv_sub hl [1, 2, 3, 4, 0] (by
        show ([(0, .ref (q 6)), (1, .int f0), (2, .int t0), (3, .int x0), (4, .int (nI i + 1))] : List (Nat × Value)) = [(0, .ref (q 6)), (1, .int f0), (2, .int t0), (3, .int x0), (4, .int (nI (i + 1)))]
        rw [← nI_1])) hP hD hS

set_option maxHeartbeats 4000000 in
set_option maxRecDepth 100000 in
theorem kX2_fit (l : Launch) (D : va_G) (y : Nat → ClassId) (q : Nat → Nat) (rd ct : Int32) (g h : Nat → Int32) (a : Nat) (b : Nat) (v0 : Int32) (sz : Nat) (ha : a < 16) (hb2 : b < 16) : Met l yX2_fit wsX2_fit ({ frames := 1, cells := 0, slots := 0, locals := 24 }) (va_Pc [.ref (q 6), .int (nI a), .int (nI b), .int v0] (muB D (sT y) (sW y q rd ct g h) sz eT)) (QV (σ := Int32 × (Nat → Int32) × (Nat → Int32)) D (fun u => u = fitF rd ct g h a b v0) (fun u => (sW y q rd u.1 u.2.1 u.2.2)) (va_A (sW y q rd ct g h) sz)) 0 0 (va_A (sW y q rd ct g h) sz) := by
  refine mu_start (Qc := QV (σ := Int32 × (Nat → Int32) × (Nat → Int32)) D (fun u => u = fitF rd ct g h a b v0) (fun u => (sW y q rd u.1 u.2.1 u.2.2))) (cc := cX2_fit) (maxL := 5) (ret := none) (by decide) rfl (Nat.le_of_ble_eq_true rfl) ?_
  intro p e s m below meth c ls A hx hb hr hml hown hlocks hts hnm hA hP hK hN hD hE hAA hsz hl
  have hS : va_S A s.heap s.heap [] := va_S.rf
  have hown : s.vm.findClass RX2 = some m.cls := hown
  have F : CallFix p m c cX2_fit 5 s [.ref (q 6), .int (nI a), .int (nI b), .int v0].toArray wsX2_fit RX2 := ⟨hx, hb, hml, hown, hts⟩
  have hl : lv_has ls 5 [(0, .ref (q 6)), (1, .int (nI a)), (2, .int (nI b)), (3, .int v0)] := hl
  have iX2 : ∀ w ∈ u_ws RX2 TX2 4, w ∈ wsX2_fit := mem_pl [14, 15, 16, 17] rfl
  refine lv_aload_n hx hb dX2_fit_0 rfl (lv_at hl 0 rfl) ?_
  refine va_get (D := D) (ci := 2) (v := .ref (q 8)) (C := RX2) (T := TX2) (N := 4) hx hb hts iX2 hown hK hP 0 rfl rfl 1 (by decide) (hts _ (List.mem_of_getElem? (i := 1) rfl)) (fun _ h9 => h9) rfl dX2_fit_1 ?_
  refine lv_iload_n hx hb dX2_fit_4 rfl (lv_at hl 1 rfl) ?_
  refine wa_iald hx hb hK hP 2 1 rfl rfl a rfl (by omega) (by decide) dX2_fit_5 ?_
  refine lv_aload_n hx hb dX2_fit_6 rfl (lv_at hl 0 rfl) ?_
  refine va_get (D := D) (ci := 2) (v := .ref (q 8)) (C := RX2) (T := TX2) (N := 4) hx hb hts iX2 hown hK hP 0 rfl rfl 1 (by decide) (hts _ (List.mem_of_getElem? (i := 1) rfl)) (fun _ h9 => h9) rfl dX2_fit_7 ?_
  refine lv_iload_n hx hb dX2_fit_10 rfl (lv_at hl 2 rfl) ?_
  refine wa_iald hx hb hK hP 2 1 rfl rfl b rfl (by omega) (by decide) dX2_fit_11 ?_
  refine lv_isub hx hb dX2_fit_12 ?_
  refine lv_iload_n hx hb dX2_fit_13 rfl (lv_at hl 3 rfl) ?_
  refine lv_isub hx hb dX2_fit_14 ?_
  refine lv_istore (lv' := [(4, .int (((h a) - (h b)) - v0)), (0, .ref (q 6)), (1, .int (nI a)), (2, .int (nI b)), (3, .int v0)]) hx hb dX2_fit_15 hl (by decide) rfl (fun ls hl => ?_)
  refine lv_aload_n hx hb dX2_fit_17 rfl (lv_at hl 1 rfl) ?_
  refine lv_iload_n hx hb dX2_fit_18 rfl (lv_at hl 2 rfl) ?_
  refine lv_iload_n hx hb dX2_fit_19 rfl (lv_at hl 3 rfl) ?_
  refine ro_i (va_runV (As := [.int (nI a), .int (nI b)]) (rest := []) F (kX2_ties l D y q rd ct g h a b (by omega) (by omega)) (cwV 2 hts gX2_fit_X2_ties rfl rfl rfl ⟨rfl, hdX2_ties⟩ ⟨(Nat.le_of_ble_eq_true rfl), (Nat.le_of_ble_eq_true rfl)⟩) ⟨rdB_blind, va_recv hK hP (ci := 2) (q0 := 0) rfl rfl, rdB_pre hP hK hN⟩ rfl rfl hl.1 rfl (lv_room (Nat.le_of_ble_eq_true rfl)) dX2_fit_20 ⟨Nat.zero_le _, Nat.zero_le _⟩) ?_
  refine lv_if_ne (tgt := 47) hx hb dX2_fit_23 (by decide) (fun c_1 => ?_) (fun c_1 => ?_)
  · skip
    have c_1 := zI_1 c_1
    refine lv_iload hx hb dX2_fit_47 (lv_at hl 0 rfl) ?_
    refine lv_if_eq (tgt := 60) hx hb dX2_fit_49 (by decide) (fun c_2 => ?_) (fun c_2 => ?_)
    · skip
      exact mu_vret (ct, g, h) hx hb hr hlocks hP hD hS dX2_fit_60 (by have := c_1; simp_all [fitF])
    · skip
      refine lv_aload_n hx hb dX2_fit_52 rfl (lv_at hl 1 rfl) ?_
      refine lv_aload_n hx hb dX2_fit_53 rfl (lv_at hl 1 rfl) ?_
      refine va_get (D := D) (ci := 2) (v := .int rd) (C := RX2) (T := TX2) (N := 4) hx hb hts iX2 hown hK hP 0 rfl rfl 2 (by decide) (hts _ (List.mem_of_getElem? (i := 3) rfl)) (fun _ h9 => h9) rfl dX2_fit_54 ?_
      refine va_put (D := D) (ci := 2) (v := .int rd) (ty := .int) (C := RX2) (T := TX2) (N := 4) hx hb hts iX2 tyX2 tyX2_ok nmX2 hown hK hP hD hS 0 rfl rfl 3 (by decide) (hts _ (List.mem_of_getElem? (i := 4) rfl)) (fun _ h9 => h9) rfl (by decide +kernel) rfl rfl (Nat.le_of_ble_eq_true rfl) dX2_fit_57 (fun H locs hP hD hS => ?_)
      have hP : va_P D vwCl (sW y q rd rd g h) H := hP
      have hD : va_D A (sW y q rd rd g h) := hD
      exact mu_vret (rd, g, h) hx hb hr hlocks hP hD hS dX2_fit_60 (by have := c_1; simp_all [fitF])
  · skip
    have c_1 := zI_0 c_1
    refine lv_aload_n hx hb dX2_fit_26 rfl (lv_at hl 1 rfl) ?_
    refine lv_aload_n hx hb dX2_fit_27 rfl (lv_at hl 1 rfl) ?_
    refine va_get (D := D) (ci := 2) (v := .ref (q 7)) (C := RX2) (T := TX2) (N := 4) hx hb hts iX2 hown hK hP 0 rfl rfl 0 (by decide) (hts _ (List.mem_of_getElem? (i := 2) rfl)) (fun _ h9 => h9) rfl dX2_fit_28 ?_
    refine lv_iload_n hx hb dX2_fit_31 rfl (lv_at hl 2 rfl) ?_
    refine wa_iald hx hb hK hP 1 0 rfl rfl a rfl (by omega) (by decide) dX2_fit_32 ?_
    refine lv_aload_n hx hb dX2_fit_33 rfl (lv_at hl 1 rfl) ?_
    refine va_get (D := D) (ci := 2) (v := .ref (q 7)) (C := RX2) (T := TX2) (N := 4) hx hb hts iX2 hown hK hP 0 rfl rfl 0 (by decide) (hts _ (List.mem_of_getElem? (i := 2) rfl)) (fun _ h9 => h9) rfl dX2_fit_34 ?_
    refine lv_iload_n hx hb dX2_fit_37 rfl (lv_at hl 3 rfl) ?_
    refine wa_iald hx hb hK hP 1 0 rfl rfl b rfl (by omega) (by decide) dX2_fit_38 ?_
    refine lv_iload hx hb dX2_fit_39 (lv_at hl 0 rfl) ?_
    refine muF_v (va_runV (As := [.int (g a), .int (g b), .int (((h a) - (h b)) - v0)]) (rest := []) F (kX2_join l D y q rd ct g h (g a) (g b) (((h a) - (h b)) - v0) _) (cwV 3 hts gX2_fit_X2_join rfl rfl rfl ⟨rfl, hdX2_join⟩ ⟨(Nat.le_of_ble_eq_true rfl), (Nat.le_of_ble_eq_true rfl)⟩) ⟨(muB_blind (fun _ _ _ _ _ => trivial)), va_recv hK hP (ci := 2) (q0 := 0) rfl rfl, muF_pre hP hK hN hD (fun _ _ _ => trivial)⟩ rfl rfl hl.1 rfl (lv_room (Nat.le_of_ble_eq_true rfl)) dX2_fit_41 ⟨Nat.zero_le _, Nat.zero_le _⟩) hP hD hS hA (fun u_4 H locs w_5 hP hD hS => ?_)
    have hP : va_P D vwCl (sW y q rd ct (jG g (g a) (g b) 16) (jH g h (g a) (((h a) - (h b)) - v0) 16)) H := hP
    have hD : va_D A (sW y q rd ct (jG g (g a) (g b) 16) (jH g h (g a) (((h a) - (h b)) - v0) 16)) := hD
    refine lv_goto (tgt := 60) hx hb dX2_fit_44 (by decide) ?_
    exact mu_vret (ct, jG g (g a) (g b) 16, jH g h (g a) (((h a) - (h b)) - v0) 16) hx hb hr hlocks hP hD hS dX2_fit_60 (by have := c_1; simp_all [fitF])

set_option maxHeartbeats 4000000 in
set_option maxRecDepth 100000 in
theorem kX2_take (l : Launch) (D : va_G) (y : Nat → ClassId) (q : Nat → Nat) (rd ct : Int32) (g h : Nat → Int32) (a : Nat) (b : Nat) (v0 : Int32) (sz : Nat) (ha : a < 6) (hb2 : b < 10) : Met l yX2_take wsX2_take ({ frames := 2, cells := 0, slots := 0, locals := 48 }) (va_Pc [.ref (q 6), .int (nI a), .int (nI b), .int v0] (muB D (sT y) (sW y q rd ct g h) sz eT)) (QV (σ := Int32 × (Nat → Int32) × (Nat → Int32)) D (fun u => u = takeF rd ct g h a b v0) (fun u => (sW y q (rd + 1) u.1 u.2.1 u.2.2)) (va_A (sW y q rd ct g h) sz)) 0 0 (va_A (sW y q rd ct g h) sz) := by
  refine mu_start (Qc := QV (σ := Int32 × (Nat → Int32) × (Nat → Int32)) D (fun u => u = takeF rd ct g h a b v0) (fun u => (sW y q (rd + 1) u.1 u.2.1 u.2.2))) (cc := cX2_take) (maxL := 4) (ret := none) (by decide) rfl (Nat.le_of_ble_eq_true rfl) ?_
  intro p e s m below meth c ls A hx hb hr hml hown hlocks hts hnm hA hP hK hN hD hE hAA hsz hl
  have hS : va_S A s.heap s.heap [] := va_S.rf
  have hown : s.vm.findClass RX2 = some m.cls := hown
  have F : CallFix p m c cX2_take 4 s [.ref (q 6), .int (nI a), .int (nI b), .int v0].toArray wsX2_take RX2 := ⟨hx, hb, hml, hown, hts⟩
  have hl : lv_has ls 4 [(0, .ref (q 6)), (1, .int (nI a)), (2, .int (nI b)), (3, .int v0)] := hl
  have iX2 : ∀ w ∈ u_ws RX2 TX2 4, w ∈ wsX2_take := mem_pl [18, 19, 20, 21] rfl
  refine lv_aload_n hx hb dX2_take_0 rfl (lv_at hl 0 rfl) ?_
  refine va_get (D := D) (ci := 2) (v := .int ct) (C := RX2) (T := TX2) (N := 4) hx hb hts iX2 hown hK hP 0 rfl rfl 3 (by decide) (hts _ (List.mem_of_getElem? (i := 1) rfl)) (fun _ h9 => h9) rfl dX2_take_1 ?_
  refine lv_bipush (v := (-9)) hx hb dX2_take_4 (by decide) ?_
  refine lv_icmp_ne (tgt := 19) hx hb dX2_take_6 (by decide) (fun c_1 => ?_) (fun c_1 => ?_)
  · skip
    refine lv_aload_n hx hb dX2_take_19 rfl (lv_at hl 0 rfl) ?_
    refine lv_dup hx hb dX2_take_20 rfl ?_
    refine va_get (D := D) (ci := 2) (v := .int rd) (C := RX2) (T := TX2) (N := 4) hx hb hts iX2 hown hK hP 0 rfl rfl 2 (by decide) (hts _ (List.mem_of_getElem? (i := 2) rfl)) (fun _ h9 => h9) rfl dX2_take_21 ?_
    refine lv_iconst (v := 1) hx hb dX2_take_24 (by decide) ?_
    refine lv_iadd hx hb dX2_take_25 ?_
    refine va_put (D := D) (ci := 2) (v := .int (rd + 1)) (ty := .int) (C := RX2) (T := TX2) (N := 4) hx hb hts iX2 tyX2 tyX2_ok nmX2 hown hK hP hD hS 0 rfl rfl 2 (by decide) (hts _ (List.mem_of_getElem? (i := 2) rfl)) (fun _ h9 => h9) rfl (by decide +kernel) rfl rfl (Nat.le_of_ble_eq_true rfl) dX2_take_26 (fun H locs hP hD hS => ?_)
    have hP : va_P D vwCl (sW y q (rd + 1) ct g h) H := hP
    have hD : va_D A (sW y q (rd + 1) ct g h) := hD
    exact mu_vret (ct, g, h) hx hb hr hlocks hP hD hS dX2_take_29 (by simp [takeF, c_1])
  · skip
    refine lv_aload_n hx hb dX2_take_9 rfl (lv_at hl 0 rfl) ?_
    refine lv_iload_n hx hb dX2_take_10 rfl (lv_at hl 1 rfl) ?_
    refine lv_bipush (v := 6) hx hb dX2_take_11 (by decide) ?_
    refine lv_iload_n hx hb dX2_take_13 rfl (lv_at hl 2 rfl) ?_
    refine lv_iadd hx hb dX2_take_14 ?_
    refine lv_cst (v := nI (6 + b)) (nI_add 6 b) ?_
    refine lv_iload_n hx hb dX2_take_15 rfl (lv_at hl 3 rfl) ?_
    refine muF_v (va_runV (As := [.int (nI a), .int (nI (6 + b)), .int v0]) (rest := []) F (kX2_fit l D y q rd ct g h a (6 + b) v0 _ (by omega) (by omega)) (cwV 3 hts gX2_take_X2_fit rfl rfl rfl ⟨rfl, hdX2_fit⟩ ⟨(Nat.le_of_ble_eq_true rfl), (Nat.le_of_ble_eq_true rfl)⟩) ⟨(muB_blind (fun _ _ _ _ _ => trivial)), va_recv hK hP (ci := 2) (q0 := 0) rfl rfl, muF_pre hP hK hN hD (fun _ _ _ => trivial)⟩ rfl rfl hl.1 rfl (lv_room (Nat.le_of_ble_eq_true rfl)) dX2_take_16 ⟨Nat.zero_le _, Nat.zero_le _⟩) hP hD hS hA (fun u_3 H locs w_4 hP hD hS => ?_)
    subst w_4
    have hP : va_P D vwCl (sW y q rd ((fitF rd ct g h a (6 + b) v0).1) ((fitF rd ct g h a (6 + b) v0).2.1) ((fitF rd ct g h a (6 + b) v0).2.2)) H := hP
    have hD : va_D A (sW y q rd ((fitF rd ct g h a (6 + b) v0).1) ((fitF rd ct g h a (6 + b) v0).2.1) ((fitF rd ct g h a (6 + b) v0).2.2)) := hD
    refine lv_aload_n hx hb dX2_take_19 rfl (lv_at hl 0 rfl) ?_
    refine lv_dup hx hb dX2_take_20 rfl ?_
    refine va_get (D := D) (ci := 2) (v := .int rd) (C := RX2) (T := TX2) (N := 4) hx hb hts iX2 hown hK hP 0 rfl rfl 2 (by decide) (hts _ (List.mem_of_getElem? (i := 2) rfl)) (fun _ h9 => h9) rfl dX2_take_21 ?_
    refine lv_iconst (v := 1) hx hb dX2_take_24 (by decide) ?_
    refine lv_iadd hx hb dX2_take_25 ?_
    refine va_put (D := D) (ci := 2) (v := .int (rd + 1)) (ty := .int) (C := RX2) (T := TX2) (N := 4) hx hb hts iX2 tyX2 tyX2_ok nmX2 hown hK hP hD hS 0 rfl rfl 2 (by decide) (hts _ (List.mem_of_getElem? (i := 2) rfl)) (fun _ h9 => h9) rfl (by decide +kernel) rfl rfl (Nat.le_of_ble_eq_true rfl) dX2_take_26 (fun H locs hP hD hS => ?_)
    have hP : va_P D vwCl (sW y q (rd + 1) ((fitF rd ct g h a (6 + b) v0).1) ((fitF rd ct g h a (6 + b) v0).2.1) ((fitF rd ct g h a (6 + b) v0).2.2)) H := hP
    have hD : va_D A (sW y q (rd + 1) ((fitF rd ct g h a (6 + b) v0).1) ((fitF rd ct g h a (6 + b) v0).2.1) ((fitF rd ct g h a (6 + b) v0).2.2)) := hD
    exact mu_vret ((fitF rd ct g h a (6 + b) v0).1, (fitF rd ct g h a (6 + b) v0).2.1, (fitF rd ct g h a (6 + b) v0).2.2) hx hb hr hlocks hP hD hS dX2_take_29 (by simp [takeF, c_1])

set_option maxHeartbeats 4000000 in
set_option maxRecDepth 100000 in
theorem kX4_read (l : Launch) (D : va_G) (y : Nat → ClassId) (q : Nat → Nat) (n : Nat) (now rt : Int32) (tr : Int64) (C : Nat → CT) (ah w : Nat → Int32) (mx : MT) (rd ct : Int32) (g h : Nat → Int32) (a0 : Int32) (b0 : Int32) (v0 : Int32) (sz : Nat) : Met l yX4_read wsX4_read ({ frames := 3, cells := 0, slots := 0, locals := 71 }) (va_Pc [.ref (q 0), .int a0, .int b0, .int v0] (muB D (xT y) (xW y q (nI n) now rt tr C ah w mx rd ct g h) sz eT)) (QI (σ := Int32 × Int32 × (Nat → Int32) × (Nat → Int32)) D (fun r u => (r, u) = readF rd ct g h a0 b0 v0) (fun u => (xW y q (nI n) now rt tr C ah w mx u.1 u.2.1 u.2.2.1 u.2.2.2)) (va_A (xW y q (nI n) now rt tr C ah w mx rd ct g h) sz)) 0 0 (va_A (xW y q (nI n) now rt tr C ah w mx rd ct g h) sz) := by
  refine mu_start (Qc := QI (σ := Int32 × Int32 × (Nat → Int32) × (Nat → Int32)) D (fun r u => (r, u) = readF rd ct g h a0 b0 v0) (fun u => (xW y q (nI n) now rt tr C ah w mx u.1 u.2.1 u.2.2.1 u.2.2.2))) (cc := cX4_read) (maxL := 4) (ret := (some .int)) (by decide) rfl (Nat.le_of_ble_eq_true rfl) ?_
  intro p e s m below meth c ls A hx hb hr hml hown hlocks hts hnm hA hP hK hN hD hE hAA hsz hl
  have hS : va_S A s.heap s.heap [] := va_S.rf
  have hown : s.vm.findClass RX4 = some m.cls := hown
  have F : CallFix p m c cX4_read 4 s [.ref (q 0), .int a0, .int b0, .int v0].toArray wsX4_read RX4 := ⟨hx, hb, hml, hown, hts⟩
  have hl : lv_has ls 4 [(0, .ref (q 0)), (1, .int a0), (2, .int b0), (3, .int v0)] := hl
  have iX2 : ∀ w ∈ u_ws RX2 TX2 4, w ∈ wsX4_read := mem_pl [40, 41, 42, 43] rfl
  have iX4 : ∀ w ∈ u_ws RX4 TX4 9, w ∈ wsX4_read := mem_pl [31, 32, 33, 34, 35, 36, 37, 38, 39] rfl
  refine lv_iload_n hx hb dX4_read_0 rfl (lv_at hl 1 rfl) ?_
  refine ro_i (va_runS (As := [.int a0]) (rest := []) F (kX4_isNose l a0) (va_cwS 1 hts gX4_read_X4_isNose rfl rfl rfl hdX4_isNose ⟨(Nat.le_of_ble_eq_true rfl), (Nat.le_of_ble_eq_true rfl)⟩) ⟨tr_blind, tr_pre⟩ rfl rfl hl.1 rfl (lv_room (Nat.le_of_ble_eq_true rfl)) dX4_read_1 ⟨Nat.zero_le _, Nat.zero_le _⟩) ?_
  refine lv_if_eq (tgt := 27) hx hb dX4_read_4 (by decide) (fun c_1 => ?_) (fun c_1 => ?_)
  · skip
    have c_1 := zI_0 c_1
    refine lv_iconst (v := (-1)) hx hb dX4_read_27 (by decide) ?_
    exact mu_iret (rd, ct, g, h) hx hb hr hlocks hP hD hS dX4_read_28 (by simp [readF, c_1])
  · skip
    have c_1 := zI_1 c_1
    obtain ⟨a, hza, rfl⟩ := inR_of (k := 5) (by decide) (by decide) c_1
    have ea : (nI a).toNatClampNeg = a := nI_clamp (by omega)
    refine lv_iload_n hx hb dX4_read_7 rfl (lv_at hl 2 rfl) ?_
    refine lv_iconst (v := 0) hx hb dX4_read_8 (by decide) ?_
    refine lv_bipush (v := 9) hx hb dX4_read_9 (by decide) ?_
    refine ro_i (va_runS (As := [.int b0, .int 0, .int 9]) (rest := []) F (kX4_isWithin l b0 0 9) (va_cwS 3 hts gX4_read_X4_isWithin rfl rfl rfl hdX4_isWithin ⟨(Nat.le_of_ble_eq_true rfl), (Nat.le_of_ble_eq_true rfl)⟩) ⟨tr_blind, tr_pre⟩ rfl rfl hl.1 rfl (lv_room (Nat.le_of_ble_eq_true rfl)) dX4_read_11 ⟨Nat.zero_le _, Nat.zero_le _⟩) ?_
    refine lv_if_eq (tgt := 27) hx hb dX4_read_14 (by decide) (fun c_2 => ?_) (fun c_2 => ?_)
    · skip
      have c_2 := zI_0 c_2
      refine lv_iconst (v := (-1)) hx hb dX4_read_27 (by decide) ?_
      exact mu_iret (rd, ct, g, h) hx hb hr hlocks hP hD hS dX4_read_28 (by simp [readF, c_1, ea, c_2])
    · skip
      have c_2 := zI_1 c_2
      obtain ⟨b, hzb, rfl⟩ := inR_of (k := 9) (by decide) (by decide) c_2
      have eb : (nI b).toNatClampNeg = b := nI_clamp (by omega)
      refine lv_iload_n hx hb dX4_read_17 rfl (lv_at hl 3 rfl) ?_
      refine lv_iconst (v := 0) hx hb dX4_read_18 (by decide) ?_
      refine lv_bipush (v := 99) hx hb dX4_read_19 (by decide) ?_
      refine ro_i (va_runS (As := [.int v0, .int 0, .int 99]) (rest := []) F (kX4_isWithin l v0 0 99) (va_cwS 3 hts gX4_read_X4_isWithin rfl rfl rfl hdX4_isWithin ⟨(Nat.le_of_ble_eq_true rfl), (Nat.le_of_ble_eq_true rfl)⟩) ⟨tr_blind, tr_pre⟩ rfl rfl hl.1 rfl (lv_room (Nat.le_of_ble_eq_true rfl)) dX4_read_21 ⟨Nat.zero_le _, Nat.zero_le _⟩) ?_
      refine lv_if_ne (tgt := 29) hx hb dX4_read_24 (by decide) (fun c_3 => ?_) (fun c_3 => ?_)
      · skip
        have c_3 := zI_1 c_3
        refine lv_aload_n hx hb dX4_read_29 rfl (lv_at hl 0 rfl) ?_
        refine va_get (D := D) (ci := 4) (v := .ref (q 6)) (C := RX4) (T := TX4) (N := 9) hx hb hts iX4 hown hK hP 0 rfl rfl 4 (by decide) (hts _ (List.mem_of_getElem? (i := 1) rfl)) (fun _ h9 => h9) rfl dX4_read_30 ?_
        refine va_get (D := D) (ci := 2) (v := .int rd) (C := RX2) (T := TX2) (N := 4) hx hb hts iX2 hown hK hP 6 rfl rfl 2 (by decide) (hts _ (List.mem_of_getElem? (i := 2) rfl)) (fun _ h9 => h9) rfl dX4_read_33 ?_
        refine lv_bipush (v := 30) hx hb dX4_read_36 (by decide) ?_
        refine lv_icmp_lt (tgt := 44) hx hb dX4_read_38 (by decide) (fun c_4 => ?_) (fun c_4 => ?_)
        · skip
          refine lv_aload_n hx hb dX4_read_44 rfl (lv_at hl 0 rfl) ?_
          refine va_get (D := D) (ci := 4) (v := .ref (q 6)) (C := RX4) (T := TX4) (N := 9) hx hb hts iX4 hown hK hP 0 rfl rfl 4 (by decide) (hts _ (List.mem_of_getElem? (i := 1) rfl)) (fun _ h9 => h9) rfl dX4_read_45 ?_
          refine lv_iload_n hx hb dX4_read_48 rfl (lv_at hl 1 rfl) ?_
          refine lv_iload_n hx hb dX4_read_49 rfl (lv_at hl 2 rfl) ?_
          refine lv_iload_n hx hb dX4_read_50 rfl (lv_at hl 3 rfl) ?_
          refine mu_v (X := (xHead y q (nI n) now rt tr ah w mx)) (Y := (sW y q rd ct g h)) (Z := xPool q C) (va_runV (As := [.int (nI a), .int (nI b), .int v0]) (rest := []) F (kX2_take l D y q rd ct g h a b v0 _ (by omega) (by omega)) (cwV 3 hts gX4_read_X2_take rfl rfl rfl ⟨rfl, hdX2_take⟩ ⟨(Nat.le_of_ble_eq_true rfl), (Nat.le_of_ble_eq_true rfl)⟩) ⟨(muB_blind (fun _ _ _ _ _ => trivial)), va_recv hK hP (ci := 2) (q0 := 6) rfl rfl, muB_pre (X := (xHead y q (nI n) now rt tr ah w mx)) (Y := (sW y q rd ct g h)) (Z := xPool q C) hP (hK.sub [3, 4] rfl) hN hD (fun _ _ _ => trivial)⟩ rfl rfl hl.1 rfl (lv_room (Nat.le_of_ble_eq_true rfl)) dX4_read_51 ⟨Nat.zero_le _, Nat.zero_le _⟩) hP hD hS hA (fun u_6 H locs w_7 hP hD hS => ?_)
          subst w_7
          have hP : va_P D vwCl (xW y q (nI n) now rt tr C ah w mx (rd + 1) ((takeF rd ct g h a b v0).1) ((takeF rd ct g h a b v0).2.1) ((takeF rd ct g h a b v0).2.2)) H := hP
          have hD : va_D A (xW y q (nI n) now rt tr C ah w mx (rd + 1) ((takeF rd ct g h a b v0).1) ((takeF rd ct g h a b v0).2.1) ((takeF rd ct g h a b v0).2.2)) := hD
          refine lv_aload_n hx hb dX4_read_54 rfl (lv_at hl 0 rfl) ?_
          refine va_get (D := D) (ci := 4) (v := .ref (q 6)) (C := RX4) (T := TX4) (N := 9) hx hb hts iX4 hown hK hP 0 rfl rfl 4 (by decide) (hts _ (List.mem_of_getElem? (i := 1) rfl)) (fun _ h9 => h9) rfl dX4_read_55 ?_
          refine va_get (D := D) (ci := 2) (v := .int (rd + 1)) (C := RX2) (T := TX2) (N := 4) hx hb hts iX2 hown hK hP 6 rfl rfl 2 (by decide) (hts _ (List.mem_of_getElem? (i := 2) rfl)) (fun _ h9 => h9) rfl dX4_read_58 ?_
          exact mu_iret ((rd + 1), (takeF rd ct g h a b v0).1, (takeF rd ct g h a b v0).2.1, (takeF rd ct g h a b v0).2.2) hx hb hr hlocks hP hD hS dX4_read_61 (by simp [readF, c_1, ea, c_2, eb, c_3, c_4])
        · skip
          refine lv_bipush (v := (-3)) hx hb dX4_read_41 (by decide) ?_
          exact mu_iret (rd, ct, g, h) hx hb hr hlocks hP hD hS dX4_read_43 (by simp [readF, c_1, ea, c_2, eb, c_3, c_4])
      · skip
        have c_3 := zI_0 c_3
        refine lv_iconst (v := (-1)) hx hb dX4_read_27 (by decide) ?_
        exact mu_iret (rd, ct, g, h) hx hb hr hlocks hP hD hS dX4_read_28 (by simp [readF, c_1, ea, c_2, eb, c_3])

set_option maxHeartbeats 4000000 in
set_option maxRecDepth 100000 in
theorem kX4_clear (l : Launch) (D : va_G) (y : Nat → ClassId) (q : Nat → Nat) (n : Nat) (now rt : Int32) (tr : Int64) (C : Nat → CT) (ah w : Nat → Int32) (mx : MT) (rd ct : Int32) (g h : Nat → Int32) (sz : Nat) : Met l yX4_clear wsX4_clear ({ frames := 1, cells := 0, slots := 0, locals := 21 }) (va_Pc [.ref (q 0)] (muB D (xT y) (xW y q (nI n) now rt tr C ah w mx rd ct g h) sz eT)) (QI (σ := Unit) D (fun r u => r = rd) (fun u => (xW y q (nI n) now rt tr C ah w mx 0 (-9) (rG g 16) (rH h 16))) (va_A (xW y q (nI n) now rt tr C ah w mx rd ct g h) sz)) 0 0 (va_A (xW y q (nI n) now rt tr C ah w mx rd ct g h) sz) := by
  refine mu_start (Qc := QI (σ := Unit) D (fun r u => r = rd) (fun u => (xW y q (nI n) now rt tr C ah w mx 0 (-9) (rG g 16) (rH h 16)))) (cc := cX4_clear) (maxL := 2) (ret := (some .int)) (by decide) rfl (Nat.le_of_ble_eq_true rfl) ?_
  intro p e s m below meth c ls A hx hb hr hml hown hlocks hts hnm hA hP hK hN hD hE hAA hsz hl
  have hS : va_S A s.heap s.heap [] := va_S.rf
  have hown : s.vm.findClass RX4 = some m.cls := hown
  have F : CallFix p m c cX4_clear 2 s [.ref (q 0)].toArray wsX4_clear RX4 := ⟨hx, hb, hml, hown, hts⟩
  have hl : lv_has ls 2 [(0, .ref (q 0))] := hl
  have iX2 : ∀ w ∈ u_ws RX2 TX2 4, w ∈ wsX4_clear := mem_pl [21, 22, 23, 24] rfl
  have iX4 : ∀ w ∈ u_ws RX4 TX4 9, w ∈ wsX4_clear := mem_pl [12, 13, 14, 15, 16, 17, 18, 19, 20] rfl
  refine lv_aload_n hx hb dX4_clear_0 rfl (lv_at hl 0 rfl) ?_
  refine va_get (D := D) (ci := 4) (v := .ref (q 6)) (C := RX4) (T := TX4) (N := 9) hx hb hts iX4 hown hK hP 0 rfl rfl 4 (by decide) (hts _ (List.mem_of_getElem? (i := 1) rfl)) (fun _ h9 => h9) rfl dX4_clear_1 ?_
  refine va_get (D := D) (ci := 2) (v := .int rd) (C := RX2) (T := TX2) (N := 4) hx hb hts iX2 hown hK hP 6 rfl rfl 2 (by decide) (hts _ (List.mem_of_getElem? (i := 2) rfl)) (fun _ h9 => h9) rfl dX4_clear_4 ?_
  refine lv_istore_n (lv' := [(1, .int rd), (0, .ref (q 0))]) hx hb dX4_clear_7 rfl hl (by decide) rfl (fun ls hl => ?_)
  refine lv_aload_n hx hb dX4_clear_8 rfl (lv_at hl 1 rfl) ?_
  refine va_get (D := D) (ci := 4) (v := .ref (q 6)) (C := RX4) (T := TX4) (N := 9) hx hb hts iX4 hown hK hP 0 rfl rfl 4 (by decide) (hts _ (List.mem_of_getElem? (i := 1) rfl)) (fun _ h9 => h9) rfl dX4_clear_9 ?_
  refine mu_v (X := (xHead y q (nI n) now rt tr ah w mx)) (Y := (sW y q rd ct g h)) (Z := xPool q C) (va_runV (As := []) (rest := []) F (kX2_reset l D y q rd ct g h _) (cwV 0 hts gX4_clear_X2_reset rfl rfl rfl ⟨rfl, hdX2_reset⟩ ⟨(Nat.le_of_ble_eq_true rfl), (Nat.le_of_ble_eq_true rfl)⟩) ⟨(muB_blind (fun _ _ _ _ _ => trivial)), va_recv hK hP (ci := 2) (q0 := 6) rfl rfl, muB_pre (X := (xHead y q (nI n) now rt tr ah w mx)) (Y := (sW y q rd ct g h)) (Z := xPool q C) hP (hK.sub [3, 4] rfl) hN hD (fun _ _ _ => trivial)⟩ rfl rfl hl.1 rfl (lv_room (Nat.le_of_ble_eq_true rfl)) dX4_clear_12 ⟨Nat.zero_le _, Nat.zero_le _⟩) hP hD hS hA (fun u_2 H locs w_3 hP hD hS => ?_)
  have hP : va_P D vwCl (xW y q (nI n) now rt tr C ah w mx 0 (-9) (rG g 16) (rH h 16)) H := hP
  have hD : va_D A (xW y q (nI n) now rt tr C ah w mx 0 (-9) (rG g 16) (rH h 16)) := hD
  refine lv_iload_n hx hb dX4_clear_15 rfl (lv_at hl 0 rfl) ?_
  exact mu_iret () hx hb hr hlocks hP hD hS dX4_clear_16 rfl

set_option maxHeartbeats 4000000 in
set_option maxRecDepth 100000 in
theorem kX4_hang (l : Launch) (D : va_G) (y : Nat → ClassId) (q : Nat → Nat) (n : Nat) (now rt : Int32) (tr : Int64) (C : Nat → CT) (ah w : Nat → Int32) (mx : MT) (rd ct : Int32) (g h : Nat → Int32) (a0 : Int32) (b0 : Int32) (w0 : Int32) : Met l yX4_hang wsX4_hang ({ frames := 2, cells := 0, slots := 0, locals := 42 }) (va_Pc [.ref (q 0), .int a0, .int b0, .int w0] (rdB D (xT y) (xW y q (nI n) now rt tr C ah w mx rd ct g h))) (vp_Si (fun x => x = (hangX g h a0 b0 w0))) 0 0 nF := by
  refine ro_start (cc := cX4_hang) (maxL := 5) (ret := (some .int)) (by decide) rfl (Nat.le_of_ble_eq_true rfl) ?_
  intro p e s m below meth c ls hx hb hr hml hown hlocks hts hnm hB hl
  obtain ⟨hP, hK, hN⟩ := hB
  have hown : s.vm.findClass RX4 = some m.cls := hown
  have F : CallFix p m c cX4_hang 5 s [.ref (q 0), .int a0, .int b0, .int w0].toArray wsX4_hang RX4 := ⟨hx, hb, hml, hown, hts⟩
  have hl : lv_has ls 5 [(0, .ref (q 0)), (1, .int a0), (2, .int b0), (3, .int w0)] := hl
  have iX2 : ∀ w ∈ u_ws RX2 TX2 4, w ∈ wsX4_hang := mem_pl [27, 28, 29, 30] rfl
  have iX4 : ∀ w ∈ u_ws RX4 TX4 9, w ∈ wsX4_hang := mem_pl [18, 19, 20, 21, 22, 23, 24, 25, 26] rfl
  refine lv_iload_n hx hb dX4_hang_0 rfl (lv_at hl 1 rfl) ?_
  refine ro_i (va_runS (As := [.int a0]) (rest := []) F (kX4_isNose l a0) (va_cwS 1 hts gX4_hang_X4_isNose rfl rfl rfl hdX4_isNose ⟨(Nat.le_of_ble_eq_true rfl), (Nat.le_of_ble_eq_true rfl)⟩) ⟨tr_blind, tr_pre⟩ rfl rfl hl.1 rfl (lv_room (Nat.le_of_ble_eq_true rfl)) dX4_hang_1 ⟨Nat.zero_le _, Nat.zero_le _⟩) ?_
  refine lv_if_eq (tgt := 23) hx hb dX4_hang_4 (by decide) (fun c_1 => ?_) (fun c_1 => ?_)
  · skip
    have c_1 := zI_0 c_1
    refine lv_ldc (v := (-1000001)) hx hb hown (hts _ (List.mem_of_getElem? (i := 1) rfl)) dX4_hang_23 ?_
    exact ro_iret hx hb hr hlocks dX4_hang_25 (by simp [hangX, zI, (by decide : inR 0 0 1 = true), c_1])
  · skip
    have c_1 := zI_1 c_1
    obtain ⟨a, hza, rfl⟩ := inR_of (k := 5) (by decide) (by decide) c_1
    have ea : (nI a).toNatClampNeg = a := nI_clamp (by omega)
    refine lv_iload_n hx hb dX4_hang_7 rfl (lv_at hl 2 rfl) ?_
    refine ro_i (va_runS (As := [.int b0]) (rest := []) F (kX4_isNose l b0) (va_cwS 1 hts gX4_hang_X4_isNose rfl rfl rfl hdX4_isNose ⟨(Nat.le_of_ble_eq_true rfl), (Nat.le_of_ble_eq_true rfl)⟩) ⟨tr_blind, tr_pre⟩ rfl rfl hl.1 rfl (lv_room (Nat.le_of_ble_eq_true rfl)) dX4_hang_8 ⟨Nat.zero_le _, Nat.zero_le _⟩) ?_
    refine lv_if_eq (tgt := 23) hx hb dX4_hang_11 (by decide) (fun c_2 => ?_) (fun c_2 => ?_)
    · skip
      have c_2 := zI_0 c_2
      refine lv_ldc (v := (-1000001)) hx hb hown (hts _ (List.mem_of_getElem? (i := 1) rfl)) dX4_hang_23 ?_
      exact ro_iret hx hb hr hlocks dX4_hang_25 (by simp [hangX, zI, (by decide : inR 0 0 1 = true), c_1, ea, c_2])
    · skip
      have c_2 := zI_1 c_2
      obtain ⟨b, hzb, rfl⟩ := inR_of (k := 5) (by decide) (by decide) c_2
      have eb : (nI b).toNatClampNeg = b := nI_clamp (by omega)
      refine lv_iload_n hx hb dX4_hang_14 rfl (lv_at hl 3 rfl) ?_
      refine lv_iconst (v := 0) hx hb dX4_hang_15 (by decide) ?_
      refine lv_iconst (v := 1) hx hb dX4_hang_16 (by decide) ?_
      refine ro_i (va_runS (As := [.int w0, .int 0, .int 1]) (rest := []) F (kX4_isWithin l w0 0 1) (va_cwS 3 hts gX4_hang_X4_isWithin rfl rfl rfl hdX4_isWithin ⟨(Nat.le_of_ble_eq_true rfl), (Nat.le_of_ble_eq_true rfl)⟩) ⟨tr_blind, tr_pre⟩ rfl rfl hl.1 rfl (lv_room (Nat.le_of_ble_eq_true rfl)) dX4_hang_17 ⟨Nat.zero_le _, Nat.zero_le _⟩) ?_
      refine lv_if_ne (tgt := 26) hx hb dX4_hang_20 (by decide) (fun c_3 => ?_) (fun c_3 => ?_)
      · skip
        have c_3 := zI_1 c_3
        refine lv_aload_n hx hb dX4_hang_26 rfl (lv_at hl 0 rfl) ?_
        refine va_get (D := D) (ci := 4) (v := .ref (q 6)) (C := RX4) (T := TX4) (N := 9) hx hb hts iX4 hown hK hP 0 rfl rfl 4 (by decide) (hts _ (List.mem_of_getElem? (i := 2) rfl)) (fun _ h9 => h9) rfl dX4_hang_27 ?_
        refine lv_iload_n hx hb dX4_hang_30 rfl (lv_at hl 1 rfl) ?_
        refine lv_iload_n hx hb dX4_hang_31 rfl (lv_at hl 2 rfl) ?_
        refine ro_i (va_runV (As := [.int (nI a), .int (nI b)]) (rest := []) F (kX2_ties l D y q rd ct g h a b (by omega) (by omega)) (cwV 2 hts gX4_hang_X2_ties rfl rfl rfl ⟨rfl, hdX2_ties⟩ ⟨(Nat.le_of_ble_eq_true rfl), (Nat.le_of_ble_eq_true rfl)⟩) ⟨rdB_blind, va_recv hK hP (ci := 2) (q0 := 6) rfl rfl, rdB_pre (hP.sub [6, 7, 8] rfl) (hK.sub [3, 4] rfl) hN⟩ rfl rfl hl.1 rfl (lv_room (Nat.le_of_ble_eq_true rfl)) dX4_hang_32 ⟨Nat.zero_le _, Nat.zero_le _⟩) ?_
        refine lv_istore (lv' := [(4, .int (zI (decide (g a = g b)))), (0, .ref (q 0)), (1, .int (nI a)), (2, .int (nI b)), (3, .int w0)]) hx hb dX4_hang_35 hl (by decide) rfl (fun ls hl => ?_)
        refine lv_iload_n hx hb dX4_hang_37 rfl (lv_at hl 4 rfl) ?_
        refine lv_if_ne (tgt := 52) hx hb dX4_hang_38 (by decide) (fun c_4 => ?_) (fun c_4 => ?_)
        · skip
          refine lv_iload hx hb dX4_hang_52 (lv_at hl 0 rfl) ?_
          refine lv_if_eq (tgt := 79) hx hb dX4_hang_54 (by decide) (fun c_5 => ?_) (fun c_5 => ?_)
          · skip
            have c_5 := zI_0 c_5
            have c_5 := of_decide_eq_false c_5
            refine lv_ldc (v := (-1000000)) hx hb hown (hts _ (List.mem_of_getElem? (i := 4) rfl)) dX4_hang_79 ?_
            exact ro_iret hx hb hr hlocks dX4_hang_81 (by simp [hangX, zI, (by decide : inR 0 0 1 = true), c_1, ea, c_2, eb, c_3, c_4, c_5])
          · skip
            have c_5 := zI_1 c_5
            have c_5 := of_decide_eq_true c_5
            refine lv_aload_n hx hb dX4_hang_57 rfl (lv_at hl 1 rfl) ?_
            refine va_get (D := D) (ci := 4) (v := .ref (q 6)) (C := RX4) (T := TX4) (N := 9) hx hb hts iX4 hown hK hP 0 rfl rfl 4 (by decide) (hts _ (List.mem_of_getElem? (i := 2) rfl)) (fun _ h9 => h9) rfl dX4_hang_58 ?_
            refine va_get (D := D) (ci := 2) (v := .ref (q 8)) (C := RX2) (T := TX2) (N := 4) hx hb hts iX2 hown hK hP 6 rfl rfl 1 (by decide) (hts _ (List.mem_of_getElem? (i := 3) rfl)) (fun _ h9 => h9) rfl dX4_hang_61 ?_
            refine lv_iload_n hx hb dX4_hang_64 rfl (lv_at hl 2 rfl) ?_
            refine wa_iald hx hb hK hP 8 4 rfl rfl a rfl (by omega) (by decide) dX4_hang_65 ?_
            refine lv_aload_n hx hb dX4_hang_66 rfl (lv_at hl 1 rfl) ?_
            refine va_get (D := D) (ci := 4) (v := .ref (q 6)) (C := RX4) (T := TX4) (N := 9) hx hb hts iX4 hown hK hP 0 rfl rfl 4 (by decide) (hts _ (List.mem_of_getElem? (i := 2) rfl)) (fun _ h9 => h9) rfl dX4_hang_67 ?_
            refine va_get (D := D) (ci := 2) (v := .ref (q 8)) (C := RX2) (T := TX2) (N := 4) hx hb hts iX2 hown hK hP 6 rfl rfl 1 (by decide) (hts _ (List.mem_of_getElem? (i := 3) rfl)) (fun _ h9 => h9) rfl dX4_hang_70 ?_
            refine lv_iload_n hx hb dX4_hang_73 rfl (lv_at hl 3 rfl) ?_
            refine wa_iald hx hb hK hP 8 4 rfl rfl b rfl (by omega) (by decide) dX4_hang_74 ?_
            refine lv_isub hx hb dX4_hang_75 ?_
            refine lv_goto (tgt := 81) hx hb dX4_hang_76 (by decide) ?_
            exact ro_iret hx hb hr hlocks dX4_hang_81 (by simp [hangX, zI, (by decide : inR 0 0 1 = true), c_1, ea, c_2, eb, c_3, c_4, c_5])
        · skip
          refine lv_iload hx hb dX4_hang_41 (lv_at hl 0 rfl) ?_
          refine lv_if_eq (tgt := 50) hx hb dX4_hang_43 (by decide) (fun c_6 => ?_) (fun c_6 => ?_)
          · skip
            have c_6 := zI_0 c_6
            have c_6 := of_decide_eq_false c_6
            refine lv_iconst (v := 0) hx hb dX4_hang_50 (by decide) ?_
            exact ro_iret hx hb hr hlocks dX4_hang_51 (by simp [hangX, zI, (by decide : inR 0 0 1 = true), c_1, ea, c_2, eb, c_3, c_4, c_6])
          · skip
            have c_6 := zI_1 c_6
            have c_6 := of_decide_eq_true c_6
            refine lv_iconst (v := 1) hx hb dX4_hang_46 (by decide) ?_
            refine lv_goto (tgt := 51) hx hb dX4_hang_47 (by decide) ?_
            exact ro_iret hx hb hr hlocks dX4_hang_51 (by simp [hangX, zI, (by decide : inR 0 0 1 = true), c_1, ea, c_2, eb, c_3, c_4, c_6])
      · skip
        have c_3 := zI_0 c_3
        refine lv_ldc (v := (-1000001)) hx hb hown (hts _ (List.mem_of_getElem? (i := 1) rfl)) dX4_hang_23 ?_
        exact ro_iret hx hb hr hlocks dX4_hang_25 (by simp [hangX, zI, (by decide : inR 0 0 1 = true), c_1, ea, c_2, eb, c_3])
