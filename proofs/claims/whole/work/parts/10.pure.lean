/-! plain facts: a cask's numbers, a year -/
theorem i_ps1000 (a : Int32) : a + 1000 - 1 = a + 999 := by rw [Int32.sub_eq_add_neg, Int32.add_assoc]; rfl
theorem i_ps100 (a : Int32) : a + 100 - 1 = a + 99 := by rw [Int32.sub_eq_add_neg, Int32.add_assoc]; rfl
theorem i_ps10 (a : Int32) : a + 10 - 1 = a + 9 := by rw [Int32.sub_eq_add_neg, Int32.add_assoc]; rfl
theorem lost_eq (d l : Int32) : lostX d l = (d * l + 999) / 1000 := by
  unfold lostX dUp; rw [if_neg (by decide), i_ps1000]
theorem cost_eq (c : CT) (now : Int32) : costX c now = (c_dr c * (20 + 3 * (now - c_la c)) + 99) / 100 := by
  unfold costX dUp; rw [if_neg (by decide), i_ps100, Int32.mul_comm]
theorem dUp10 (a : Int32) : dUp a 10 = (a + 9) / 10 := by
  unfold dUp; rw [if_neg (by decide), i_ps10]
def lossM (k f y : Int32) : Int32 :=
  if k < 2 then (if 0 < k then 3 * (15 + 5 * f + (if y < 10 then 20 - 2 * y else 0)) / 4 else 15 + 5 * f + (if y < 10 then 20 - 2 * y else 0))
  else if 5 < (if 0 < k then 3 * (15 + 5 * f + (if y < 10 then 20 - 2 * y else 0)) / 4 else 15 + 5 * f + (if y < 10 then 20 - 2 * y else 0)) then (if 0 < k then 3 * (15 + 5 * f + (if y < 10 then 20 - 2 * y else 0)) / 4 else 15 + 5 * f + (if y < 10 then 20 - 2 * y else 0)) - 4 else 1
theorem loss_eq : ∀ k, k < 3 → ∀ f, f < 4 → ∀ y, y < 91 → lossM (nI k) (nI f) (nI y) = lossX (nI k) (nI f) (nI y) := by decide +kernel
theorem loss_rng : ∀ k, k < 3 → ∀ f, f < 4 → ∀ y, y < 91 → lossX (nI k) (nI f) (nI y) = nI (lossX (nI k) (nI f) (nI y)).toNatClampNeg ∧ 1 ≤ (lossX (nI k) (nI f) (nI y)).toNatClampNeg ∧ (lossX (nI k) (nI f) (nI y)).toNatClampNeg ≤ 50 := by decide +kernel
theorem oak_eq : ∀ l, l < 51 → (if 10 < nI l then nI l - 10 else 0) = mxI 0 (nI l - 10) ∧ mxI 0 (nI l - 10) = nI (l - 10) := by decide +kernel
theorem str_eq : ∀ s, s < 701 → 400 ≤ s → (if 403 < nI s then nI s - 3 else 400) = mxI 400 (nI s - 3) ∧ mxI 400 (nI s - 3) = nI (max 400 (s - 3)) := by decide +kernel
def okC (t : Nat) (c : CT) : Prop := ∃ kd dr sg fl ok sm sw la : Nat, c = (nI kd, nI dr, nI sg, nI fl, nI ok, nI sm, nI sw, nI la) ∧ kd ≤ 2 ∧ dr ≤ 9000 ∧ 400 ≤ sg ∧ sg ≤ 700 ∧ fl ≤ 3 ∧ ok ≤ 40 * t ∧ sm ≤ 500 ∧ sw ≤ 6 * t ∧ la ≤ t
abbrev c00 : CT := (0, 0, 0, 0, 0, 0, 0, 0)
def INV (n t : Nat) (C : Nat → CT) : Prop := n ≤ 12 ∧ t ≤ 60 ∧ (∀ i, i < n → okC t (C i)) ∧ (∀ i, n ≤ i → C i = c00) ∧ (∀ i j, i ≤ j → j < n → c_la (C i) ≤ c_la (C j))
theorem lossC_at {kd dr sg fl ok sm sw la t : Nat} (h : la ≤ t) : lossC (nI kd, nI dr, nI sg, nI fl, nI ok, nI sm, nI sw, nI la) (nI t) = lossX (nI kd) (nI fl) (nI (t - la)) := by
  rw [← pk_sub h]; rfl
theorem lossC_eq {t : Nat} {c : CT} (h : okC t c) {t' : Nat} (h1 : t ≤ t') (h2 : t' ≤ 90) : lossM (c_kd c) (c_fl c) (nI t' - c_la c) = lossC c (nI t') ∧ ∃ l : Nat, lossC c (nI t') = nI l ∧ 1 ≤ l ∧ l ≤ 50 := by
  obtain ⟨kd, dr, sg, fl, ok, sm, sw, la, rfl, g1, g2, g3, g4, g5, g6, g7, g8, g9⟩ := h
  have hla : la ≤ t' := by omega
  have e1 := loss_eq kd (by omega) fl (by omega) (t' - la) (by omega)
  have e2 := loss_rng kd (by omega) fl (by omega) (t' - la) (by omega)
  rw [lossC_at hla]
  generalize lossX (nI kd) (nI fl) (nI (t' - la)) = X at e1 e2
  refine ⟨?_, X.toNatClampNeg, e2⟩
  rw [← e1, ← pk_sub hla]
theorem lost_nat {d l : Nat} (hd : d ≤ 9000) (hl : l ≤ 50) : lostX (nI d) (nI l) = nI ((d * l + 999) / 1000) := by
  have hm : d * l ≤ 9000 * 50 := Nat.mul_le_mul hd hl
  rw [lost_eq, pk_mul, show (999 : Int32) = nI 999 from rfl, show (1000 : Int32) = nI 1000 from rfl, nI_add, pk_div (by omega) (by decide) (by decide)]
theorem lost_le {d l : Nat} (hl : l ≤ 50) : (d * l + 999) / 1000 ≤ d := by
  have hm : d * l ≤ d * 50 := Nat.mul_le_mul (Nat.le_refl _) hl
  omega
/-- a cask's year keeps its numbers in their spans -/
theorem yearC_ok {t : Nat} {c : CT} (h : okC t c) (ht : t ≤ 60) : okC (t + 1) (yearC c (nI t)) ∧ c_la (yearC c (nI t)) = c_la c := by
  obtain ⟨-, l, hl, hl1, hl2⟩ := lossC_eq h (Nat.le_refl t) (by omega)
  obtain ⟨kd, dr, sg, fl, ok, sm, sw, la, rfl, g1, g2, g3, g4, g5, g6, g7, g8, g9⟩ := h
  refine ⟨⟨kd, dr - (dr * l + 999) / 1000, max 400 (sg - 3), fl, ok + (l - 10), sm - (sm + 9) / 10, sw + (6 - 2 * kd), la, ?_, g1, by omega, by omega, by omega, g5, by omega, by omega, by omega, by omega⟩, rfl⟩
  unfold yearC
  rw [hl]
  show (nI kd, nI dr - lostX (nI dr) (nI l), mxI 400 (nI sg - 3), nI fl, nI ok + mxI 0 (nI l - 10), nI sm - dUp (nI sm) 10, nI sw + (6 - 2 * nI kd), nI la) = _
  rw [lost_nat g2 hl2, pk_sub (lost_le hl2), (str_eq sg (by omega) g3).2, (oak_eq l (by omega)).2, nI_add, dUp10, show (9 : Int32) = nI 9 from rfl, show (10 : Int32) = nI 10 from rfl, nI_add, pk_div (by omega) (by decide) (by decide), pk_sub (by omega), show (6 : Int32) = nI 6 from rfl, show (2 : Int32) = nI 2 from rfl, pk_mul, pk_sub (by omega), nI_add]
theorem okC_up {t : Nat} {c : CT} (h : okC t c) : okC (t + 1) c := by
  obtain ⟨kd, dr, sg, fl, ok, sm, sw, la, rfl, g1, g2, g3, g4, g5, g6, g7, g8, g9⟩ := h
  exact ⟨kd, dr, sg, fl, ok, sm, sw, la, rfl, g1, g2, g3, g4, g5, by omega, g7, by omega, by omega⟩
theorem INV_year {n t : Nat} {C : Nat → CT} (h : INV n t C) (ht : t + 1 ≤ 60) : INV n (t + 1) (yrC C (nI t) n) := by
  obtain ⟨h1, h2, h3, h4, h5⟩ := h
  have hla : ∀ i, i < n → c_la (yrC C (nI t) n i) = c_la (C i) := by
    intro i hi
    unfold yrC
    rw [if_pos hi]
    split
    · rfl
    · exact (yearC_ok (h3 i hi) (by omega)).2
  refine ⟨h1, ht, ?_, ?_, ?_⟩
  · intro i hi
    unfold yrC
    rw [if_pos hi]
    split
    · exact okC_up (h3 i hi)
    · exact (yearC_ok (h3 i hi) (by omega)).1
  · intro i hi
    unfold yrC
    rw [if_neg (Nat.not_lt.mpr hi)]; exact h4 i hi
  · intro i j hij hj
    rw [hla i (by omega), hla j hj]; exact h5 i j hij hj
theorem yrs_s (n : Nat) (now : Int32) (C : Nat → CT) (i : Nat) : yrs n now C (i + 1) = ((yrs n now C i).1 + 1, yrC (yrs n now C i).2 (yrs n now C i).1 n) := rfl
theorem INV_yrs {n t : Nat} {C : Nat → CT} (h : INV n t C) : ∀ i, t + i ≤ 60 → (yrs n (nI t) C i).1 = nI (t + i) ∧ INV n (t + i) (yrs n (nI t) C i).2 := by
  intro i
  induction i with
  | zero => intro _; exact ⟨rfl, h⟩
  | succ i ih =>
    intro hi
    obtain ⟨a, b⟩ := ih (by omega)
    rw [yrs_s]
    refine ⟨?_, ?_⟩
    · show (yrs n (nI t) C i).1 + 1 = _
      rw [a, nI_1]; rfl
    · show INV n (t + i + 1) (yrC (yrs n (nI t) C i).2 (yrs n (nI t) C i).1 n)
      rw [a]; exact INV_year b (by omega)
theorem in_nat {x : Int32} {a b : Nat} (ha : a < 2 ^ 20) (hb : b < 2 ^ 20) (h : inR x (nI a) (nI b) = true) : ∃ j : Nat, a ≤ j ∧ j ≤ b ∧ x = nI j := by
  unfold inR at h
  rw [Bool.and_eq_true, decide_eq_true_eq, decide_eq_true_eq, Int32.le_iff_toInt_le, Int32.le_iff_toInt_le, nI_toInt (by omega), nI_toInt (by omega)] at h
  have k2 : (0 : Int32).toInt = 0 := rfl
  obtain ⟨j, hj, e⟩ := nI_of (x := x) (by rw [Int32.lt_iff_toInt_lt, k2]; omega)
  rw [e, nI_toInt hj] at h
  exact ⟨j, by omega, by omega, e⟩
theorem INV_set {n t : Nat} {C : Nat → CT} (h : INV n t C) {j : Nat} (hj : j < n) {c : CT} (hc : okC t c) (hla : c_la c = c_la (C j)) : INV n t (va_up C j c) := by
  obtain ⟨h1, h2, h3, h4, h5⟩ := h
  have hl : ∀ i, c_la (va_up C j c i) = c_la (C i) := fun i => by
    rw [va_ap]; split
    · next e => rw [e]; exact hla
    · rfl
  refine ⟨h1, h2, fun i hi => ?_, fun i hi => ?_, fun i k hik hk => ?_⟩
  · rw [va_ap]; split
    · exact hc
    · exact h3 i hi
  · rw [va_ap, if_neg (by omega)]; exact h4 i hi
  · rw [hl, hl]; exact h5 i k hik hk
theorem INV_lay {n t : Nat} {C : Nat → CT} (h : INV n t C) (hn : n < 12) {k d s f m : Int32} (hk : inR k 0 2 = true) (hd : inR d 1 9000 = true) (hs : inR s 400 700 = true) (hf : inR f 0 3 = true) (hm : inR m 0 500 = true) : INV (n + 1) t (va_up C n (k, d, s, f, c_ok (C n), m, c_sw (C n), nI t)) := by
  obtain ⟨h1, h2, h3, h4, h5⟩ := h
  obtain ⟨k', a1, a2, rfl⟩ := in_nat (a := 0) (b := 2) (by decide) (by decide) hk
  obtain ⟨d', b1, b2, rfl⟩ := in_nat (a := 1) (b := 9000) (by decide) (by decide) hd
  obtain ⟨s', e1, e2, rfl⟩ := in_nat (a := 400) (b := 700) (by decide) (by decide) hs
  obtain ⟨f', g1, g2, rfl⟩ := in_nat (a := 0) (b := 3) (by decide) (by decide) hf
  obtain ⟨m', i1, i2, rfl⟩ := in_nat (a := 0) (b := 500) (by decide) (by decide) hm
  refine ⟨hn, h2, fun i hi => ?_, fun i hi => ?_, fun i j hij hj => ?_⟩
  · rw [va_ap]; split
    · refine ⟨k', d', s', f', 0, m', 0, t, ?_, a2, b2, e1, e2, g2, by omega, i2, by omega, Nat.le_refl _⟩
      rw [h4 n (Nat.le_refl _)]; rfl
    · exact h3 i (by omega)
  · rw [va_ap, if_neg (by omega)]; exact h4 i (by omega)
  · rw [va_ap, va_ap]
    by_cases hj2 : j = n
    · rw [if_pos hj2]
      by_cases hi2 : i = n
      · rw [if_pos hi2]; exact Int32.le_refl _
      · rw [if_neg hi2]
        obtain ⟨kd, dr, sg, fl, ok, sm, sw, la, e, q1, q2, q3, q4, q5, q6, q7, q8, q9⟩ := h3 i (by omega)
        rw [e]
        exact nI_le q9 (by omega)
    · rw [if_neg hj2, if_neg (by omega : ¬ i = n)]
      exact h5 i j hij (by omega)
