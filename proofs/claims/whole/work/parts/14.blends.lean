/-! what a set of casks is: a blend or none; its parts; the best -/
theorem sh_n : ∀ n, n < 13 → (1 : Int32) <<< (nI n &&& 31) = nI (2 ^ n) := by decide +kernel
theorem le1 {x : Int32} : 1 ≤ x ↔ 0 < x := by
  rw [Int32.le_iff_toInt_le, Int32.lt_iff_toInt_lt]
  have h1 : (1 : Int32).toInt = 1 := rfl
  have h0 : (0 : Int32).toInt = 0 := rfl
  rw [h1, h0]; omega
theorem okG_iff {n : Nat} {C : Nat → CT} {s : Int32} : okG n C s = true ↔ ∀ i, i < n → hasB s (nI i) = true → 1 ≤ c_dr (C i) := by
  induction n with
  | zero => exact ⟨fun _ i h => absurd h (Nat.not_lt_zero _), fun _ => rfl⟩
  | succ n ih =>
    have e : okG (n + 1) C s = (okG n C s && (!hasB s (nI n) || decide (1 ≤ c_dr (C n)))) := rfl
    rw [e, Bool.and_eq_true, ih]
    constructor
    · intro ⟨h1, h2⟩ i hi hp
      rcases Nat.lt_or_ge i n with h | h
      · exact h1 i h hp
      · have : i = n := by omega
        subst this
        rw [hp] at h2
        simpa using h2
    · intro h
      refine ⟨fun i hi hp => h i (by omega) hp, ?_⟩
      by_cases hp : hasB s (nI n) = true
      · rw [decide_eq_true (h n (Nat.lt_succ_self n) hp)]; exact Bool.or_true _
      · have : hasB s (nI n) = false := by simpa using hp
        rw [this]; rfl
def isBl (n : Nat) (C : Nat → CT) (s : Int32) : Bool := inR s 1 ((1 <<< (nI n &&& 31)) - 1) && okG n C s
def Sd (C : Nat → CT) (s : Int32) (n : Nat) : Nat := sN (hs s) (fun i => nt (c_dr (C i))) n
theorem bit_of {k n : Nat} (h0 : 0 < k) (hk : k < 2 ^ n) : ∃ i, i < n ∧ k.testBit i = true := by
  obtain ⟨i, hi⟩ := Nat.exists_testBit_of_ne_zero (by omega : k ≠ 0)
  refine ⟨i, ?_, hi⟩
  rcases Nat.lt_or_ge i n with h | h
  · exact h
  · have h2 : k < 2 ^ i := Nat.lt_of_lt_of_le hk (Nat.pow_le_pow_right (by decide) h)
    rw [Nat.testBit_lt_two_pow h2] at hi
    exact absurd hi (by decide)
theorem pow12 {n : Nat} (h : n ≤ 12) : 2 ^ n ≤ 4096 := Nat.pow_le_pow_right (by decide) h
theorem isS_nat {n : Nat} (hn : n ≤ 12) {s : Int32} : isS n s = true ↔ ∃ k : Nat, k < 2 ^ n ∧ s = nI k := by
  have hp := pow12 hn
  have hp0 : 0 < 2 ^ n := Nat.two_pow_pos n
  unfold isS
  rw [sh_n n (by omega), show (1 : Int32) = nI 1 from rfl, pk_sub (by omega)]
  constructor
  · intro h
    obtain ⟨j, h1, h2, e⟩ := in_nat (a := 0) (b := 2 ^ n - 1) (by omega) (by omega) h
    exact ⟨j, by omega, e⟩
  · intro ⟨k, hk, e⟩
    subst e
    unfold inR
    rw [decide_eq_true (nI_pos' (by omega)), decide_eq_true (nI_le (by omega) (by omega))]
    rfl
theorem isB_nat {n : Nat} (hn : n ≤ 12) {s : Int32} : inR s 1 ((1 <<< (nI n &&& 31)) - 1) = true ↔ ∃ k : Nat, 1 ≤ k ∧ k < 2 ^ n ∧ s = nI k := by
  have hp := pow12 hn
  have hp0 : 0 < 2 ^ n := Nat.two_pow_pos n
  rw [sh_n n (by omega), show (1 : Int32) = nI 1 from rfl, pk_sub (by omega)]
  constructor
  · intro h
    obtain ⟨j, h1, h2, e⟩ := in_nat (a := 1) (b := 2 ^ n - 1) (by omega) (by omega) h
    exact ⟨j, h1, by omega, e⟩
  · intro ⟨k, h1, hk, e⟩
    subst e
    unfold inR
    rw [decide_eq_true (nI_le h1 (by omega)), decide_eq_true (nI_le (by omega) (by omega))]
    rfl
/-- a set that is ok and holds a cask has drops -/
theorem Sd_pos {n t : Nat} {C : Nat → CT} (hI : INV n t C) {k : Nat} (h1 : 1 ≤ k) (hk : k < 2 ^ n) (hok : okG n C (nI k) = true) : 1 ≤ Sd C (nI k) n ∧ ∃ j, j < n ∧ hs (nI k) j = true := by
  have hp := pow12 hI.1
  have hn := hI.1
  obtain ⟨j, hj, hb⟩ := bit_of (by omega) hk
  have hh : hs (nI k) j = true := by show hasB (nI k) (nI j) = true; rw [has_bit (by omega) (by omega)]; exact hb
  have hd := okG_iff.mp hok j hj hh
  obtain ⟨⟨-, e2, -⟩, -⟩ := okC_nt hI.2.1 (hI.2.2.1 j hj)
  refine ⟨Nat.le_trans ?_ (sN_ge (f := fun i => nt (c_dr (C i))) hh n hj), j, hj, hh⟩
  rw [e2] at hd
  have hb2 : nt (c_dr (C j)) < 2 ^ 31 := by
    obtain ⟨-, b, -⟩ := okC_nt hI.2.1 (hI.2.2.1 j hj)
    omega
  exact (nI_leI (a := 1) (by omega) hb2).mp hd
theorem Sd_le {n t : Nat} {C : Nat → CT} (hI : INV n t C) (s : Int32) : Sd C s n ≤ 108000 := by
  have := sN_le (p := hs s) (f := fun i => nt (c_dr (C i))) (b := 9000) n (fun i hi => (okC_nt hI.2.1 (hI.2.2.1 i hi)).2.1)
  have h := hI.1
  unfold Sd
  omega
theorem g_dr {n t : Nat} {C : Nat → CT} (hI : INV n t C) (s : Int32) : m_dr (gMx n C (nI t) s) = nI (Sd C s n) := by
  rw [g_nat hI s n (Nat.le_refl n)]; rfl
theorem bOK_eq {n t : Nat} {C : Nat → CT} (hI : INV n t C) {k : Nat} (hk : k < 2 ^ n) : bOK n C (nI t) (nI k) = isBl n C (nI k) := by
  have hp := pow12 hI.1
  unfold bOK isBl
  by_cases h0 : k = 0
  · subst h0
    have e1 : inR (nI 0) 1 ((1 <<< (nI n &&& 31)) - 1) = false := by
      unfold inR; rw [decide_eq_false (by decide)]; rfl
    have e2 : Sd C (nI 0) n = 0 := by
      have : ∀ i, i ≤ n → sN (hs (nI 0)) (fun i => nt (c_dr (C i))) i = 0 := by
        intro i
        induction i with
        | zero => intro _; rfl
        | succ i ih =>
          intro hi
          show sN _ _ i + (if hasB (nI 0) (nI i) = true then _ else 0) = 0
          have hn := hI.1
          rw [ih (by omega), has_bit (by omega) (by omega), Nat.zero_testBit, if_neg (by decide)]
      exact this n (Nat.le_refl n)
    rw [g_dr hI, e1, e2, decide_eq_false (by decide)]
    cases okG n C (nI 0) <;> rfl
  · have e1 : inR (nI k) 1 ((1 <<< (nI n &&& 31)) - 1) = true := (isB_nat hI.1).mpr ⟨k, by omega, hk, rfl⟩
    rw [e1]
    cases hok : okG n C (nI k) with
    | false => rfl
    | true =>
      have h1 := (Sd_pos hI (by omega) hk hok).1
      have h2 := Sd_le hI (nI k)
      rw [g_dr hI, show decide (0 < nI (Sd C (nI k) n)) = true from decide_eq_true ((nI_ltI (a := 0) (by omega) (by omega)).mpr h1)]
theorem isBl_S {n : Nat} {C : Nat → CT} (hn : n ≤ 12) {s : Int32} (h : isBl n C s = true) : ∃ k : Nat, 1 ≤ k ∧ k < 2 ^ n ∧ s = nI k ∧ okG n C s = true := by
  unfold isBl at h
  rw [Bool.and_eq_true] at h
  obtain ⟨k, h1, h2, e⟩ := (isB_nat hn).mp h.1
  exact ⟨k, h1, h2, e, h.2⟩
theorem blend_c {n t : Nat} {C : Nat → CT} (hI : INV n t C) (s : Int32) : (isS n s = true ∧ bOK n C (nI t) s = true) ↔ isBl n C s = true := by
  constructor
  · intro ⟨h1, h2⟩
    obtain ⟨k, hk, rfl⟩ := (isS_nat hI.1).mp h1
    rw [← bOK_eq hI hk]; exact h2
  · intro h
    obtain ⟨k, h1, hk, rfl, -⟩ := isBl_S hI.1 h
    exact ⟨(isS_nat hI.1).mpr ⟨k, hk, rfl⟩, by rw [bOK_eq hI hk]; exact h⟩
/-- the parts, by the long sum -/
def ptv (p : Int32) (c : CT) : Int32 := if p = 0 then c_ok c else if p = 1 then c_sm c else if p = 2 then c_sw c else c_sg c
def ptf (C : Nat → CT) (s p : Int32) (i : Nat) (a : Int64) : Int64 := if hasB s (nI i) = true then a + (c_dr (C i)).toInt64 * (ptv p (C i)).toInt64 else a
def ptm (p : Int32) (mx : MT) : Int32 := if p = 0 then m_ok mx else if p = 1 then m_sm mx else if p = 2 then m_sw mx else m_sg mx
theorem ptf_nat {n t : Nat} {C : Nat → CT} (hI : INV n t C) (s p : Int32) (vn : Nat → Nat) (hv : ∀ i, i < n → ptv p (C i) = nI (vn i) ∧ vn i < 2 ^ 31) : ∀ i, i ≤ n → fN (ptf C s p) i 0 = lN (sN (hs s) (fun i => nt (c_dr (C i)) * vn i) i) := by
  intro i
  induction i with
  | zero => intro _; rfl
  | succ i ih =>
    intro hi
    rw [fN_s, ih (by omega)]
    unfold ptf
    show _ = lN (_ + if hasB s (nI i) = true then _ else 0)
    by_cases hp : hasB s (nI i) = true
    · rw [if_pos hp, if_pos hp]
      obtain ⟨⟨-, e2, -⟩, b1, -⟩ := okC_nt hI.2.1 (hI.2.2.1 i (by omega))
      obtain ⟨e, b⟩ := hv i (by omega)
      rw [e]
      conv => lhs; rw [e2]
      rw [nI_l (by omega), nI_l b, lN_mul, lN_add]
    · rw [if_neg hp, if_neg hp]; rfl
theorem pt_core {S d : Nat} (hS : S < 2 ^ 31) (hd : 1 ≤ d) (hd2 : d ≤ 108000) {mx : MT} (e : m_dr mx = nI d) : (lN S / (m_dr mx).toInt64).toInt32 = evX mx (nI S) ∧ ¬ (m_dr mx).toInt64 = 0 := by
  rw [e, nI_l (by omega), pk_lDiv (by omega) (by omega) (by omega), lN_i]
  refine ⟨?_, fun h => ?_⟩
  · unfold evX
    rw [e, if_neg (by rw [Int32.not_lt]; exact nI_le hd (by omega)), pk_div hS (by omega) (by omega)]
  · have := (pk_lEQ (a := d) (b := 0) (by omega) (by omega)).mp h
    omega
theorem s4 {n t : Nat} {C : Nat → CT} (hI : INV n t C) (s : Int32) (v : Nat → Nat) (b : Nat) (hv : ∀ i, i < n → v i ≤ b) (hb : b ≤ 2400) : sN (hs s) (fun i => nt (c_dr (C i)) * v i) n < 2 ^ 31 := by
  have := sN_le (p := hs s) (f := fun i => nt (c_dr (C i)) * v i) (b := 9000 * b) n (fun i hi => Nat.mul_le_mul (okC_nt hI.2.1 (hI.2.2.1 i hi)).2.1 (hv i hi))
  have h := hI.1
  have h3 : n * (9000 * b) ≤ 12 * (9000 * 2400) := Nat.mul_le_mul h (Nat.mul_le_mul (Nat.le_refl _) hb)
  omega
theorem pt_eq {n t : Nat} {C : Nat → CT} (hI : INV n t C) {s : Int32} (hd : 1 ≤ Sd C s n) (p : Int32) : (fN (ptf C s p) n 0 / (m_dr (gMx n C (nI t) s)).toInt64).toInt32 = evX (gMx n C (nI t) s) (ptm p (gMx n C (nI t) s)) ∧ ¬ (m_dr (gMx n C (nI t) s)).toInt64 = 0 := by
  have hd2 := Sd_le hI s
  have e := g_dr hI s
  have hg := g_nat hI s n (Nat.le_refl n)
  have ho : ∀ i, i < n → c_ok (C i) = nI (nt (c_ok (C i))) ∧ nt (c_ok (C i)) ≤ 2400 := fun i hi => by
    obtain ⟨⟨-, -, -, -, e5, -⟩, -, -, b3, -⟩ := okC_nt hI.2.1 (hI.2.2.1 i hi); exact ⟨e5, b3⟩
  have hm : ∀ i, i < n → c_sm (C i) = nI (nt (c_sm (C i))) ∧ nt (c_sm (C i)) ≤ 2400 := fun i hi => by
    obtain ⟨⟨-, -, -, -, -, e6, -⟩, -, -, -, b4, -⟩ := okC_nt hI.2.1 (hI.2.2.1 i hi); exact ⟨e6, by omega⟩
  have hw : ∀ i, i < n → c_sw (C i) = nI (nt (c_sw (C i))) ∧ nt (c_sw (C i)) ≤ 2400 := fun i hi => by
    obtain ⟨⟨-, -, -, -, -, -, e7, -⟩, -, -, -, -, b5, -⟩ := okC_nt hI.2.1 (hI.2.2.1 i hi); exact ⟨e7, by omega⟩
  have hg2 : ∀ i, i < n → c_sg (C i) = nI (nt (c_sg (C i))) ∧ nt (c_sg (C i)) ≤ 2400 := fun i hi => by
    obtain ⟨⟨-, -, e3, -⟩, -, b2, -⟩ := okC_nt hI.2.1 (hI.2.2.1 i hi); exact ⟨e3, by omega⟩
  by_cases p0 : p = 0
  · have h1 := ptf_nat hI s p (fun i => nt (c_ok (C i))) (fun i hi => ⟨by unfold ptv; rw [if_pos p0]; exact (ho i hi).1, by have := (ho i hi).2; omega⟩) n (Nat.le_refl n)
    have h2 : ptm p (gMx n C (nI t) s) = nI (sN (hs s) (fun i => nt (c_dr (C i)) * nt (c_ok (C i))) n) := by unfold ptm; rw [if_pos p0, hg]
    rw [h1, h2]; exact pt_core (s4 hI s _ 2400 (fun i hi => (ho i hi).2) (by omega)) hd hd2 e
  · by_cases p1 : p = 1
    · have h1 := ptf_nat hI s p (fun i => nt (c_sm (C i))) (fun i hi => ⟨by unfold ptv; rw [if_neg p0, if_pos p1]; exact (hm i hi).1, by have := (hm i hi).2; omega⟩) n (Nat.le_refl n)
      have h2 : ptm p (gMx n C (nI t) s) = nI (sN (hs s) (fun i => nt (c_dr (C i)) * nt (c_sm (C i))) n) := by unfold ptm; rw [if_neg p0, if_pos p1, hg]
      rw [h1, h2]; exact pt_core (s4 hI s _ 2400 (fun i hi => (hm i hi).2) (by omega)) hd hd2 e
    · by_cases p2 : p = 2
      · have h1 := ptf_nat hI s p (fun i => nt (c_sw (C i))) (fun i hi => ⟨by unfold ptv; rw [if_neg p0, if_neg p1, if_pos p2]; exact (hw i hi).1, by have := (hw i hi).2; omega⟩) n (Nat.le_refl n)
        have h2 : ptm p (gMx n C (nI t) s) = nI (sN (hs s) (fun i => nt (c_dr (C i)) * nt (c_sw (C i))) n) := by unfold ptm; rw [if_neg p0, if_neg p1, if_pos p2, hg]
        rw [h1, h2]; exact pt_core (s4 hI s _ 2400 (fun i hi => (hw i hi).2) (by omega)) hd hd2 e
      · have h1 := ptf_nat hI s p (fun i => nt (c_sg (C i))) (fun i hi => ⟨by unfold ptv; rw [if_neg p0, if_neg p1, if_neg p2]; exact (hg2 i hi).1, by have := (hg2 i hi).2; omega⟩) n (Nat.le_refl n)
        have h2 : ptm p (gMx n C (nI t) s) = nI (sN (hs s) (fun i => nt (c_dr (C i)) * nt (c_sg (C i))) n) := by unfold ptm; rw [if_neg p0, if_neg p1, if_neg p2, hg]
        rw [h1, h2]; exact pt_core (s4 hI s _ 2400 (fun i hi => (hg2 i hi).2) (by omega)) hd hd2 e
/-- the youngest, started one higher -/
def ygf (C : Nat → CT) (now s : Int32) (i : Nat) (v : Int32) : Int32 := if hasB s (nI i) = true then (if v ≤ now - c_la (C i) then v else now - c_la (C i)) else v
theorem ygf_nat {n t : Nat} {C : Nat → CT} (hI : INV n t C) (s : Int32) : ∀ i, i ≤ n → fN (ygf C (nI t) s) i 61 = nI (aN (hs s) (fun i => t - nt (c_la (C i))) 61 i) := by
  intro i
  induction i with
  | zero => intro _; rfl
  | succ i ih =>
    intro hi
    rw [fN_s, ih (by omega)]
    unfold ygf
    show _ = nI (if hasB s (nI i) = true then _ else _)
    obtain ⟨⟨-, -, -, -, -, -, -, e8⟩, -, -, -, -, -, b6⟩ := okC_nt hI.2.1 (hI.2.2.1 i (by omega))
    have ht := hI.2.1
    have hle := aN_le (p := hs s) (f := fun i => t - nt (c_la (C i))) (a0 := 61) i
    by_cases hp : hasB s (nI i) = true
    · rw [if_pos hp, if_pos hp]
      have e9 : nI t - c_la (C i) = nI (t - nt (c_la (C i))) := by
        conv => lhs; rw [e8]
        exact pk_sub b6
      rw [e9]
      by_cases h : aN (hs s) (fun i => t - nt (c_la (C i))) 61 i ≤ t - nt (c_la (C i))
      · rw [if_pos (nI_le h (by omega)), Nat.min_eq_left h]
      · rw [if_neg (fun h2 => h ((nI_leI (by omega) (by omega)).mp h2)), Nat.min_eq_right (Nat.le_of_lt (Nat.lt_of_not_le h))]
    · rw [if_neg hp, if_neg hp]
theorem yg_eq {n t : Nat} {C : Nat → CT} (hI : INV n t C) {s : Int32} (h : ∃ j, j < n ∧ hs s j = true) : fN (ygf C (nI t) s) n 61 = m_ag (gMx n C (nI t) s) := by
  have ht := hI.2.1
  rw [ygf_nat hI s n (Nat.le_refl n), g_nat hI s n (Nat.le_refl n)]
  have h1 := aN_start (p := hs s) (f := fun i => t - nt (c_la (C i))) (fun i => by show t - _ ≤ 60; omega) n
  show nI _ = nI (aN (hs s) (fun i => t - nt (c_la (C i))) 60 n)
  rw [h1.1, Nat.min_eq_right (h1.2 h)]
