/-! sums over a set of casks, as whole numbers -/
theorem b_sl : ∀ n, n < 32 → ((nI n &&& 31).toBitVec.smod 32).toNat = n := by decide +kernel
theorem has_bit {k i : Nat} (hk : k < 2 ^ 31) (hi : i < 32) : hasB (nI k) (nI i) = k.testBit i := by
  unfold hasB
  rw [pk_shrN hk (nI i &&& 31) i (b_sl i hi), pk_andN (n := k / 2 ^ i) (Nat.lt_of_le_of_lt (Nat.div_le_self _ _) (by omega)) 1 (by decide)]
  have h1 : (nI (k / 2 ^ i % 2 ^ 1) = 1) ↔ (k / 2 ^ i % 2 = 1) := by
    have := nI_eq (a := k / 2 ^ i % 2) (b := 1) (by omega) (by omega)
    exact this
  rw [decide_eq_decide.mpr h1, Nat.testBit_eq_decide_div_mod_eq]
def nt (x : Int32) : Nat := x.toNatClampNeg
theorem nt_nI {k : Nat} (h : k < 2 ^ 31) : nt (nI k) = k := nI_clamp h
theorem okC_nt {t : Nat} {c : CT} (ht : t ≤ 60) (h : okC t c) : (c_kd c = nI (nt (c_kd c)) ∧ c_dr c = nI (nt (c_dr c)) ∧ c_sg c = nI (nt (c_sg c)) ∧ c_fl c = nI (nt (c_fl c)) ∧ c_ok c = nI (nt (c_ok c)) ∧ c_sm c = nI (nt (c_sm c)) ∧ c_sw c = nI (nt (c_sw c)) ∧ c_la c = nI (nt (c_la c))) ∧ nt (c_dr c) ≤ 9000 ∧ nt (c_sg c) ≤ 700 ∧ nt (c_ok c) ≤ 2400 ∧ nt (c_sm c) ≤ 500 ∧ nt (c_sw c) ≤ 360 ∧ nt (c_la c) ≤ t := by
  obtain ⟨kd, dr, sg, fl, ok, sm, sw, la, rfl, g1, g2, g3, g4, g5, g6, g7, g8, g9⟩ := h
  show (nI kd = nI (nt (nI kd)) ∧ nI dr = nI (nt (nI dr)) ∧ nI sg = nI (nt (nI sg)) ∧ nI fl = nI (nt (nI fl)) ∧ nI ok = nI (nt (nI ok)) ∧ nI sm = nI (nt (nI sm)) ∧ nI sw = nI (nt (nI sw)) ∧ nI la = nI (nt (nI la))) ∧ nt (nI dr) ≤ 9000 ∧ nt (nI sg) ≤ 700 ∧ nt (nI ok) ≤ 2400 ∧ nt (nI sm) ≤ 500 ∧ nt (nI sw) ≤ 360 ∧ nt (nI la) ≤ t
  rw [nt_nI (by omega : kd < 2 ^ 31), nt_nI (by omega : dr < 2 ^ 31), nt_nI (by omega : sg < 2 ^ 31), nt_nI (by omega : fl < 2 ^ 31), nt_nI (by omega : ok < 2 ^ 31), nt_nI (by omega : sm < 2 ^ 31), nt_nI (by omega : sw < 2 ^ 31), nt_nI (by omega : la < 2 ^ 31)]
  exact ⟨⟨rfl, rfl, rfl, rfl, rfl, rfl, rfl, rfl⟩, g2, g4, by omega, g7, by omega, g9⟩
/-- the sum of f over the places below i that p picks -/
def sN (p : Nat → Bool) (f : Nat → Nat) : Nat → Nat
  | 0 => 0
  | i + 1 => sN p f i + (if p i = true then f i else 0)
theorem sN_le {p : Nat → Bool} {f : Nat → Nat} {b : Nat} : ∀ n, (∀ i, i < n → f i ≤ b) → sN p f n ≤ n * b := by
  intro n
  induction n with
  | zero => intro _; exact Nat.zero_le _
  | succ n ih =>
    intro h
    have h1 := ih (fun i hi => h i (by omega))
    have h2 := h n (Nat.lt_succ_self n)
    show sN p f n + (if p n = true then f n else 0) ≤ (n + 1) * b
    rw [Nat.succ_mul]
    split <;> omega
theorem sN_mono {p p' : Nat → Bool} {f : Nat → Nat} : ∀ n, (∀ i, i < n → p i = true → p' i = true) → sN p f n ≤ sN p' f n := by
  intro n
  induction n with
  | zero => intro _; exact Nat.le_refl _
  | succ n ih =>
    intro h
    have h1 := ih (fun i hi => h i (by omega))
    show sN p f n + (if p n = true then f n else 0) ≤ sN p' f n + (if p' n = true then f n else 0)
    by_cases hp : p n = true
    · rw [if_pos hp, if_pos (h n (Nat.lt_succ_self n) hp)]; omega
    · rw [if_neg hp]; omega
theorem sN_ge {p : Nat → Bool} {f : Nat → Nat} {j : Nat} (hp : p j = true) : ∀ n, j < n → f j ≤ sN p f n := by
  intro n
  induction n with
  | zero => intro h; exact absurd h (Nat.not_lt_zero _)
  | succ n ih =>
    intro h
    show f j ≤ sN p f n + (if p n = true then f n else 0)
    by_cases e : j = n
    · rw [← e, if_pos hp]; omega
    · have := ih (by omega); omega
def aN (p : Nat → Bool) (f : Nat → Nat) (a0 : Nat) : Nat → Nat
  | 0 => a0
  | i + 1 => if p i = true then min (aN p f a0 i) (f i) else aN p f a0 i
theorem aN_le {p : Nat → Bool} {f : Nat → Nat} {a0 : Nat} : ∀ n, aN p f a0 n ≤ a0 := by
  intro n
  induction n with
  | zero => exact Nat.le_refl _
  | succ n ih =>
    show (if p n = true then min (aN p f a0 n) (f n) else aN p f a0 n) ≤ a0
    split <;> omega
theorem aN_mono {p p' : Nat → Bool} {f : Nat → Nat} {a0 : Nat} : ∀ n, (∀ i, i < n → p i = true → p' i = true) → aN p' f a0 n ≤ aN p f a0 n := by
  intro n
  induction n with
  | zero => intro _; exact Nat.le_refl _
  | succ n ih =>
    intro h
    have h1 := ih (fun i hi => h i (by omega))
    show (if p' n = true then min (aN p' f a0 n) (f n) else aN p' f a0 n) ≤ (if p n = true then min (aN p f a0 n) (f n) else aN p f a0 n)
    by_cases hp : p n = true
    · rw [if_pos hp, if_pos (h n (Nat.lt_succ_self n) hp)]; omega
    · rw [if_neg hp]; split <;> omega
/-- started higher, the least comes out the same, once a place is picked -/
theorem aN_start {p : Nat → Bool} {f : Nat → Nat} (hf : ∀ i, f i ≤ 60) : ∀ n, aN p f 60 n = min 60 (aN p f 61 n) ∧ ((∃ j, j < n ∧ p j = true) → aN p f 61 n ≤ 60) := by
  intro n
  induction n with
  | zero => exact ⟨rfl, fun ⟨j, h, _⟩ => absurd h (Nat.not_lt_zero _)⟩
  | succ n ih =>
    obtain ⟨h1, h2⟩ := ih
    have hn := hf n
    show (if p n = true then min (aN p f 60 n) (f n) else aN p f 60 n) = min 60 (if p n = true then min (aN p f 61 n) (f n) else aN p f 61 n) ∧ ((∃ j, j < n + 1 ∧ p j = true) → (if p n = true then min (aN p f 61 n) (f n) else aN p f 61 n) ≤ 60)
    by_cases hp : p n = true
    · rw [if_pos hp, if_pos hp]; exact ⟨by omega, fun _ => by omega⟩
    · rw [if_neg hp, if_neg hp]
      refine ⟨h1, fun ⟨j, hj, hpj⟩ => h2 ⟨j, ?_, hpj⟩⟩
      rcases Nat.lt_or_ge j n with h | h
      · exact h
      · have : j = n := by omega
        rw [this] at hpj; exact absurd hpj hp
def coN (C : Nat → CT) (t i : Nat) : Nat := (nt (c_dr (C i)) * (20 + 3 * (t - nt (c_la (C i)))) + 99) / 100
theorem cost_nat {t : Nat} {c : CT} (ht : t ≤ 60) (h : okC t c) : costX c (nI t) = nI ((nt (c_dr c) * (20 + 3 * (t - nt (c_la c))) + 99) / 100) ∧ (nt (c_dr c) * (20 + 3 * (t - nt (c_la c))) + 99) / 100 ≤ 18001 := by
  obtain ⟨⟨-, e2, -, -, -, -, -, e8⟩, b1, -, -, -, -, b6⟩ := okC_nt ht h
  have hm : nt (c_dr c) * (20 + 3 * (t - nt (c_la c))) ≤ 9000 * 200 := Nat.mul_le_mul b1 (by omega)
  refine ⟨?_, by omega⟩
  rw [cost_eq]
  generalize nt (c_dr c) = d at *
  generalize nt (c_la c) = a at *
  rw [e2, e8, pk_sub b6, show (3 : Int32) = nI 3 from rfl, pk_mul, show (20 : Int32) = nI 20 from rfl, nI_add, pk_mul, show (99 : Int32) = nI 99 from rfl, nI_add, show (100 : Int32) = nI 100 from rfl, pk_div (by omega) (by decide) (by decide)]
abbrev hs (s : Int32) : Nat → Bool := fun i => hasB s (nI i)
theorem mn_nat {a b : Nat} (ha : a < 2 ^ 31) (hb : b < 2 ^ 31) : mnI (nI a) (nI b) = nI (min a b) := by
  unfold mnI
  by_cases h : b < a
  · rw [if_pos ((nI_ltI hb ha).mpr h), Nat.min_eq_right (by omega)]
  · rw [if_neg (fun h2 => h ((nI_ltI hb ha).mp h2)), Nat.min_eq_left (by omega)]
theorem g_s (n : Nat) (C : Nat → CT) (now s : Int32) : gMx (n + 1) C now s = if hasB s (nI n) = true then addX (gMx n C now s) (C n) now else gMx n C now s := rfl
/-- the mix of a set, as whole numbers -/
theorem g_nat {n t : Nat} {C : Nat → CT} (hI : INV n t C) (s : Int32) : ∀ i, i ≤ n → gMx i C (nI t) s = (nI (sN (hs s) (fun i => nt (c_dr (C i))) i), nI (sN (hs s) (fun i => nt (c_dr (C i)) * nt (c_sg (C i))) i), nI (sN (hs s) (fun i => nt (c_dr (C i)) * nt (c_ok (C i))) i), nI (sN (hs s) (fun i => nt (c_dr (C i)) * nt (c_sm (C i))) i), nI (sN (hs s) (fun i => nt (c_dr (C i)) * nt (c_sw (C i))) i), nI (sN (hs s) (coN C t) i), nI (aN (hs s) (fun i => t - nt (c_la (C i))) 60 i)) := by
  intro i
  obtain ⟨h1, h2, h3, h4, h5⟩ := hI
  induction i with
  | zero => intro _; rfl
  | succ i ih =>
    intro hi
    have ih := ih (by omega)
    have hk := h3 i (by omega)
    obtain ⟨⟨e1, e2, e3, e4, e5, e6, e7, e8⟩, b1, b2, b3, b4, b5, b6⟩ := okC_nt h2 hk
    have ec : costX (C i) (nI t) = nI (coN C t i) := (cost_nat h2 hk).1
    have hle := aN_le (p := hs s) (f := fun i => t - nt (c_la (C i))) (a0 := 60) i
    rw [g_s, ih]
    by_cases hp : hasB s (nI i) = true
    · rw [if_pos hp]
      unfold addX
      show (nI _ + c_dr (C i), nI _ + c_dr (C i) * c_sg (C i), nI _ + c_dr (C i) * c_ok (C i), nI _ + c_dr (C i) * c_sm (C i), nI _ + c_dr (C i) * c_sw (C i), nI _ + costX (C i) (nI t), mnI (nI _) (nI t - c_la (C i))) = (nI (_ + if hs s i = true then _ else 0), nI (_ + if hs s i = true then _ else 0), nI (_ + if hs s i = true then _ else 0), nI (_ + if hs s i = true then _ else 0), nI (_ + if hs s i = true then _ else 0), nI (_ + if hs s i = true then _ else 0), nI (if hs s i = true then _ else _))
      rw [ec]
      rw [if_pos hp, if_pos hp, if_pos hp, if_pos hp, if_pos hp, if_pos hp, if_pos hp]
      conv => lhs; rw [e2, e3, e5, e6, e7, e8]
      rw [pk_mul, pk_mul, pk_mul, pk_mul, pk_sub b6, mn_nat (by omega) (by omega), nI_add, nI_add, nI_add, nI_add, nI_add, nI_add]
    · rw [if_neg hp]
      show _ = (nI (_ + if hs s i = true then _ else 0), nI (_ + if hs s i = true then _ else 0), nI (_ + if hs s i = true then _ else 0), nI (_ + if hs s i = true then _ else 0), nI (_ + if hs s i = true then _ else 0), nI (_ + if hs s i = true then _ else 0), nI (if hs s i = true then _ else _))
      rw [if_neg hp, if_neg hp, if_neg hp, if_neg hp, if_neg hp, if_neg hp, if_neg hp]
      rfl
