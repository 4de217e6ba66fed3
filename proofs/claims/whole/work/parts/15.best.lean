/-! the best blend: every set in turn, and the search that steps over sets -/
def bstep (n : Nat) (C : Nat → CT) (now : Int32) (w : Nat → Int32) (k : Nat) (x : Int32 × Int32) : Int32 × Int32 := if bOK n C now (nI k) = true ∧ (x.1 = -9 ∨ m_co (gMx n C now (nI k)) < x.2) ∧ metX w (gMx n C now (nI k)) = true then (nI k, m_co (gMx n C now (nI k))) else x
def bst (n : Nat) (C : Nat → CT) (now : Int32) (w : Nat → Int32) : Nat → Int32 × Int32
  | 0 => (-9, -9)
  | k + 1 => bstep n C now w (k + 1) (bst n C now w k)
def bestF (n : Nat) (C : Nat → CT) (now : Int32) (w : Nat → Int32) (k : Int32) : Int32 := if inR k 0 1 = true then (if k = 0 then (bst n C now w (2 ^ n - 1)).1 else (bst n C now w (2 ^ n - 1)).2) else -1
def lowN (k : Nat) : Nat := (nI k &&& (-nI k)).toNatClampNeg
set_option maxRecDepth 100000 in
theorem low_is : ∀ k, k < 4096 → 1 ≤ k → nI k &&& (-nI k) = nI (lowN k) ∧ 1 ≤ lowN k ∧ lowN k ≤ 4096 := by decide +kernel
set_option maxRecDepth 100000 in
theorem low_sub : ∀ k, k < 4096 → 1 ≤ k → ∀ r, r < lowN k → (k &&& (k + r)) = k := by decide +kernel
set_option maxRecDepth 100000 in
theorem low_end : ∀ n, n < 13 → ∀ k, k < 2 ^ n → 1 ≤ k → k + lowN k ≤ 2 ^ n := by decide +kernel
theorem ne9 {k : Nat} (h : k ≤ 4096) : ¬ nI k = -9 := by
  intro h2
  have h3 := congrArg Int32.toInt h2
  rw [nI_toInt (by omega)] at h3
  have h4 : (-9 : Int32).toInt = -9 := rfl
  rw [h4] at h3
  omega
theorem sup_hs {n k r : Nat} (hn : n ≤ 12) (hk : k < 2 ^ n) (h1 : 1 ≤ k) (hr : r < lowN k) : ∀ i, i < n → hs (nI k) i = true → hs (nI (k + r)) i = true := by
  intro i hi
  have hp := pow12 hn
  have he := low_end n (by omega) k hk h1
  show hasB (nI k) (nI i) = true → hasB (nI (k + r)) (nI i) = true
  rw [has_bit (by omega) (by omega), has_bit (by omega) (by omega)]
  intro hb
  have h2 := low_sub k (by omega) h1 r hr
  have h3 := congrArg (fun z => z.testBit i) h2
  simp only [Nat.testBit_and] at h3
  rw [hb] at h3
  simpa using h3
theorem g_co {n t : Nat} {C : Nat → CT} (hI : INV n t C) (s : Int32) : m_co (gMx n C (nI t) s) = nI (sN (hs s) (coN C t) n) ∧ sN (hs s) (coN C t) n ≤ 216012 := by
  refine ⟨by rw [g_nat hI s n (Nat.le_refl n)], ?_⟩
  have := sN_le (p := hs s) (f := coN C t) (b := 18001) n (fun i hi => (cost_nat hI.2.1 (hI.2.2.1 i hi)).2)
  have h := hI.1
  omega
theorem g_ag {n t : Nat} {C : Nat → CT} (hI : INV n t C) (s : Int32) : m_ag (gMx n C (nI t) s) = nI (aN (hs s) (fun i => t - nt (c_la (C i))) 60 n) ∧ aN (hs s) (fun i => t - nt (c_la (C i))) 60 n ≤ 60 := ⟨by rw [g_nat hI s n (Nat.le_refl n)], aN_le n⟩
/-- a set that is no blend, too dear or too young: the sets behind it up to its lowest bit are so too -/
theorem skip_no {n t : Nat} {C : Nat → CT} {w : Nat → Int32} (hI : INV n t C) {k : Nat} (h1 : 1 ≤ k) (hk : k < 2 ^ n) {x : Int32 × Int32} (h : bOK n C (nI t) (nI k) = false ∨ (¬ x.1 = -9 ∧ x.2 ≤ m_co (gMx n C (nI t) (nI k))) ∨ oldX w (gMx n C (nI t) (nI k)) = false) : ∀ r, r < lowN k → bstep n C (nI t) w (k + r) x = x := by
  intro r hr
  have hn := hI.1
  have hp := pow12 hn
  have he := low_end n (by omega) k hk h1
  have hsup := sup_hs hn hk h1 hr
  unfold bstep
  refine if_neg (fun ⟨c1, c2, c3⟩ => ?_)
  rcases h with h | h | h
  · rw [bOK_eq hI (by omega)] at h c1
    have e1 : inR (nI k) 1 ((1 <<< (nI n &&& 31)) - 1) = true := (isB_nat hn).mpr ⟨k, h1, hk, rfl⟩
    unfold isBl at h c1
    rw [Bool.and_eq_true] at c1
    have h2 : okG n C (nI k) = true := okG_iff.mpr (fun i hi hb => okG_iff.mp c1.2 i hi (hsup i hi hb))
    rw [e1, h2] at h
    exact absurd h (by decide)
  · rcases c2 with c2 | c2
    · exact h.1 c2
    · obtain ⟨a1, a2⟩ := g_co hI (nI k)
      obtain ⟨b1, b2⟩ := g_co hI (nI (k + r))
      have hle := sN_mono (p := hs (nI k)) (p' := hs (nI (k + r))) (f := coN C t) n hsup
      rw [b1] at c2
      rw [a1] at h
      have h3 := nI_le hle (by omega)
      rw [Int32.lt_iff_toInt_lt] at c2
      rw [Int32.le_iff_toInt_le] at h3
      have h4 := Int32.le_iff_toInt_le.mp h.2
      omega
  · obtain ⟨a1, a2⟩ := g_ag hI (nI k)
    obtain ⟨b1, b2⟩ := g_ag hI (nI (k + r))
    have hle := aN_mono (p := hs (nI k)) (p' := hs (nI (k + r))) (f := fun i => t - nt (c_la (C i))) (a0 := 60) n hsup
    have c4 : oldX w (gMx n C (nI t) (nI (k + r))) = true := by
      unfold metX at c3
      rw [Bool.and_eq_true, Bool.and_eq_true] at c3
      exact c3.2.1
    unfold oldX at h c4
    rw [decide_eq_false_iff_not, a1] at h
    rw [decide_eq_true_eq, b1] at c4
    have h3 := nI_le hle (by omega)
    rw [Int32.le_iff_toInt_le] at c4 h3 h
    omega
theorem bst_run {n : Nat} {C : Nat → CT} {now : Int32} {w : Nat → Int32} {x : Int32 × Int32} {K : Nat} (h : bst n C now w K = x) : ∀ d, (∀ j, K < j → j ≤ K + d → bstep n C now w j x = x) → bst n C now w (K + d) = x := by
  intro d
  induction d with
  | zero => intro _; exact h
  | succ d ih =>
    intro hj
    show bstep n C now w (K + d + 1) (bst n C now w (K + d)) = x
    rw [ih (fun j h1 h2 => hj j h1 (by omega))]
    exact hj (K + d + 1) (by omega) (by omega)
theorem bst_inv {n t : Nat} {C : Nat → CT} {w : Nat → Int32} (hI : INV n t C) : ∀ K, K < 2 ^ n → bst n C (nI t) w K = (-9, -9) ∨ ∃ k, 1 ≤ k ∧ k ≤ K ∧ bst n C (nI t) w K = (nI k, m_co (gMx n C (nI t) (nI k))) ∧ bOK n C (nI t) (nI k) = true := by
  intro K
  induction K with
  | zero => intro _; exact Or.inl rfl
  | succ K ih =>
    intro hK
    have ih := ih (by omega)
    show bstep n C (nI t) w (K + 1) (bst n C (nI t) w K) = _ ∨ _
    by_cases hc : bOK n C (nI t) (nI (K + 1)) = true ∧ ((bst n C (nI t) w K).1 = -9 ∨ m_co (gMx n C (nI t) (nI (K + 1))) < (bst n C (nI t) w K).2) ∧ metX w (gMx n C (nI t) (nI (K + 1))) = true
    · refine Or.inr ⟨K + 1, by omega, Nat.le_refl _, ?_, hc.1⟩
      show bstep n C (nI t) w (K + 1) (bst n C (nI t) w K) = _
      unfold bstep; rw [if_pos hc]
    · have e : bstep n C (nI t) w (K + 1) (bst n C (nI t) w K) = bst n C (nI t) w K := by unfold bstep; rw [if_neg hc]
      rw [e]
      rcases ih with h | ⟨k, h1, h2, h3, h4⟩
      · exact Or.inl h
      · refine Or.inr ⟨k, h1, by omega, ?_, h4⟩
        show bstep n C (nI t) w (K + 1) (bst n C (nI t) w K) = _
        rw [e]; exact h3
/-- the search steps over sets and misses none -/
theorem bs_skip {n t : Nat} {C : Nat → CT} {w : Nat → Int32} (hI : INV n t C) {k : Nat} (h1 : 1 ≤ k) (hk : k < 2 ^ n) (h : bOK n C (nI t) (nI k) = false ∨ (¬ (bst n C (nI t) w (k - 1)).1 = -9 ∧ (bst n C (nI t) w (k - 1)).2 ≤ m_co (gMx n C (nI t) (nI k))) ∨ oldX w (gMx n C (nI t) (nI k)) = false) : bst n C (nI t) w (k + lowN k - 1) = bst n C (nI t) w (k - 1) := by
  have hl := low_is k (by have := pow12 hI.1; omega) h1
  have h2 := bst_run (n := n) (C := C) (now := nI t) (w := w) (K := k - 1) rfl (lowN k) (fun j a b => by
    have := skip_no (w := w) hI h1 hk h (j - k) (by omega)
    rw [show k + (j - k) = j by omega] at this
    exact this)
  rw [show k + lowN k - 1 = k - 1 + lowN k by omega]; exact h2
theorem bs_take {n t : Nat} {C : Nat → CT} {w : Nat → Int32} (hI : INV n t C) {k : Nat} (h1 : 1 ≤ k) (hk : k < 2 ^ n) (hb : bOK n C (nI t) (nI k) = true) (hd : (bst n C (nI t) w (k - 1)).1 = -9 ∨ m_co (gMx n C (nI t) (nI k)) < (bst n C (nI t) w (k - 1)).2) (hm : metX w (gMx n C (nI t) (nI k)) = true) : bst n C (nI t) w (k + lowN k - 1) = (nI k, m_co (gMx n C (nI t) (nI k))) := by
  have hp := pow12 hI.1
  have hl := low_is k (by omega) h1
  have e : bst n C (nI t) w k = (nI k, m_co (gMx n C (nI t) (nI k))) := by
    have : k = k - 1 + 1 := by omega
    rw [this]
    show bstep n C (nI t) w (k - 1 + 1) (bst n C (nI t) w (k - 1)) = _
    rw [← this]
    unfold bstep; rw [if_pos ⟨hb, hd, hm⟩]
  have h2 := bst_run e (lowN k - 1) (fun j a b => by
    have := skip_no (w := w) hI h1 hk (x := (nI k, m_co (gMx n C (nI t) (nI k)))) (Or.inr (Or.inl ⟨ne9 (by omega), Int32.le_refl _⟩)) (j - k) (by omega)
    rw [show k + (j - k) = j by omega] at this
    exact this)
  rw [show k + lowN k - 1 = k + (lowN k - 1) by omega]; exact h2
theorem bs_one {n : Nat} {C : Nat → CT} {now : Int32} {w : Nat → Int32} {k : Nat} (h1 : 1 ≤ k) (hm : metX w (gMx n C now (nI k)) = false) : bst n C now w k = bst n C now w (k - 1) := by
  have : k = k - 1 + 1 := by omega
  rw [this]
  show bstep n C now w (k - 1 + 1) (bst n C now w (k - 1)) = bst n C now w (k - 1 + 1 - 1)
  rw [← this]
  unfold bstep; rw [if_neg (fun h => by rw [hm] at h; exact absurd h.2.2 (by decide))]
