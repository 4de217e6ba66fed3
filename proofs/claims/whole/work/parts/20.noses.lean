/-! readings: what they fix, the class's way and the reference's -/
abbrev nA (no : Nat → Int32) (i : Nat) : Nat := nt (no i)
abbrev nB (sa : Nat → Int32) (i : Nat) : Nat := 6 + nt (sa i)
def rdOK (r : Nat) (no sa : Nat → Int32) : Prop := ∀ i, i < r → (no i = nI (nt (no i)) ∧ nt (no i) < 6) ∧ (sa i = nI (nt (sa i)) ∧ nt (sa i) < 10)
def FLG (im : Nat → Int32) : Prop := ∀ k, k < 16 → im k = 0 ∨ im k = 1
def SND (f m : Nat) (no sa to im va : Nat → Int32) : Prop := ∀ (P : Nat → Prop) (val : Nat → Int32), P f → val f = 0 → (∀ i, i < m → ((P (nA no i) ↔ P (nB sa i)) ∧ to i = val (nA no i) + val (nB sa i))) → ∀ k, k < 16 → im k = 1 → (P k ∧ va k = val k)
def CLO (m : Nat) (no sa im : Nat → Int32) : Prop := ∀ i, i < m → (im (nA no i) = 1 ↔ im (nB sa i) = 1)
def cntM (im : Nat → Int32) : Nat := sN (fun k => decide (im k = 1)) (fun _ => 1) 16
def lM (im : Nat → Int32) (f i : Nat) : Nat → Int32 := fun k => if k < i then (if k = f then 1 else 0) else im k
theorem lM_0 (im : Nat → Int32) (f : Nat) : lM im f 0 = im := by funext k; simp [lM]
theorem lM_t {im : Nat → Int32} {f i : Nat} (h : i = f) : upd (lM im f i) i 1 = lM im f (i + 1) := by
  funext k
  rw [upd_ap]
  by_cases hk : k = i
  · subst hk; simp [lM, h]
  · have : k < i + 1 ↔ k < i := by omega
    simp [lM, hk, this]
theorem lM_n {im : Nat → Int32} {f i : Nat} (h : ¬ i = f) : upd (lM im f i) i 0 = lM im f (i + 1) := by
  funext k
  rw [upd_ap]
  by_cases hk : k = i
  · subst hk; simp [lM, h]
  · have : k < i + 1 ↔ k < i := by omega
    simp [lM, hk, this]
theorem lM_flg (im : Nat → Int32) (f : Nat) : FLG (lM im f 16) := by
  intro k hk
  unfold lM
  rw [if_pos hk]
  split
  · exact Or.inr rfl
  · exact Or.inl rfl
theorem lM_f {im : Nat → Int32} {f : Nat} (hf : f < 16) : lM im f 16 f = 1 := by unfold lM; rw [if_pos hf, if_pos rfl]
theorem lM_snd {im va : Nat → Int32} {f m : Nat} {no sa to : Nat → Int32} : SND f m no sa to (lM im f 16) (rH va 16) := by
  intro P val hP hv _ k hk h1
  unfold lM at h1
  rw [if_pos hk] at h1
  by_cases e : k = f
  · subst e
    refine ⟨hP, ?_⟩
    unfold rH; rw [if_pos hk, hv]
  · rw [if_neg e] at h1; exact absurd h1 (by decide)
theorem snd_up {f m : Nat} {no sa to im va : Nat → Int32} (h : SND f m no sa to im va) {r j k : Nat} (hr : r < m) (hj : j < 16) (h1 : im j = 1) (hjk : (j = nA no r ∧ k = nB sa r) ∨ (j = nB sa r ∧ k = nA no r)) : SND f m no sa to (upd im k 1) (upd va k (to r - va j)) := by
  intro P val hP hv hc z hz h2
  rw [upd_ap] at h2
  rw [upd_ap]
  by_cases e : z = k
  · rw [if_pos e]
    obtain ⟨a1, a2⟩ := h P val hP hv hc j hj h1
    obtain ⟨b1, b2⟩ := hc r hr
    rw [a2, b2]
    subst e
    rcases hjk with ⟨e1, e2⟩ | ⟨e1, e2⟩
    · subst e1; subst e2
      refine ⟨b1.mp a1, ?_⟩
      rw [Int32.add_comm, Int32.add_sub_cancel]
    · subst e1; subst e2
      refine ⟨b1.mpr a1, ?_⟩
      rw [Int32.add_sub_cancel]
  · rw [if_neg e] at h2 ⊢
    exact h P val hP hv hc z hz h2
theorem flg_up {im : Nat → Int32} (h : FLG im) (k : Nat) : FLG (upd im k 1) := by
  intro z hz
  rw [upd_ap]
  split
  · exact Or.inr rfl
  · exact h z hz
theorem one_up {im : Nat → Int32} {f k : Nat} (h : im f = 1) : upd im k 1 f = 1 := by
  rw [upd_ap]; split
  · rfl
  · exact h
theorem cnt_up {im : Nat → Int32} {k : Nat} (hk : k < 16) (h : im k = 0) : cntM im < cntM (upd im k 1) := by
  unfold cntM
  have key : ∀ n, sN (fun z => decide (im z = 1)) (fun _ => 1) n + (if k < n then 1 else 0) ≤ sN (fun z => decide (upd im k 1 z = 1)) (fun _ => 1) n := by
    intro n
    induction n with
    | zero => exact Nat.le_refl _
    | succ n ih =>
      show sN _ _ n + (if decide (im n = 1) = true then 1 else 0) + (if k < n + 1 then 1 else 0) ≤ sN _ _ n + (if decide (upd im k 1 n = 1) = true then 1 else 0)
      rw [upd_ap]
      by_cases e : n = k
      · subst e
        rw [if_pos rfl, h, if_neg (by decide), if_pos (Nat.lt_succ_self n), if_pos (by decide)]
        rw [if_neg (Nat.lt_irrefl n)] at ih
        omega
      · rw [if_neg e]
        have : (if k < n + 1 then 1 else 0) = (if k < n then 1 else 0 : Nat) := by
          by_cases h2 : k < n
          · rw [if_pos h2, if_pos (by omega)]
          · rw [if_neg h2, if_neg (by omega)]
        rw [this]
        omega
  have := key 16
  rw [if_pos hk] at this
  omega
theorem cnt_le (im : Nat → Int32) : cntM im ≤ 16 := by
  have := sN_le (p := fun k => decide (im k = 1)) (f := fun _ => 1) (b := 1) 16 (fun _ _ => Nat.le_refl _)
  unfold cntM; omega
/-- the readings ahead of place K agree with heights h within groups g, and groups go no further than the readings -/
def AGR (K : Nat) (no sa to g h : Nat → Int32) : Prop := (∀ i, i < K → g (nA no i) = g (nB sa i) ∧ to i = h (nA no i) - h (nB sa i)) ∧ ∀ M : Nat → Prop, (∀ i, i < K → (M (nA no i) ↔ M (nB sa i))) → ∀ a b, a < 16 → b < 16 → g a = g b → (M a ↔ M b)
def NS (r : Nat) (no sa to g h : Nat → Int32) (ct : Int32) : Prop := r ≤ 30 ∧ rdOK r no sa ∧ ∃ K, K ≤ r ∧ AGR K no sa to g h ∧ ((ct = -9 ∧ K = r) ∨ (ct = nI K ∧ K < r ∧ g (nA no K) = g (nB sa K) ∧ ¬ to K = h (nA no K) - h (nB sa K)))
/-- what a lead tells -/
theorem lead_use {f m r : Nat} {no sa to g h im va : Nat → Int32} (hr : rdOK r no sa) (hm : m ≤ r) (hf : f < 6) (hS : SND f m no sa to im va) (hf1 : im f = 1) (hF : FLG im) (hC : CLO m no sa im) (hA : (∀ i, i < m → g (nA no i) = g (nB sa i) ∧ to i = h (nA no i) - h (nB sa i)) ∧ ∀ M : Nat → Prop, (∀ i, i < m → (M (nA no i) ↔ M (nB sa i))) → ∀ a b, a < 16 → b < 16 → g a = g b → (M a ↔ M b)) : ∀ k, k < 16 → ((im k = 1 ↔ g k = g f) ∧ (im k = 1 → va k = if k < 6 then h k - h f else h f - h k)) := by
  intro k hk
  have hs := hS (fun z => g z = g f) (fun z => if z < 6 then h z - h f else h f - h z) rfl (by show (if f < 6 then h f - h f else _) = 0; rw [if_pos hf, Int32.sub_self]) (fun i hi => by
    obtain ⟨a1, a2⟩ := hA.1 i hi
    have ha := (hr i (by omega)).1.2
    refine ⟨by show g (nA no i) = g f ↔ g (nB sa i) = g f; rw [a1], ?_⟩
    show to i = (if nA no i < 6 then h (nA no i) - h f else _) + (if nB sa i < 6 then _ else h f - h (nB sa i))
    rw [if_pos ha, if_neg (by show ¬ 6 + _ < 6; omega), a2, Int32.sub_eq_add_neg, Int32.sub_eq_add_neg, Int32.sub_eq_add_neg, Int32.add_assoc, ← Int32.add_assoc (-h f), Int32.add_comm (-h f), ← Int32.sub_eq_add_neg (h f), Int32.sub_self, Int32.zero_add])
  refine ⟨⟨fun h1 => (hs k hk h1).1, fun h1 => ?_⟩, fun h1 => (hs k hk h1).2⟩
  exact (hA.2 (fun z => im z = 1) hC k f hk (by omega) h1).mpr hf1
theorem NS_clear (no sa to g h : Nat → Int32) : NS 0 no sa to (rG g 16) (rH h 16) (-9) := by
  refine ⟨by omega, fun i hi => absurd hi (Nat.not_lt_zero _), 0, Nat.le_refl _, ⟨fun i hi => absurd hi (Nat.not_lt_zero _), fun M _ a b ha hb e => ?_⟩, Or.inl ⟨rfl, rfl⟩⟩
  unfold rG at e
  rw [if_pos ha, if_pos hb] at e
  rw [(nI_eq (by omega) (by omega)).mp e]
theorem ap_n {f : Nat → Int32} {r i : Nat} {x : Int32} (h : i < r) : upd f r x i = f i := by rw [upd_ap, if_neg (by omega)]
theorem ap_s {f : Nat → Int32} {r : Nat} {x : Int32} : upd f r x r = x := by rw [upd_ap, if_pos rfl]
theorem NS_take {r : Nat} {no sa to g h : Nat → Int32} {ct : Int32} (hN : NS r no sa to g h ct) (hr : r < 30) {a b : Nat} (ha : a < 6) (hb : b < 10) (v : Int32) : NS (r + 1) (upd no r (nI a)) (upd sa r (nI b)) (upd to r v) (takeF (nI r) ct g h a b v).2.1 (takeF (nI r) ct g h a b v).2.2 (takeF (nI r) ct g h a b v).1 := by
  obtain ⟨h1, h2, K, hK, ⟨hA1, hA2⟩, hc⟩ := hN
  have eA : ∀ i, i < r → nA (upd no r (nI a)) i = nA no i := fun i hi => by show nt _ = nt _; rw [ap_n hi]
  have eB : ∀ i, i < r → nB (upd sa r (nI b)) i = nB sa i := fun i hi => by show 6 + nt _ = 6 + nt _; rw [ap_n hi]
  have eAr : nA (upd no r (nI a)) r = a := by show nt _ = a; rw [ap_s, nt_nI (by omega)]
  have eBr : nB (upd sa r (nI b)) r = 6 + b := by show 6 + nt _ = 6 + b; rw [ap_s, nt_nI (by omega)]
  have hrd : rdOK (r + 1) (upd no r (nI a)) (upd sa r (nI b)) := by
    intro i hi
    by_cases e : i = r
    · subst e
      rw [ap_s, ap_s, nt_nI (by omega), nt_nI (by omega)]
      exact ⟨⟨rfl, ha⟩, rfl, hb⟩
    · rw [ap_n (by omega), ap_n (by omega)]; exact h2 i (by omega)
  -- what was agreed stays agreed
  have old : ∀ K', K' ≤ r → (∀ i, i < K' → g (nA no i) = g (nB sa i) ∧ to i = h (nA no i) - h (nB sa i)) → ∀ i, i < K' → g (nA (upd no r (nI a)) i) = g (nB (upd sa r (nI b)) i) ∧ upd to r v i = h (nA (upd no r (nI a)) i) - h (nB (upd sa r (nI b)) i) := fun K' hK' hh i hi => by
    rw [eA i (by omega), eB i (by omega), ap_n (by omega)]; exact hh i hi
  refine ⟨by omega, hrd, ?_⟩
  unfold takeF
  rcases hc with ⟨hc1, hc2⟩ | ⟨hc1, hc2, hc3, hc4⟩
  · rw [if_pos hc1]
    subst hc2
    unfold fitF
    by_cases hg : g a = g (6 + b)
    · rw [if_pos hg]
      by_cases he : h a - h (6 + b) - v = 0
      · rw [if_pos he]
        have hv : v = h a - h (6 + b) := by
          have := congrArg (fun z => z + v) he
          simp only [Int32.sub_add_cancel, Int32.zero_add] at this
          exact this.symm
        refine ⟨K + 1, Nat.le_refl _, ⟨fun i hi => ?_, fun M hM => hA2 M (fun i hi => ?_)⟩, Or.inl ⟨hc1, rfl⟩⟩
        · by_cases e : i = K
          · subst e; rw [eAr, eBr, ap_s]; exact ⟨hg, hv⟩
          · exact old K (Nat.le_refl _) hA1 i (by omega)
        · have := hM i (by omega); rw [eA i hi, eB i hi] at this; exact this
      · rw [if_neg he]
        refine ⟨K, by omega, ⟨old K (Nat.le_refl _) hA1, fun M hM => hA2 M (fun i hi => ?_)⟩, Or.inr ⟨rfl, Nat.lt_succ_self _, ?_, ?_⟩⟩
        · have := hM i hi; rw [eA i hi, eB i hi] at this; exact this
        · rw [eAr, eBr]; exact hg
        · rw [eAr, eBr, ap_s]
          intro e2
          exact he (by rw [e2, Int32.sub_self])
    · rw [if_neg hg]
      show ∃ K', _ ∧ AGR K' _ _ _ (jG g (g a) (g (6 + b)) 16) (jH g h (g a) (h a - h (6 + b) - v) 16) ∧ _
      have gz : ∀ z, z < 16 → jG g (g a) (g (6 + b)) 16 z = if g z = g a then g (6 + b) else g z := fun z hz => by
        show (if z < 16 ∧ g z = g a then _ else _) = _
        by_cases e : g z = g a
        · rw [if_pos ⟨hz, e⟩, if_pos e]
        · rw [if_neg (fun q => e q.2), if_neg e]
      have hz' : ∀ z, z < 16 → jH g h (g a) (h a - h (6 + b) - v) 16 z = if g z = g a then h z - (h a - h (6 + b) - v) else h z := fun z hz => by
        show (if z < 16 ∧ g z = g a then _ else _) = _
        by_cases e : g z = g a
        · rw [if_pos ⟨hz, e⟩, if_pos e]
        · rw [if_neg (fun q => e q.2), if_neg e]
      refine ⟨K + 1, Nat.le_refl _, ⟨fun i hi => ?_, fun M hM => ?_⟩, Or.inl ⟨hc1, rfl⟩⟩
      · by_cases e : i = K
        · subst e
          rw [eAr, eBr, ap_s, gz a (by omega), gz (6 + b) (by omega), hz' a (by omega), hz' (6 + b) (by omega), if_pos rfl, if_pos rfl, if_neg (fun q => hg q.symm), if_neg (fun q => hg q.symm)]
          refine ⟨rfl, ?_⟩
          generalize h a = x
          generalize h (6 + b) = z
          rw [Int32.sub_eq_add_neg (x - z) v, Int32.sub_eq_add_neg x (x - z + -v), Int32.neg_add, Int32.neg_sub, Int32.sub_neg, ← Int32.add_assoc, Int32.add_comm x, Int32.sub_add_cancel, Int32.add_comm z, Int32.add_sub_cancel]
        · have hi2 : i < K := by omega
          have hn1 := (h2 i hi2).1.2
          have hn2 := (h2 i hi2).2.2
          obtain ⟨o1, o2⟩ := hA1 i hi2
          rw [eA i hi2, eB i hi2, ap_n hi2, gz (nA no i) (by show nt _ < 16; omega), gz (nB sa i) (by show 6 + nt _ < 16; omega), hz' (nA no i) (by show nt _ < 16; omega), hz' (nB sa i) (by show 6 + nt _ < 16; omega), o1]
          refine ⟨rfl, ?_⟩
          rw [o2]
          by_cases e2 : g (nB sa i) = g a
          · rw [if_pos e2, if_pos e2]
            generalize h a - h (6 + b) - v = w
            generalize h (nA no i) = x
            generalize h (nB sa i) = z
            rw [Int32.sub_eq_add_neg (x - w), Int32.neg_sub, Int32.sub_eq_add_neg x w, Int32.sub_eq_add_neg w z, Int32.add_assoc, ← Int32.add_assoc (-w), Int32.add_comm (-w), ← Int32.sub_eq_add_neg w w, Int32.sub_self, Int32.zero_add, ← Int32.sub_eq_add_neg]
          · rw [if_neg e2, if_neg e2]
      · have hMo := hA2 M (fun i hi => by have := hM i (by omega); rw [eA i hi, eB i hi] at this; exact this)
        have hMr : M a ↔ M (6 + b) := by have := hM K (Nat.lt_succ_self _); rw [eAr, eBr] at this; exact this
        intro x z hx hz e
        rw [gz x hx, gz z hz] at e
        by_cases ex : g x = g a
        · have m1 := hMo x a hx (by omega) ex
          rw [if_pos ex] at e
          by_cases ez : g z = g a
          · exact m1.trans (hMo z a hz (by omega) ez).symm
          · rw [if_neg ez] at e
            exact (m1.trans hMr).trans (hMo (6 + b) z (by omega) hz e)
        · rw [if_neg ex] at e
          by_cases ez : g z = g a
          · rw [if_pos ez] at e
            exact (hMo x (6 + b) hx (by omega) e).trans (hMr.symm.trans (hMo z a hz (by omega) ez).symm)
          · rw [if_neg ez] at e
            exact hMo x z hx hz e
  · rw [if_neg (by rw [hc1]; exact ne9 (by omega))]
    refine ⟨K, by omega, ⟨old K hK hA1, fun M hM => hA2 M (fun i hi => ?_)⟩, Or.inr ⟨hc1, by omega, ?_, ?_⟩⟩
    · have := hM i hi; rw [eA i (by omega), eB i (by omega)] at this; exact this
    · rw [eA K hc2, eB K hc2]; exact hc3
    · rw [eA K hc2, eB K hc2, ap_n hc2]; exact hc4
