/-! how long the stock lasts: the class's way and the reference's -/
theorem ag_c (x y z : Int32) : x - y + z = x + z - y := by
  rw [Int32.sub_eq_add_neg, Int32.sub_eq_add_neg, Int32.add_assoc, Int32.add_assoc, Int32.add_comm (-y) z]
def okS (n : Nat) (f : Nat → Int32) : Prop := ∀ c, c < n → f c = nI (nt (f c)) ∧ nt (f c) ≤ 9000
def elB (C : Nat → CT) (a y : Int32) (c : Nat) : Bool := !decide (y - c_la (C c) < a)
theorem el_t {C : Nat → CT} {a y : Int32} {c : Nat} (h : ¬ y - c_la (C c) < a) : elB C a y c = true := by unfold elB; rw [decide_eq_false h]; rfl
theorem el_f {C : Nat → CT} {a y : Int32} {c : Nat} (h : y - c_la (C c) < a) : elB C a y c = false := by unfold elB; rw [decide_eq_true h]; rfl
theorem el_n {C : Nat → CT} {a y : Int32} {c : Nat} (h : elB C a y c = true) : ¬ y - c_la (C c) < a := by
  intro h2; rw [el_f h2] at h; exact absurd h (by decide)
def Se (C : Nat → CT) (a y : Int32) (f : Nat → Int32) (j : Nat) : Nat := sN (elB C a y) (fun c => nt (f c)) j
abbrev Ft (C : Nat → CT) (a y : Int32) (w : Int32) (f : Nat → Int32) (j : Nat) : Int32 × (Nat → Int32) := fN (tkf C a y) j (w, f)
def thf (C : Nat → CT) (a y : Int32) (f : Nat → Int32) (c : Nat) (x : Int32) : Int32 := if y - c_la (C c) < a then x else x + f c
theorem Se_s (C : Nat → CT) (a y : Int32) (f : Nat → Int32) (j : Nat) : Se C a y f (j + 1) = Se C a y f j + (if elB C a y j = true then nt (f j) else 0) := rfl
theorem Se_mono {C : Nat → CT} {a y : Int32} {f : Nat → Int32} {i : Nat} : ∀ j, i ≤ j → Se C a y f i ≤ Se C a y f j := by
  intro j
  induction j with
  | zero => intro h; rw [Nat.le_zero.mp h]; exact Nat.le_refl _
  | succ j ih =>
    intro h
    rcases Nat.lt_or_ge j i with h2 | h2
    · rw [show i = j + 1 by omega]; exact Nat.le_refl _
    · rw [Se_s]; have := ih h2; omega
theorem Se_le {n : Nat} {C : Nat → CT} {a y : Int32} {f : Nat → Int32} (hn : n ≤ 12) (h : okS n f) : Se C a y f n ≤ 108000 := by
  have := sN_le (p := elB C a y) (f := fun c => nt (f c)) (b := 9000) n (fun c hc => (h c hc).2)
  unfold Se
  omega
theorem th_nat {n : Nat} {C : Nat → CT} {a y : Int32} {f : Nat → Int32} (h : okS n f) : ∀ j, j ≤ n → fN (thf C a y f) j 0 = nI (Se C a y f j) := by
  intro j
  induction j with
  | zero => intro _; rfl
  | succ j ih =>
    intro hj
    rw [fN_s, ih (by omega), Se_s]
    unfold thf
    by_cases hc : y - c_la (C j) < a
    · rw [if_pos hc, el_f hc]; rfl
    · rw [if_neg hc, el_t hc, if_pos rfl, ← nI_add, ← (h j (by omega)).1]
theorem F_nat {n : Nat} {C : Nat → CT} {a y : Int32} {f : Nat → Int32} {om : Nat} (hn : n ≤ 12) (h : okS n f) (ho : om ≤ 9999) : ∀ j, j ≤ n → (Ft C a y (nI om) f j).1 = nI (om - Se C a y f j) ∧ ∀ c, c < n → (Ft C a y (nI om) f j).2 c = nI (if c < j ∧ elB C a y c = true then nt (f c) - min (om - Se C a y f c) (nt (f c)) else nt (f c)) := by
  intro j
  induction j with
  | zero =>
    intro _
    refine ⟨rfl, fun c hc => ?_⟩
    rw [if_neg (fun h => absurd h.1 (Nat.not_lt_zero _))]
    exact (h c hc).1
  | succ j ih =>
    intro hj
    obtain ⟨h1, h2⟩ := ih (by omega)
    have hs := (h j (by omega)).2
    have e : Ft C a y (nI om) f (j + 1) = tkf C a y j (Ft C a y (nI om) f j) := rfl
    rw [e, Se_s]
    unfold tkf
    by_cases hc : y - c_la (C j) < a
    · rw [if_pos hc, el_f hc, if_neg (by decide)]
      refine ⟨h1, fun c hcn => ?_⟩
      rw [h2 c hcn]
      by_cases hcj : c = j
      · subst hcj
        rw [if_neg (fun z => absurd z.1 (Nat.lt_irrefl _)), if_neg (fun z => by rw [el_f hc] at z; exact absurd z.2 (by decide))]
      · have q : (c < j + 1 ∧ elB C a y c = true) ↔ (c < j ∧ elB C a y c = true) := ⟨fun z => ⟨by omega, z.2⟩, fun z => ⟨by omega, z.2⟩⟩
        simp only [q]
    · rw [if_neg hc, el_t hc, if_pos rfl]
      have e2 := h2 j (by omega)
      rw [if_neg (fun z => absurd z.1 (Nat.lt_irrefl _))] at e2
      have e3 : mnI (Ft C a y (nI om) f j).1 ((Ft C a y (nI om) f j).2 j) = nI (min (om - Se C a y f j) (nt (f j))) := by
        rw [h1, e2, mn_nat (by omega) (by omega)]
      show (Ft C a y (nI om) f j).1 - mnI (Ft C a y (nI om) f j).1 ((Ft C a y (nI om) f j).2 j) = _ ∧ ∀ c, c < n → upd (Ft C a y (nI om) f j).2 j ((Ft C a y (nI om) f j).2 j - mnI (Ft C a y (nI om) f j).1 ((Ft C a y (nI om) f j).2 j)) c = _
      rw [e3]
      refine ⟨?_, fun c hcn => ?_⟩
      · rw [h1, pk_sub (by omega)]
        congr 1; omega
      · rw [upd_ap]
        by_cases hcj : c = j
        · subst hcj
          rw [if_pos rfl, if_pos ⟨Nat.lt_succ_self _, el_t hc⟩, e2, pk_sub (by omega)]
        · have q : (c < j + 1 ∧ elB C a y c = true) ↔ (c < j ∧ elB C a y c = true) := ⟨fun z => ⟨by omega, z.2⟩, fun z => ⟨by omega, z.2⟩⟩
          rw [if_neg hcj, h2 c hcn]
          simp only [q]
theorem F_ge {n : Nat} {C : Nat → CT} {a y : Int32} {f : Nat → Int32} {om : Nat} (hn : n ≤ 12) (h : okS n f) (ho : om ≤ 9999) {j c : Nat} (hj : j ≤ n) (hc : c < n) : ∃ z : Nat, z ≤ 9000 ∧ (Ft C a y (nI om) f j).2 c = nI z := by
  have h1 := (F_nat (C := C) (a := a) (y := y) hn h ho j hj).2 c hc
  have h2 := (h c hc).2
  refine ⟨_, ?_, h1⟩
  split <;> omega
theorem tk_stay {C : Nat → CT} {a y : Int32} {c : Nat} {x : Int32 × (Nat → Int32)} (h : y - c_la (C c) < a ∨ mnI x.1 (x.2 c) = 0) : tkf C a y c x = x := by
  unfold tkf
  by_cases hc : y - c_la (C c) < a
  · rw [if_pos hc]
  · rw [if_neg hc]
    rcases h with h | h
    · exact absurd h hc
    · rw [h, Int32.sub_zero, Int32.sub_zero]
      have : upd x.2 c (x.2 c) = x.2 := by
        funext k
        rw [upd_ap]; split
        · next e => rw [e]
        · rfl
      rw [this]
theorem F_stay {C : Nat → CT} {a y w : Int32} {f : Nat → Int32} {j : Nat} : ∀ d, (∀ c, j ≤ c → c < j + d → (y - c_la (C c) < a ∨ mnI (Ft C a y w f j).1 ((Ft C a y w f j).2 c) = 0)) → Ft C a y w f (j + d) = Ft C a y w f j := by
  intro d
  induction d with
  | zero => intro _; rfl
  | succ d ih =>
    intro h
    show tkf C a y (j + d) (Ft C a y w f (j + d)) = _
    rw [ih (fun c h1 h2 => h c h1 (by omega))]
    exact tk_stay (h (j + d) (by omega) (by omega))
theorem mn_0l {z : Nat} (hz : z ≤ 9000) : mnI 0 (nI z) = 0 := by
  unfold mnI
  rw [if_neg (by rw [Int32.not_lt]; exact nI_pos' (by omega))]
theorem mn_0r {z : Nat} (hz : z ≤ 9999) : mnI (nI z) 0 = 0 := by
  have := mn_nat (a := z) (b := 0) (by omega) (by omega)
  rw [Nat.min_eq_right (Nat.zero_le _)] at this
  exact this
theorem F_end {n : Nat} {C : Nat → CT} {a y : Int32} {f : Nat → Int32} {om : Nat} (hn : n ≤ 12) (h : okS n f) (ho : om ≤ 9999) {j : Nat} (hj : j ≤ n) (hz : (Ft C a y (nI om) f j).1 ≤ 0) : Ft C a y (nI om) f n = Ft C a y (nI om) f j := by
  have h1 := (F_nat (C := C) (a := a) (y := y) hn h ho j hj).1
  have h0 : (Ft C a y (nI om) f j).1 = 0 := by
    rw [h1] at hz ⊢
    have := (nI_leI (a := om - Se C a y f j) (b := 0) (by omega) (by omega)).mp hz
    rw [Nat.le_zero.mp this]; rfl
  have h2 := F_stay (C := C) (a := a) (y := y) (w := nI om) (f := f) (j := j) (n - j) (fun c hc1 hc2 => Or.inr (by
    obtain ⟨z, hz1, hz2⟩ := F_ge (C := C) (a := a) (y := y) hn h ho hj (c := c) (by omega)
    rw [h0, hz2]; exact mn_0l hz1))
  rw [show j + (n - j) = n by omega] at h2
  exact h2
def canB (C : Nat → CT) (a y : Int32) (g : Nat → Int32) (c : Nat) : Bool := decide (0 < g c) && elB C a y c
def ods (p : Nat → Bool) : Nat → Int32
  | 0 => -1
  | c + 1 => if ods p c < 0 ∧ p c = true then nI c else ods p c
theorem ods_nat {p : Nat → Bool} : ∀ c, c ≤ 12 → ((ods p c = -1 ∧ ∀ z, z < c → p z = false) ∨ ∃ o, o < c ∧ ods p c = nI o ∧ p o = true ∧ ∀ z, z < o → p z = false) := by
  intro c
  induction c with
  | zero => intro _; exact Or.inl ⟨rfl, fun z h => absurd h (Nat.not_lt_zero _)⟩
  | succ c ih =>
    intro hc
    have e : ods p (c + 1) = if ods p c < 0 ∧ p c = true then nI c else ods p c := rfl
    rcases ih (by omega) with ⟨h1, h2⟩ | ⟨o, h1, h2, h3, h4⟩
    · by_cases hp : p c = true
      · rw [e, if_pos ⟨by rw [h1]; decide, hp⟩]
        exact Or.inr ⟨c, Nat.lt_succ_self c, rfl, hp, h2⟩
      · rw [e, if_neg (fun z => hp z.2)]
        refine Or.inl ⟨h1, fun z hz => ?_⟩
        rcases Nat.lt_or_ge z c with h | h
        · exact h2 z h
        · rw [show z = c by omega]; simpa using hp
    · rw [e, if_neg (fun z => by rw [h2] at z; exact absurd z.1 (nI_pos (by omega)))]
      exact Or.inr ⟨o, by omega, h2, h3, h4⟩
/-- with some left to take there is a cask to take from, at or behind place j -/
theorem F_pick {n : Nat} {C : Nat → CT} {a y : Int32} {f : Nat → Int32} {om : Nat} (hn : n ≤ 12) (h : okS n f) (ho : om ≤ 9999) {j : Nat} (hj : j ≤ n) (hS : om ≤ Se C a y f n) (hz : ¬ (Ft C a y (nI om) f j).1 ≤ 0) : ∃ o, j ≤ o ∧ o < n ∧ ods (canB C a y (Ft C a y (nI om) f j).2) n = nI o ∧ Ft C a y (nI om) f (o + 1) = ((Ft C a y (nI om) f j).1 - mnI (Ft C a y (nI om) f j).1 ((Ft C a y (nI om) f j).2 o), upd (Ft C a y (nI om) f j).2 o ((Ft C a y (nI om) f j).2 o - mnI (Ft C a y (nI om) f j).1 ((Ft C a y (nI om) f j).2 o))) := by
  obtain ⟨h1, h2⟩ := F_nat (C := C) (a := a) (y := y) hn h ho j hj
  have hm : 0 < om - Se C a y f j := by
    rcases Nat.eq_zero_or_pos (om - Se C a y f j) with e | e
    · exact absurd (by rw [h1, e]; exact Int32.le_refl _) hz
    · exact e
  -- below j nothing can be taken
  have hlow : ∀ c, c < j → canB C a y (Ft C a y (nI om) f j).2 c = false := by
    intro c hc
    unfold canB
    cases he : elB C a y c with
    | false => exact Bool.and_false _
    | true =>
      rw [h2 c (by omega), if_pos ⟨hc, he⟩]
      have hle : Se C a y f (c + 1) ≤ Se C a y f j := Se_mono j (by omega)
      rw [Se_s, he, if_pos rfl] at hle
      rw [show nt (f c) - min (om - Se C a y f c) (nt (f c)) = 0 by omega]
      rfl
  have hcan : ∀ c, c < n → canB C a y (Ft C a y (nI om) f j).2 c = false → (y - c_la (C c) < a ∨ mnI (Ft C a y (nI om) f j).1 ((Ft C a y (nI om) f j).2 c) = 0) := by
    intro c hc hb
    unfold canB at hb
    by_cases he : y - c_la (C c) < a
    · exact Or.inl he
    · refine Or.inr ?_
      rw [el_t he, Bool.and_true, decide_eq_false_iff_not] at hb
      obtain ⟨z, hz1, hz2⟩ := F_ge (C := C) (a := a) (y := y) hn h ho hj hc
      rw [hz2] at hb ⊢
      have : z = 0 := by
        rcases Nat.eq_zero_or_pos z with e | e
        · exact e
        · exact absurd ((nI_ltI (a := 0) (by omega) (by omega)).mpr e) hb
      rw [this, h1]
      exact mn_0r (by omega)
  rcases ods_nat (p := canB C a y (Ft C a y (nI om) f j).2) n hn with ⟨-, hno⟩ | ⟨o, ho1, ho2, ho3, ho4⟩
  · exfalso
    have h3 := F_stay (C := C) (a := a) (y := y) (w := nI om) (f := f) (j := j) (n - j) (fun c hc1 hc2 => hcan c (by omega) (hno c (by omega)))
    rw [show j + (n - j) = n by omega] at h3
    have h4 := (F_nat (C := C) (a := a) (y := y) hn h ho n (Nat.le_refl n)).1
    rw [h3, h1] at h4
    have h5 := (nI_eq (by omega) (by omega)).mp h4
    omega
  · have hjo : j ≤ o := by
      rcases Nat.lt_or_ge o j with hh | hh
      · rw [hlow o hh] at ho3; exact absurd ho3 (by decide)
      · exact hh
    refine ⟨o, hjo, ho1, ho2, ?_⟩
    have h3 := F_stay (C := C) (a := a) (y := y) (w := nI om) (f := f) (j := j) (o - j) (fun c hc1 hc2 => hcan c (by omega) (ho4 c (by omega)))
    rw [show j + (o - j) = o by omega] at h3
    show tkf C a y o (Ft C a y (nI om) f o) = _
    rw [h3]
    have he : elB C a y o = true := by unfold canB at ho3; rw [Bool.and_eq_true] at ho3; exact ho3.2
    unfold tkf
    rw [if_neg (el_n he)]
theorem okL_t {n : Nat} {C : Nat → CT} {a now : Int32} {f0 : Nat → Int32} {om i : Nat} (hn : n ≤ 12) (ho : om ≤ 9999) (h : okS n (laA n C (nI om) a now f0 i)) : okL n C (nI om) a now f0 i = true ↔ om ≤ Se C a (now + nI i) (laA n C (nI om) a now f0 i) n := by
  have h1 := (F_nat (C := C) (a := a) (y := now + nI i) hn h ho n (Nat.le_refl n)).1
  unfold okL
  rw [decide_eq_true_eq]
  show (Ft C a (now + nI i) (nI om) (laA n C (nI om) a now f0 i) n).1 = 0 ↔ _
  rw [h1]
  constructor
  · intro h2
    have := (nI_eq (a := _) (b := 0) (by omega) (by omega)).mp h2
    omega
  · intro h2
    rw [show om - Se C a (now + nI i) (laA n C (nI om) a now f0 i) n = 0 by omega]; rfl
theorem laA_ok {n t : Nat} {C : Nat → CT} {a : Int32} {f0 : Nat → Int32} {om : Nat} (hI : INV n t C) (ho : om ≤ 9999) (h0 : okS n f0) : ∀ i, i ≤ 30 → okS n (laA n C (nI om) a (nI t) f0 i) := by
  intro i
  induction i with
  | zero => intro _; exact h0
  | succ i ih =>
    intro hi c hc
    have ih := ih (by omega)
    obtain ⟨z, hz1, hz2⟩ := F_ge (C := C) (a := a) (y := nI t + nI i) hI.1 ih ho (Nat.le_refl n) hc
    have e : laA n C (nI om) a (nI t) f0 (i + 1) c = (Ft C a (nI t + nI i) (nI om) (laA n C (nI om) a (nI t) f0 i) n).2 c - lostX ((Ft C a (nI t + nI i) (nI om) (laA n C (nI om) a (nI t) f0 i) n).2 c) (lossC (C c) (nI t + nI i)) := by
      show pyA C _ _ n c = _
      unfold pyA; rw [if_pos hc]; rfl
    have ht := hI.2.1
    obtain ⟨-, l, hl, hl1, hl2⟩ := lossC_eq (hI.2.2.1 c hc) (t' := t + i) (by omega) (by omega)
    rw [e, hz2, nI_add, hl, lost_nat hz1 hl2, pk_sub (lost_le hl2)]
    have hle : z - (z * l + 999) / 1000 ≤ 9000 := by omega
    rw [nt_nI (by omega)]
    exact ⟨rfl, hle⟩
theorem cpA_ok {n t : Nat} {C : Nat → CT} (hI : INV n t C) (f : Nat → Int32) : okS n (cpA C f n) := by
  intro c hc
  obtain ⟨⟨-, e2, -⟩, b1, -⟩ := okC_nt hI.2.1 (hI.2.2.1 c hc)
  unfold cpA
  rw [if_pos hc]
  exact ⟨e2, b1⟩
/-- what stands behind the casks in the row changes nothing -/
theorem Ft_cg {n : Nat} {C : Nat → CT} {a y w : Int32} {f g : Nat → Int32} (h : ∀ c, c < n → f c = g c) : ∀ j, j ≤ n → (Ft C a y w f j).1 = (Ft C a y w g j).1 ∧ ∀ c, c < n → (Ft C a y w f j).2 c = (Ft C a y w g j).2 c := by
  intro j
  induction j with
  | zero => intro _; exact ⟨rfl, h⟩
  | succ j ih =>
    intro hj
    obtain ⟨h1, h2⟩ := ih (by omega)
    have h3 := h2 j (by omega)
    show (tkf C a y j (Ft C a y w f j)).1 = (tkf C a y j (Ft C a y w g j)).1 ∧ ∀ c, c < n → (tkf C a y j (Ft C a y w f j)).2 c = (tkf C a y j (Ft C a y w g j)).2 c
    unfold tkf
    by_cases hc : y - c_la (C j) < a
    · rw [if_pos hc, if_pos hc]; exact ⟨h1, h2⟩
    · rw [if_neg hc, if_neg hc]
      refine ⟨by rw [h1, h3], fun c hcn => ?_⟩
      show upd _ j _ c = upd _ j _ c
      rw [upd_ap, upd_ap, h1, h3, h2 c hcn]
theorem la_cg {n : Nat} {C : Nat → CT} {w a now : Int32} {f g : Nat → Int32} (h : ∀ c, c < n → f c = g c) : ∀ i, ∀ c, c < n → laA n C w a now f i c = laA n C w a now g i c := by
  intro i
  induction i with
  | zero => exact h
  | succ i ih =>
    intro c hc
    have h2 := (Ft_cg (C := C) (a := a) (y := now + nI i) (w := w) ih n (Nat.le_refl n)).2 c hc
    show pyA C (Ft C a (now + nI i) w (laA n C w a now f i) n).2 (now + nI i) n c = pyA C (Ft C a (now + nI i) w (laA n C w a now g i) n).2 (now + nI i) n c
    unfold pyA
    rw [if_pos hc, if_pos hc, h2]
theorem lasts_cg {n : Nat} {C : Nat → CT} {now w a : Int32} {f g : Nat → Int32} (h : ∀ c, c < n → f c = g c) : lastsF n C now f w a = lastsF n C now g w a := by
  have : okL n C w a now f = okL n C w a now g := by
    funext i
    unfold okL
    have h1 := (Ft_cg (C := C) (a := a) (y := now + nI i) (w := w) (la_cg (C := C) (w := w) (a := a) (now := now) h i) n (Nat.le_refl n)).1
    show decide ((Ft C a (now + nI i) w (laA n C w a now f i) n).1 = 0) = decide ((Ft C a (now + nI i) w (laA n C w a now g i) n).1 = 0)
    rw [h1]
  unfold lastsF
  rw [this]
theorem cp_cg {n : Nat} {C : Nat → CT} (f g : Nat → Int32) : ∀ c, c < n → cpA C f n c = cpA C g n c := by
  intro c hc
  unfold cpA
  rw [if_pos hc, if_pos hc]
