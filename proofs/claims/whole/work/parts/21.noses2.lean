theorem lead_s {f m r : Nat} {no sa to g h im va : Nat → Int32} (hr : rdOK r no sa) (hm : m ≤ r) (hf : f < 6) (hS : SND f m no sa to im va) (hA : ∀ i, i < m → g (nA no i) = g (nB sa i) ∧ to i = h (nA no i) - h (nB sa i)) : ∀ k, k < 16 → im k = 1 → va k = if k < 6 then h k - h f else h f - h k := by
  intro k hk h1
  exact (hS (fun z => g z = g f) (fun z => if z < 6 then h z - h f else h f - h z) rfl (by show (if f < 6 then h f - h f else _) = 0; rw [if_pos hf, Int32.sub_self]) (fun i hi => by
    obtain ⟨a1, a2⟩ := hA i hi
    have ha := (hr i (by omega)).1.2
    refine ⟨by show g (nA no i) = g f ↔ g (nB sa i) = g f; rw [a1], ?_⟩
    show to i = (if nA no i < 6 then h (nA no i) - h f else _) + (if nB sa i < 6 then _ else h f - h (nB sa i))
    rw [if_pos ha, if_neg (by show ¬ 6 + _ < 6; omega), a2, Int32.sub_eq_add_neg, Int32.sub_eq_add_neg, Int32.sub_eq_add_neg, Int32.add_assoc, ← Int32.add_assoc (-h f), Int32.add_comm (-h f), ← Int32.sub_eq_add_neg (h f), Int32.sub_self, Int32.zero_add]) k hk h1).2
theorem fw_ret {r i K : Nat} {no sa to g h im va : Nat → Int32} {ct : Int32} (hrd : rdOK r no sa) (hi : i < r) (hiK : i ≤ K) (hAG : AGR K no sa to g h) (hct : (ct = -9 ∧ K = r) ∨ (ct = nI K ∧ K < r ∧ g (nA no K) = g (nB sa K) ∧ ¬ to K = h (nA no K) - h (nB sa K))) (l1 : FLG im) (l3 : SND (nA no i) i no sa to im va) (c1 : ¬ im (nB sa i) = 0) (c2 : ¬ va (nB sa i) = to i) : nI i = ct := by
  have hA := (hrd i hi).1.2
  have hB := (hrd i hi).2.2
  rcases Nat.lt_or_ge i K with h1 | h1
  · exfalso
    have h2 := lead_s hrd (Nat.le_of_lt hi) hA l3 (g := g) (h := h) (fun z hz => hAG.1 z (by omega)) (nB sa i) (by show 6 + _ < 16; omega) ((l1 _ (by show 6 + _ < 16; omega)).resolve_left c1)
    rw [if_neg (by show ¬ 6 + _ < 6; omega), ← (hAG.1 i h1).2] at h2
    exact c2 h2
  · have e : i = K := by omega
    subst e
    rcases hct with ⟨-, h2⟩ | ⟨h2, -⟩
    · omega
    · exact h2.symm
theorem fw_next {r i K : Nat} {no sa to g h im va : Nat → Int32} {ct : Int32} (hrd : rdOK r no sa) (hi : i < r) (hiK : i ≤ K) (hAG : AGR K no sa to g h) (hct : (ct = -9 ∧ K = r) ∨ (ct = nI K ∧ K < r ∧ g (nA no K) = g (nB sa K) ∧ ¬ to K = h (nA no K) - h (nB sa K))) (l1 : FLG im) (l2 : im (nA no i) = 1) (l3 : SND (nA no i) i no sa to im va) (l4 : CLO i no sa im) (c : im (nB sa i) = 0 ∨ va (nB sa i) = to i) : i + 1 ≤ K := by
  rcases Nat.lt_or_ge i K with h1 | h1
  · exact h1
  · exfalso
    have e : i = K := by omega
    subst e
    have hA := (hrd i hi).1.2
    have hB := (hrd i hi).2.2
    rcases hct with ⟨-, h2⟩ | ⟨-, -, h3, h4⟩
    · omega
    · obtain ⟨u1, u2⟩ := lead_use hrd (Nat.le_of_lt hi) hA l3 l2 l1 l4 hAG (nB sa i) (by show 6 + _ < 16; omega)
      have u3 := u1.mpr h3.symm
      have u4 := u2 u3
      rw [if_neg (by show ¬ 6 + _ < 6; omega)] at u4
      rcases c with c | c
      · rw [c] at u3; exact absurd u3 (by decide)
      · rw [c] at u4; exact h4 u4
theorem fw_end {r i K : Nat} {no sa to g h : Nat → Int32} {ct : Int32} (hiK : i ≤ K) (hi : r ≤ i) (hct : (ct = -9 ∧ K = r) ∨ (ct = nI K ∧ K < r ∧ g (nA no K) = g (nB sa K) ∧ ¬ to K = h (nA no K) - h (nB sa K))) : (-9) = ct := by
  rcases hct with ⟨h1, -⟩ | ⟨-, h2, -⟩
  · exact h1.symm
  · omega
theorem fw_K {r K : Nat} {P Q : Prop} {ct : Int32} (hct : (ct = -9 ∧ K = r) ∨ (ct = nI K ∧ K < r ∧ P ∧ Q)) (h : ¬ ct = -9) : ct = nI K := by
  rcases hct with ⟨h1, -⟩ | ⟨h1, -⟩
  · exact absurd h1 h
  · exact h1
theorem fw_r {r K : Nat} {P Q : Prop} {ct : Int32} (hK : K ≤ r) (hr : r ≤ 30) (hct : (ct = -9 ∧ K = r) ∨ (ct = nI K ∧ K < r ∧ P ∧ Q)) (h : ct = -9) : nI r = nI K := by
  rcases hct with ⟨-, h1⟩ | ⟨h1, -⟩
  · rw [h1]
  · rw [h1] at h; exact absurd h (ne9 (by omega))
theorem ld_n {r : Nat} {no sa jm km : Nat → Int32} {mp : Int32} (g5 : (mp = 0 ∧ km = jm ∧ CLO r no sa km) ∨ (mp = 1 ∧ cntM jm < cntM km)) (h : km (nA no r) = 1 ↔ km (nB sa r) = 1) : (mp = 0 ∧ km = jm ∧ CLO (r + 1) no sa km) ∨ (mp = 1 ∧ cntM jm < cntM km) := by
  rcases g5 with ⟨a, b, c⟩ | d
  · refine Or.inl ⟨a, b, fun i hi => ?_⟩
    by_cases e : i = r
    · rw [e]; exact h
    · exact c i (by omega)
  · exact Or.inr d
theorem ld_u {r k : Nat} {no sa jm km : Nat → Int32} {mp : Int32} (g5 : (mp = 0 ∧ km = jm ∧ CLO r no sa km) ∨ (mp = 1 ∧ cntM jm < cntM km)) (hk : k < 16) (h : km k = 0) : cntM jm < cntM (upd km k 1) := by
  have h1 := cnt_up hk h
  rcases g5 with ⟨-, b, -⟩ | ⟨-, d⟩
  · rw [← b]; exact h1
  · omega
theorem f10 {x : Int32} (h : x = 0) : ¬ x = 1 := by rw [h]; decide
