/-! what each call keeps -/
theorem pr_inj {α β : Type} {a c : α} {b d : β} {z : α × β} (h1 : (a, b) = z) (h2 : (c, d) = z) : a = c ∧ b = d := by
  rw [← h2] at h1; exact Prod.mk.inj h1
theorem lay_inv {n t : Nat} {C : Nat → CT} {k d s f m r : Int32} {u : Int32 × (Nat → CT)} (hI : INV n t C) (h : (r, u) = layF n (nI t) C k d s f m) : ∃ n' : Nat, u.1 = nI n' ∧ INV n' t u.2 := by
  unfold layF at h
  by_cases h1 : inR k 0 2 = true ∧ inR d 1 9000 = true ∧ inR s 400 700 = true ∧ inR f 0 3 = true ∧ inR m 0 500 = true
  · rw [if_pos h1] at h
    by_cases h2 : n < 12
    · rw [if_pos h2] at h
      have e := (Prod.mk.inj h).2
      rw [e]
      exact ⟨n + 1, nI_1 n, INV_lay hI h2 h1.1 h1.2.1 h1.2.2.1 h1.2.2.2.1 h1.2.2.2.2⟩
    · rw [if_neg h2] at h
      rw [(Prod.mk.inj h).2]; exact ⟨n, rfl, hI⟩
  · rw [if_neg h1] at h
    rw [(Prod.mk.inj h).2]; exact ⟨n, rfl, hI⟩
theorem years_inv {n t : Nat} {C : Nat → CT} {k r : Int32} {u : Int32 × (Nat → CT)} (hI : INV n t C) (h : (r, u) = yearsF n (nI t) C k) : ∃ t' : Nat, u.1 = nI t' ∧ INV n t' u.2 := by
  unfold yearsF at h
  by_cases h1 : inR k 1 30 = true
  · rw [if_pos h1] at h
    by_cases h2 : nI t + k ≤ 60
    · rw [if_pos h2] at h
      rw [(Prod.mk.inj h).2]
      obtain ⟨j, hj, rfl⟩ := in1_of h1
      have ht := hI.2.1
      have h3 : t + j ≤ 60 := by
        rw [nI_add] at h2; exact (nI_leI (a := t + j) (b := 60) (by omega) (by omega)).mp h2
      rw [nI_clamp (by omega)]
      obtain ⟨a1, a2⟩ := INV_yrs hI j h3
      exact ⟨t + j, a1, a2⟩
    · rw [if_neg h2] at h
      rw [(Prod.mk.inj h).2]; exact ⟨t, rfl, hI⟩
  · rw [if_neg h1] at h
    rw [(Prod.mk.inj h).2]; exact ⟨t, rfl, hI⟩
theorem move_inv {n t : Nat} {C : Nat → CT} {c f r : Int32} {u : Nat → CT} (hI : INV n t C) (h : (r, u) = moveF n C c f) : INV n t u := by
  unfold moveF at h
  by_cases h1 : isC n c = true ∧ inR f 0 3 = true
  · rw [if_pos h1] at h
    rw [(Prod.mk.inj h).2]
    obtain ⟨j, hj, rfl⟩ := isC_of hI.1 h1.1
    have hn := hI.1
    rw [nI_clamp (by omega)]
    obtain ⟨k, -, hk, rfl⟩ := in_nat (a := 0) (b := 3) (by decide) (by decide) h1.2
    obtain ⟨kd, dr, sg, fl, ok, sm, sw, la, e, g1, g2, g3, g4, g5, g6, g7, g8, g9⟩ := hI.2.2.1 j hj
    refine INV_set hI hj ⟨kd, dr, sg, k, ok, sm, sw, la, ?_, g1, g2, g3, g4, hk, g6, g7, g8, g9⟩ rfl
    unfold setF; rw [e]
  · rw [if_neg h1] at h
    rw [(Prod.mk.inj h).2]; exact hI
theorem draw_inv {n t : Nat} {C : Nat → CT} {c v r : Int32} {u : Nat → CT} (hI : INV n t C) (h : (r, u) = drawF n C c v) : INV n t u := by
  unfold drawF at h
  by_cases h1 : isC n c = true ∧ inR v 0 (c_dr (C c.toNatClampNeg)) = true
  · rw [if_pos h1] at h
    rw [(Prod.mk.inj h).2]
    obtain ⟨h2, h3⟩ := h1
    obtain ⟨j, hj, rfl⟩ := isC_of hI.1 h2
    have hn := hI.1
    rw [nI_clamp (by omega)] at h3 ⊢
    obtain ⟨kd, dr, sg, fl, ok, sm, sw, la, e, g1, g2, g3, g4, g5, g6, g7, g8, g9⟩ := hI.2.2.1 j hj
    have h4 : inR v (nI 0) (nI dr) = true := by rw [e] at h3; exact h3
    obtain ⟨k, -, hk, rfl⟩ := in_nat (a := 0) (b := dr) (by decide) (by omega) h4
    refine INV_set hI hj ⟨kd, dr - k, sg, fl, ok, sm, sw, la, ?_, g1, by omega, g3, g4, g5, g6, g7, g8, g9⟩ rfl
    unfold setD; rw [e, ← pk_sub hk]
  · rw [if_neg h1] at h
    rw [(Prod.mk.inj h).2]; exact hI
theorem read_inv {r : Nat} {no sa to g h : Nat → Int32} {ct a b v r1 r2 : Int32} {u1 : Int32 × Int32 × (Nat → Int32) × (Nat → Int32)} {u2 : Int32 × (Nat → Int32) × (Nat → Int32) × (Nat → Int32)} (hN : NS r no sa to g h ct) (h1 : (r1, u1) = readF (nI r) ct g h a b v) (h2 : (r2, u2) = readM r no sa to a b v) : r1 = r2 ∧ ∃ r' : Nat, u1.1 = nI r' ∧ u2.1 = nI r' ∧ NS r' u2.2.1 u2.2.2.1 u2.2.2.2 u1.2.2.1 u1.2.2.2 u1.2.1 := by
  unfold readF at h1
  unfold readM at h2
  have hr := hN.1
  have q30 : nI r < 30 ↔ r < 30 := nI_ltI (a := r) (b := 30) (by omega) (by omega)
  by_cases hc : inR a 0 5 = true ∧ inR b 0 9 = true ∧ inR v 0 99 = true
  · rw [if_pos hc] at h1 h2
    by_cases h3 : r < 30
    · rw [if_pos (q30.mpr h3)] at h1
      rw [if_pos h3] at h2
      obtain ⟨e1, e2⟩ := Prod.mk.inj h1
      obtain ⟨e3, e4⟩ := Prod.mk.inj h2
      obtain ⟨a', ha, rfl⟩ := inR_of (k := 5) (by decide) (by decide) hc.1
      obtain ⟨b', hb, rfl⟩ := inR_of (k := 9) (by decide) (by decide) hc.2.1
      rw [nI_clamp (by omega), nI_clamp (by omega)] at e2
      subst e1; subst e2; subst e3; subst e4
      exact ⟨rfl, r + 1, nI_1 r, nI_1 r, NS_take hN h3 (by omega) (by omega) v⟩
    · rw [if_neg (fun q => h3 (q30.mp q))] at h1
      rw [if_neg h3] at h2
      obtain ⟨e1, e2⟩ := Prod.mk.inj h1
      obtain ⟨e3, e4⟩ := Prod.mk.inj h2
      subst e1; subst e2; subst e3; subst e4
      exact ⟨rfl, r, rfl, rfl, hN⟩
  · rw [if_neg hc] at h1 h2
    obtain ⟨e1, e2⟩ := Prod.mk.inj h1
    obtain ⟨e3, e4⟩ := Prod.mk.inj h2
    subst e1; subst e2; subst e3; subst e4
    exact ⟨rfl, r, rfl, rfl, hN⟩
theorem lg_self (x : Int64) : lg_cmp x x = 0 := by
  unfold lg_cmp
  rw [if_neg (Int64.lt_irrefl), if_pos rfl]
theorem P_l {D : va_G} {cl : List vw_C} {a b : va_W} {H : Heap} (h : va_P D cl (a ++ b) H) : va_P D cl a H := wj_P (X := []) (Z := b) h
theorem P_r {D : va_G} {cl : List vw_C} {a b : va_W} {H : Heap} (h : va_P D cl (a ++ b) H) : va_P D cl b H := wj_P (X := a) (Z := []) (by rw [List.append_nil]; exact h)
theorem trE_blind {A : Nat → Prop} (U : State) (g : JFrame) (mk : MethodId) (a : Array Value) (h : trE A U) : trE A (U.calling g mk a) := by
  obtain ⟨t, h1, h2⟩ := h
  exact ⟨t, va_Z.moved (u := U) (U := U.calling g mk a) (Vm.Alike.refl U.vm) h1, va_T.moved (u := U) (U := U.calling g mk a) (Vm.Alike.refl U.vm) h2⟩
theorem trE_pre {A B : Nat → Prop} {s : State} {H : Heap} {locs : List Loc} (h : trE A s) (hS : va_S A s.heap H locs) (hB : ∀ q, B q → A q) : ∀ U : State, U.heap = H → s.WarmedH U.vm → trE B U := by
  intro U hU hW
  obtain ⟨t, h1, h2⟩ := h
  refine ⟨t, ?_, ?_⟩
  · rw [hU]; exact va_Z.moved hW.alike ((h1.kept (fun a ha hn => hS.2.1 a ha hn)).narrow hB)
  · rw [hU]; exact va_T.moved hW.alike ((h2.kept (fun a ha hn => hS.2.1 a ha hn)).narrow hB)
section
variable {p : Program} {l : Launch} {e : Env} {R : Room} {s : State} {m : MethodId} {args : Array Value} {below : List Frame} {meth : Method} {c : Code} {H : Heap} {locs : List Loc} {cells slots : Nat} {Q : State → Prop} {pc : Nat} {ls : Array Slot} {rest st0 : List Value} {cc : ByteArray}
theorem lx_i {σ : Type} {D : va_G} {post : Int32 → σ → Prop} {w1 : σ → va_W} {A : Nat → Prop} {Y Z : va_W} {a : Array Value} (hr : va_Run p l e R s m args below meth c H locs cells slots 0 0 (F0 m pc ls st0) rest (QI D post w1 (va_A Y H.size) a) (va_A Y H.size)) (hP : va_P D vwCl (Y ++ Z) H) (hD : va_D A (Y ++ Z)) (hS : va_S A s.heap H locs) (hA : ∀ q : Nat, s.heap.size ≤ q → A q)
    (kk : ∀ (r : Int32) (u : σ) (H1 : Heap) (locs1 : List Loc), post r u → va_P D vwCl (w1 u ++ Z) H1 → va_D A (w1 u ++ Z) → va_S A s.heap H1 locs1 → W p l e R s m args below meth c H1 locs1 cells slots Q (F0 m (pc + 3) ls (.int r :: rest))) : W p l e R s m args below meth c H locs cells slots Q (F0 m pc ls st0) :=
  mu_i (X := []) (Z := Z) hr hP hD hS hA kk
theorem lm_i {σ : Type} {D : va_G} {post : Int32 → σ → Prop} {w1 : σ → va_W} {A : Nat → Prop} {X Y : va_W} {a : Array Value} (hr : va_Run p l e R s m args below meth c H locs cells slots 0 0 (F0 m pc ls st0) rest (QI D post w1 (va_A Y H.size) a) (va_A Y H.size)) (hP : va_P D vwCl (X ++ Y) H) (hD : va_D A (X ++ Y)) (hS : va_S A s.heap H locs) (hA : ∀ q : Nat, s.heap.size ≤ q → A q)
    (kk : ∀ (r : Int32) (u : σ) (H1 : Heap) (locs1 : List Loc), post r u → va_P D vwCl (X ++ w1 u) H1 → va_D A (X ++ w1 u) → va_S A s.heap H1 locs1 → W p l e R s m args below meth c H1 locs1 cells slots Q (F0 m (pc + 3) ls (.int r :: rest))) : W p l e R s m args below meth c H locs cells slots Q (F0 m pc ls st0) :=
  mu_i (X := X) (Z := []) hr (by rw [List.append_nil]; exact hP) (by rw [List.append_nil]; exact hD) hS hA (fun r u H1 locs1 h1 h2 h3 h4 => kk r u H1 locs1 h1 (by rw [List.append_nil] at h2; exact h2) (by rw [List.append_nil] at h3; exact h3) h4)
theorem wa_sld {A : Nat → Prop} {H0 : Heap} (hexec : p.tables.exec = Jvm.exec) (hb : c.code = cc) {b L : Nat} {xs : Nat → Int32} (hX : va_X b L xs s H0) (hbl : b < H0.size) (hbA : ¬ A b) (hS : va_S A H0 H locs) {x : Int32} (j : Nat) (hxj : x = nI j) (hj : j < L) (hL : L ≤ 3072) (hdg : decode cc pc = .ok (.iaload, 1))
    (kk : W p l e R s m args below meth c H locs cells slots Q (F0 m (pc + 1) ls (.int (xs j) :: rest))) : W p l e R s m args below meth c H locs cells slots Q (F0 m pc ls (.int x :: .ref b :: rest)) := by
  subst hxj
  refine va_sld hexec hb hX hbl hbA hS (vp_in_nI hj (by omega)) hdg ?_
  rw [nI_clamp (by omega)]; exact kk
end
theorem lx_pre {D : va_G} {tys : List (ClassId × FieldType)} {Y Z : va_W} {s : State} {H : Heap} {av : List Value} {A : Nat → Prop} {E : State → Prop} (hP : va_P D vwCl (Y ++ Z) H) (hK : va_K D vwCl tys s) (hN : NW s) (hD : va_D A (Y ++ Z)) (hE : ∀ U : State, U.heap = H → s.WarmedH U.vm → E U) : ∀ U : State, U.heap = H → s.WarmedH U.vm → va_Pc av (muB D tys Y H.size E) av.toArray U := muB_pre (X := []) (Z := Z) hP hK hN hD hE
theorem lm_pre {D : va_G} {tys : List (ClassId × FieldType)} {X Y : va_W} {s : State} {H : Heap} {av : List Value} {A : Nat → Prop} {E : State → Prop} (hP : va_P D vwCl (X ++ Y) H) (hK : va_K D vwCl tys s) (hN : NW s) (hD : va_D A (X ++ Y)) (hE : ∀ U : State, U.heap = H → s.WarmedH U.vm → E U) : ∀ U : State, U.heap = H → s.WarmedH U.vm → va_Pc av (muB D tys Y H.size E) av.toArray U := muB_pre (X := X) (Z := []) (by rw [List.append_nil]; exact hP) hK hN (by rw [List.append_nil]; exact hD) hE
theorem lx_sub {D : va_G} {A : Nat → Prop} {Y Z : va_W} {H0 H : Heap} {locs : List Loc} (hD : va_D A (Y ++ Z)) (hS : va_S A H0 H locs) (hA : ∀ q : Nat, H0.size ≤ q → A q) : ∀ q : Nat, va_A Y H.size q → A q := wj_free (D := D) (cl := vwCl) (X := []) (Z := Z) hD hS hA
