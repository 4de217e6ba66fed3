/-! my own base: shapes of contracts, calls, loops -/
/-- the links between nest mates that the methods use -/
def NW (U : State) : Prop := va_Nw (.methodLinkNest RX0 34 yX4_dividedUp RX4) U ∧ va_Nw (.methodLinkNest RX0 38 yX4_lossBy RX4) U ∧ va_Nw (.methodLinkNest RX0 45 yX4_lostOf RX4) U ∧ va_Nw (.methodLinkNest RX3 36 yX4_isWithin RX4) U ∧ va_Nw (.methodLinkNest RX4 21 yX3_init RX4) U ∧ va_Nw (.methodLinkNest RX4 28 yX1_init RX4) U ∧ va_Nw (.methodLinkNest RX4 54 yX0_init RX4) U
theorem NW.warm {s U : State} (hW : s.WarmedH U.vm) (h : NW s) : NW U := ⟨va_Nw.warmM hW h.1, va_Nw.warmM hW h.2.1, va_Nw.warmM hW h.2.2.1, va_Nw.warmM hW h.2.2.2.1, va_Nw.warmM hW h.2.2.2.2.1, va_Nw.warmM hW h.2.2.2.2.2.1, va_Nw.warmM hW h.2.2.2.2.2.2⟩
theorem NW.same {s U : State} (e : s.vm = U.vm) (h : NW s) : NW U := ⟨va_Nw.same rfl e h.1, va_Nw.same rfl e h.2.1, va_Nw.same rfl e h.2.2.1, va_Nw.same rfl e h.2.2.2.1, va_Nw.same rfl e h.2.2.2.2.1, va_Nw.same rfl e h.2.2.2.2.2.1, va_Nw.same rfl e h.2.2.2.2.2.2⟩
/-- what a reading method needs -/
def rdB (D : va_G) (tys : List (ClassId × FieldType)) (ws : va_W) (U : State) : Prop := va_P D vwCl ws U.heap ∧ va_K D vwCl tys U ∧ NW U
theorem rdB_blind {D : va_G} {tys : List (ClassId × FieldType)} {ws : va_W} {av : List Value} : FrameBlind (va_Pc av (rdB D tys ws)) := fun a U g mk h => ⟨h.1, h.2.1, va_K.moved (u := U) (U := U.calling g mk a) (Vm.Alike.refl U.vm) h.2.2.1, NW.same rfl h.2.2.2⟩
theorem tr_blind {av : List Value} : FrameBlind (va_Pc av (fun _ => True)) := fun _ _ _ _ h => h
theorem rdB_pre {D : va_G} {tys : List (ClassId × FieldType)} {ws : va_W} {s : State} {H : Heap} {av : List Value} (hP : va_P D vwCl ws H) (hK : va_K D vwCl tys s) (hN : NW s) : ∀ U : State, U.heap = H → s.WarmedH U.vm → va_Pc av (rdB D tys ws) av.toArray U := fun U hU hW => ⟨rfl, by rw [hU]; exact hP, va_K.moved hW.alike hK, hN.warm hW⟩
theorem tr_pre {s : State} {H : Heap} {av : List Value} : ∀ U : State, U.heap = H → s.WarmedH U.vm → va_Pc av (fun _ => True) av.toArray U := fun _ _ _ => ⟨rfl, trivial⟩
/-- what a writing method needs -/
def muB (D : va_G) (tys : List (ClassId × FieldType)) (ws : va_W) (sz : Nat) (E : State → Prop) (U : State) : Prop := U.heap.size = sz ∧ va_P D vwCl ws U.heap ∧ va_K D vwCl tys U ∧ NW U ∧ va_D (fun _ => True) ws ∧ E U
theorem muB_blind {D : va_G} {tys : List (ClassId × FieldType)} {ws : va_W} {sz : Nat} {av : List Value} {E : State → Prop} (hE : ∀ (U : State) (g : JFrame) (mk : MethodId) (a : Array Value), E U → E (U.calling g mk a)) : FrameBlind (va_Pc av (muB D tys ws sz E)) := fun a U g mk h => ⟨h.1, h.2.1, h.2.2.1, va_K.moved (u := U) (U := U.calling g mk a) (Vm.Alike.refl U.vm) h.2.2.2.1, NW.same rfl h.2.2.2.2.1, h.2.2.2.2.2.1, hE _ _ _ _ h.2.2.2.2.2.2⟩
abbrev eT : State → Prop := fun _ => True
abbrev QI {σ : Type} (D : va_G) (post : Int32 → σ → Prop) (w1 : σ → va_W) (A : Nat → Prop) : Array Value → State → Outcome → State → Prop := va_Qi (S := σ) post (fun u t => va_P D vwCl (w1 u) t.heap ∧ va_D A (w1 u)) A
abbrev QV {σ : Type} (D : va_G) (post : σ → Prop) (w1 : σ → va_W) (A : Nat → Prop) : Array Value → State → Outcome → State → Prop := va_Qv (S := σ) post (fun u t => va_P D vwCl (w1 u) t.heap ∧ va_D A (w1 u)) A
abbrev nF : Addr → Prop := fun _ => False
section
variable {p : Program} {l : Launch} {e : Env} {R : Room} {s : State} {m : MethodId} {args : Array Value} {below : List Frame} {meth : Method} {c : Code} {H : Heap} {locs : List Loc} {cells slots : Nat} {Q : State → Prop} {pc : Nat} {ls : Array Slot} {rest st0 : List Value} {cc : ByteArray}
/-- entry of a reading method -/
theorem ro_start {y : MethodName} {ws ws' : List Cond} {rm : Room} {av : List Value} {B : State → Prop} {Qc : Array Value → State → Outcome → State → Prop} {maxL : Nat} {ret : Option FieldType} {free : Addr → Prop} {mc ms : Nat}
    (hy : plainName y.cls = true) (hw : ws = Cond.code y cc maxL ret :: ws') (hlen : (lg_sl av).length ≤ maxL)
    (body : ∀ (p : Program) (e : Env) (s : State) (m : MethodId) (below : List Frame) (meth : Method) (c : Code) (ls : Array Slot), p.tables.exec = Jvm.exec → c.code = cc → meth.sig.returnType = ret → c.maxLocals = maxL → s.vm.findClass y.cls = some m.cls → meth.locks = false → (∀ w ∈ ws, w.before av.toArray s = true) → (meth.name = y.name) → B s → lv_has ls maxL (lv_args 0 av) →
      W p l e rm s m av.toArray below meth c s.heap [] 0 0 (MQ below Qc av.toArray s mc ms free) (F0 m 0 ls [])) : Met l y ws rm (va_Pc av B) Qc mc ms free := by
  refine Met.ofW (cc := cc) (maxL := maxL) (ret := ret) hy hw ?_
  intro p e s m args below meth c s₁ B0 hml hv
  obtain ⟨rfl, hB⟩ := hv
  have hl := lv_entry av (n := maxL) hlen
  rw [lg_entry_eq]
  generalize (lg_sl av ++ List.replicate (maxL - (lg_sl av).length) Slot.unset).toArray = ls at hl ⊢
  exact body p e s m below meth c ls B0.exec B0.bytes B0.returns hml (findClass_of_methodNamed B0.named) B0.notSynchronized (atoms_spec (ws := ws) B0.pre) (name_of_methodNamed B0.named B0.method).1 hB hl
/-- entry of a writing method -/
theorem mu_start {y : MethodName} {ws ws' : List Cond} {rm : Room} {av : List Value} {D : va_G} {tys : List (ClassId × FieldType)} {w0 : va_W} {sz : Nat} {E : State → Prop} {Qc : (Nat → Prop) → Array Value → State → Outcome → State → Prop} {maxL : Nat} {ret : Option FieldType} {mc ms : Nat}
    (hy : plainName y.cls = true) (hw : ws = Cond.code y cc maxL ret :: ws') (hlen : (lg_sl av).length ≤ maxL)
    (body : ∀ (p : Program) (e : Env) (s : State) (m : MethodId) (below : List Frame) (meth : Method) (c : Code) (ls : Array Slot) (A : Nat → Prop), p.tables.exec = Jvm.exec → c.code = cc → meth.sig.returnType = ret → c.maxLocals = maxL → s.vm.findClass y.cls = some m.cls → meth.locks = false → (∀ w ∈ ws, w.before av.toArray s = true) → (meth.name = y.name) → (∀ q : Nat, s.heap.size ≤ q → A q) → va_P D vwCl w0 s.heap → va_K D vwCl tys s → NW s → va_D A w0 → E s → (∀ q : Nat, A q → va_A w0 s.heap.size q) → s.heap.size = sz → lv_has ls maxL (lv_args 0 av) →
      W p l e rm s m av.toArray below meth c s.heap [] 0 0 (MQ below (Qc A) av.toArray s mc ms A) (F0 m 0 ls [])) : Met l y ws rm (va_Pc av (muB D tys w0 sz E)) (Qc (va_A w0 sz)) mc ms (va_A w0 sz) := by
  refine ro_start hy hw hlen ?_
  intro p e s m below meth c ls hx hb hr hml hown hlocks hts hnm hB hl
  obtain ⟨rfl, hP, hK, hN, hD, hE⟩ := hB
  exact body p e s m below meth c ls _ hx hb hr hml hown hlocks hts hnm (fun q h => Or.inr h) hP hK hN hD.self hE (fun _ h => h) rfl hl
theorem ro_iret {v r : Int32} (hx : p.tables.exec = Jvm.exec) (hb : c.code = cc) (hr : meth.sig.returnType = some .int) (hlocks : meth.locks = false) (hd : decode cc pc = .ok (.ireturn, 1)) (h : v = r) : W p l e R s m args below meth c s.heap [] 0 0 (MQ below (vp_Si (fun x => x = r)) args s 0 0 nF) (F0 m pc ls [.int v]) :=
  W.iret hx hb hr (fun t ht hW => ⟨v, rfl, h, ht⟩) (fun q h => by cases h) hd
theorem ro_zret {v r : Int32} (hx : p.tables.exec = Jvm.exec) (hb : c.code = cc) (hr : meth.sig.returnType = some .boolean) (hlocks : meth.locks = false) (hn : narrow .boolean (.int v) = .int v) (hd : decode cc pc = .ok (.ireturn, 1)) (h : v = r) : W p l e R s m args below meth c s.heap [] 0 0 (MQ below (vp_Si (fun x => x = r)) args s 0 0 nF) (F0 m pc ls [.int v]) :=
  W.zret hx hb hr hn (fun t ht hW => ⟨v, rfl, h, ht⟩) (fun q h => by cases h) hd
theorem ro_lret {v r : Int64} (hx : p.tables.exec = Jvm.exec) (hb : c.code = cc) (hr : meth.sig.returnType = some .long) (hlocks : meth.locks = false) (hd : decode cc pc = .ok (.lreturn, 1)) (h : v = r) : W p l e R s m args below meth c s.heap [] 0 0 (MQ below (vp_Sl (fun x => x = r)) args s 0 0 nF) (F0 m pc ls [.long v]) :=
  W.lret hx hb hr (fun t ht hW => ⟨v, rfl, h, ht⟩) (fun q h => by cases h) hd
theorem mu_iret {σ : Type} {D : va_G} {post : Int32 → σ → Prop} {w1 : σ → va_W} {A : Nat → Prop} {v : Int32} (u : σ) (hx : p.tables.exec = Jvm.exec) (hb : c.code = cc) (hr : meth.sig.returnType = some .int) (hlocks : meth.locks = false) (hP : va_P D vwCl (w1 u) H) (hD : va_D A (w1 u)) (hS : va_S A s.heap H locs) (hd : decode cc pc = .ok (.ireturn, 1)) (h : post v u) : W p l e R s m args below meth c H locs 0 0 (MQ below (QI D post w1 A) args s 0 0 A) (F0 m pc ls [.int v]) :=
  W.iret hx hb hr (fun t ht hW => ⟨⟨v, u, rfl, h, by rw [ht]; exact hP, hD⟩, hS.F ht⟩) hS.2.2 hd
theorem mu_zret {σ : Type} {D : va_G} {post : Int32 → σ → Prop} {w1 : σ → va_W} {A : Nat → Prop} {v : Int32} (u : σ) (hx : p.tables.exec = Jvm.exec) (hb : c.code = cc) (hr : meth.sig.returnType = some .boolean) (hlocks : meth.locks = false) (hn : narrow .boolean (.int v) = .int v) (hP : va_P D vwCl (w1 u) H) (hD : va_D A (w1 u)) (hS : va_S A s.heap H locs) (hd : decode cc pc = .ok (.ireturn, 1)) (h : post v u) : W p l e R s m args below meth c H locs 0 0 (MQ below (QI D post w1 A) args s 0 0 A) (F0 m pc ls [.int v]) :=
  W.zret hx hb hr hn (fun t ht hW => ⟨⟨v, u, rfl, h, by rw [ht]; exact hP, hD⟩, hS.F ht⟩) hS.2.2 hd
theorem mu_vret {σ : Type} {D : va_G} {post : σ → Prop} {w1 : σ → va_W} {A : Nat → Prop} {k n : Nat} (u : σ) (hx : p.tables.exec = Jvm.exec) (hb : c.code = cc) (hr : meth.sig.returnType = none) (hlocks : meth.locks = false) (hP : va_P D vwCl (w1 u) H) (hD : va_D A (w1 u)) (hS : va_S A s.heap H locs) (hd : decode cc pc = .ok (.return_, 1)) (h : post u) : W p l e R s m args below meth c H locs k n (MQ below (QV D post w1 A) args s k n A) (F0 m pc ls []) :=
  W.vret hx hb hr (fun t ht hW => ⟨⟨u, rfl, h, by rw [ht]; exact hP, hD⟩, hS.F ht⟩) hS.2.2 hd
/-- a call of a reading method -/
theorem ro_i {a : Array Value} {r : Int32} (hr : va_Run p l e R s m args below meth c H locs cells slots 0 0 (F0 m pc ls st0) rest (vp_Si (fun x => x = r) a) nF)
    (kk : W p l e R s m args below meth c H locs cells slots Q (F0 m (pc + 3) ls (.int r :: rest))) : W p l e R s m args below meth c H locs cells slots Q (F0 m pc ls st0) :=
  vp_callSi hr.run (fun _ h => by rw [h]; exact kk)
theorem ro_l {a : Array Value} {r : Int64} (hr : va_Run p l e R s m args below meth c H locs cells slots 0 0 (F0 m pc ls st0) rest (vp_Sl (fun x => x = r) a) nF)
    (kk : W p l e R s m args below meth c H locs cells slots Q (F0 m (pc + 3) ls (.long r :: rest))) : W p l e R s m args below meth c H locs cells slots Q (F0 m pc ls st0) :=
  vp_callSl hr.run (fun _ h => by rw [h]; exact kk)
end
/-- the cells in the middle are replaced by what a call left there -/
theorem wj_mid {D : va_G} {cl : List vw_C} {A : Nat → Prop} {X Y Z Y' : va_W} {H H1 : Heap} (hP : va_P D cl (X ++ Y ++ Z) H) (hD : va_D A (X ++ Y ++ Z)) (hk : ∀ q : Nat, q < H.size → ¬ va_A Y H.size q → H1[q]? = H[q]?) (hF : ∀ q : Nat, va_A Y H.size q → A q) (hP1 : va_P D cl Y' H1) (hD1 : va_D (va_A Y H.size) Y') : va_P D cl (X ++ Y' ++ Z) H1 ∧ va_D A (X ++ Y' ++ Z) := by
  have hX : ∀ (i : Nat) (q : Nat × va_E), X[i]? = some q → (X ++ Y ++ Z)[i]? = some q := fun i q h => by
    have hi : i < X.length := (List.getElem?_eq_some_iff.mp h).1
    rw [List.append_assoc, List.getElem?_append_left hi]; exact h
  have hZ : ∀ (i : Nat) (q : Nat × va_E), Z[i]? = some q → (X ++ Y ++ Z)[(X ++ Y).length + i]? = some q := fun i q h => by
    rw [List.getElem?_append_right (Nat.le_add_right _ _), Nat.add_sub_cancel_left]; exact h
  have hY : ∀ (i : Nat) (q : Nat × va_E), Y[i]? = some q → (X ++ Y ++ Z)[X.length + i]? = some q := fun i q h => by
    have hi : i < Y.length := (List.getElem?_eq_some_iff.mp h).1
    rw [List.getElem?_append_left (by rw [List.length_append]; omega), List.getElem?_append_right (Nat.le_add_right _ _), Nat.add_sub_cancel_left]; exact h
  have nX : ∀ (i : Nat) (q : Nat × va_E), X[i]? = some q → ¬ va_A Y H.size q.1 := fun i q h hh => by
    rcases hh with ⟨k, e, hk2⟩ | hh
    · have h1 := hD.1 _ _ _ _ (hX i q h) (hY k _ hk2) rfl
      have hi : i < X.length := (List.getElem?_eq_some_iff.mp h).1
      omega
    · exact absurd (hP _ _ (hX i q h)).lt (Nat.not_lt.mpr hh)
  have nZ : ∀ (i : Nat) (q : Nat × va_E), Z[i]? = some q → ¬ va_A Y H.size q.1 := fun i q h hh => by
    rcases hh with ⟨k, e, hk2⟩ | hh
    · have h1 := hD.1 _ _ _ _ (hZ i q h) (hY k _ hk2) rfl
      have hi : k < Y.length := (List.getElem?_eq_some_iff.mp hk2).1
      rw [List.length_append] at h1
      omega
    · exact absurd (hP _ _ (hZ i q h)).lt (Nat.not_lt.mpr hh)
  have pX : va_P D cl X H1 := fun i q h => (hP _ _ (hX i q h)).kept (hk _ (hP _ _ (hX i q h)).lt (nX i q h))
  have pZ : va_P D cl Z H1 := fun i q h => (hP _ _ (hZ i q h)).kept (hk _ (hP _ _ (hZ i q h)).lt (nZ i q h))
  have dX : va_D A X := ⟨fun i j p q h1 h2 h3 => hD.1 _ _ _ _ (hX i p h1) (hX j q h2) h3, fun k q h => hD.2 _ _ (hX k q h)⟩
  have dZ : va_D A Z := ⟨fun i j p q h1 h2 h3 => by have := hD.1 _ _ _ _ (hZ i p h1) (hZ j q h2) h3; omega, fun k q h => hD.2 _ _ (hZ k q h)⟩
  have dY : va_D A Y' := hD1.weaken (fun _ _ _ h => hF _ h)
  refine ⟨(pX.app hP1).app pZ, (dX.app dY (fun i j p q h1 h2 h3 => nX i p h1 (by rw [h3]; exact hD1.2 _ _ h2))).app dZ (fun i j p q h1 h2 h3 => ?_)⟩
  rcases Nat.lt_or_ge i X.length with hi | hi
  · rw [List.getElem?_append_left hi] at h1
    have h4 := hD.1 _ _ _ _ (hX i p h1) (hZ j q h2) h3
    rw [List.length_append] at h4
    omega
  · rw [List.getElem?_append_right hi] at h1
    exact nZ j q h2 (by rw [← h3]; exact hD1.2 _ _ h1)
theorem wj_free {D : va_G} {cl : List vw_C} {A : Nat → Prop} {X Y Z : va_W} {H0 H : Heap} {locs : List Loc} (hD : va_D A (X ++ Y ++ Z)) (hS : va_S A H0 H locs) (hA : ∀ q : Nat, H0.size ≤ q → A q) : ∀ q : Nat, va_A Y H.size q → A q := by
  intro q hh
  rcases hh with ⟨k, e, hk⟩ | hh
  · have hi : k < Y.length := (List.getElem?_eq_some_iff.mp hk).1
    have : (X ++ Y ++ Z)[X.length + k]? = some (q, e) := by
      rw [List.getElem?_append_left (by rw [List.length_append]; omega), List.getElem?_append_right (Nat.le_add_right _ _), Nat.add_sub_cancel_left]; exact hk
    exact hD.2 _ _ this
  · exact hA q (Nat.le_trans hS.1 hh)
theorem wj_P {D : va_G} {cl : List vw_C} {X Y Z : va_W} {H : Heap} (hP : va_P D cl (X ++ Y ++ Z) H) : va_P D cl Y H := fun k q hk => by
  have hi : k < Y.length := (List.getElem?_eq_some_iff.mp hk).1
  refine hP (X.length + k) q ?_
  rw [List.getElem?_append_left (by rw [List.length_append]; omega), List.getElem?_append_right (Nat.le_add_right _ _), Nat.add_sub_cancel_left]; exact hk
theorem wj_D {A : Nat → Prop} {X Y Z : va_W} (hD : va_D A (X ++ Y ++ Z)) : va_D (fun _ => True) Y := by
  have hY : ∀ (i : Nat) (q : Nat × va_E), Y[i]? = some q → (X ++ Y ++ Z)[X.length + i]? = some q := fun i q h => by
    have hi : i < Y.length := (List.getElem?_eq_some_iff.mp h).1
    rw [List.getElem?_append_left (by rw [List.length_append]; omega), List.getElem?_append_right (Nat.le_add_right _ _), Nat.add_sub_cancel_left]; exact h
  exact ⟨fun i j p q h1 h2 h3 => by have := hD.1 _ _ _ _ (hY i p h1) (hY j q h2) h3; omega, fun _ _ _ => trivial⟩
theorem muB_pre {D : va_G} {tys : List (ClassId × FieldType)} {X Y Z : va_W} {s : State} {H : Heap} {av : List Value} {A : Nat → Prop} {E : State → Prop} (hP : va_P D vwCl (X ++ Y ++ Z) H) (hK : va_K D vwCl tys s) (hN : NW s) (hD : va_D A (X ++ Y ++ Z)) (hE : ∀ U : State, U.heap = H → s.WarmedH U.vm → E U) : ∀ U : State, U.heap = H → s.WarmedH U.vm → va_Pc av (muB D tys Y H.size E) av.toArray U := fun U hU hW => ⟨rfl, by rw [hU], by rw [hU]; exact wj_P hP, va_K.moved hW.alike hK, hN.warm hW, wj_D hD, hE U hU hW⟩
section
variable {p : Program} {l : Launch} {e : Env} {R : Room} {s : State} {m : MethodId} {args : Array Value} {below : List Frame} {meth : Method} {c : Code} {H : Heap} {locs : List Loc} {cells slots : Nat} {Q : State → Prop} {pc : Nat} {ls : Array Slot} {rest st0 : List Value} {cc : ByteArray}
/-- a call of a writing method, on the cells Y of the world -/
theorem mu_i {σ : Type} {D : va_G} {post : Int32 → σ → Prop} {w1 : σ → va_W} {A : Nat → Prop} {X Y Z : va_W} {a : Array Value} (hr : va_Run p l e R s m args below meth c H locs cells slots 0 0 (F0 m pc ls st0) rest (QI D post w1 (va_A Y H.size) a) (va_A Y H.size)) (hP : va_P D vwCl (X ++ Y ++ Z) H) (hD : va_D A (X ++ Y ++ Z)) (hS : va_S A s.heap H locs) (hA : ∀ q : Nat, s.heap.size ≤ q → A q)
    (kk : ∀ (r : Int32) (u : σ) (H1 : Heap) (locs1 : List Loc), post r u → va_P D vwCl (X ++ w1 u ++ Z) H1 → va_D A (X ++ w1 u ++ Z) → va_S A s.heap H1 locs1 → W p l e R s m args below meth c H1 locs1 cells slots Q (F0 m (pc + 3) ls (.int r :: rest))) : W p l e R s m args below meth c H locs cells slots Q (F0 m pc ls st0) := by
  have hF : ∀ q : Nat, va_A Y H.size q → A q := wj_free (D := D) (cl := vwCl) hD hS hA
  refine va_calli hr hS (fun q _ h => hF q h) hF (fun r u t H1 locs1 ht hvm hw hB hz1 hk1 hS1 => ?_)
  obtain ⟨hP1, hD1⟩ := hB
  rw [ht] at hP1
  obtain ⟨hP2, hD2⟩ := wj_mid hP hD hk1 hF hP1 hD1
  exact kk r u H1 locs1 hw hP2 hD2 hS1
theorem mu_v {σ : Type} {D : va_G} {post : σ → Prop} {w1 : σ → va_W} {A : Nat → Prop} {X Y Z : va_W} {a : Array Value} {mc ms : Nat} (hr : va_Run p l e R s m args below meth c H locs cells slots mc ms (F0 m pc ls st0) rest (QV D post w1 (va_A Y H.size) a) (va_A Y H.size)) (hP : va_P D vwCl (X ++ Y ++ Z) H) (hD : va_D A (X ++ Y ++ Z)) (hS : va_S A s.heap H locs) (hA : ∀ q : Nat, s.heap.size ≤ q → A q)
    (kk : ∀ (u : σ) (H1 : Heap) (locs1 : List Loc), post u → va_P D vwCl (X ++ w1 u ++ Z) H1 → va_D A (X ++ w1 u ++ Z) → va_S A s.heap H1 locs1 → W p l e R s m args below meth c H1 locs1 (cells + mc) (slots + ms) Q (F0 m (pc + 3) ls rest)) : W p l e R s m args below meth c H locs cells slots Q (F0 m pc ls st0) := by
  have hF : ∀ q : Nat, va_A Y H.size q → A q := wj_free (D := D) (cl := vwCl) hD hS hA
  refine va_callv hr hS (fun q _ h => hF q h) hF (fun u t H1 locs1 ht hvm hw hB hz1 hk1 hS1 => ?_)
  obtain ⟨hP1, hD1⟩ := hB
  rw [ht] at hP1
  obtain ⟨hP2, hD2⟩ := wj_mid hP hD hk1 hF hP1 hD1
  exact kk u H1 locs1 hw hP2 hD2 hS1
/-- two roads come together at frame J x -/
theorem W.join {τ : Type} {g : JFrame} (φ : τ → Prop) (J : τ → JFrame) (h1 : (∀ x, φ x → W p l e R s m args below meth c H locs cells slots Q (J x)) → W p l e R s m args below meth c H locs cells slots Q g) (h2 : ∀ x, φ x → W p l e R s m args below meth c H locs cells slots Q (J x)) : W p l e R s m args below meth c H locs cells slots Q g := h1 h2
/-- a loop that reads: by a measure that falls -/
theorem W.lpR {τ : Type} (φ : τ → Prop) (J : τ → Array Slot → Prop) (μ : τ → Nat) (hs : ∀ (x : τ) (ls : Array Slot), φ x → J x ls → (∀ (x' : τ) (ls' : Array Slot), μ x' < μ x → φ x' → J x' ls' → W p l e R s m args below meth c H locs cells slots Q (F0 m pc ls' [])) → W p l e R s m args below meth c H locs cells slots Q (F0 m pc ls [])) : ∀ (x : τ) (ls : Array Slot), φ x → J x ls → W p l e R s m args below meth c H locs cells slots Q (F0 m pc ls []) := by
  intro x ls hφ hJ
  have key : ∀ (n : Nat) (x : τ) (ls : Array Slot), μ x < n → φ x → J x ls → W p l e R s m args below meth c H locs cells slots Q (F0 m pc ls []) := by
    intro n
    induction n with
    | zero => intro x ls h; exact absurd h (Nat.not_lt_zero _)
    | succ n ih => intro x ls h hφ hJ; exact hs x ls hφ hJ (fun x' ls' h' hφ' hJ' => ih x' ls' (by omega) hφ' hJ')
  exact key (μ x + 1) x ls (Nat.lt_succ_self _) hφ hJ
/-- a loop that writes -/
theorem W.lpW {τ : Type} {D : va_G} {A : Nat → Prop} {H0 : Heap} {cl : List vw_C} (φ : τ → Prop) (ws : τ → va_W) (J : τ → Array Slot → Prop) (μ : τ → Nat) (hs : ∀ (x : τ) (ls : Array Slot) (H : Heap) (locs : List Loc), φ x → J x ls → va_P D cl (ws x) H → va_D A (ws x) → va_S A H0 H locs → (∀ (x' : τ) (ls' : Array Slot) (H' : Heap) (locs' : List Loc), μ x' < μ x → φ x' → J x' ls' → va_P D cl (ws x') H' → va_D A (ws x') → va_S A H0 H' locs' → W p l e R s m args below meth c H' locs' cells slots Q (F0 m pc ls' [])) → W p l e R s m args below meth c H locs cells slots Q (F0 m pc ls [])) : ∀ (x : τ) (ls : Array Slot), φ x → J x ls → va_P D cl (ws x) H → va_D A (ws x) → va_S A H0 H locs → W p l e R s m args below meth c H locs cells slots Q (F0 m pc ls []) := by
  intro x ls hφ hJ hP hD hS
  have key : ∀ (n : Nat) (x : τ) (ls : Array Slot) (H : Heap) (locs : List Loc), μ x < n → φ x → J x ls → va_P D cl (ws x) H → va_D A (ws x) → va_S A H0 H locs → W p l e R s m args below meth c H locs cells slots Q (F0 m pc ls []) := by
    intro n
    induction n with
    | zero => intro x ls H locs h; exact absurd h (Nat.not_lt_zero _)
    | succ n ih => intro x ls H locs h hφ hJ hP hD hS; exact hs x ls H locs hφ hJ hP hD hS (fun x' ls' H' locs' h' hφ' hJ' hP' hD' hS' => ih x' ls' H' locs' (by omega) hφ' hJ' hP' hD' hS')
  exact key (μ x + 1) x ls H locs (Nat.lt_succ_self _) hφ hJ hP hD hS
end
