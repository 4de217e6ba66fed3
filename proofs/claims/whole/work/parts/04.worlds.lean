/-! the worlds: a cask, a mix, the class's own cells, the reference's own cells -/
abbrev CT : Type := Int32 × Int32 × Int32 × Int32 × Int32 × Int32 × Int32 × Int32
abbrev c_kd (c : CT) : Int32 := c.1
abbrev c_dr (c : CT) : Int32 := c.2.1
abbrev c_sg (c : CT) : Int32 := c.2.2.1
abbrev c_fl (c : CT) : Int32 := c.2.2.2.1
abbrev c_ok (c : CT) : Int32 := c.2.2.2.2.1
abbrev c_sm (c : CT) : Int32 := c.2.2.2.2.2.1
abbrev c_sw (c : CT) : Int32 := c.2.2.2.2.2.2.1
abbrev c_la (c : CT) : Int32 := c.2.2.2.2.2.2.2
abbrev ckE (c : CT) : va_E := .inr (0, [.int (c_kd c), .int (c_dr c), .int (c_sg c), .int (c_fl c), .int (c_ok c), .int (c_sm c), .int (c_sw c), .int (c_la c)])
abbrev MT : Type := Int32 × Int32 × Int32 × Int32 × Int32 × Int32 × Int32
abbrev m_dr (c : MT) : Int32 := c.1
abbrev m_sg (c : MT) : Int32 := c.2.1
abbrev m_ok (c : MT) : Int32 := c.2.2.1
abbrev m_sm (c : MT) : Int32 := c.2.2.2.1
abbrev m_sw (c : MT) : Int32 := c.2.2.2.2.1
abbrev m_co (c : MT) : Int32 := c.2.2.2.2.2.1
abbrev m_ag (c : MT) : Int32 := c.2.2.2.2.2.2
abbrev mxE (c : MT) : va_E := .inr (1, [.int (m_dr c), .int (m_sg c), .int (m_ok c), .int (m_sm c), .int (m_sw c), .int (m_co c), .int (m_ag c)])
abbrev xPool (q : Nat → Nat) (C : Nat → CT) : va_W := (List.range 12).map (fun i => (q (9 + i), ckE (C i)))
/-- the class's cells: L casks laid, now, rate, trace, casks, ahead, limits, mix, readings, contradiction, group, height -/
abbrev xW (y : Nat → ClassId) (q : Nat → Nat) (L now rt : Int32) (tr : Int64) (C : Nat → CT) (ah w : Nat → Int32) (mx : MT) (rd ct : Int32) (g h : Nat → Int32) : va_W :=
  [(q 0, .inr (4, [.ref (q 1), .ref (q 2), .ref (q 3), .ref (q 5), .ref (q 6), .int L, .int now, .int rt, .long tr])), (q 1, .inl (y 1, 12, .inr (.inr (.inr (.inr (fun i => some (q (9 + i)))))))), (q 2, .inl (y 2, 12, .inl ah)), (q 3, .inr (3, [.ref (q 4)])), (q 4, .inl (y 4, 8, .inl w)), (q 5, mxE mx), (q 6, .inr (2, [.ref (q 7), .ref (q 8), .int rd, .int ct])), (q 7, .inl (y 7, 16, .inl g)), (q 8, .inl (y 8, 16, .inl h))] ++ xPool q C
abbrev xT (y : Nat → ClassId) : List (ClassId × FieldType) := [(y 1, .object "CaskBook$Cask"), (y 2, .int), (y 4, .int), (y 7, .int), (y 8, .int)]
/-- the Scale's cells alone -/
abbrev sW (y : Nat → ClassId) (q : Nat → Nat) (rd ct : Int32) (g h : Nat → Int32) : va_W := [(q 6, .inr (2, [.ref (q 7), .ref (q 8), .int rd, .int ct])), (q 7, .inl (y 7, 16, .inl g)), (q 8, .inl (y 8, 16, .inl h))]
abbrev sT (y : Nat → ClassId) : List (ClassId × FieldType) := [(y 7, .int), (y 8, .int)]
/-- the reference's cells -/
abbrev mW (y : Nat → ClassId) (q : Nat → Nat) (now L : Int32) (kd dr sg fl la ok sm sw w : Nat → Int32) (rt rd : Int32) (no sa to : Nat → Int32) (tr : Int64) (st im va : Nat → Int32) : va_W :=
  [(q 0, .inr (5, [.int now, .int L, .ref (q 1), .ref (q 2), .ref (q 3), .ref (q 4), .ref (q 5), .ref (q 6), .ref (q 7), .ref (q 8), .ref (q 9), .int rt, .int rd, .ref (q 10), .ref (q 11), .ref (q 12), .long tr, .ref (q 13), .ref (q 14), .ref (q 15)])), (q 1, .inl (y 1, 12, .inl kd)), (q 2, .inl (y 2, 12, .inl dr)), (q 3, .inl (y 3, 12, .inl sg)), (q 4, .inl (y 4, 12, .inl fl)), (q 5, .inl (y 5, 12, .inl la)), (q 6, .inl (y 6, 12, .inl ok)), (q 7, .inl (y 7, 12, .inl sm)), (q 8, .inl (y 8, 12, .inl sw)), (q 9, .inl (y 9, 8, .inl w)), (q 10, .inl (y 10, 30, .inl no)), (q 11, .inl (y 11, 30, .inl sa)), (q 12, .inl (y 12, 30, .inl to)), (q 13, .inl (y 13, 12, .inl st)), (q 14, .inl (y 14, 16, .inl im)), (q 15, .inl (y 15, 16, .inl va))]
abbrev mTy (y : Nat → ClassId) : List (ClassId × FieldType) := [(y 1, .int), (y 2, .int), (y 3, .int), (y 4, .int), (y 5, .int), (y 6, .int), (y 7, .int), (y 8, .int), (y 9, .int), (y 10, .int), (y 11, .int), (y 12, .int), (y 13, .int), (y 14, .boolean), (y 15, .int)]
theorem xp_at {X : va_W} {q : Nat → Nat} {C : Nat → CT} {k i : Nat} (hX : X.length = k) (hi : i < 12) : (X ++ xPool q C)[k + i]? = some (q (9 + i), ckE (C i)) := by
  subst hX
  rw [List.getElem?_append_right (Nat.le_add_right _ _), Nat.add_sub_cancel_left, List.getElem?_map, List.getElem?_range hi]
  rfl
theorem xp_eq {X : va_W} {q : Nat → Nat} {C : Nat → CT} {k i : Nat} {c : CT} (hX : X.length = k) (hi : i < 12) : (X ++ xPool q C).set (k + i) (q (9 + i), ckE c) = X ++ xPool q (va_up C i c) := by
  subst hX
  rw [List.set_append_right _ _ (Nat.le_add_right _ _), Nat.add_sub_cancel_left]
  congr 1
  apply List.ext_getElem?
  intro j
  rw [List.getElem?_set]
  by_cases hj : i = j
  · subst hj
    rw [if_pos rfl, List.length_map, List.length_range, if_pos hi, List.getElem?_map, List.getElem?_range hi]
    show some (q (9 + i), ckE c) = some (q (9 + i), ckE (va_up C i c i))
    rw [va_up_self]
  · rw [if_neg hj, List.getElem?_map, List.getElem?_map]
    cases h : (List.range 12)[j]? with
    | none => rfl
    | some z =>
      have hz : z = j := by
        have h2 := List.getElem?_eq_some_iff.mp h
        obtain ⟨h3, h4⟩ := h2
        rw [List.getElem_range] at h4
        exact h4.symm
      subst hz
      show some (q (9 + z), ckE (C z)) = some (q (9 + z), ckE (va_up C i c z))
      rw [va_up_ne _ _ (Ne.symm hj)]
theorem xp_P {D : va_G} {cl : List vw_C} {X : va_W} {q : Nat → Nat} {C : Nat → CT} {k i : Nat} {c : CT} {H : Heap} (hX : X.length = k) (hi : i < 12) (h : va_P D cl ((X ++ xPool q C).set (k + i) (q (9 + i), ckE c)) H) : va_P D cl (X ++ xPool q (va_up C i c)) H := by
  rw [← xp_eq hX hi]; exact h
theorem xp_D {A : Nat → Prop} {X : va_W} {q : Nat → Nat} {C : Nat → CT} {k i : Nat} {c : CT} (hX : X.length = k) (hi : i < 12) (h : va_D A ((X ++ xPool q C).set (k + i) (q (9 + i), ckE c))) : va_D A (X ++ xPool q (va_up C i c)) := by
  rw [← xp_eq hX hi]; exact h
section
variable {p : Program} {l : Launch} {e : Env} {R : Room} {s : State} {m : MethodId} {args : Array Value} {below : List Frame} {meth : Method} {c : Code} {H : Heap} {locs : List Loc} {cells slots : Nat} {Q : State → Prop} {pc : Nat} {ls : Array Slot} {rest st0 : List Value} {cc : ByteArray}
/-- a call of a writing method on the whole world -/
theorem muF_i {σ : Type} {D : va_G} {post : Int32 → σ → Prop} {w1 : σ → va_W} {A : Nat → Prop} {Y : va_W} {a : Array Value} (hr : va_Run p l e R s m args below meth c H locs cells slots 0 0 (F0 m pc ls st0) rest (QI D post w1 (va_A Y H.size) a) (va_A Y H.size)) (hP : va_P D vwCl Y H) (hD : va_D A Y) (hS : va_S A s.heap H locs) (hA : ∀ q : Nat, s.heap.size ≤ q → A q)
    (kk : ∀ (r : Int32) (u : σ) (H1 : Heap) (locs1 : List Loc), post r u → va_P D vwCl (w1 u) H1 → va_D A (w1 u) → va_S A s.heap H1 locs1 → W p l e R s m args below meth c H1 locs1 cells slots Q (F0 m (pc + 3) ls (.int r :: rest))) : W p l e R s m args below meth c H locs cells slots Q (F0 m pc ls st0) :=
  mu_i (X := []) (Z := []) hr (by rw [List.append_nil]; exact hP) (by rw [List.append_nil]; exact hD) hS hA (fun r u H1 locs1 h1 h2 h3 h4 => kk r u H1 locs1 h1 (by rw [List.append_nil] at h2; exact h2) (by rw [List.append_nil] at h3; exact h3) h4)
theorem muF_v {σ : Type} {D : va_G} {post : σ → Prop} {w1 : σ → va_W} {A : Nat → Prop} {Y : va_W} {a : Array Value} (hr : va_Run p l e R s m args below meth c H locs cells slots 0 0 (F0 m pc ls st0) rest (QV D post w1 (va_A Y H.size) a) (va_A Y H.size)) (hP : va_P D vwCl Y H) (hD : va_D A Y) (hS : va_S A s.heap H locs) (hA : ∀ q : Nat, s.heap.size ≤ q → A q)
    (kk : ∀ (u : σ) (H1 : Heap) (locs1 : List Loc), post u → va_P D vwCl (w1 u) H1 → va_D A (w1 u) → va_S A s.heap H1 locs1 → W p l e R s m args below meth c H1 locs1 cells slots Q (F0 m (pc + 3) ls rest)) : W p l e R s m args below meth c H locs cells slots Q (F0 m pc ls st0) :=
  mu_v (X := []) (Z := []) hr (by rw [List.append_nil]; exact hP) (by rw [List.append_nil]; exact hD) hS hA (fun u H1 locs1 h1 h2 h3 h4 => kk u H1 locs1 h1 (by rw [List.append_nil] at h2; exact h2) (by rw [List.append_nil] at h3; exact h3) h4)
end
theorem muF_pre {D : va_G} {tys : List (ClassId × FieldType)} {Y : va_W} {s : State} {H : Heap} {av : List Value} {A : Nat → Prop} {E : State → Prop} (hP : va_P D vwCl Y H) (hK : va_K D vwCl tys s) (hN : NW s) (hD : va_D A Y) (hE : ∀ U : State, U.heap = H → s.WarmedH U.vm → E U) : ∀ U : State, U.heap = H → s.WarmedH U.vm → va_Pc av (muB D tys Y H.size E) av.toArray U := fun U hU hW => ⟨rfl, by rw [hU], by rw [hU]; exact hP, va_K.moved hW.alike hK, hN.warm hW, hD.weaken (fun _ _ _ _ => trivial), hE U hU hW⟩
theorem xp_atF {X : va_W} {q : Nat → Nat} {C : Nat → CT} {k i : Nat} {c : CT} (hX : X.length = k) (hi : i < 12) : (X ++ xPool q (va_up C i c))[k + i]? = some (q (9 + i), ckE c) := by
  rw [xp_at hX hi, va_up_self]
theorem xp_PF {D : va_G} {cl : List vw_C} {X : va_W} {q : Nat → Nat} {C : Nat → CT} {k i : Nat} {c c0 : CT} {H : Heap} (hX : X.length = k) (hi : i < 12) (h : va_P D cl ((X ++ xPool q (va_up C i c0)).set (k + i) (q (9 + i), ckE c)) H) : va_P D cl (X ++ xPool q (va_up C i c)) H := by
  rw [xp_eq hX hi, bx_uu] at h; exact h
theorem xp_DF {A : Nat → Prop} {X : va_W} {q : Nat → Nat} {C : Nat → CT} {k i : Nat} {c c0 : CT} (hX : X.length = k) (hi : i < 12) (h : va_D A ((X ++ xPool q (va_up C i c0)).set (k + i) (q (9 + i), ckE c))) : va_D A (X ++ xPool q (va_up C i c)) := by
  rw [xp_eq hX hi, bx_uu] at h; exact h
section
variable {p : Program} {l : Launch} {e : Env} {R : Room} {s : State} {m : MethodId} {args : Array Value} {below : List Frame} {meth : Method} {c : Code} {H : Heap} {locs : List Loc} {cells slots : Nat} {Q : State → Prop} {pc : Nat} {ls : Array Slot} {rest st0 : List Value} {cc : ByteArray}
theorem wm_max (hexec : p.tables.exec = Jvm.exec) (hb : c.code = cc) (hml : c.maxLocals = ls.size) {own : String} {index : Nat} (hown : s.vm.findClass own = some m.cls) (hlink : (Cond.methodLink own index Lib.Math.max.name).before args s = true) (hstat : (Cond.static Lib.Math.max.name).before args s = true) (hini : (Cond.initialized "java/lang/Math").before args s = true) (hcode : (Cond.code Lib.Math.max.name Lib.Math.max.code 2 (some .int)).before args s = true)
    (hframes : 1 ≤ R.frames) (hlocals : (rest.map fun v => v.category).sum + 13 ≤ R.locals) (hc : cells ≤ R.cells) (hs : slots ≤ R.slots) {x y : Int32} (hdg : decode cc pc = .ok (.invokestatic index, 3))
    (kk : W p l e R s m args below meth c H locs cells slots Q (F0 m (pc + 3) ls (.int (mxI x y) :: rest))) : W p l e R s m args below meth c H locs cells slots Q (F0 m pc ls (.int y :: .int x :: rest)) :=
  va_mmax hexec hb hml hown hlink hstat hini hcode hframes hlocals hc hs hdg kk
theorem wm_min (hexec : p.tables.exec = Jvm.exec) (hb : c.code = cc) (hml : c.maxLocals = ls.size) {own : String} {index : Nat} (hown : s.vm.findClass own = some m.cls) (hlink : (Cond.methodLink own index Lib.Math.min.name).before args s = true) (hstat : (Cond.static Lib.Math.min.name).before args s = true) (hini : (Cond.initialized "java/lang/Math").before args s = true) (hcode : (Cond.code Lib.Math.min.name Lib.Math.min.code 2 (some .int)).before args s = true)
    (hframes : 1 ≤ R.frames) (hlocals : (rest.map fun v => v.category).sum + 13 ≤ R.locals) (hc : cells ≤ R.cells) (hs : slots ≤ R.slots) {x y : Int32} (hdg : decode cc pc = .ok (.invokestatic index, 3))
    (kk : W p l e R s m args below meth c H locs cells slots Q (F0 m (pc + 3) ls (.int (mnI x y) :: rest))) : W p l e R s m args below meth c H locs cells slots Q (F0 m pc ls (.int y :: .int x :: rest)) :=
  va_mmin hexec hb hml hown hlink hstat hini hcode hframes hlocals hc hs hdg kk
end
theorem hdX0_age : yX0_age.cls ≠ "java/lang/invoke/MethodHandle" ∧ yX0_age.cls ≠ "java/lang/invoke/VarHandle" ∧ (parseMethodDescriptor yX0_age.desc).map (fun d => d.parameters.length) = some 1 := by decide +kernel
theorem hdX0_cost : yX0_cost.cls ≠ "java/lang/invoke/MethodHandle" ∧ yX0_cost.cls ≠ "java/lang/invoke/VarHandle" ∧ (parseMethodDescriptor yX0_cost.desc).map (fun d => d.parameters.length) = some 1 := by decide +kernel
theorem hdX0_fill : yX0_fill.cls ≠ "java/lang/invoke/MethodHandle" ∧ yX0_fill.cls ≠ "java/lang/invoke/VarHandle" ∧ (parseMethodDescriptor yX0_fill.desc).map (fun d => d.parameters.length) = some 6 := by decide +kernel
theorem hdX0_init : yX0_init.cls ≠ "java/lang/invoke/MethodHandle" ∧ yX0_init.cls ≠ "java/lang/invoke/VarHandle" ∧ (parseMethodDescriptor yX0_init.desc).map (fun d => d.parameters.length) = some 0 := by decide +kernel
theorem hdX0_lossIn : yX0_lossIn.cls ≠ "java/lang/invoke/MethodHandle" ∧ yX0_lossIn.cls ≠ "java/lang/invoke/VarHandle" ∧ (parseMethodDescriptor yX0_lossIn.desc).map (fun d => d.parameters.length) = some 1 := by decide +kernel
theorem hdX0_passYear : yX0_passYear.cls ≠ "java/lang/invoke/MethodHandle" ∧ yX0_passYear.cls ≠ "java/lang/invoke/VarHandle" ∧ (parseMethodDescriptor yX0_passYear.desc).map (fun d => d.parameters.length) = some 1 := by decide +kernel
theorem hdX1_add : yX1_add.cls ≠ "java/lang/invoke/MethodHandle" ∧ yX1_add.cls ≠ "java/lang/invoke/VarHandle" ∧ (parseMethodDescriptor yX1_add.desc).map (fun d => d.parameters.length) = some 2 := by decide +kernel
theorem hdX1_evenly : yX1_evenly.cls ≠ "java/lang/invoke/MethodHandle" ∧ yX1_evenly.cls ≠ "java/lang/invoke/VarHandle" ∧ (parseMethodDescriptor yX1_evenly.desc).map (fun d => d.parameters.length) = some 1 := by decide +kernel
theorem hdX1_init : yX1_init.cls ≠ "java/lang/invoke/MethodHandle" ∧ yX1_init.cls ≠ "java/lang/invoke/VarHandle" ∧ (parseMethodDescriptor yX1_init.desc).map (fun d => d.parameters.length) = some 0 := by decide +kernel
theorem hdX1_start : yX1_start.cls ≠ "java/lang/invoke/MethodHandle" ∧ yX1_start.cls ≠ "java/lang/invoke/VarHandle" ∧ (parseMethodDescriptor yX1_start.desc).map (fun d => d.parameters.length) = some 0 := by decide +kernel
theorem hdX2_fit : yX2_fit.cls ≠ "java/lang/invoke/MethodHandle" ∧ yX2_fit.cls ≠ "java/lang/invoke/VarHandle" ∧ (parseMethodDescriptor yX2_fit.desc).map (fun d => d.parameters.length) = some 3 := by decide +kernel
theorem hdX2_init : yX2_init.cls ≠ "java/lang/invoke/MethodHandle" ∧ yX2_init.cls ≠ "java/lang/invoke/VarHandle" ∧ (parseMethodDescriptor yX2_init.desc).map (fun d => d.parameters.length) = some 0 := by decide +kernel
theorem hdX2_join : yX2_join.cls ≠ "java/lang/invoke/MethodHandle" ∧ yX2_join.cls ≠ "java/lang/invoke/VarHandle" ∧ (parseMethodDescriptor yX2_join.desc).map (fun d => d.parameters.length) = some 3 := by decide +kernel
theorem hdX2_reset : yX2_reset.cls ≠ "java/lang/invoke/MethodHandle" ∧ yX2_reset.cls ≠ "java/lang/invoke/VarHandle" ∧ (parseMethodDescriptor yX2_reset.desc).map (fun d => d.parameters.length) = some 0 := by decide +kernel
theorem hdX2_take : yX2_take.cls ≠ "java/lang/invoke/MethodHandle" ∧ yX2_take.cls ≠ "java/lang/invoke/VarHandle" ∧ (parseMethodDescriptor yX2_take.desc).map (fun d => d.parameters.length) = some 3 := by decide +kernel
theorem hdX2_ties : yX2_ties.cls ≠ "java/lang/invoke/MethodHandle" ∧ yX2_ties.cls ≠ "java/lang/invoke/VarHandle" ∧ (parseMethodDescriptor yX2_ties.desc).map (fun d => d.parameters.length) = some 2 := by decide +kernel
theorem hdX3_init : yX3_init.cls ≠ "java/lang/invoke/MethodHandle" ∧ yX3_init.cls ≠ "java/lang/invoke/VarHandle" ∧ (parseMethodDescriptor yX3_init.desc).map (fun d => d.parameters.length) = some 0 := by decide +kernel
theorem hdX3_isMetBy : yX3_isMetBy.cls ≠ "java/lang/invoke/MethodHandle" ∧ yX3_isMetBy.cls ≠ "java/lang/invoke/VarHandle" ∧ (parseMethodDescriptor yX3_isMetBy.desc).map (fun d => d.parameters.length) = some 1 := by decide +kernel
theorem hdX3_isOldEnough : yX3_isOldEnough.cls ≠ "java/lang/invoke/MethodHandle" ∧ yX3_isOldEnough.cls ≠ "java/lang/invoke/VarHandle" ∧ (parseMethodDescriptor yX3_isOldEnough.desc).map (fun d => d.parameters.length) = some 1 := by decide +kernel
theorem hdX3_most : yX3_most.cls ≠ "java/lang/invoke/MethodHandle" ∧ yX3_most.cls ≠ "java/lang/invoke/VarHandle" ∧ (parseMethodDescriptor yX3_most.desc).map (fun d => d.parameters.length) = some 1 := by decide +kernel
theorem hdX4_about : yX4_about.cls ≠ "java/lang/invoke/MethodHandle" ∧ yX4_about.cls ≠ "java/lang/invoke/VarHandle" ∧ (parseMethodDescriptor yX4_about.desc).map (fun d => d.parameters.length) = some 2 := by decide +kernel
theorem hdX4_allDrops : yX4_allDrops.cls ≠ "java/lang/invoke/MethodHandle" ∧ yX4_allDrops.cls ≠ "java/lang/invoke/VarHandle" ∧ (parseMethodDescriptor yX4_allDrops.desc).map (fun d => d.parameters.length) = some 0 := by decide +kernel
theorem hdX4_apart : yX4_apart.cls ≠ "java/lang/invoke/MethodHandle" ∧ yX4_apart.cls ≠ "java/lang/invoke/VarHandle" ∧ (parseMethodDescriptor yX4_apart.desc).map (fun d => d.parameters.length) = some 2 := by decide +kernel
theorem hdX4_best : yX4_best.cls ≠ "java/lang/invoke/MethodHandle" ∧ yX4_best.cls ≠ "java/lang/invoke/VarHandle" ∧ (parseMethodDescriptor yX4_best.desc).map (fun d => d.parameters.length) = some 1 := by decide +kernel
theorem hdX4_bestSet : yX4_bestSet.cls ≠ "java/lang/invoke/MethodHandle" ∧ yX4_bestSet.cls ≠ "java/lang/invoke/VarHandle" ∧ (parseMethodDescriptor yX4_bestSet.desc).map (fun d => d.parameters.length) = some 0 := by decide +kernel
theorem hdX4_blend : yX4_blend.cls ≠ "java/lang/invoke/MethodHandle" ∧ yX4_blend.cls ≠ "java/lang/invoke/VarHandle" ∧ (parseMethodDescriptor yX4_blend.desc).map (fun d => d.parameters.length) = some 2 := by decide +kernel
theorem hdX4_clear : yX4_clear.cls ≠ "java/lang/invoke/MethodHandle" ∧ yX4_clear.cls ≠ "java/lang/invoke/VarHandle" ∧ (parseMethodDescriptor yX4_clear.desc).map (fun d => d.parameters.length) = some 0 := by decide +kernel
theorem hdX4_contradicts : yX4_contradicts.cls ≠ "java/lang/invoke/MethodHandle" ∧ yX4_contradicts.cls ≠ "java/lang/invoke/VarHandle" ∧ (parseMethodDescriptor yX4_contradicts.desc).map (fun d => d.parameters.length) = some 0 := by decide +kernel
theorem hdX4_count : yX4_count.cls ≠ "java/lang/invoke/MethodHandle" ∧ yX4_count.cls ≠ "java/lang/invoke/VarHandle" ∧ (parseMethodDescriptor yX4_count.desc).map (fun d => d.parameters.length) = some 1 := by decide +kernel
theorem hdX4_cut : yX4_cut.cls ≠ "java/lang/invoke/MethodHandle" ∧ yX4_cut.cls ≠ "java/lang/invoke/VarHandle" ∧ (parseMethodDescriptor yX4_cut.desc).map (fun d => d.parameters.length) = some 2 := by decide +kernel
theorem hdX4_dividedUp : yX4_dividedUp.cls ≠ "java/lang/invoke/MethodHandle" ∧ yX4_dividedUp.cls ≠ "java/lang/invoke/VarHandle" ∧ (parseMethodDescriptor yX4_dividedUp.desc).map (fun d => d.parameters.length) = some 2 := by decide +kernel
theorem hdX4_draw : yX4_draw.cls ≠ "java/lang/invoke/MethodHandle" ∧ yX4_draw.cls ≠ "java/lang/invoke/VarHandle" ∧ (parseMethodDescriptor yX4_draw.desc).map (fun d => d.parameters.length) = some 2 := by decide +kernel
theorem hdX4_duty : yX4_duty.cls ≠ "java/lang/invoke/MethodHandle" ∧ yX4_duty.cls ≠ "java/lang/invoke/VarHandle" ∧ (parseMethodDescriptor yX4_duty.desc).map (fun d => d.parameters.length) = some 1 := by decide +kernel
theorem hdX4_gather : yX4_gather.cls ≠ "java/lang/invoke/MethodHandle" ∧ yX4_gather.cls ≠ "java/lang/invoke/VarHandle" ∧ (parseMethodDescriptor yX4_gather.desc).map (fun d => d.parameters.length) = some 1 := by decide +kernel
theorem hdX4_hang : yX4_hang.cls ≠ "java/lang/invoke/MethodHandle" ∧ yX4_hang.cls ≠ "java/lang/invoke/VarHandle" ∧ (parseMethodDescriptor yX4_hang.desc).map (fun d => d.parameters.length) = some 3 := by decide +kernel
theorem hdX4_holds : yX4_holds.cls ≠ "java/lang/invoke/MethodHandle" ∧ yX4_holds.cls ≠ "java/lang/invoke/VarHandle" ∧ (parseMethodDescriptor yX4_holds.desc).map (fun d => d.parameters.length) = some 2 := by decide +kernel
theorem hdX4_init : yX4_init.cls ≠ "java/lang/invoke/MethodHandle" ∧ yX4_init.cls ≠ "java/lang/invoke/VarHandle" ∧ (parseMethodDescriptor yX4_init.desc).map (fun d => d.parameters.length) = some 0 := by decide +kernel
theorem hdX4_isCask : yX4_isCask.cls ≠ "java/lang/invoke/MethodHandle" ∧ yX4_isCask.cls ≠ "java/lang/invoke/VarHandle" ∧ (parseMethodDescriptor yX4_isCask.desc).map (fun d => d.parameters.length) = some 1 := by decide +kernel
theorem hdX4_isNose : yX4_isNose.cls ≠ "java/lang/invoke/MethodHandle" ∧ yX4_isNose.cls ≠ "java/lang/invoke/VarHandle" ∧ (parseMethodDescriptor yX4_isNose.desc).map (fun d => d.parameters.length) = some 1 := by decide +kernel
theorem hdX4_isSet : yX4_isSet.cls ≠ "java/lang/invoke/MethodHandle" ∧ yX4_isSet.cls ≠ "java/lang/invoke/VarHandle" ∧ (parseMethodDescriptor yX4_isSet.desc).map (fun d => d.parameters.length) = some 1 := by decide +kernel
theorem hdX4_isTriangle : yX4_isTriangle.cls ≠ "java/lang/invoke/MethodHandle" ∧ yX4_isTriangle.cls ≠ "java/lang/invoke/VarHandle" ∧ (parseMethodDescriptor yX4_isTriangle.desc).map (fun d => d.parameters.length) = some 2 := by decide +kernel
theorem hdX4_isWithin : yX4_isWithin.cls ≠ "java/lang/invoke/MethodHandle" ∧ yX4_isWithin.cls ≠ "java/lang/invoke/VarHandle" ∧ (parseMethodDescriptor yX4_isWithin.desc).map (fun d => d.parameters.length) = some 3 := by decide +kernel
theorem hdX4_lasts : yX4_lasts.cls ≠ "java/lang/invoke/MethodHandle" ∧ yX4_lasts.cls ≠ "java/lang/invoke/VarHandle" ∧ (parseMethodDescriptor yX4_lasts.desc).map (fun d => d.parameters.length) = some 2 := by decide +kernel
theorem hdX4_lay : yX4_lay.cls ≠ "java/lang/invoke/MethodHandle" ∧ yX4_lay.cls ≠ "java/lang/invoke/VarHandle" ∧ (parseMethodDescriptor yX4_lay.desc).map (fun d => d.parameters.length) = some 5 := by decide +kernel
theorem hdX4_loss : yX4_loss.cls ≠ "java/lang/invoke/MethodHandle" ∧ yX4_loss.cls ≠ "java/lang/invoke/VarHandle" ∧ (parseMethodDescriptor yX4_loss.desc).map (fun d => d.parameters.length) = some 3 := by decide +kernel
theorem hdX4_lossBy : yX4_lossBy.cls ≠ "java/lang/invoke/MethodHandle" ∧ yX4_lossBy.cls ≠ "java/lang/invoke/VarHandle" ∧ (parseMethodDescriptor yX4_lossBy.desc).map (fun d => d.parameters.length) = some 3 := by decide +kernel
theorem hdX4_lostOf : yX4_lostOf.cls ≠ "java/lang/invoke/MethodHandle" ∧ yX4_lostOf.cls ≠ "java/lang/invoke/VarHandle" ∧ (parseMethodDescriptor yX4_lostOf.desc).map (fun d => d.parameters.length) = some 2 := by decide +kernel
theorem hdX4_move : yX4_move.cls ≠ "java/lang/invoke/MethodHandle" ∧ yX4_move.cls ≠ "java/lang/invoke/VarHandle" ∧ (parseMethodDescriptor yX4_move.desc).map (fun d => d.parameters.length) = some 2 := by decide +kernel
theorem hdX4_notEmpty : yX4_notEmpty.cls ≠ "java/lang/invoke/MethodHandle" ∧ yX4_notEmpty.cls ≠ "java/lang/invoke/VarHandle" ∧ (parseMethodDescriptor yX4_notEmpty.desc).map (fun d => d.parameters.length) = some 0 := by decide +kernel
theorem hdX4_odds : yX4_odds.cls ≠ "java/lang/invoke/MethodHandle" ∧ yX4_odds.cls ≠ "java/lang/invoke/VarHandle" ∧ (parseMethodDescriptor yX4_odds.desc).map (fun d => d.parameters.length) = some 2 := by decide +kernel
theorem hdX4_passYear : yX4_passYear.cls ≠ "java/lang/invoke/MethodHandle" ∧ yX4_passYear.cls ≠ "java/lang/invoke/VarHandle" ∧ (parseMethodDescriptor yX4_passYear.desc).map (fun d => d.parameters.length) = some 0 := by decide +kernel
theorem hdX4_passYearAhead : yX4_passYearAhead.cls ≠ "java/lang/invoke/MethodHandle" ∧ yX4_passYearAhead.cls ≠ "java/lang/invoke/VarHandle" ∧ (parseMethodDescriptor yX4_passYearAhead.desc).map (fun d => d.parameters.length) = some 1 := by decide +kernel
theorem hdX4_rate : yX4_rate.cls ≠ "java/lang/invoke/MethodHandle" ∧ yX4_rate.cls ≠ "java/lang/invoke/VarHandle" ∧ (parseMethodDescriptor yX4_rate.desc).map (fun d => d.parameters.length) = some 1 := by decide +kernel
theorem hdX4_read : yX4_read.cls ≠ "java/lang/invoke/MethodHandle" ∧ yX4_read.cls ≠ "java/lang/invoke/VarHandle" ∧ (parseMethodDescriptor yX4_read.desc).map (fun d => d.parameters.length) = some 3 := by decide +kernel
theorem hdX4_takeAhead : yX4_takeAhead.cls ≠ "java/lang/invoke/MethodHandle" ∧ yX4_takeAhead.cls ≠ "java/lang/invoke/VarHandle" ∧ (parseMethodDescriptor yX4_takeAhead.desc).map (fun d => d.parameters.length) = some 3 := by decide +kernel
theorem hdX4_trace : yX4_trace.cls ≠ "java/lang/invoke/MethodHandle" ∧ yX4_trace.cls ≠ "java/lang/invoke/VarHandle" ∧ (parseMethodDescriptor yX4_trace.desc).map (fun d => d.parameters.length) = some 0 := by decide +kernel
theorem hdX4_want : yX4_want.cls ≠ "java/lang/invoke/MethodHandle" ∧ yX4_want.cls ≠ "java/lang/invoke/VarHandle" ∧ (parseMethodDescriptor yX4_want.desc).map (fun d => d.parameters.length) = some 2 := by decide +kernel
theorem hdX4_ways : yX4_ways.cls ≠ "java/lang/invoke/MethodHandle" ∧ yX4_ways.cls ≠ "java/lang/invoke/VarHandle" ∧ (parseMethodDescriptor yX4_ways.desc).map (fun d => d.parameters.length) = some 2 := by decide +kernel
theorem hdX4_years : yX4_years.cls ≠ "java/lang/invoke/MethodHandle" ∧ yX4_years.cls ≠ "java/lang/invoke/VarHandle" ∧ (parseMethodDescriptor yX4_years.desc).map (fun d => d.parameters.length) = some 1 := by decide +kernel
theorem hdX5_about : yX5_about.cls ≠ "java/lang/invoke/MethodHandle" ∧ yX5_about.cls ≠ "java/lang/invoke/VarHandle" ∧ (parseMethodDescriptor yX5_about.desc).map (fun d => d.parameters.length) = some 2 := by decide +kernel
theorem hdX5_ageOf : yX5_ageOf.cls ≠ "java/lang/invoke/MethodHandle" ∧ yX5_ageOf.cls ≠ "java/lang/invoke/VarHandle" ∧ (parseMethodDescriptor yX5_ageOf.desc).map (fun d => d.parameters.length) = some 1 := by decide +kernel
theorem hdX5_apart : yX5_apart.cls ≠ "java/lang/invoke/MethodHandle" ∧ yX5_apart.cls ≠ "java/lang/invoke/VarHandle" ∧ (parseMethodDescriptor yX5_apart.desc).map (fun d => d.parameters.length) = some 2 := by decide +kernel
theorem hdX5_best : yX5_best.cls ≠ "java/lang/invoke/MethodHandle" ∧ yX5_best.cls ≠ "java/lang/invoke/VarHandle" ∧ (parseMethodDescriptor yX5_best.desc).map (fun d => d.parameters.length) = some 1 := by decide +kernel
theorem hdX5_blend : yX5_blend.cls ≠ "java/lang/invoke/MethodHandle" ∧ yX5_blend.cls ≠ "java/lang/invoke/VarHandle" ∧ (parseMethodDescriptor yX5_blend.desc).map (fun d => d.parameters.length) = some 2 := by decide +kernel
theorem hdX5_clear : yX5_clear.cls ≠ "java/lang/invoke/MethodHandle" ∧ yX5_clear.cls ≠ "java/lang/invoke/VarHandle" ∧ (parseMethodDescriptor yX5_clear.desc).map (fun d => d.parameters.length) = some 0 := by decide +kernel
theorem hdX5_contradicts : yX5_contradicts.cls ≠ "java/lang/invoke/MethodHandle" ∧ yX5_contradicts.cls ≠ "java/lang/invoke/VarHandle" ∧ (parseMethodDescriptor yX5_contradicts.desc).map (fun d => d.parameters.length) = some 0 := by decide +kernel
theorem hdX5_costOf : yX5_costOf.cls ≠ "java/lang/invoke/MethodHandle" ∧ yX5_costOf.cls ≠ "java/lang/invoke/VarHandle" ∧ (parseMethodDescriptor yX5_costOf.desc).map (fun d => d.parameters.length) = some 1 := by decide +kernel
theorem hdX5_costs : yX5_costs.cls ≠ "java/lang/invoke/MethodHandle" ∧ yX5_costs.cls ≠ "java/lang/invoke/VarHandle" ∧ (parseMethodDescriptor yX5_costs.desc).map (fun d => d.parameters.length) = some 1 := by decide +kernel
theorem hdX5_count : yX5_count.cls ≠ "java/lang/invoke/MethodHandle" ∧ yX5_count.cls ≠ "java/lang/invoke/VarHandle" ∧ (parseMethodDescriptor yX5_count.desc).map (fun d => d.parameters.length) = some 1 := by decide +kernel
theorem hdX5_cut : yX5_cut.cls ≠ "java/lang/invoke/MethodHandle" ∧ yX5_cut.cls ≠ "java/lang/invoke/VarHandle" ∧ (parseMethodDescriptor yX5_cut.desc).map (fun d => d.parameters.length) = some 2 := by decide +kernel
theorem hdX5_draw : yX5_draw.cls ≠ "java/lang/invoke/MethodHandle" ∧ yX5_draw.cls ≠ "java/lang/invoke/VarHandle" ∧ (parseMethodDescriptor yX5_draw.desc).map (fun d => d.parameters.length) = some 2 := by decide +kernel
theorem hdX5_dropsOf : yX5_dropsOf.cls ≠ "java/lang/invoke/MethodHandle" ∧ yX5_dropsOf.cls ≠ "java/lang/invoke/VarHandle" ∧ (parseMethodDescriptor yX5_dropsOf.desc).map (fun d => d.parameters.length) = some 1 := by decide +kernel
theorem hdX5_duty : yX5_duty.cls ≠ "java/lang/invoke/MethodHandle" ∧ yX5_duty.cls ≠ "java/lang/invoke/VarHandle" ∧ (parseMethodDescriptor yX5_duty.desc).map (fun d => d.parameters.length) = some 1 := by decide +kernel
theorem hdX5_firstWrong : yX5_firstWrong.cls ≠ "java/lang/invoke/MethodHandle" ∧ yX5_firstWrong.cls ≠ "java/lang/invoke/VarHandle" ∧ (parseMethodDescriptor yX5_firstWrong.desc).map (fun d => d.parameters.length) = some 0 := by decide +kernel
theorem hdX5_hang : yX5_hang.cls ≠ "java/lang/invoke/MethodHandle" ∧ yX5_hang.cls ≠ "java/lang/invoke/VarHandle" ∧ (parseMethodDescriptor yX5_hang.desc).map (fun d => d.parameters.length) = some 3 := by decide +kernel
theorem hdX5_has : yX5_has.cls ≠ "java/lang/invoke/MethodHandle" ∧ yX5_has.cls ≠ "java/lang/invoke/VarHandle" ∧ (parseMethodDescriptor yX5_has.desc).map (fun d => d.parameters.length) = some 2 := by decide +kernel
theorem hdX5_in : yX5_in.cls ≠ "java/lang/invoke/MethodHandle" ∧ yX5_in.cls ≠ "java/lang/invoke/VarHandle" ∧ (parseMethodDescriptor yX5_in.desc).map (fun d => d.parameters.length) = some 3 := by decide +kernel
theorem hdX5_init : yX5_init.cls ≠ "java/lang/invoke/MethodHandle" ∧ yX5_init.cls ≠ "java/lang/invoke/VarHandle" ∧ (parseMethodDescriptor yX5_init.desc).map (fun d => d.parameters.length) = some 0 := by decide +kernel
theorem hdX5_isBlend : yX5_isBlend.cls ≠ "java/lang/invoke/MethodHandle" ∧ yX5_isBlend.cls ≠ "java/lang/invoke/VarHandle" ∧ (parseMethodDescriptor yX5_isBlend.desc).map (fun d => d.parameters.length) = some 1 := by decide +kernel
theorem hdX5_isCask : yX5_isCask.cls ≠ "java/lang/invoke/MethodHandle" ∧ yX5_isCask.cls ≠ "java/lang/invoke/VarHandle" ∧ (parseMethodDescriptor yX5_isCask.desc).map (fun d => d.parameters.length) = some 1 := by decide +kernel
theorem hdX5_isRight : yX5_isRight.cls ≠ "java/lang/invoke/MethodHandle" ∧ yX5_isRight.cls ≠ "java/lang/invoke/VarHandle" ∧ (parseMethodDescriptor yX5_isRight.desc).map (fun d => d.parameters.length) = some 1 := by decide +kernel
theorem hdX5_lasts : yX5_lasts.cls ≠ "java/lang/invoke/MethodHandle" ∧ yX5_lasts.cls ≠ "java/lang/invoke/VarHandle" ∧ (parseMethodDescriptor yX5_lasts.desc).map (fun d => d.parameters.length) = some 2 := by decide +kernel
theorem hdX5_lay : yX5_lay.cls ≠ "java/lang/invoke/MethodHandle" ∧ yX5_lay.cls ≠ "java/lang/invoke/VarHandle" ∧ (parseMethodDescriptor yX5_lay.desc).map (fun d => d.parameters.length) = some 5 := by decide +kernel
theorem hdX5_lead : yX5_lead.cls ≠ "java/lang/invoke/MethodHandle" ∧ yX5_lead.cls ≠ "java/lang/invoke/VarHandle" ∧ (parseMethodDescriptor yX5_lead.desc).map (fun d => d.parameters.length) = some 2 := by decide +kernel
theorem hdX5_loss : yX5_loss.cls ≠ "java/lang/invoke/MethodHandle" ∧ yX5_loss.cls ≠ "java/lang/invoke/VarHandle" ∧ (parseMethodDescriptor yX5_loss.desc).map (fun d => d.parameters.length) = some 3 := by decide +kernel
theorem hdX5_lossOf : yX5_lossOf.cls ≠ "java/lang/invoke/MethodHandle" ∧ yX5_lossOf.cls ≠ "java/lang/invoke/VarHandle" ∧ (parseMethodDescriptor yX5_lossOf.desc).map (fun d => d.parameters.length) = some 3 := by decide +kernel
theorem hdX5_lostOf : yX5_lostOf.cls ≠ "java/lang/invoke/MethodHandle" ∧ yX5_lostOf.cls ≠ "java/lang/invoke/VarHandle" ∧ (parseMethodDescriptor yX5_lostOf.desc).map (fun d => d.parameters.length) = some 2 := by decide +kernel
theorem hdX5_move : yX5_move.cls ≠ "java/lang/invoke/MethodHandle" ∧ yX5_move.cls ≠ "java/lang/invoke/VarHandle" ∧ (parseMethodDescriptor yX5_move.desc).map (fun d => d.parameters.length) = some 2 := by decide +kernel
theorem hdX5_odds : yX5_odds.cls ≠ "java/lang/invoke/MethodHandle" ∧ yX5_odds.cls ≠ "java/lang/invoke/VarHandle" ∧ (parseMethodDescriptor yX5_odds.desc).map (fun d => d.parameters.length) = some 2 := by decide +kernel
theorem hdX5_oneYear : yX5_oneYear.cls ≠ "java/lang/invoke/MethodHandle" ∧ yX5_oneYear.cls ≠ "java/lang/invoke/VarHandle" ∧ (parseMethodDescriptor yX5_oneYear.desc).map (fun d => d.parameters.length) = some 0 := by decide +kernel
theorem hdX5_partOf : yX5_partOf.cls ≠ "java/lang/invoke/MethodHandle" ∧ yX5_partOf.cls ≠ "java/lang/invoke/VarHandle" ∧ (parseMethodDescriptor yX5_partOf.desc).map (fun d => d.parameters.length) = some 2 := by decide +kernel
theorem hdX5_rate : yX5_rate.cls ≠ "java/lang/invoke/MethodHandle" ∧ yX5_rate.cls ≠ "java/lang/invoke/VarHandle" ∧ (parseMethodDescriptor yX5_rate.desc).map (fun d => d.parameters.length) = some 1 := by decide +kernel
theorem hdX5_read : yX5_read.cls ≠ "java/lang/invoke/MethodHandle" ∧ yX5_read.cls ≠ "java/lang/invoke/VarHandle" ∧ (parseMethodDescriptor yX5_read.desc).map (fun d => d.parameters.length) = some 3 := by decide +kernel
theorem hdX5_trace : yX5_trace.cls ≠ "java/lang/invoke/MethodHandle" ∧ yX5_trace.cls ≠ "java/lang/invoke/VarHandle" ∧ (parseMethodDescriptor yX5_trace.desc).map (fun d => d.parameters.length) = some 0 := by decide +kernel
theorem hdX5_want : yX5_want.cls ≠ "java/lang/invoke/MethodHandle" ∧ yX5_want.cls ≠ "java/lang/invoke/VarHandle" ∧ (parseMethodDescriptor yX5_want.desc).map (fun d => d.parameters.length) = some 2 := by decide +kernel
theorem hdX5_ways : yX5_ways.cls ≠ "java/lang/invoke/MethodHandle" ∧ yX5_ways.cls ≠ "java/lang/invoke/VarHandle" ∧ (parseMethodDescriptor yX5_ways.desc).map (fun d => d.parameters.length) = some 2 := by decide +kernel
theorem hdX5_years : yX5_years.cls ≠ "java/lang/invoke/MethodHandle" ∧ yX5_years.cls ≠ "java/lang/invoke/VarHandle" ∧ (parseMethodDescriptor yX5_years.desc).map (fun d => d.parameters.length) = some 1 := by decide +kernel
theorem hdX5_youngest : yX5_youngest.cls ≠ "java/lang/invoke/MethodHandle" ∧ yX5_youngest.cls ≠ "java/lang/invoke/VarHandle" ∧ (parseMethodDescriptor yX5_youngest.desc).map (fun d => d.parameters.length) = some 1 := by decide +kernel
section
variable {p : Program} {l : Launch} {e : Env} {R : Room} {s : State} {m : MethodId} {args : Array Value} {below : List Frame} {meth : Method} {c : Code} {H : Heap} {locs : List Loc} {cells slots : Nat} {Q : State → Prop} {pc : Nat} {ls : Array Slot} {rest st0 : List Value} {cc : ByteArray}
theorem lv_cst {x v : Int32} (h : x = v) (k : W p l e R s m args below meth c H locs cells slots Q (F0 m pc ls (.int v :: rest))) : W p l e R s m args below meth c H locs cells slots Q (F0 m pc ls (.int x :: rest)) := by
  rw [h]; exact k
end
