/-! shapes for constructors -/
abbrev QK {σ : Type} (D : va_G) (post : σ → Prop) (tys : σ → List (ClassId × FieldType)) (w1 : σ → va_W) (A : Nat → Prop) : Array Value → State → Outcome → State → Prop := va_Qv (S := σ) post (fun u t => va_P D vwCl (w1 u) t.heap ∧ va_K D vwCl (tys u) t ∧ va_D A (w1 u)) A
section
variable {p : Program} {l : Launch} {e : Env} {R : Room} {s : State} {m : MethodId} {args : Array Value} {below : List Frame} {meth : Method} {c : Code} {H : Heap} {locs : List Loc} {cells slots : Nat} {Q : State → Prop} {pc : Nat} {ls : Array Slot} {rest st0 : List Value} {cc : ByteArray}
theorem mk_vret {σ : Type} {D : va_G} {post : σ → Prop} {tys : σ → List (ClassId × FieldType)} {w1 : σ → va_W} {A : Nat → Prop} {k n : Nat} (u : σ) (hx : p.tables.exec = Jvm.exec) (hb : c.code = cc) (hr : meth.sig.returnType = none) (hlocks : meth.locks = false) (hP : va_P D vwCl (w1 u) H) (hK : va_K D vwCl (tys u) s) (hD : va_D A (w1 u)) (hS : va_S A s.heap H locs) (hd : decode cc pc = .ok (.return_, 1)) (h : post u) : W p l e R s m args below meth c H locs k n (MQ below (QK D post tys w1 A) args s k n A) (F0 m pc ls []) :=
  W.vret hx hb hr (fun t ht hW => ⟨⟨u, rfl, h, by rw [ht]; exact hP, va_K.moved hW.alike hK, hD⟩, hS.F ht⟩) hS.2.2 hd
theorem mk_v {σ : Type} {D : va_G} {post : σ → Prop} {tys : σ → List (ClassId × FieldType)} {w1 : σ → va_W} {A : Nat → Prop} {X Y Z : va_W} {a : Array Value} {mc ms : Nat} (hr : va_Run p l e R s m args below meth c H locs cells slots mc ms (F0 m pc ls st0) rest (QK D post tys w1 (va_A Y H.size) a) (va_A Y H.size)) (hP : va_P D vwCl (X ++ Y ++ Z) H) (hD : va_D A (X ++ Y ++ Z)) (hS : va_S A s.heap H locs) (hA : ∀ q : Nat, s.heap.size ≤ q → A q)
    (kk : ∀ (u : σ) (H1 : Heap) (locs1 : List Loc), post u → va_P D vwCl (X ++ w1 u ++ Z) H1 → va_K D vwCl (tys u) s → va_D A (X ++ w1 u ++ Z) → va_S A s.heap H1 locs1 → W p l e R s m args below meth c H1 locs1 (cells + mc) (slots + ms) Q (F0 m (pc + 3) ls rest)) : W p l e R s m args below meth c H locs cells slots Q (F0 m pc ls st0) := by
  have hF : ∀ q : Nat, va_A Y H.size q → A q := wj_free (D := D) (cl := vwCl) hD hS hA
  refine va_callv hr hS (fun q _ h => hF q h) hF (fun u t H1 locs1 ht hvm hw hB hz1 hk1 hS1 => ?_)
  obtain ⟨hP1, hK1, hD1⟩ := hB
  rw [ht] at hP1
  obtain ⟨hP2, hD2⟩ := wj_mid hP hD hk1 hF hP1 hD1
  exact kk u H1 locs1 hw hP2 (va_K.moved hvm.symm hK1) hD2 hS1
theorem vd_ret (hx : p.tables.exec = Jvm.exec) (hb : c.code = cc) (hr : meth.sig.returnType = none) (hlocks : meth.locks = false) (hd : decode cc pc = .ok (.return_, 1)) : W p l e R s m args below meth c s.heap [] 0 0 (MQ below (va_Sv (fun _ => True)) args s 0 0 nF) (F0 m pc ls []) :=
  W.vret hx hb hr (fun t ht hW => ⟨rfl, trivial, ht⟩) (fun q h => by cases h) hd
/-- a loop that makes -/
theorem W.lpN {τ : Type} {D : va_G} {A : Nat → Prop} {H0 : Heap} {cl : List vw_C} (φ : τ → Prop) (ws : τ → va_W) (J : τ → Array Slot → Prop) (μ kc ks : τ → Nat) (hs : ∀ (x : τ) (ls : Array Slot) (H : Heap) (locs : List Loc), φ x → J x ls → va_P D cl (ws x) H → va_D A (ws x) → va_S A H0 H locs → (∀ (x' : τ) (ls' : Array Slot) (H' : Heap) (locs' : List Loc), μ x' < μ x → φ x' → J x' ls' → va_P D cl (ws x') H' → va_D A (ws x') → va_S A H0 H' locs' → W p l e R s m args below meth c H' locs' (kc x') (ks x') Q (F0 m pc ls' [])) → W p l e R s m args below meth c H locs (kc x) (ks x) Q (F0 m pc ls [])) : ∀ (x : τ) (ls : Array Slot), φ x → J x ls → va_P D cl (ws x) H → va_D A (ws x) → va_S A H0 H locs → W p l e R s m args below meth c H locs (kc x) (ks x) Q (F0 m pc ls []) := by
  intro x ls hφ hJ hP hD hS
  have key : ∀ (n : Nat) (x : τ) (ls : Array Slot) (H : Heap) (locs : List Loc), μ x < n → φ x → J x ls → va_P D cl (ws x) H → va_D A (ws x) → va_S A H0 H locs → W p l e R s m args below meth c H locs (kc x) (ks x) Q (F0 m pc ls []) := by
    intro n
    induction n with
    | zero => intro x ls H locs h; exact absurd h (Nat.not_lt_zero _)
    | succ n ih => intro x ls H locs h hφ hJ hP hD hS; exact hs x ls H locs hφ hJ hP hD hS (fun x' ls' H' locs' h' hφ' hJ' hP' hD' hS' => ih x' ls' H' locs' (by omega) hφ' hJ' hP' hD' hS')
  exact key (μ x + 1) x ls H locs (Nat.lt_succ_self _) hφ hJ hP hD hS
end
def w00 : Nat → Int32 := upd (upd (upd (upd (upd (upd (upd (upd (fun _ => 0) 0 0) 1 0) 2 0) 3 9999) 4 0) 5 9999) 6 0) 7 9999
/-- the casks that have been made -/
abbrev mPool (qc : Nat → Nat) (i : Nat) : va_W := (List.range i).map (fun k => (qc k, ckE c00))
theorem mPool_s (qc : Nat → Nat) (i a : Nat) : mPool (va_up qc i a) (i + 1) = mPool qc i ++ [(a, ckE c00)] := by
  unfold mPool
  rw [List.range_succ, List.map_append]
  congr 1
  · apply List.map_congr_left
    intro k hk
    rw [List.mem_range] at hk
    rw [va_up_ne _ _ (by omega)]
  · show [(va_up qc i a i, ckE c00)] = _
    rw [va_up_self]
def aF (qc : Nat → Nat) (i : Nat) : Nat → Option Nat := fun k => if k < i then some (qc k) else none
theorem aF_s (qc : Nat → Nat) (i a : Nat) : va_up (aF qc i) i (some a) = aF (va_up qc i a) (i + 1) := by
  funext k
  rw [va_ap]
  unfold aF
  by_cases h : k = i
  · subst h; rw [if_pos rfl, if_pos (Nat.lt_succ_self _), va_up_self]
  · rw [if_neg h, va_up_ne _ _ h]
    have : k < i + 1 ↔ k < i := by omega
    simp only [this]
theorem cell_cg {cA : ClassId} {n : Nat} {f f' : Nat → Option Nat} (h : ∀ k, k < n → f k = f' k) : vp_cell cA (n, .inr (.inr (.inr (.inr f)))) = vp_cell cA (n, .inr (.inr (.inr (.inr f')))) := by
  show arrV cA n (fun j => va_rf (f j)) = arrV cA n (fun j => va_rf (f' j))
  unfold arrV
  congr 2
  funext j
  show va_rf (f j.val) = va_rf (f' j.val)
  rw [h j.val j.isLt]
theorem P_cg {D : va_G} {cl : List vw_C} {A : Nat → Prop} {ws : va_W} {H : Heap} {k a n : Nat} {cA : ClassId} {f f' : Nat → Option Nat} (hP : va_P D cl ws H) (hD : va_D A ws) (hk : ws[k]? = some (a, .inl (cA, n, .inr (.inr (.inr (.inr f)))))) (h : ∀ k, k < n → f k = f' k) : va_P D cl (ws.set k (a, .inl (cA, n, .inr (.inr (.inr (.inr f')))))) H ∧ va_D A (ws.set k (a, .inl (cA, n, .inr (.inr (.inr (.inr f')))))) := by
  refine ⟨hP.set hD hk ?_ (fun _ _ => rfl), hD.set hk⟩
  have h1 := hP k _ hk
  show H[a]? = some (vp_cell cA (n, .inr (.inr (.inr (.inr f')))))
  rw [← cell_cg h]; exact h1
theorem nw_int (n : Nat) (cA : ClassId) : vp_cell cA (n, .inl (fun _ => 0)) = arrV cA n (fun _ => defaultValue .int) := rfl
theorem nw_boolean (n : Nat) (cA : ClassId) : vp_cell cA (n, .inl (fun _ => 0)) = arrV cA n (fun _ => defaultValue .boolean) := rfl
theorem aF_0 (qc : Nat → Nat) : aF qc 0 = fun _ => none := by funext k; simp [aF]
theorem mp_last {X : va_W} {qc : Nat → Nat} {i k a : Nat} {e : va_E} (hX : X.length = k) : (X ++ (mPool qc i ++ [(a, e)]))[k + i]? = some (a, e) := by
  subst hX
  rw [List.getElem?_append_right (Nat.le_add_right _ _), Nat.add_sub_cancel_left, List.getElem?_append_right (by rw [List.length_map, List.length_range]; exact Nat.le_refl _), List.length_map, List.length_range, Nat.sub_self]
  rfl
theorem mp_all {qc qq : Nat → Nat} (h : ∀ k, qc k = qq (9 + k)) : mPool qc 12 = xPool qq (fun _ => c00) := by
  unfold mPool xPool
  apply List.map_congr_left
  intro k _
  rw [h k]
