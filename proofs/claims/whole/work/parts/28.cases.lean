set_option maxHeartbeats 4000000 in
set_option maxRecDepth 100000 in
theorem cs_lay {p : Program} {l : Launch} {e : Env} {s : State} {m : MethodId} {below : List Frame} {meth : Method} {c : Code} {b L : Nat} {xs : Nat → Int32} {D : va_G} {yx : Nat → ClassId} {qx : Nat → Nat} {ym : Nat → ClassId} {qm : Nat → Nat} (hx : p.tables.exec = Jvm.exec) (hb : c.code = cL_law) (hml : c.maxLocals = 4) (hown : s.vm.findClass RL = some m.cls) (hts : ∀ w ∈ wsL_law, w.before #[Value.ref b] s = true) (hX : va_X b L xs s s.heap) (hbl : b < s.heap.size) (hKx : va_K D vwCl (xT yx) s) (hKm : va_K D vwCl (mTy ym) s) (hN : NW s) (hZ0 : trE (fun q : Nat => s.heap.size ≤ q) s) (hL : L ≤ 3072) (i : Nat) (hi : i + 6 ≤ L) (n t r : Nat) (C : Nat → CT) (w : Nat → Int32) (rt : Int32) (tr : Int64) (ah : Nat → Int32) (mx : MT) (g h : Nat → Int32) (ct : Int32) (no sa to st im va : Nat → Int32) (H : Heap) (locs : List Loc) (hI : INV n t C) (hR : NS r no sa to g h ct) (hP : va_P D vwCl ((xW yx qx (nI n) (nI t) rt tr C ah w mx (nI r) ct g h) ++ (mWC ym qm (nI t) (nI n) C w rt (nI r) no sa to tr st im va)) H) (hD : va_D (fun q : Nat => s.heap.size ≤ q) ((xW yx qx (nI n) (nI t) rt tr C ah w mx (nI r) ct g h) ++ (mWC ym qm (nI t) (nI n) C w rt (nI r) no sa to tr st im va))) (hS : va_S (fun q : Nat => s.heap.size ≤ q) s.heap H locs) (ls : Array Slot) (hl : lv_has ls 4 [(0, .ref b), (1, .ref (qx 0)), (2, .ref (qm 0)), (3, .int (nI i))]) (K : ∀ (n t r : Nat) (C : Nat → CT) (w : Nat → Int32) (rt : Int32) (tr : Int64) (ah : Nat → Int32) (mx : MT) (g h : Nat → Int32) (ct : Int32) (no sa to st im va : Nat → Int32) (H : Heap) (locs : List Loc), INV n t C → NS r no sa to g h ct → va_P D vwCl ((xW yx qx (nI n) (nI t) rt tr C ah w mx (nI r) ct g h) ++ (mWC ym qm (nI t) (nI n) C w rt (nI r) no sa to tr st im va)) H → va_D (fun q : Nat => s.heap.size ≤ q) ((xW yx qx (nI n) (nI t) rt tr C ah w mx (nI r) ct g h) ++ (mWC ym qm (nI t) (nI n) C w rt (nI r) no sa to tr st im va)) → va_S (fun q : Nat => s.heap.size ≤ q) s.heap H locs → W p l e room_1 s m #[Value.ref b] below meth c H locs 37 439 (lw_Z below #[Value.ref b] s) (F0 m 777 ls [])) : W p l e room_1 s m #[Value.ref b] below meth c H locs 37 439 (lw_Z below #[Value.ref b] s) (F0 m 132 ls []) := by
  have hn := hI.1
  have ht := hI.2.1
  have hr30 := hR.1
  have hA : ∀ q : Nat, s.heap.size ≤ q → (fun q : Nat => s.heap.size ≤ q) q := fun _ h9 => h9
  have hbA : ¬ (fun q : Nat => s.heap.size ≤ q) b := Nat.not_le.mpr hbl
  have F : CallFix p m c cL_law 4 s #[Value.ref b] wsL_law RL := ⟨hx, hb, hml, hown, hts⟩
  refine lv_aload_n hx hb dL_law_132 rfl (lv_at hl 1 rfl) ?_
  refine lv_aload_n hx hb dL_law_133 rfl (lv_at hl 0 rfl) ?_
  refine lv_iload_n hx hb dL_law_134 rfl (lv_at hl 3 rfl) ?_
  refine lv_iconst (v := 1) hx hb dL_law_135 (by decide) ?_
  refine lv_iadd hx hb dL_law_136 ?_
  refine wa_sld hx hb hX hbl hbA hS (i + 1) (nI_add i 1) (by omega) hL dL_law_137 ?_
  refine lv_aload_n hx hb dL_law_138 rfl (lv_at hl 0 rfl) ?_
  refine lv_iload_n hx hb dL_law_139 rfl (lv_at hl 3 rfl) ?_
  refine lv_iconst (v := 2) hx hb dL_law_140 (by decide) ?_
  refine lv_iadd hx hb dL_law_141 ?_
  refine wa_sld hx hb hX hbl hbA hS (i + 2) (nI_add i 2) (by omega) hL dL_law_142 ?_
  refine lv_aload_n hx hb dL_law_143 rfl (lv_at hl 0 rfl) ?_
  refine lv_iload_n hx hb dL_law_144 rfl (lv_at hl 3 rfl) ?_
  refine lv_iconst (v := 3) hx hb dL_law_145 (by decide) ?_
  refine lv_iadd hx hb dL_law_146 ?_
  refine wa_sld hx hb hX hbl hbA hS (i + 3) (nI_add i 3) (by omega) hL dL_law_147 ?_
  refine lv_aload_n hx hb dL_law_148 rfl (lv_at hl 0 rfl) ?_
  refine lv_iload_n hx hb dL_law_149 rfl (lv_at hl 3 rfl) ?_
  refine lv_iconst (v := 4) hx hb dL_law_150 (by decide) ?_
  refine lv_iadd hx hb dL_law_151 ?_
  refine wa_sld hx hb hX hbl hbA hS (i + 4) (nI_add i 4) (by omega) hL dL_law_152 ?_
  refine lv_aload_n hx hb dL_law_153 rfl (lv_at hl 0 rfl) ?_
  refine lv_iload_n hx hb dL_law_154 rfl (lv_at hl 3 rfl) ?_
  refine lv_iconst (v := 5) hx hb dL_law_155 (by decide) ?_
  refine lv_iadd hx hb dL_law_156 ?_
  refine wa_sld hx hb hX hbl hbA hS (i + 5) (nI_add i 5) (by omega) hL dL_law_157 ?_
  refine lx_i (Y := (xW yx qx (nI n) (nI t) rt tr C ah w mx (nI r) ct g h)) (Z := (mWC ym qm (nI t) (nI n) C w rt (nI r) no sa to tr st im va)) (va_runV (As := [.int (xs (i + 1)), .int (xs (i + 2)), .int (xs (i + 3)), .int (xs (i + 4)), .int (xs (i + 5))]) (rest := []) F (kX4_lay l D yx qx n (nI t) rt tr C ah w mx (nI r) ct g h (xs (i + 1)) (xs (i + 2)) (xs (i + 3)) (xs (i + 4)) (xs (i + 5)) _ hn) (cwV 5 hts gL_law_X4_lay rfl rfl rfl ⟨rfl, hdX4_lay⟩ ⟨(Nat.le_of_ble_eq_true rfl), (Nat.le_of_ble_eq_true rfl)⟩) ⟨(muB_blind (fun _ _ _ _ _ => trivial)), va_recv hKx (P_l hP) (ci := 4) (q0 := 0) rfl rfl, lx_pre (Y := (xW yx qx (nI n) (nI t) rt tr C ah w mx (nI r) ct g h)) (Z := (mWC ym qm (nI t) (nI n) C w rt (nI r) no sa to tr st im va)) hP hKx hN hD (fun _ _ _ => trivial)⟩ rfl rfl hl.1 rfl (lv_room (Nat.le_of_ble_eq_true rfl)) dL_law_158 ⟨(Nat.le_of_ble_eq_true rfl), (Nat.le_of_ble_eq_true rfl)⟩) hP hD hS hA (fun r1 u1 H locs w1 hP hD hS => ?_)
  have hP : va_P D vwCl ((xW yx qx u1.1 (nI t) rt tr u1.2 ah w mx (nI r) ct g h) ++ (mWC ym qm (nI t) (nI n) C w rt (nI r) no sa to tr st im va)) H := hP
  have hD : va_D (fun q : Nat => s.heap.size ≤ q) ((xW yx qx u1.1 (nI t) rt tr u1.2 ah w mx (nI r) ct g h) ++ (mWC ym qm (nI t) (nI n) C w rt (nI r) no sa to tr st im va)) := hD
  refine lv_aload_n hx hb dL_law_161 rfl (lv_at hl 2 rfl) ?_
  refine lv_aload_n hx hb dL_law_162 rfl (lv_at hl 0 rfl) ?_
  refine lv_iload_n hx hb dL_law_163 rfl (lv_at hl 3 rfl) ?_
  refine lv_iconst (v := 1) hx hb dL_law_164 (by decide) ?_
  refine lv_iadd hx hb dL_law_165 ?_
  refine wa_sld hx hb hX hbl hbA hS (i + 1) (nI_add i 1) (by omega) hL dL_law_166 ?_
  refine lv_aload_n hx hb dL_law_167 rfl (lv_at hl 0 rfl) ?_
  refine lv_iload_n hx hb dL_law_168 rfl (lv_at hl 3 rfl) ?_
  refine lv_iconst (v := 2) hx hb dL_law_169 (by decide) ?_
  refine lv_iadd hx hb dL_law_170 ?_
  refine wa_sld hx hb hX hbl hbA hS (i + 2) (nI_add i 2) (by omega) hL dL_law_171 ?_
  refine lv_aload_n hx hb dL_law_172 rfl (lv_at hl 0 rfl) ?_
  refine lv_iload_n hx hb dL_law_173 rfl (lv_at hl 3 rfl) ?_
  refine lv_iconst (v := 3) hx hb dL_law_174 (by decide) ?_
  refine lv_iadd hx hb dL_law_175 ?_
  refine wa_sld hx hb hX hbl hbA hS (i + 3) (nI_add i 3) (by omega) hL dL_law_176 ?_
  refine lv_aload_n hx hb dL_law_177 rfl (lv_at hl 0 rfl) ?_
  refine lv_iload_n hx hb dL_law_178 rfl (lv_at hl 3 rfl) ?_
  refine lv_iconst (v := 4) hx hb dL_law_179 (by decide) ?_
  refine lv_iadd hx hb dL_law_180 ?_
  refine wa_sld hx hb hX hbl hbA hS (i + 4) (nI_add i 4) (by omega) hL dL_law_181 ?_
  refine lv_aload_n hx hb dL_law_182 rfl (lv_at hl 0 rfl) ?_
  refine lv_iload_n hx hb dL_law_183 rfl (lv_at hl 3 rfl) ?_
  refine lv_iconst (v := 5) hx hb dL_law_184 (by decide) ?_
  refine lv_iadd hx hb dL_law_185 ?_
  refine wa_sld hx hb hX hbl hbA hS (i + 5) (nI_add i 5) (by omega) hL dL_law_186 ?_
  refine lm_i (X := (xW yx qx u1.1 (nI t) rt tr u1.2 ah w mx (nI r) ct g h)) (Y := (mWC ym qm (nI t) (nI n) C w rt (nI r) no sa to tr st im va)) (va_runV (As := [.int (xs (i + 1)), .int (xs (i + 2)), .int (xs (i + 3)), .int (xs (i + 4)), .int (xs (i + 5))]) (rest := [.int r1]) F (kX5_lay l D ym qm t n C w rt r no sa to tr st im va (xs (i + 1)) (xs (i + 2)) (xs (i + 3)) (xs (i + 4)) (xs (i + 5)) _ hn hI) (cwV 5 hts gL_law_X5_lay rfl rfl rfl ⟨rfl, hdX5_lay⟩ ⟨(Nat.le_of_ble_eq_true rfl), (Nat.le_of_ble_eq_true rfl)⟩) ⟨(muB_blind (fun _ _ _ _ _ => trivial)), va_recv hKm (P_r hP) (ci := 5) (q0 := 0) rfl rfl, lm_pre (X := (xW yx qx u1.1 (nI t) rt tr u1.2 ah w mx (nI r) ct g h)) (Y := (mWC ym qm (nI t) (nI n) C w rt (nI r) no sa to tr st im va)) hP hKm hN hD (fun _ _ _ => trivial)⟩ rfl rfl hl.1 rfl (lv_room (Nat.le_of_ble_eq_true rfl)) dL_law_187 ⟨(Nat.le_of_ble_eq_true rfl), (Nat.le_of_ble_eq_true rfl)⟩) hP hD hS hA (fun r2 u2 H locs w2 hP hD hS => ?_)
  have hP : va_P D vwCl ((xW yx qx u1.1 (nI t) rt tr u1.2 ah w mx (nI r) ct g h) ++ (mWC ym qm (nI t) u2.1 u2.2 w rt (nI r) no sa to tr st im va)) H := hP
  have hD : va_D (fun q : Nat => s.heap.size ≤ q) ((xW yx qx u1.1 (nI t) rt tr u1.2 ah w mx (nI r) ct g h) ++ (mWC ym qm (nI t) u2.1 u2.2 w rt (nI r) no sa to tr st im va)) := hD
  obtain ⟨e1, e2⟩ := pr_inj w1 w2
  subst e2
  obtain ⟨n2, en, hI2⟩ := lay_inv hI w1
  rw [en] at hP hD
  refine lv_icmp_eq (tgt := 777) hx hb dL_law_190 (by decide) (fun c1 => ?_) (fun c1 => absurd e1 c1)
  exact K n2 t r u1.2 w rt tr ah mx g h ct no sa to st im va H locs hI2 hR hP hD hS

set_option maxHeartbeats 4000000 in
set_option maxRecDepth 100000 in
theorem cs_years {p : Program} {l : Launch} {e : Env} {s : State} {m : MethodId} {below : List Frame} {meth : Method} {c : Code} {b L : Nat} {xs : Nat → Int32} {D : va_G} {yx : Nat → ClassId} {qx : Nat → Nat} {ym : Nat → ClassId} {qm : Nat → Nat} (hx : p.tables.exec = Jvm.exec) (hb : c.code = cL_law) (hml : c.maxLocals = 4) (hown : s.vm.findClass RL = some m.cls) (hts : ∀ w ∈ wsL_law, w.before #[Value.ref b] s = true) (hX : va_X b L xs s s.heap) (hbl : b < s.heap.size) (hKx : va_K D vwCl (xT yx) s) (hKm : va_K D vwCl (mTy ym) s) (hN : NW s) (hZ0 : trE (fun q : Nat => s.heap.size ≤ q) s) (hL : L ≤ 3072) (i : Nat) (hi : i + 6 ≤ L) (n t r : Nat) (C : Nat → CT) (w : Nat → Int32) (rt : Int32) (tr : Int64) (ah : Nat → Int32) (mx : MT) (g h : Nat → Int32) (ct : Int32) (no sa to st im va : Nat → Int32) (H : Heap) (locs : List Loc) (hI : INV n t C) (hR : NS r no sa to g h ct) (hP : va_P D vwCl ((xW yx qx (nI n) (nI t) rt tr C ah w mx (nI r) ct g h) ++ (mWC ym qm (nI t) (nI n) C w rt (nI r) no sa to tr st im va)) H) (hD : va_D (fun q : Nat => s.heap.size ≤ q) ((xW yx qx (nI n) (nI t) rt tr C ah w mx (nI r) ct g h) ++ (mWC ym qm (nI t) (nI n) C w rt (nI r) no sa to tr st im va))) (hS : va_S (fun q : Nat => s.heap.size ≤ q) s.heap H locs) (ls : Array Slot) (hl : lv_has ls 4 [(0, .ref b), (1, .ref (qx 0)), (2, .ref (qm 0)), (3, .int (nI i))]) (K : ∀ (n t r : Nat) (C : Nat → CT) (w : Nat → Int32) (rt : Int32) (tr : Int64) (ah : Nat → Int32) (mx : MT) (g h : Nat → Int32) (ct : Int32) (no sa to st im va : Nat → Int32) (H : Heap) (locs : List Loc), INV n t C → NS r no sa to g h ct → va_P D vwCl ((xW yx qx (nI n) (nI t) rt tr C ah w mx (nI r) ct g h) ++ (mWC ym qm (nI t) (nI n) C w rt (nI r) no sa to tr st im va)) H → va_D (fun q : Nat => s.heap.size ≤ q) ((xW yx qx (nI n) (nI t) rt tr C ah w mx (nI r) ct g h) ++ (mWC ym qm (nI t) (nI n) C w rt (nI r) no sa to tr st im va)) → va_S (fun q : Nat => s.heap.size ≤ q) s.heap H locs → W p l e room_1 s m #[Value.ref b] below meth c H locs 37 439 (lw_Z below #[Value.ref b] s) (F0 m 777 ls [])) : W p l e room_1 s m #[Value.ref b] below meth c H locs 37 439 (lw_Z below #[Value.ref b] s) (F0 m 195 ls []) := by
  have hn := hI.1
  have ht := hI.2.1
  have hr30 := hR.1
  have hA : ∀ q : Nat, s.heap.size ≤ q → (fun q : Nat => s.heap.size ≤ q) q := fun _ h9 => h9
  have hbA : ¬ (fun q : Nat => s.heap.size ≤ q) b := Nat.not_le.mpr hbl
  have F : CallFix p m c cL_law 4 s #[Value.ref b] wsL_law RL := ⟨hx, hb, hml, hown, hts⟩
  refine lv_aload_n hx hb dL_law_195 rfl (lv_at hl 1 rfl) ?_
  refine lv_aload_n hx hb dL_law_196 rfl (lv_at hl 0 rfl) ?_
  refine lv_iload_n hx hb dL_law_197 rfl (lv_at hl 3 rfl) ?_
  refine lv_iconst (v := 1) hx hb dL_law_198 (by decide) ?_
  refine lv_iadd hx hb dL_law_199 ?_
  refine wa_sld hx hb hX hbl hbA hS (i + 1) (nI_add i 1) (by omega) hL dL_law_200 ?_
  refine lx_i (Y := (xW yx qx (nI n) (nI t) rt tr C ah w mx (nI r) ct g h)) (Z := (mWC ym qm (nI t) (nI n) C w rt (nI r) no sa to tr st im va)) (va_runV (As := [.int (xs (i + 1))]) (rest := []) F (kX4_years l D yx qx n (nI t) rt tr C ah w mx (nI r) ct g h (xs (i + 1)) _ hn) (cwV 1 hts gL_law_X4_years rfl rfl rfl ⟨rfl, hdX4_years⟩ ⟨(Nat.le_of_ble_eq_true rfl), (Nat.le_of_ble_eq_true rfl)⟩) ⟨(muB_blind (fun _ _ _ _ _ => trivial)), va_recv hKx (P_l hP) (ci := 4) (q0 := 0) rfl rfl, lx_pre (Y := (xW yx qx (nI n) (nI t) rt tr C ah w mx (nI r) ct g h)) (Z := (mWC ym qm (nI t) (nI n) C w rt (nI r) no sa to tr st im va)) hP hKx hN hD (fun _ _ _ => trivial)⟩ rfl rfl hl.1 rfl (lv_room (Nat.le_of_ble_eq_true rfl)) dL_law_201 ⟨(Nat.le_of_ble_eq_true rfl), (Nat.le_of_ble_eq_true rfl)⟩) hP hD hS hA (fun r1 u1 H locs w1 hP hD hS => ?_)
  have hP : va_P D vwCl ((xW yx qx (nI n) u1.1 rt tr u1.2 ah w mx (nI r) ct g h) ++ (mWC ym qm (nI t) (nI n) C w rt (nI r) no sa to tr st im va)) H := hP
  have hD : va_D (fun q : Nat => s.heap.size ≤ q) ((xW yx qx (nI n) u1.1 rt tr u1.2 ah w mx (nI r) ct g h) ++ (mWC ym qm (nI t) (nI n) C w rt (nI r) no sa to tr st im va)) := hD
  refine lv_aload_n hx hb dL_law_204 rfl (lv_at hl 2 rfl) ?_
  refine lv_aload_n hx hb dL_law_205 rfl (lv_at hl 0 rfl) ?_
  refine lv_iload_n hx hb dL_law_206 rfl (lv_at hl 3 rfl) ?_
  refine lv_iconst (v := 1) hx hb dL_law_207 (by decide) ?_
  refine lv_iadd hx hb dL_law_208 ?_
  refine wa_sld hx hb hX hbl hbA hS (i + 1) (nI_add i 1) (by omega) hL dL_law_209 ?_
  refine lm_i (X := (xW yx qx (nI n) u1.1 rt tr u1.2 ah w mx (nI r) ct g h)) (Y := (mWC ym qm (nI t) (nI n) C w rt (nI r) no sa to tr st im va)) (va_runV (As := [.int (xs (i + 1))]) (rest := [.int r1]) F (kX5_years l D ym qm t n C w rt r no sa to tr st im va (xs (i + 1)) _ hn hI ht) (cwV 1 hts gL_law_X5_years rfl rfl rfl ⟨rfl, hdX5_years⟩ ⟨(Nat.le_of_ble_eq_true rfl), (Nat.le_of_ble_eq_true rfl)⟩) ⟨(muB_blind (fun _ _ _ _ _ => trivial)), va_recv hKm (P_r hP) (ci := 5) (q0 := 0) rfl rfl, lm_pre (X := (xW yx qx (nI n) u1.1 rt tr u1.2 ah w mx (nI r) ct g h)) (Y := (mWC ym qm (nI t) (nI n) C w rt (nI r) no sa to tr st im va)) hP hKm hN hD (fun _ _ _ => trivial)⟩ rfl rfl hl.1 rfl (lv_room (Nat.le_of_ble_eq_true rfl)) dL_law_210 ⟨(Nat.le_of_ble_eq_true rfl), (Nat.le_of_ble_eq_true rfl)⟩) hP hD hS hA (fun r2 u2 H locs w2 hP hD hS => ?_)
  have hP : va_P D vwCl ((xW yx qx (nI n) u1.1 rt tr u1.2 ah w mx (nI r) ct g h) ++ (mWC ym qm u2.1 (nI n) u2.2 w rt (nI r) no sa to tr st im va)) H := hP
  have hD : va_D (fun q : Nat => s.heap.size ≤ q) ((xW yx qx (nI n) u1.1 rt tr u1.2 ah w mx (nI r) ct g h) ++ (mWC ym qm u2.1 (nI n) u2.2 w rt (nI r) no sa to tr st im va)) := hD
  obtain ⟨e1, e2⟩ := pr_inj w1 w2
  subst e2
  obtain ⟨t2, en, hI2⟩ := years_inv hI w1
  rw [en] at hP hD
  refine lv_icmp_eq (tgt := 777) hx hb dL_law_213 (by decide) (fun c1 => ?_) (fun c1 => absurd e1 c1)
  exact K n t2 r u1.2 w rt tr ah mx g h ct no sa to st im va H locs hI2 hR hP hD hS

set_option maxHeartbeats 4000000 in
set_option maxRecDepth 100000 in
theorem cs_loss {p : Program} {l : Launch} {e : Env} {s : State} {m : MethodId} {below : List Frame} {meth : Method} {c : Code} {b L : Nat} {xs : Nat → Int32} {D : va_G} {yx : Nat → ClassId} {qx : Nat → Nat} {ym : Nat → ClassId} {qm : Nat → Nat} (hx : p.tables.exec = Jvm.exec) (hb : c.code = cL_law) (hml : c.maxLocals = 4) (hown : s.vm.findClass RL = some m.cls) (hts : ∀ w ∈ wsL_law, w.before #[Value.ref b] s = true) (hX : va_X b L xs s s.heap) (hbl : b < s.heap.size) (hKx : va_K D vwCl (xT yx) s) (hKm : va_K D vwCl (mTy ym) s) (hN : NW s) (hZ0 : trE (fun q : Nat => s.heap.size ≤ q) s) (hL : L ≤ 3072) (i : Nat) (hi : i + 6 ≤ L) (n t r : Nat) (C : Nat → CT) (w : Nat → Int32) (rt : Int32) (tr : Int64) (ah : Nat → Int32) (mx : MT) (g h : Nat → Int32) (ct : Int32) (no sa to st im va : Nat → Int32) (H : Heap) (locs : List Loc) (hI : INV n t C) (hR : NS r no sa to g h ct) (hP : va_P D vwCl ((xW yx qx (nI n) (nI t) rt tr C ah w mx (nI r) ct g h) ++ (mWC ym qm (nI t) (nI n) C w rt (nI r) no sa to tr st im va)) H) (hD : va_D (fun q : Nat => s.heap.size ≤ q) ((xW yx qx (nI n) (nI t) rt tr C ah w mx (nI r) ct g h) ++ (mWC ym qm (nI t) (nI n) C w rt (nI r) no sa to tr st im va))) (hS : va_S (fun q : Nat => s.heap.size ≤ q) s.heap H locs) (ls : Array Slot) (hl : lv_has ls 4 [(0, .ref b), (1, .ref (qx 0)), (2, .ref (qm 0)), (3, .int (nI i))]) (K : ∀ (n t r : Nat) (C : Nat → CT) (w : Nat → Int32) (rt : Int32) (tr : Int64) (ah : Nat → Int32) (mx : MT) (g h : Nat → Int32) (ct : Int32) (no sa to st im va : Nat → Int32) (H : Heap) (locs : List Loc), INV n t C → NS r no sa to g h ct → va_P D vwCl ((xW yx qx (nI n) (nI t) rt tr C ah w mx (nI r) ct g h) ++ (mWC ym qm (nI t) (nI n) C w rt (nI r) no sa to tr st im va)) H → va_D (fun q : Nat => s.heap.size ≤ q) ((xW yx qx (nI n) (nI t) rt tr C ah w mx (nI r) ct g h) ++ (mWC ym qm (nI t) (nI n) C w rt (nI r) no sa to tr st im va)) → va_S (fun q : Nat => s.heap.size ≤ q) s.heap H locs → W p l e room_1 s m #[Value.ref b] below meth c H locs 37 439 (lw_Z below #[Value.ref b] s) (F0 m 777 ls [])) : W p l e room_1 s m #[Value.ref b] below meth c H locs 37 439 (lw_Z below #[Value.ref b] s) (F0 m 218 ls []) := by
  have hn := hI.1
  have ht := hI.2.1
  have hr30 := hR.1
  have hA : ∀ q : Nat, s.heap.size ≤ q → (fun q : Nat => s.heap.size ≤ q) q := fun _ h9 => h9
  have hbA : ¬ (fun q : Nat => s.heap.size ≤ q) b := Nat.not_le.mpr hbl
  have F : CallFix p m c cL_law 4 s #[Value.ref b] wsL_law RL := ⟨hx, hb, hml, hown, hts⟩
  refine lv_aload_n hx hb dL_law_218 rfl (lv_at hl 1 rfl) ?_
  refine lv_aload_n hx hb dL_law_219 rfl (lv_at hl 0 rfl) ?_
  refine lv_iload_n hx hb dL_law_220 rfl (lv_at hl 3 rfl) ?_
  refine lv_iconst (v := 1) hx hb dL_law_221 (by decide) ?_
  refine lv_iadd hx hb dL_law_222 ?_
  refine wa_sld hx hb hX hbl hbA hS (i + 1) (nI_add i 1) (by omega) hL dL_law_223 ?_
  refine lv_aload_n hx hb dL_law_224 rfl (lv_at hl 0 rfl) ?_
  refine lv_iload_n hx hb dL_law_225 rfl (lv_at hl 3 rfl) ?_
  refine lv_iconst (v := 2) hx hb dL_law_226 (by decide) ?_
  refine lv_iadd hx hb dL_law_227 ?_
  refine wa_sld hx hb hX hbl hbA hS (i + 2) (nI_add i 2) (by omega) hL dL_law_228 ?_
  refine lv_aload_n hx hb dL_law_229 rfl (lv_at hl 0 rfl) ?_
  refine lv_iload_n hx hb dL_law_230 rfl (lv_at hl 3 rfl) ?_
  refine lv_iconst (v := 3) hx hb dL_law_231 (by decide) ?_
  refine lv_iadd hx hb dL_law_232 ?_
  refine wa_sld hx hb hX hbl hbA hS (i + 3) (nI_add i 3) (by omega) hL dL_law_233 ?_
  refine lx_i (Y := (xW yx qx (nI n) (nI t) rt tr C ah w mx (nI r) ct g h)) (Z := (mWC ym qm (nI t) (nI n) C w rt (nI r) no sa to tr st im va)) (va_runV (As := [.int (xs (i + 1)), .int (xs (i + 2)), .int (xs (i + 3))]) (rest := []) F (kX4_loss l D yx qx n (nI t) rt tr C ah w mx (nI r) ct g h (xs (i + 1)) (xs (i + 2)) (xs (i + 3)) _ hn) (cwV 3 hts gL_law_X4_loss rfl rfl rfl ⟨rfl, hdX4_loss⟩ ⟨(Nat.le_of_ble_eq_true rfl), (Nat.le_of_ble_eq_true rfl)⟩) ⟨(muB_blind trE_blind), va_recv hKx (P_l hP) (ci := 4) (q0 := 0) rfl rfl, lx_pre (Y := (xW yx qx (nI n) (nI t) rt tr C ah w mx (nI r) ct g h)) (Z := (mWC ym qm (nI t) (nI n) C w rt (nI r) no sa to tr st im va)) hP hKx hN hD (trE_pre hZ0 hS (lx_sub (D := D) hD hS hA))⟩ rfl rfl hl.1 rfl (lv_room (Nat.le_of_ble_eq_true rfl)) dL_law_234 ⟨(Nat.le_of_ble_eq_true rfl), (Nat.le_of_ble_eq_true rfl)⟩) hP hD hS hA (fun r1 u1 H locs w1 hP hD hS => ?_)
  have hP : va_P D vwCl ((xW yx qx (nI n) (nI t) rt u1 C ah w mx (nI r) ct g h) ++ (mWC ym qm (nI t) (nI n) C w rt (nI r) no sa to tr st im va)) H := hP
  have hD : va_D (fun q : Nat => s.heap.size ≤ q) ((xW yx qx (nI n) (nI t) rt u1 C ah w mx (nI r) ct g h) ++ (mWC ym qm (nI t) (nI n) C w rt (nI r) no sa to tr st im va)) := hD
  refine lv_aload_n hx hb dL_law_237 rfl (lv_at hl 2 rfl) ?_
  refine lv_aload_n hx hb dL_law_238 rfl (lv_at hl 0 rfl) ?_
  refine lv_iload_n hx hb dL_law_239 rfl (lv_at hl 3 rfl) ?_
  refine lv_iconst (v := 1) hx hb dL_law_240 (by decide) ?_
  refine lv_iadd hx hb dL_law_241 ?_
  refine wa_sld hx hb hX hbl hbA hS (i + 1) (nI_add i 1) (by omega) hL dL_law_242 ?_
  refine lv_aload_n hx hb dL_law_243 rfl (lv_at hl 0 rfl) ?_
  refine lv_iload_n hx hb dL_law_244 rfl (lv_at hl 3 rfl) ?_
  refine lv_iconst (v := 2) hx hb dL_law_245 (by decide) ?_
  refine lv_iadd hx hb dL_law_246 ?_
  refine wa_sld hx hb hX hbl hbA hS (i + 2) (nI_add i 2) (by omega) hL dL_law_247 ?_
  refine lv_aload_n hx hb dL_law_248 rfl (lv_at hl 0 rfl) ?_
  refine lv_iload_n hx hb dL_law_249 rfl (lv_at hl 3 rfl) ?_
  refine lv_iconst (v := 3) hx hb dL_law_250 (by decide) ?_
  refine lv_iadd hx hb dL_law_251 ?_
  refine wa_sld hx hb hX hbl hbA hS (i + 3) (nI_add i 3) (by omega) hL dL_law_252 ?_
  refine lm_i (X := (xW yx qx (nI n) (nI t) rt u1 C ah w mx (nI r) ct g h)) (Y := (mWC ym qm (nI t) (nI n) C w rt (nI r) no sa to tr st im va)) (va_runV (As := [.int (xs (i + 1)), .int (xs (i + 2)), .int (xs (i + 3))]) (rest := [.int r1]) F (kX5_loss l D ym qm t n C w rt r no sa to tr st im va (xs (i + 1)) (xs (i + 2)) (xs (i + 3)) _ hn hI) (cwV 3 hts gL_law_X5_loss rfl rfl rfl ⟨rfl, hdX5_loss⟩ ⟨(Nat.le_of_ble_eq_true rfl), (Nat.le_of_ble_eq_true rfl)⟩) ⟨(muB_blind (fun _ _ _ _ _ => trivial)), va_recv hKm (P_r hP) (ci := 5) (q0 := 0) rfl rfl, lm_pre (X := (xW yx qx (nI n) (nI t) rt u1 C ah w mx (nI r) ct g h)) (Y := (mWC ym qm (nI t) (nI n) C w rt (nI r) no sa to tr st im va)) hP hKm hN hD (fun _ _ _ => trivial)⟩ rfl rfl hl.1 rfl (lv_room (Nat.le_of_ble_eq_true rfl)) dL_law_253 ⟨(Nat.le_of_ble_eq_true rfl), (Nat.le_of_ble_eq_true rfl)⟩) hP hD hS hA (fun r2 u2 H locs w2 hP hD hS => ?_)
  have hP : va_P D vwCl ((xW yx qx (nI n) (nI t) rt u1 C ah w mx (nI r) ct g h) ++ (mWC ym qm (nI t) (nI n) C w rt (nI r) no sa to u2 st im va)) H := hP
  have hD : va_D (fun q : Nat => s.heap.size ≤ q) ((xW yx qx (nI n) (nI t) rt u1 C ah w mx (nI r) ct g h) ++ (mWC ym qm (nI t) (nI n) C w rt (nI r) no sa to u2 st im va)) := hD
  obtain ⟨e1, e2⟩ := pr_inj w1 w2
  subst e2
  refine lv_icmp_eq (tgt := 777) hx hb dL_law_256 (by decide) (fun c1 => ?_) (fun c1 => absurd e1 c1)
  exact K n t r C w rt u1 ah mx g h ct no sa to st im va H locs hI hR hP hD hS

set_option maxHeartbeats 4000000 in
set_option maxRecDepth 100000 in
theorem cs_about {p : Program} {l : Launch} {e : Env} {s : State} {m : MethodId} {below : List Frame} {meth : Method} {c : Code} {b L : Nat} {xs : Nat → Int32} {D : va_G} {yx : Nat → ClassId} {qx : Nat → Nat} {ym : Nat → ClassId} {qm : Nat → Nat} (hx : p.tables.exec = Jvm.exec) (hb : c.code = cL_law) (hml : c.maxLocals = 4) (hown : s.vm.findClass RL = some m.cls) (hts : ∀ w ∈ wsL_law, w.before #[Value.ref b] s = true) (hX : va_X b L xs s s.heap) (hbl : b < s.heap.size) (hKx : va_K D vwCl (xT yx) s) (hKm : va_K D vwCl (mTy ym) s) (hN : NW s) (hZ0 : trE (fun q : Nat => s.heap.size ≤ q) s) (hL : L ≤ 3072) (i : Nat) (hi : i + 6 ≤ L) (n t r : Nat) (C : Nat → CT) (w : Nat → Int32) (rt : Int32) (tr : Int64) (ah : Nat → Int32) (mx : MT) (g h : Nat → Int32) (ct : Int32) (no sa to st im va : Nat → Int32) (H : Heap) (locs : List Loc) (hI : INV n t C) (hR : NS r no sa to g h ct) (hP : va_P D vwCl ((xW yx qx (nI n) (nI t) rt tr C ah w mx (nI r) ct g h) ++ (mWC ym qm (nI t) (nI n) C w rt (nI r) no sa to tr st im va)) H) (hD : va_D (fun q : Nat => s.heap.size ≤ q) ((xW yx qx (nI n) (nI t) rt tr C ah w mx (nI r) ct g h) ++ (mWC ym qm (nI t) (nI n) C w rt (nI r) no sa to tr st im va))) (hS : va_S (fun q : Nat => s.heap.size ≤ q) s.heap H locs) (ls : Array Slot) (hl : lv_has ls 4 [(0, .ref b), (1, .ref (qx 0)), (2, .ref (qm 0)), (3, .int (nI i))]) (K : ∀ (n t r : Nat) (C : Nat → CT) (w : Nat → Int32) (rt : Int32) (tr : Int64) (ah : Nat → Int32) (mx : MT) (g h : Nat → Int32) (ct : Int32) (no sa to st im va : Nat → Int32) (H : Heap) (locs : List Loc), INV n t C → NS r no sa to g h ct → va_P D vwCl ((xW yx qx (nI n) (nI t) rt tr C ah w mx (nI r) ct g h) ++ (mWC ym qm (nI t) (nI n) C w rt (nI r) no sa to tr st im va)) H → va_D (fun q : Nat => s.heap.size ≤ q) ((xW yx qx (nI n) (nI t) rt tr C ah w mx (nI r) ct g h) ++ (mWC ym qm (nI t) (nI n) C w rt (nI r) no sa to tr st im va)) → va_S (fun q : Nat => s.heap.size ≤ q) s.heap H locs → W p l e room_1 s m #[Value.ref b] below meth c H locs 37 439 (lw_Z below #[Value.ref b] s) (F0 m 777 ls [])) : W p l e room_1 s m #[Value.ref b] below meth c H locs 37 439 (lw_Z below #[Value.ref b] s) (F0 m 261 ls []) := by
  have hn := hI.1
  have ht := hI.2.1
  have hr30 := hR.1
  have hA : ∀ q : Nat, s.heap.size ≤ q → (fun q : Nat => s.heap.size ≤ q) q := fun _ h9 => h9
  have hbA : ¬ (fun q : Nat => s.heap.size ≤ q) b := Nat.not_le.mpr hbl
  have F : CallFix p m c cL_law 4 s #[Value.ref b] wsL_law RL := ⟨hx, hb, hml, hown, hts⟩
  refine lv_aload_n hx hb dL_law_261 rfl (lv_at hl 1 rfl) ?_
  refine lv_aload_n hx hb dL_law_262 rfl (lv_at hl 0 rfl) ?_
  refine lv_iload_n hx hb dL_law_263 rfl (lv_at hl 3 rfl) ?_
  refine lv_iconst (v := 1) hx hb dL_law_264 (by decide) ?_
  refine lv_iadd hx hb dL_law_265 ?_
  refine wa_sld hx hb hX hbl hbA hS (i + 1) (nI_add i 1) (by omega) hL dL_law_266 ?_
  refine lv_aload_n hx hb dL_law_267 rfl (lv_at hl 0 rfl) ?_
  refine lv_iload_n hx hb dL_law_268 rfl (lv_at hl 3 rfl) ?_
  refine lv_iconst (v := 2) hx hb dL_law_269 (by decide) ?_
  refine lv_iadd hx hb dL_law_270 ?_
  refine wa_sld hx hb hX hbl hbA hS (i + 2) (nI_add i 2) (by omega) hL dL_law_271 ?_
  refine ro_i (va_runV (As := [.int (xs (i + 1)), .int (xs (i + 2))]) (rest := []) F (kX4_about l D yx qx n (nI t) rt tr C ah w mx (nI r) ct g h (xs (i + 1)) (xs (i + 2)) hn) (cwV 2 hts gL_law_X4_about rfl rfl rfl ⟨rfl, hdX4_about⟩ ⟨(Nat.le_of_ble_eq_true rfl), (Nat.le_of_ble_eq_true rfl)⟩) ⟨rdB_blind, va_recv hKx (P_l hP) (ci := 4) (q0 := 0) rfl rfl, rdB_pre (P_l hP) hKx hN⟩ rfl rfl hl.1 rfl (lv_room (Nat.le_of_ble_eq_true rfl)) dL_law_272 ⟨(Nat.le_of_ble_eq_true rfl), (Nat.le_of_ble_eq_true rfl)⟩) ?_
  refine lv_aload_n hx hb dL_law_275 rfl (lv_at hl 2 rfl) ?_
  refine lv_aload_n hx hb dL_law_276 rfl (lv_at hl 0 rfl) ?_
  refine lv_iload_n hx hb dL_law_277 rfl (lv_at hl 3 rfl) ?_
  refine lv_iconst (v := 1) hx hb dL_law_278 (by decide) ?_
  refine lv_iadd hx hb dL_law_279 ?_
  refine wa_sld hx hb hX hbl hbA hS (i + 1) (nI_add i 1) (by omega) hL dL_law_280 ?_
  refine lv_aload_n hx hb dL_law_281 rfl (lv_at hl 0 rfl) ?_
  refine lv_iload_n hx hb dL_law_282 rfl (lv_at hl 3 rfl) ?_
  refine lv_iconst (v := 2) hx hb dL_law_283 (by decide) ?_
  refine lv_iadd hx hb dL_law_284 ?_
  refine wa_sld hx hb hX hbl hbA hS (i + 2) (nI_add i 2) (by omega) hL dL_law_285 ?_
  refine ro_i (va_runV (As := [.int (xs (i + 1)), .int (xs (i + 2))]) (rest := [.int (aboutF n C (nI t) (xs (i + 1)) (xs (i + 2)))]) F (kX5_about l D ym qm t n C w rt r no sa to tr st im va (xs (i + 1)) (xs (i + 2)) hn) (cwV 2 hts gL_law_X5_about rfl rfl rfl ⟨rfl, hdX5_about⟩ ⟨(Nat.le_of_ble_eq_true rfl), (Nat.le_of_ble_eq_true rfl)⟩) ⟨rdB_blind, va_recv hKm (P_r hP) (ci := 5) (q0 := 0) rfl rfl, rdB_pre (P_r hP) hKm hN⟩ rfl rfl hl.1 rfl (lv_room (Nat.le_of_ble_eq_true rfl)) dL_law_286 ⟨(Nat.le_of_ble_eq_true rfl), (Nat.le_of_ble_eq_true rfl)⟩) ?_
  refine lv_icmp_eq (tgt := 777) hx hb dL_law_289 (by decide) (fun c1 => ?_) (fun c1 => absurd rfl c1)
  exact K n t r C w rt tr ah mx g h ct no sa to st im va H locs hI hR hP hD hS

set_option maxHeartbeats 4000000 in
set_option maxRecDepth 100000 in
theorem cs_move {p : Program} {l : Launch} {e : Env} {s : State} {m : MethodId} {below : List Frame} {meth : Method} {c : Code} {b L : Nat} {xs : Nat → Int32} {D : va_G} {yx : Nat → ClassId} {qx : Nat → Nat} {ym : Nat → ClassId} {qm : Nat → Nat} (hx : p.tables.exec = Jvm.exec) (hb : c.code = cL_law) (hml : c.maxLocals = 4) (hown : s.vm.findClass RL = some m.cls) (hts : ∀ w ∈ wsL_law, w.before #[Value.ref b] s = true) (hX : va_X b L xs s s.heap) (hbl : b < s.heap.size) (hKx : va_K D vwCl (xT yx) s) (hKm : va_K D vwCl (mTy ym) s) (hN : NW s) (hZ0 : trE (fun q : Nat => s.heap.size ≤ q) s) (hL : L ≤ 3072) (i : Nat) (hi : i + 6 ≤ L) (n t r : Nat) (C : Nat → CT) (w : Nat → Int32) (rt : Int32) (tr : Int64) (ah : Nat → Int32) (mx : MT) (g h : Nat → Int32) (ct : Int32) (no sa to st im va : Nat → Int32) (H : Heap) (locs : List Loc) (hI : INV n t C) (hR : NS r no sa to g h ct) (hP : va_P D vwCl ((xW yx qx (nI n) (nI t) rt tr C ah w mx (nI r) ct g h) ++ (mWC ym qm (nI t) (nI n) C w rt (nI r) no sa to tr st im va)) H) (hD : va_D (fun q : Nat => s.heap.size ≤ q) ((xW yx qx (nI n) (nI t) rt tr C ah w mx (nI r) ct g h) ++ (mWC ym qm (nI t) (nI n) C w rt (nI r) no sa to tr st im va))) (hS : va_S (fun q : Nat => s.heap.size ≤ q) s.heap H locs) (ls : Array Slot) (hl : lv_has ls 4 [(0, .ref b), (1, .ref (qx 0)), (2, .ref (qm 0)), (3, .int (nI i))]) (K : ∀ (n t r : Nat) (C : Nat → CT) (w : Nat → Int32) (rt : Int32) (tr : Int64) (ah : Nat → Int32) (mx : MT) (g h : Nat → Int32) (ct : Int32) (no sa to st im va : Nat → Int32) (H : Heap) (locs : List Loc), INV n t C → NS r no sa to g h ct → va_P D vwCl ((xW yx qx (nI n) (nI t) rt tr C ah w mx (nI r) ct g h) ++ (mWC ym qm (nI t) (nI n) C w rt (nI r) no sa to tr st im va)) H → va_D (fun q : Nat => s.heap.size ≤ q) ((xW yx qx (nI n) (nI t) rt tr C ah w mx (nI r) ct g h) ++ (mWC ym qm (nI t) (nI n) C w rt (nI r) no sa to tr st im va)) → va_S (fun q : Nat => s.heap.size ≤ q) s.heap H locs → W p l e room_1 s m #[Value.ref b] below meth c H locs 37 439 (lw_Z below #[Value.ref b] s) (F0 m 777 ls [])) : W p l e room_1 s m #[Value.ref b] below meth c H locs 37 439 (lw_Z below #[Value.ref b] s) (F0 m 294 ls []) := by
  have hn := hI.1
  have ht := hI.2.1
  have hr30 := hR.1
  have hA : ∀ q : Nat, s.heap.size ≤ q → (fun q : Nat => s.heap.size ≤ q) q := fun _ h9 => h9
  have hbA : ¬ (fun q : Nat => s.heap.size ≤ q) b := Nat.not_le.mpr hbl
  have F : CallFix p m c cL_law 4 s #[Value.ref b] wsL_law RL := ⟨hx, hb, hml, hown, hts⟩
  refine lv_aload_n hx hb dL_law_294 rfl (lv_at hl 1 rfl) ?_
  refine lv_aload_n hx hb dL_law_295 rfl (lv_at hl 0 rfl) ?_
  refine lv_iload_n hx hb dL_law_296 rfl (lv_at hl 3 rfl) ?_
  refine lv_iconst (v := 1) hx hb dL_law_297 (by decide) ?_
  refine lv_iadd hx hb dL_law_298 ?_
  refine wa_sld hx hb hX hbl hbA hS (i + 1) (nI_add i 1) (by omega) hL dL_law_299 ?_
  refine lv_aload_n hx hb dL_law_300 rfl (lv_at hl 0 rfl) ?_
  refine lv_iload_n hx hb dL_law_301 rfl (lv_at hl 3 rfl) ?_
  refine lv_iconst (v := 2) hx hb dL_law_302 (by decide) ?_
  refine lv_iadd hx hb dL_law_303 ?_
  refine wa_sld hx hb hX hbl hbA hS (i + 2) (nI_add i 2) (by omega) hL dL_law_304 ?_
  refine lx_i (Y := (xW yx qx (nI n) (nI t) rt tr C ah w mx (nI r) ct g h)) (Z := (mWC ym qm (nI t) (nI n) C w rt (nI r) no sa to tr st im va)) (va_runV (As := [.int (xs (i + 1)), .int (xs (i + 2))]) (rest := []) F (kX4_move l D yx qx n (nI t) rt tr C ah w mx (nI r) ct g h (xs (i + 1)) (xs (i + 2)) _ hn) (cwV 2 hts gL_law_X4_move rfl rfl rfl ⟨rfl, hdX4_move⟩ ⟨(Nat.le_of_ble_eq_true rfl), (Nat.le_of_ble_eq_true rfl)⟩) ⟨(muB_blind (fun _ _ _ _ _ => trivial)), va_recv hKx (P_l hP) (ci := 4) (q0 := 0) rfl rfl, lx_pre (Y := (xW yx qx (nI n) (nI t) rt tr C ah w mx (nI r) ct g h)) (Z := (mWC ym qm (nI t) (nI n) C w rt (nI r) no sa to tr st im va)) hP hKx hN hD (fun _ _ _ => trivial)⟩ rfl rfl hl.1 rfl (lv_room (Nat.le_of_ble_eq_true rfl)) dL_law_305 ⟨(Nat.le_of_ble_eq_true rfl), (Nat.le_of_ble_eq_true rfl)⟩) hP hD hS hA (fun r1 u1 H locs w1 hP hD hS => ?_)
  have hP : va_P D vwCl ((xW yx qx (nI n) (nI t) rt tr u1 ah w mx (nI r) ct g h) ++ (mWC ym qm (nI t) (nI n) C w rt (nI r) no sa to tr st im va)) H := hP
  have hD : va_D (fun q : Nat => s.heap.size ≤ q) ((xW yx qx (nI n) (nI t) rt tr u1 ah w mx (nI r) ct g h) ++ (mWC ym qm (nI t) (nI n) C w rt (nI r) no sa to tr st im va)) := hD
  refine lv_aload_n hx hb dL_law_308 rfl (lv_at hl 2 rfl) ?_
  refine lv_aload_n hx hb dL_law_309 rfl (lv_at hl 0 rfl) ?_
  refine lv_iload_n hx hb dL_law_310 rfl (lv_at hl 3 rfl) ?_
  refine lv_iconst (v := 1) hx hb dL_law_311 (by decide) ?_
  refine lv_iadd hx hb dL_law_312 ?_
  refine wa_sld hx hb hX hbl hbA hS (i + 1) (nI_add i 1) (by omega) hL dL_law_313 ?_
  refine lv_aload_n hx hb dL_law_314 rfl (lv_at hl 0 rfl) ?_
  refine lv_iload_n hx hb dL_law_315 rfl (lv_at hl 3 rfl) ?_
  refine lv_iconst (v := 2) hx hb dL_law_316 (by decide) ?_
  refine lv_iadd hx hb dL_law_317 ?_
  refine wa_sld hx hb hX hbl hbA hS (i + 2) (nI_add i 2) (by omega) hL dL_law_318 ?_
  refine lm_i (X := (xW yx qx (nI n) (nI t) rt tr u1 ah w mx (nI r) ct g h)) (Y := (mWC ym qm (nI t) (nI n) C w rt (nI r) no sa to tr st im va)) (va_runV (As := [.int (xs (i + 1)), .int (xs (i + 2))]) (rest := [.int r1]) F (kX5_move l D ym qm t n C w rt r no sa to tr st im va (xs (i + 1)) (xs (i + 2)) _ hn) (cwV 2 hts gL_law_X5_move rfl rfl rfl ⟨rfl, hdX5_move⟩ ⟨(Nat.le_of_ble_eq_true rfl), (Nat.le_of_ble_eq_true rfl)⟩) ⟨(muB_blind (fun _ _ _ _ _ => trivial)), va_recv hKm (P_r hP) (ci := 5) (q0 := 0) rfl rfl, lm_pre (X := (xW yx qx (nI n) (nI t) rt tr u1 ah w mx (nI r) ct g h)) (Y := (mWC ym qm (nI t) (nI n) C w rt (nI r) no sa to tr st im va)) hP hKm hN hD (fun _ _ _ => trivial)⟩ rfl rfl hl.1 rfl (lv_room (Nat.le_of_ble_eq_true rfl)) dL_law_319 ⟨(Nat.le_of_ble_eq_true rfl), (Nat.le_of_ble_eq_true rfl)⟩) hP hD hS hA (fun r2 u2 H locs w2 hP hD hS => ?_)
  have hP : va_P D vwCl ((xW yx qx (nI n) (nI t) rt tr u1 ah w mx (nI r) ct g h) ++ (mWC ym qm (nI t) (nI n) u2 w rt (nI r) no sa to tr st im va)) H := hP
  have hD : va_D (fun q : Nat => s.heap.size ≤ q) ((xW yx qx (nI n) (nI t) rt tr u1 ah w mx (nI r) ct g h) ++ (mWC ym qm (nI t) (nI n) u2 w rt (nI r) no sa to tr st im va)) := hD
  obtain ⟨e1, e2⟩ := pr_inj w1 w2
  subst e2
  refine lv_icmp_eq (tgt := 777) hx hb dL_law_322 (by decide) (fun c1 => ?_) (fun c1 => absurd e1 c1)
  exact K n t r u1 w rt tr ah mx g h ct no sa to st im va H locs (move_inv hI w1) hR hP hD hS

set_option maxHeartbeats 4000000 in
set_option maxRecDepth 100000 in
theorem cs_draw {p : Program} {l : Launch} {e : Env} {s : State} {m : MethodId} {below : List Frame} {meth : Method} {c : Code} {b L : Nat} {xs : Nat → Int32} {D : va_G} {yx : Nat → ClassId} {qx : Nat → Nat} {ym : Nat → ClassId} {qm : Nat → Nat} (hx : p.tables.exec = Jvm.exec) (hb : c.code = cL_law) (hml : c.maxLocals = 4) (hown : s.vm.findClass RL = some m.cls) (hts : ∀ w ∈ wsL_law, w.before #[Value.ref b] s = true) (hX : va_X b L xs s s.heap) (hbl : b < s.heap.size) (hKx : va_K D vwCl (xT yx) s) (hKm : va_K D vwCl (mTy ym) s) (hN : NW s) (hZ0 : trE (fun q : Nat => s.heap.size ≤ q) s) (hL : L ≤ 3072) (i : Nat) (hi : i + 6 ≤ L) (n t r : Nat) (C : Nat → CT) (w : Nat → Int32) (rt : Int32) (tr : Int64) (ah : Nat → Int32) (mx : MT) (g h : Nat → Int32) (ct : Int32) (no sa to st im va : Nat → Int32) (H : Heap) (locs : List Loc) (hI : INV n t C) (hR : NS r no sa to g h ct) (hP : va_P D vwCl ((xW yx qx (nI n) (nI t) rt tr C ah w mx (nI r) ct g h) ++ (mWC ym qm (nI t) (nI n) C w rt (nI r) no sa to tr st im va)) H) (hD : va_D (fun q : Nat => s.heap.size ≤ q) ((xW yx qx (nI n) (nI t) rt tr C ah w mx (nI r) ct g h) ++ (mWC ym qm (nI t) (nI n) C w rt (nI r) no sa to tr st im va))) (hS : va_S (fun q : Nat => s.heap.size ≤ q) s.heap H locs) (ls : Array Slot) (hl : lv_has ls 4 [(0, .ref b), (1, .ref (qx 0)), (2, .ref (qm 0)), (3, .int (nI i))]) (K : ∀ (n t r : Nat) (C : Nat → CT) (w : Nat → Int32) (rt : Int32) (tr : Int64) (ah : Nat → Int32) (mx : MT) (g h : Nat → Int32) (ct : Int32) (no sa to st im va : Nat → Int32) (H : Heap) (locs : List Loc), INV n t C → NS r no sa to g h ct → va_P D vwCl ((xW yx qx (nI n) (nI t) rt tr C ah w mx (nI r) ct g h) ++ (mWC ym qm (nI t) (nI n) C w rt (nI r) no sa to tr st im va)) H → va_D (fun q : Nat => s.heap.size ≤ q) ((xW yx qx (nI n) (nI t) rt tr C ah w mx (nI r) ct g h) ++ (mWC ym qm (nI t) (nI n) C w rt (nI r) no sa to tr st im va)) → va_S (fun q : Nat => s.heap.size ≤ q) s.heap H locs → W p l e room_1 s m #[Value.ref b] below meth c H locs 37 439 (lw_Z below #[Value.ref b] s) (F0 m 777 ls [])) : W p l e room_1 s m #[Value.ref b] below meth c H locs 37 439 (lw_Z below #[Value.ref b] s) (F0 m 327 ls []) := by
  have hn := hI.1
  have ht := hI.2.1
  have hr30 := hR.1
  have hA : ∀ q : Nat, s.heap.size ≤ q → (fun q : Nat => s.heap.size ≤ q) q := fun _ h9 => h9
  have hbA : ¬ (fun q : Nat => s.heap.size ≤ q) b := Nat.not_le.mpr hbl
  have F : CallFix p m c cL_law 4 s #[Value.ref b] wsL_law RL := ⟨hx, hb, hml, hown, hts⟩
  refine lv_aload_n hx hb dL_law_327 rfl (lv_at hl 1 rfl) ?_
  refine lv_aload_n hx hb dL_law_328 rfl (lv_at hl 0 rfl) ?_
  refine lv_iload_n hx hb dL_law_329 rfl (lv_at hl 3 rfl) ?_
  refine lv_iconst (v := 1) hx hb dL_law_330 (by decide) ?_
  refine lv_iadd hx hb dL_law_331 ?_
  refine wa_sld hx hb hX hbl hbA hS (i + 1) (nI_add i 1) (by omega) hL dL_law_332 ?_
  refine lv_aload_n hx hb dL_law_333 rfl (lv_at hl 0 rfl) ?_
  refine lv_iload_n hx hb dL_law_334 rfl (lv_at hl 3 rfl) ?_
  refine lv_iconst (v := 2) hx hb dL_law_335 (by decide) ?_
  refine lv_iadd hx hb dL_law_336 ?_
  refine wa_sld hx hb hX hbl hbA hS (i + 2) (nI_add i 2) (by omega) hL dL_law_337 ?_
  refine lx_i (Y := (xW yx qx (nI n) (nI t) rt tr C ah w mx (nI r) ct g h)) (Z := (mWC ym qm (nI t) (nI n) C w rt (nI r) no sa to tr st im va)) (va_runV (As := [.int (xs (i + 1)), .int (xs (i + 2))]) (rest := []) F (kX4_draw l D yx qx n (nI t) rt tr C ah w mx (nI r) ct g h (xs (i + 1)) (xs (i + 2)) _ hn) (cwV 2 hts gL_law_X4_draw rfl rfl rfl ⟨rfl, hdX4_draw⟩ ⟨(Nat.le_of_ble_eq_true rfl), (Nat.le_of_ble_eq_true rfl)⟩) ⟨(muB_blind (fun _ _ _ _ _ => trivial)), va_recv hKx (P_l hP) (ci := 4) (q0 := 0) rfl rfl, lx_pre (Y := (xW yx qx (nI n) (nI t) rt tr C ah w mx (nI r) ct g h)) (Z := (mWC ym qm (nI t) (nI n) C w rt (nI r) no sa to tr st im va)) hP hKx hN hD (fun _ _ _ => trivial)⟩ rfl rfl hl.1 rfl (lv_room (Nat.le_of_ble_eq_true rfl)) dL_law_338 ⟨(Nat.le_of_ble_eq_true rfl), (Nat.le_of_ble_eq_true rfl)⟩) hP hD hS hA (fun r1 u1 H locs w1 hP hD hS => ?_)
  have hP : va_P D vwCl ((xW yx qx (nI n) (nI t) rt tr u1 ah w mx (nI r) ct g h) ++ (mWC ym qm (nI t) (nI n) C w rt (nI r) no sa to tr st im va)) H := hP
  have hD : va_D (fun q : Nat => s.heap.size ≤ q) ((xW yx qx (nI n) (nI t) rt tr u1 ah w mx (nI r) ct g h) ++ (mWC ym qm (nI t) (nI n) C w rt (nI r) no sa to tr st im va)) := hD
  refine lv_aload_n hx hb dL_law_341 rfl (lv_at hl 2 rfl) ?_
  refine lv_aload_n hx hb dL_law_342 rfl (lv_at hl 0 rfl) ?_
  refine lv_iload_n hx hb dL_law_343 rfl (lv_at hl 3 rfl) ?_
  refine lv_iconst (v := 1) hx hb dL_law_344 (by decide) ?_
  refine lv_iadd hx hb dL_law_345 ?_
  refine wa_sld hx hb hX hbl hbA hS (i + 1) (nI_add i 1) (by omega) hL dL_law_346 ?_
  refine lv_aload_n hx hb dL_law_347 rfl (lv_at hl 0 rfl) ?_
  refine lv_iload_n hx hb dL_law_348 rfl (lv_at hl 3 rfl) ?_
  refine lv_iconst (v := 2) hx hb dL_law_349 (by decide) ?_
  refine lv_iadd hx hb dL_law_350 ?_
  refine wa_sld hx hb hX hbl hbA hS (i + 2) (nI_add i 2) (by omega) hL dL_law_351 ?_
  refine lm_i (X := (xW yx qx (nI n) (nI t) rt tr u1 ah w mx (nI r) ct g h)) (Y := (mWC ym qm (nI t) (nI n) C w rt (nI r) no sa to tr st im va)) (va_runV (As := [.int (xs (i + 1)), .int (xs (i + 2))]) (rest := [.int r1]) F (kX5_draw l D ym qm t n C w rt r no sa to tr st im va (xs (i + 1)) (xs (i + 2)) _ hn) (cwV 2 hts gL_law_X5_draw rfl rfl rfl ⟨rfl, hdX5_draw⟩ ⟨(Nat.le_of_ble_eq_true rfl), (Nat.le_of_ble_eq_true rfl)⟩) ⟨(muB_blind (fun _ _ _ _ _ => trivial)), va_recv hKm (P_r hP) (ci := 5) (q0 := 0) rfl rfl, lm_pre (X := (xW yx qx (nI n) (nI t) rt tr u1 ah w mx (nI r) ct g h)) (Y := (mWC ym qm (nI t) (nI n) C w rt (nI r) no sa to tr st im va)) hP hKm hN hD (fun _ _ _ => trivial)⟩ rfl rfl hl.1 rfl (lv_room (Nat.le_of_ble_eq_true rfl)) dL_law_352 ⟨(Nat.le_of_ble_eq_true rfl), (Nat.le_of_ble_eq_true rfl)⟩) hP hD hS hA (fun r2 u2 H locs w2 hP hD hS => ?_)
  have hP : va_P D vwCl ((xW yx qx (nI n) (nI t) rt tr u1 ah w mx (nI r) ct g h) ++ (mWC ym qm (nI t) (nI n) u2 w rt (nI r) no sa to tr st im va)) H := hP
  have hD : va_D (fun q : Nat => s.heap.size ≤ q) ((xW yx qx (nI n) (nI t) rt tr u1 ah w mx (nI r) ct g h) ++ (mWC ym qm (nI t) (nI n) u2 w rt (nI r) no sa to tr st im va)) := hD
  obtain ⟨e1, e2⟩ := pr_inj w1 w2
  subst e2
  refine lv_icmp_eq (tgt := 777) hx hb dL_law_355 (by decide) (fun c1 => ?_) (fun c1 => absurd e1 c1)
  exact K n t r u1 w rt tr ah mx g h ct no sa to st im va H locs (draw_inv hI w1) hR hP hD hS

set_option maxHeartbeats 4000000 in
set_option maxRecDepth 100000 in
theorem cs_want {p : Program} {l : Launch} {e : Env} {s : State} {m : MethodId} {below : List Frame} {meth : Method} {c : Code} {b L : Nat} {xs : Nat → Int32} {D : va_G} {yx : Nat → ClassId} {qx : Nat → Nat} {ym : Nat → ClassId} {qm : Nat → Nat} (hx : p.tables.exec = Jvm.exec) (hb : c.code = cL_law) (hml : c.maxLocals = 4) (hown : s.vm.findClass RL = some m.cls) (hts : ∀ w ∈ wsL_law, w.before #[Value.ref b] s = true) (hX : va_X b L xs s s.heap) (hbl : b < s.heap.size) (hKx : va_K D vwCl (xT yx) s) (hKm : va_K D vwCl (mTy ym) s) (hN : NW s) (hZ0 : trE (fun q : Nat => s.heap.size ≤ q) s) (hL : L ≤ 3072) (i : Nat) (hi : i + 6 ≤ L) (n t r : Nat) (C : Nat → CT) (w : Nat → Int32) (rt : Int32) (tr : Int64) (ah : Nat → Int32) (mx : MT) (g h : Nat → Int32) (ct : Int32) (no sa to st im va : Nat → Int32) (H : Heap) (locs : List Loc) (hI : INV n t C) (hR : NS r no sa to g h ct) (hP : va_P D vwCl ((xW yx qx (nI n) (nI t) rt tr C ah w mx (nI r) ct g h) ++ (mWC ym qm (nI t) (nI n) C w rt (nI r) no sa to tr st im va)) H) (hD : va_D (fun q : Nat => s.heap.size ≤ q) ((xW yx qx (nI n) (nI t) rt tr C ah w mx (nI r) ct g h) ++ (mWC ym qm (nI t) (nI n) C w rt (nI r) no sa to tr st im va))) (hS : va_S (fun q : Nat => s.heap.size ≤ q) s.heap H locs) (ls : Array Slot) (hl : lv_has ls 4 [(0, .ref b), (1, .ref (qx 0)), (2, .ref (qm 0)), (3, .int (nI i))]) (K : ∀ (n t r : Nat) (C : Nat → CT) (w : Nat → Int32) (rt : Int32) (tr : Int64) (ah : Nat → Int32) (mx : MT) (g h : Nat → Int32) (ct : Int32) (no sa to st im va : Nat → Int32) (H : Heap) (locs : List Loc), INV n t C → NS r no sa to g h ct → va_P D vwCl ((xW yx qx (nI n) (nI t) rt tr C ah w mx (nI r) ct g h) ++ (mWC ym qm (nI t) (nI n) C w rt (nI r) no sa to tr st im va)) H → va_D (fun q : Nat => s.heap.size ≤ q) ((xW yx qx (nI n) (nI t) rt tr C ah w mx (nI r) ct g h) ++ (mWC ym qm (nI t) (nI n) C w rt (nI r) no sa to tr st im va)) → va_S (fun q : Nat => s.heap.size ≤ q) s.heap H locs → W p l e room_1 s m #[Value.ref b] below meth c H locs 37 439 (lw_Z below #[Value.ref b] s) (F0 m 777 ls [])) : W p l e room_1 s m #[Value.ref b] below meth c H locs 37 439 (lw_Z below #[Value.ref b] s) (F0 m 360 ls []) := by
  have hn := hI.1
  have ht := hI.2.1
  have hr30 := hR.1
  have hA : ∀ q : Nat, s.heap.size ≤ q → (fun q : Nat => s.heap.size ≤ q) q := fun _ h9 => h9
  have hbA : ¬ (fun q : Nat => s.heap.size ≤ q) b := Nat.not_le.mpr hbl
  have F : CallFix p m c cL_law 4 s #[Value.ref b] wsL_law RL := ⟨hx, hb, hml, hown, hts⟩
  refine lv_aload_n hx hb dL_law_360 rfl (lv_at hl 1 rfl) ?_
  refine lv_aload_n hx hb dL_law_361 rfl (lv_at hl 0 rfl) ?_
  refine lv_iload_n hx hb dL_law_362 rfl (lv_at hl 3 rfl) ?_
  refine lv_iconst (v := 1) hx hb dL_law_363 (by decide) ?_
  refine lv_iadd hx hb dL_law_364 ?_
  refine wa_sld hx hb hX hbl hbA hS (i + 1) (nI_add i 1) (by omega) hL dL_law_365 ?_
  refine lv_aload_n hx hb dL_law_366 rfl (lv_at hl 0 rfl) ?_
  refine lv_iload_n hx hb dL_law_367 rfl (lv_at hl 3 rfl) ?_
  refine lv_iconst (v := 2) hx hb dL_law_368 (by decide) ?_
  refine lv_iadd hx hb dL_law_369 ?_
  refine wa_sld hx hb hX hbl hbA hS (i + 2) (nI_add i 2) (by omega) hL dL_law_370 ?_
  refine lx_i (Y := (xW yx qx (nI n) (nI t) rt tr C ah w mx (nI r) ct g h)) (Z := (mWC ym qm (nI t) (nI n) C w rt (nI r) no sa to tr st im va)) (va_runV (As := [.int (xs (i + 1)), .int (xs (i + 2))]) (rest := []) F (kX4_want l D yx qx n (nI t) rt tr C ah w mx (nI r) ct g h (xs (i + 1)) (xs (i + 2)) _ ) (cwV 2 hts gL_law_X4_want rfl rfl rfl ⟨rfl, hdX4_want⟩ ⟨(Nat.le_of_ble_eq_true rfl), (Nat.le_of_ble_eq_true rfl)⟩) ⟨(muB_blind (fun _ _ _ _ _ => trivial)), va_recv hKx (P_l hP) (ci := 4) (q0 := 0) rfl rfl, lx_pre (Y := (xW yx qx (nI n) (nI t) rt tr C ah w mx (nI r) ct g h)) (Z := (mWC ym qm (nI t) (nI n) C w rt (nI r) no sa to tr st im va)) hP hKx hN hD (fun _ _ _ => trivial)⟩ rfl rfl hl.1 rfl (lv_room (Nat.le_of_ble_eq_true rfl)) dL_law_371 ⟨(Nat.le_of_ble_eq_true rfl), (Nat.le_of_ble_eq_true rfl)⟩) hP hD hS hA (fun r1 u1 H locs w1 hP hD hS => ?_)
  have hP : va_P D vwCl ((xW yx qx (nI n) (nI t) rt tr C ah u1 mx (nI r) ct g h) ++ (mWC ym qm (nI t) (nI n) C w rt (nI r) no sa to tr st im va)) H := hP
  have hD : va_D (fun q : Nat => s.heap.size ≤ q) ((xW yx qx (nI n) (nI t) rt tr C ah u1 mx (nI r) ct g h) ++ (mWC ym qm (nI t) (nI n) C w rt (nI r) no sa to tr st im va)) := hD
  refine lv_aload_n hx hb dL_law_374 rfl (lv_at hl 2 rfl) ?_
  refine lv_aload_n hx hb dL_law_375 rfl (lv_at hl 0 rfl) ?_
  refine lv_iload_n hx hb dL_law_376 rfl (lv_at hl 3 rfl) ?_
  refine lv_iconst (v := 1) hx hb dL_law_377 (by decide) ?_
  refine lv_iadd hx hb dL_law_378 ?_
  refine wa_sld hx hb hX hbl hbA hS (i + 1) (nI_add i 1) (by omega) hL dL_law_379 ?_
  refine lv_aload_n hx hb dL_law_380 rfl (lv_at hl 0 rfl) ?_
  refine lv_iload_n hx hb dL_law_381 rfl (lv_at hl 3 rfl) ?_
  refine lv_iconst (v := 2) hx hb dL_law_382 (by decide) ?_
  refine lv_iadd hx hb dL_law_383 ?_
  refine wa_sld hx hb hX hbl hbA hS (i + 2) (nI_add i 2) (by omega) hL dL_law_384 ?_
  refine lm_i (X := (xW yx qx (nI n) (nI t) rt tr C ah u1 mx (nI r) ct g h)) (Y := (mWC ym qm (nI t) (nI n) C w rt (nI r) no sa to tr st im va)) (va_runV (As := [.int (xs (i + 1)), .int (xs (i + 2))]) (rest := [.int r1]) F (kX5_want l D ym qm t n C w rt r no sa to tr st im va (xs (i + 1)) (xs (i + 2)) _ ) (cwV 2 hts gL_law_X5_want rfl rfl rfl ⟨rfl, hdX5_want⟩ ⟨(Nat.le_of_ble_eq_true rfl), (Nat.le_of_ble_eq_true rfl)⟩) ⟨(muB_blind (fun _ _ _ _ _ => trivial)), va_recv hKm (P_r hP) (ci := 5) (q0 := 0) rfl rfl, lm_pre (X := (xW yx qx (nI n) (nI t) rt tr C ah u1 mx (nI r) ct g h)) (Y := (mWC ym qm (nI t) (nI n) C w rt (nI r) no sa to tr st im va)) hP hKm hN hD (fun _ _ _ => trivial)⟩ rfl rfl hl.1 rfl (lv_room (Nat.le_of_ble_eq_true rfl)) dL_law_385 ⟨(Nat.le_of_ble_eq_true rfl), (Nat.le_of_ble_eq_true rfl)⟩) hP hD hS hA (fun r2 u2 H locs w2 hP hD hS => ?_)
  have hP : va_P D vwCl ((xW yx qx (nI n) (nI t) rt tr C ah u1 mx (nI r) ct g h) ++ (mWC ym qm (nI t) (nI n) C u2 rt (nI r) no sa to tr st im va)) H := hP
  have hD : va_D (fun q : Nat => s.heap.size ≤ q) ((xW yx qx (nI n) (nI t) rt tr C ah u1 mx (nI r) ct g h) ++ (mWC ym qm (nI t) (nI n) C u2 rt (nI r) no sa to tr st im va)) := hD
  obtain ⟨e1, e2⟩ := pr_inj w1 w2
  subst e2
  refine lv_icmp_eq (tgt := 777) hx hb dL_law_388 (by decide) (fun c1 => ?_) (fun c1 => absurd e1 c1)
  exact K n t r C u1 rt tr ah mx g h ct no sa to st im va H locs hI hR hP hD hS

set_option maxHeartbeats 4000000 in
set_option maxRecDepth 100000 in
theorem cs_blend {p : Program} {l : Launch} {e : Env} {s : State} {m : MethodId} {below : List Frame} {meth : Method} {c : Code} {b L : Nat} {xs : Nat → Int32} {D : va_G} {yx : Nat → ClassId} {qx : Nat → Nat} {ym : Nat → ClassId} {qm : Nat → Nat} (hx : p.tables.exec = Jvm.exec) (hb : c.code = cL_law) (hml : c.maxLocals = 4) (hown : s.vm.findClass RL = some m.cls) (hts : ∀ w ∈ wsL_law, w.before #[Value.ref b] s = true) (hX : va_X b L xs s s.heap) (hbl : b < s.heap.size) (hKx : va_K D vwCl (xT yx) s) (hKm : va_K D vwCl (mTy ym) s) (hN : NW s) (hZ0 : trE (fun q : Nat => s.heap.size ≤ q) s) (hL : L ≤ 3072) (i : Nat) (hi : i + 6 ≤ L) (n t r : Nat) (C : Nat → CT) (w : Nat → Int32) (rt : Int32) (tr : Int64) (ah : Nat → Int32) (mx : MT) (g h : Nat → Int32) (ct : Int32) (no sa to st im va : Nat → Int32) (H : Heap) (locs : List Loc) (hI : INV n t C) (hR : NS r no sa to g h ct) (hP : va_P D vwCl ((xW yx qx (nI n) (nI t) rt tr C ah w mx (nI r) ct g h) ++ (mWC ym qm (nI t) (nI n) C w rt (nI r) no sa to tr st im va)) H) (hD : va_D (fun q : Nat => s.heap.size ≤ q) ((xW yx qx (nI n) (nI t) rt tr C ah w mx (nI r) ct g h) ++ (mWC ym qm (nI t) (nI n) C w rt (nI r) no sa to tr st im va))) (hS : va_S (fun q : Nat => s.heap.size ≤ q) s.heap H locs) (ls : Array Slot) (hl : lv_has ls 4 [(0, .ref b), (1, .ref (qx 0)), (2, .ref (qm 0)), (3, .int (nI i))]) (K : ∀ (n t r : Nat) (C : Nat → CT) (w : Nat → Int32) (rt : Int32) (tr : Int64) (ah : Nat → Int32) (mx : MT) (g h : Nat → Int32) (ct : Int32) (no sa to st im va : Nat → Int32) (H : Heap) (locs : List Loc), INV n t C → NS r no sa to g h ct → va_P D vwCl ((xW yx qx (nI n) (nI t) rt tr C ah w mx (nI r) ct g h) ++ (mWC ym qm (nI t) (nI n) C w rt (nI r) no sa to tr st im va)) H → va_D (fun q : Nat => s.heap.size ≤ q) ((xW yx qx (nI n) (nI t) rt tr C ah w mx (nI r) ct g h) ++ (mWC ym qm (nI t) (nI n) C w rt (nI r) no sa to tr st im va)) → va_S (fun q : Nat => s.heap.size ≤ q) s.heap H locs → W p l e room_1 s m #[Value.ref b] below meth c H locs 37 439 (lw_Z below #[Value.ref b] s) (F0 m 777 ls [])) : W p l e room_1 s m #[Value.ref b] below meth c H locs 37 439 (lw_Z below #[Value.ref b] s) (F0 m 393 ls []) := by
  have hn := hI.1
  have ht := hI.2.1
  have hr30 := hR.1
  have hA : ∀ q : Nat, s.heap.size ≤ q → (fun q : Nat => s.heap.size ≤ q) q := fun _ h9 => h9
  have hbA : ¬ (fun q : Nat => s.heap.size ≤ q) b := Nat.not_le.mpr hbl
  have F : CallFix p m c cL_law 4 s #[Value.ref b] wsL_law RL := ⟨hx, hb, hml, hown, hts⟩
  refine lv_aload_n hx hb dL_law_393 rfl (lv_at hl 1 rfl) ?_
  refine lv_aload_n hx hb dL_law_394 rfl (lv_at hl 0 rfl) ?_
  refine lv_iload_n hx hb dL_law_395 rfl (lv_at hl 3 rfl) ?_
  refine lv_iconst (v := 1) hx hb dL_law_396 (by decide) ?_
  refine lv_iadd hx hb dL_law_397 ?_
  refine wa_sld hx hb hX hbl hbA hS (i + 1) (nI_add i 1) (by omega) hL dL_law_398 ?_
  refine lv_aload_n hx hb dL_law_399 rfl (lv_at hl 0 rfl) ?_
  refine lv_iload_n hx hb dL_law_400 rfl (lv_at hl 3 rfl) ?_
  refine lv_iconst (v := 2) hx hb dL_law_401 (by decide) ?_
  refine lv_iadd hx hb dL_law_402 ?_
  refine wa_sld hx hb hX hbl hbA hS (i + 2) (nI_add i 2) (by omega) hL dL_law_403 ?_
  refine lx_i (Y := (xW yx qx (nI n) (nI t) rt tr C ah w mx (nI r) ct g h)) (Z := (mWC ym qm (nI t) (nI n) C w rt (nI r) no sa to tr st im va)) (va_runV (As := [.int (xs (i + 1)), .int (xs (i + 2))]) (rest := []) F (kX4_blend l D yx qx n (nI t) rt tr C ah w mx (nI r) ct g h (xs (i + 1)) (xs (i + 2)) _ hn) (cwV 2 hts gL_law_X4_blend rfl rfl rfl ⟨rfl, hdX4_blend⟩ ⟨(Nat.le_of_ble_eq_true rfl), (Nat.le_of_ble_eq_true rfl)⟩) ⟨(muB_blind (fun _ _ _ _ _ => trivial)), va_recv hKx (P_l hP) (ci := 4) (q0 := 0) rfl rfl, lx_pre (Y := (xW yx qx (nI n) (nI t) rt tr C ah w mx (nI r) ct g h)) (Z := (mWC ym qm (nI t) (nI n) C w rt (nI r) no sa to tr st im va)) hP hKx hN hD (fun _ _ _ => trivial)⟩ rfl rfl hl.1 rfl (lv_room (Nat.le_of_ble_eq_true rfl)) dL_law_404 ⟨(Nat.le_of_ble_eq_true rfl), (Nat.le_of_ble_eq_true rfl)⟩) hP hD hS hA (fun r1 u1 H locs w1 hP hD hS => ?_)
  have hP : va_P D vwCl ((xW yx qx (nI n) (nI t) rt tr C ah w u1 (nI r) ct g h) ++ (mWC ym qm (nI t) (nI n) C w rt (nI r) no sa to tr st im va)) H := hP
  have hD : va_D (fun q : Nat => s.heap.size ≤ q) ((xW yx qx (nI n) (nI t) rt tr C ah w u1 (nI r) ct g h) ++ (mWC ym qm (nI t) (nI n) C w rt (nI r) no sa to tr st im va)) := hD
  refine lv_aload_n hx hb dL_law_407 rfl (lv_at hl 2 rfl) ?_
  refine lv_aload_n hx hb dL_law_408 rfl (lv_at hl 0 rfl) ?_
  refine lv_iload_n hx hb dL_law_409 rfl (lv_at hl 3 rfl) ?_
  refine lv_iconst (v := 1) hx hb dL_law_410 (by decide) ?_
  refine lv_iadd hx hb dL_law_411 ?_
  refine wa_sld hx hb hX hbl hbA hS (i + 1) (nI_add i 1) (by omega) hL dL_law_412 ?_
  refine lv_aload_n hx hb dL_law_413 rfl (lv_at hl 0 rfl) ?_
  refine lv_iload_n hx hb dL_law_414 rfl (lv_at hl 3 rfl) ?_
  refine lv_iconst (v := 2) hx hb dL_law_415 (by decide) ?_
  refine lv_iadd hx hb dL_law_416 ?_
  refine wa_sld hx hb hX hbl hbA hS (i + 2) (nI_add i 2) (by omega) hL dL_law_417 ?_
  refine ro_i (va_runV (As := [.int (xs (i + 1)), .int (xs (i + 2))]) (rest := [.int r1]) F (kX5_blend l D ym qm t n C w rt r no sa to tr st im va (xs (i + 1)) (xs (i + 2)) hn hI) (cwV 2 hts gL_law_X5_blend rfl rfl rfl ⟨rfl, hdX5_blend⟩ ⟨(Nat.le_of_ble_eq_true rfl), (Nat.le_of_ble_eq_true rfl)⟩) ⟨rdB_blind, va_recv hKm (P_r hP) (ci := 5) (q0 := 0) rfl rfl, rdB_pre (P_r hP) hKm hN⟩ rfl rfl hl.1 rfl (lv_room (Nat.le_of_ble_eq_true rfl)) dL_law_418 ⟨(Nat.le_of_ble_eq_true rfl), (Nat.le_of_ble_eq_true rfl)⟩) ?_
  refine lv_icmp_eq (tgt := 777) hx hb dL_law_421 (by decide) (fun c1 => ?_) (fun c1 => absurd w1 c1)
  exact K n t r C w rt tr ah u1 g h ct no sa to st im va H locs hI hR hP hD hS

set_option maxHeartbeats 4000000 in
set_option maxRecDepth 100000 in
theorem cs_best {p : Program} {l : Launch} {e : Env} {s : State} {m : MethodId} {below : List Frame} {meth : Method} {c : Code} {b L : Nat} {xs : Nat → Int32} {D : va_G} {yx : Nat → ClassId} {qx : Nat → Nat} {ym : Nat → ClassId} {qm : Nat → Nat} (hx : p.tables.exec = Jvm.exec) (hb : c.code = cL_law) (hml : c.maxLocals = 4) (hown : s.vm.findClass RL = some m.cls) (hts : ∀ w ∈ wsL_law, w.before #[Value.ref b] s = true) (hX : va_X b L xs s s.heap) (hbl : b < s.heap.size) (hKx : va_K D vwCl (xT yx) s) (hKm : va_K D vwCl (mTy ym) s) (hN : NW s) (hZ0 : trE (fun q : Nat => s.heap.size ≤ q) s) (hL : L ≤ 3072) (i : Nat) (hi : i + 6 ≤ L) (n t r : Nat) (C : Nat → CT) (w : Nat → Int32) (rt : Int32) (tr : Int64) (ah : Nat → Int32) (mx : MT) (g h : Nat → Int32) (ct : Int32) (no sa to st im va : Nat → Int32) (H : Heap) (locs : List Loc) (hI : INV n t C) (hR : NS r no sa to g h ct) (hP : va_P D vwCl ((xW yx qx (nI n) (nI t) rt tr C ah w mx (nI r) ct g h) ++ (mWC ym qm (nI t) (nI n) C w rt (nI r) no sa to tr st im va)) H) (hD : va_D (fun q : Nat => s.heap.size ≤ q) ((xW yx qx (nI n) (nI t) rt tr C ah w mx (nI r) ct g h) ++ (mWC ym qm (nI t) (nI n) C w rt (nI r) no sa to tr st im va))) (hS : va_S (fun q : Nat => s.heap.size ≤ q) s.heap H locs) (ls : Array Slot) (hl : lv_has ls 4 [(0, .ref b), (1, .ref (qx 0)), (2, .ref (qm 0)), (3, .int (nI i))]) (K : ∀ (n t r : Nat) (C : Nat → CT) (w : Nat → Int32) (rt : Int32) (tr : Int64) (ah : Nat → Int32) (mx : MT) (g h : Nat → Int32) (ct : Int32) (no sa to st im va : Nat → Int32) (H : Heap) (locs : List Loc), INV n t C → NS r no sa to g h ct → va_P D vwCl ((xW yx qx (nI n) (nI t) rt tr C ah w mx (nI r) ct g h) ++ (mWC ym qm (nI t) (nI n) C w rt (nI r) no sa to tr st im va)) H → va_D (fun q : Nat => s.heap.size ≤ q) ((xW yx qx (nI n) (nI t) rt tr C ah w mx (nI r) ct g h) ++ (mWC ym qm (nI t) (nI n) C w rt (nI r) no sa to tr st im va)) → va_S (fun q : Nat => s.heap.size ≤ q) s.heap H locs → W p l e room_1 s m #[Value.ref b] below meth c H locs 37 439 (lw_Z below #[Value.ref b] s) (F0 m 777 ls [])) : W p l e room_1 s m #[Value.ref b] below meth c H locs 37 439 (lw_Z below #[Value.ref b] s) (F0 m 426 ls []) := by
  have hn := hI.1
  have ht := hI.2.1
  have hr30 := hR.1
  have hA : ∀ q : Nat, s.heap.size ≤ q → (fun q : Nat => s.heap.size ≤ q) q := fun _ h9 => h9
  have hbA : ¬ (fun q : Nat => s.heap.size ≤ q) b := Nat.not_le.mpr hbl
  have F : CallFix p m c cL_law 4 s #[Value.ref b] wsL_law RL := ⟨hx, hb, hml, hown, hts⟩
  refine lv_aload_n hx hb dL_law_426 rfl (lv_at hl 1 rfl) ?_
  refine lv_aload_n hx hb dL_law_427 rfl (lv_at hl 0 rfl) ?_
  refine lv_iload_n hx hb dL_law_428 rfl (lv_at hl 3 rfl) ?_
  refine lv_iconst (v := 1) hx hb dL_law_429 (by decide) ?_
  refine lv_iadd hx hb dL_law_430 ?_
  refine wa_sld hx hb hX hbl hbA hS (i + 1) (nI_add i 1) (by omega) hL dL_law_431 ?_
  refine lx_i (Y := (xW yx qx (nI n) (nI t) rt tr C ah w mx (nI r) ct g h)) (Z := (mWC ym qm (nI t) (nI n) C w rt (nI r) no sa to tr st im va)) (va_runV (As := [.int (xs (i + 1))]) (rest := []) F (kX4_best l D yx qx n (nI t) rt tr C ah w mx (nI r) ct g h (xs (i + 1)) _ hn t rfl hI) (cwV 1 hts gL_law_X4_best rfl rfl rfl ⟨rfl, hdX4_best⟩ ⟨(Nat.le_of_ble_eq_true rfl), (Nat.le_of_ble_eq_true rfl)⟩) ⟨(muB_blind (fun _ _ _ _ _ => trivial)), va_recv hKx (P_l hP) (ci := 4) (q0 := 0) rfl rfl, lx_pre (Y := (xW yx qx (nI n) (nI t) rt tr C ah w mx (nI r) ct g h)) (Z := (mWC ym qm (nI t) (nI n) C w rt (nI r) no sa to tr st im va)) hP hKx hN hD (fun _ _ _ => trivial)⟩ rfl rfl hl.1 rfl (lv_room (Nat.le_of_ble_eq_true rfl)) dL_law_432 ⟨(Nat.le_of_ble_eq_true rfl), (Nat.le_of_ble_eq_true rfl)⟩) hP hD hS hA (fun r1 u1 H locs w1 hP hD hS => ?_)
  have hP : va_P D vwCl ((xW yx qx (nI n) (nI t) rt tr C ah w u1 (nI r) ct g h) ++ (mWC ym qm (nI t) (nI n) C w rt (nI r) no sa to tr st im va)) H := hP
  have hD : va_D (fun q : Nat => s.heap.size ≤ q) ((xW yx qx (nI n) (nI t) rt tr C ah w u1 (nI r) ct g h) ++ (mWC ym qm (nI t) (nI n) C w rt (nI r) no sa to tr st im va)) := hD
  refine lv_aload_n hx hb dL_law_435 rfl (lv_at hl 2 rfl) ?_
  refine lv_aload_n hx hb dL_law_436 rfl (lv_at hl 0 rfl) ?_
  refine lv_iload_n hx hb dL_law_437 rfl (lv_at hl 3 rfl) ?_
  refine lv_iconst (v := 1) hx hb dL_law_438 (by decide) ?_
  refine lv_iadd hx hb dL_law_439 ?_
  refine wa_sld hx hb hX hbl hbA hS (i + 1) (nI_add i 1) (by omega) hL dL_law_440 ?_
  refine ro_i (va_runV (As := [.int (xs (i + 1))]) (rest := [.int r1]) F (kX5_best l D ym qm t n C w rt r no sa to tr st im va (xs (i + 1)) hn hI) (cwV 1 hts gL_law_X5_best rfl rfl rfl ⟨rfl, hdX5_best⟩ ⟨(Nat.le_of_ble_eq_true rfl), (Nat.le_of_ble_eq_true rfl)⟩) ⟨rdB_blind, va_recv hKm (P_r hP) (ci := 5) (q0 := 0) rfl rfl, rdB_pre (P_r hP) hKm hN⟩ rfl rfl hl.1 rfl (lv_room (Nat.le_of_ble_eq_true rfl)) dL_law_441 ⟨(Nat.le_of_ble_eq_true rfl), (Nat.le_of_ble_eq_true rfl)⟩) ?_
  refine lv_icmp_eq (tgt := 777) hx hb dL_law_444 (by decide) (fun c1 => ?_) (fun c1 => absurd w1 c1)
  exact K n t r C w rt tr ah u1 g h ct no sa to st im va H locs hI hR hP hD hS

set_option maxHeartbeats 4000000 in
set_option maxRecDepth 100000 in
theorem cs_lasts {p : Program} {l : Launch} {e : Env} {s : State} {m : MethodId} {below : List Frame} {meth : Method} {c : Code} {b L : Nat} {xs : Nat → Int32} {D : va_G} {yx : Nat → ClassId} {qx : Nat → Nat} {ym : Nat → ClassId} {qm : Nat → Nat} (hx : p.tables.exec = Jvm.exec) (hb : c.code = cL_law) (hml : c.maxLocals = 4) (hown : s.vm.findClass RL = some m.cls) (hts : ∀ w ∈ wsL_law, w.before #[Value.ref b] s = true) (hX : va_X b L xs s s.heap) (hbl : b < s.heap.size) (hKx : va_K D vwCl (xT yx) s) (hKm : va_K D vwCl (mTy ym) s) (hN : NW s) (hZ0 : trE (fun q : Nat => s.heap.size ≤ q) s) (hL : L ≤ 3072) (i : Nat) (hi : i + 6 ≤ L) (n t r : Nat) (C : Nat → CT) (w : Nat → Int32) (rt : Int32) (tr : Int64) (ah : Nat → Int32) (mx : MT) (g h : Nat → Int32) (ct : Int32) (no sa to st im va : Nat → Int32) (H : Heap) (locs : List Loc) (hI : INV n t C) (hR : NS r no sa to g h ct) (hP : va_P D vwCl ((xW yx qx (nI n) (nI t) rt tr C ah w mx (nI r) ct g h) ++ (mWC ym qm (nI t) (nI n) C w rt (nI r) no sa to tr st im va)) H) (hD : va_D (fun q : Nat => s.heap.size ≤ q) ((xW yx qx (nI n) (nI t) rt tr C ah w mx (nI r) ct g h) ++ (mWC ym qm (nI t) (nI n) C w rt (nI r) no sa to tr st im va))) (hS : va_S (fun q : Nat => s.heap.size ≤ q) s.heap H locs) (ls : Array Slot) (hl : lv_has ls 4 [(0, .ref b), (1, .ref (qx 0)), (2, .ref (qm 0)), (3, .int (nI i))]) (K : ∀ (n t r : Nat) (C : Nat → CT) (w : Nat → Int32) (rt : Int32) (tr : Int64) (ah : Nat → Int32) (mx : MT) (g h : Nat → Int32) (ct : Int32) (no sa to st im va : Nat → Int32) (H : Heap) (locs : List Loc), INV n t C → NS r no sa to g h ct → va_P D vwCl ((xW yx qx (nI n) (nI t) rt tr C ah w mx (nI r) ct g h) ++ (mWC ym qm (nI t) (nI n) C w rt (nI r) no sa to tr st im va)) H → va_D (fun q : Nat => s.heap.size ≤ q) ((xW yx qx (nI n) (nI t) rt tr C ah w mx (nI r) ct g h) ++ (mWC ym qm (nI t) (nI n) C w rt (nI r) no sa to tr st im va)) → va_S (fun q : Nat => s.heap.size ≤ q) s.heap H locs → W p l e room_1 s m #[Value.ref b] below meth c H locs 37 439 (lw_Z below #[Value.ref b] s) (F0 m 777 ls [])) : W p l e room_1 s m #[Value.ref b] below meth c H locs 37 439 (lw_Z below #[Value.ref b] s) (F0 m 449 ls []) := by
  have hn := hI.1
  have ht := hI.2.1
  have hr30 := hR.1
  have hA : ∀ q : Nat, s.heap.size ≤ q → (fun q : Nat => s.heap.size ≤ q) q := fun _ h9 => h9
  have hbA : ¬ (fun q : Nat => s.heap.size ≤ q) b := Nat.not_le.mpr hbl
  have F : CallFix p m c cL_law 4 s #[Value.ref b] wsL_law RL := ⟨hx, hb, hml, hown, hts⟩
  refine lv_aload_n hx hb dL_law_449 rfl (lv_at hl 1 rfl) ?_
  refine lv_aload_n hx hb dL_law_450 rfl (lv_at hl 0 rfl) ?_
  refine lv_iload_n hx hb dL_law_451 rfl (lv_at hl 3 rfl) ?_
  refine lv_iconst (v := 1) hx hb dL_law_452 (by decide) ?_
  refine lv_iadd hx hb dL_law_453 ?_
  refine wa_sld hx hb hX hbl hbA hS (i + 1) (nI_add i 1) (by omega) hL dL_law_454 ?_
  refine lv_aload_n hx hb dL_law_455 rfl (lv_at hl 0 rfl) ?_
  refine lv_iload_n hx hb dL_law_456 rfl (lv_at hl 3 rfl) ?_
  refine lv_iconst (v := 2) hx hb dL_law_457 (by decide) ?_
  refine lv_iadd hx hb dL_law_458 ?_
  refine wa_sld hx hb hX hbl hbA hS (i + 2) (nI_add i 2) (by omega) hL dL_law_459 ?_
  refine lx_i (Y := (xW yx qx (nI n) (nI t) rt tr C ah w mx (nI r) ct g h)) (Z := (mWC ym qm (nI t) (nI n) C w rt (nI r) no sa to tr st im va)) (va_runV (As := [.int (xs (i + 1)), .int (xs (i + 2))]) (rest := []) F (kX4_lasts l D yx qx n (nI t) rt tr C ah w mx (nI r) ct g h (xs (i + 1)) (xs (i + 2)) _ hn) (cwV 2 hts gL_law_X4_lasts rfl rfl rfl ⟨rfl, hdX4_lasts⟩ ⟨(Nat.le_of_ble_eq_true rfl), (Nat.le_of_ble_eq_true rfl)⟩) ⟨(muB_blind (fun _ _ _ _ _ => trivial)), va_recv hKx (P_l hP) (ci := 4) (q0 := 0) rfl rfl, lx_pre (Y := (xW yx qx (nI n) (nI t) rt tr C ah w mx (nI r) ct g h)) (Z := (mWC ym qm (nI t) (nI n) C w rt (nI r) no sa to tr st im va)) hP hKx hN hD (fun _ _ _ => trivial)⟩ rfl rfl hl.1 rfl (lv_room (Nat.le_of_ble_eq_true rfl)) dL_law_460 ⟨(Nat.le_of_ble_eq_true rfl), (Nat.le_of_ble_eq_true rfl)⟩) hP hD hS hA (fun r1 u1 H locs w1 hP hD hS => ?_)
  have hP : va_P D vwCl ((xW yx qx (nI n) (nI t) rt tr C u1 w mx (nI r) ct g h) ++ (mWC ym qm (nI t) (nI n) C w rt (nI r) no sa to tr st im va)) H := hP
  have hD : va_D (fun q : Nat => s.heap.size ≤ q) ((xW yx qx (nI n) (nI t) rt tr C u1 w mx (nI r) ct g h) ++ (mWC ym qm (nI t) (nI n) C w rt (nI r) no sa to tr st im va)) := hD
  refine lv_aload_n hx hb dL_law_463 rfl (lv_at hl 2 rfl) ?_
  refine lv_aload_n hx hb dL_law_464 rfl (lv_at hl 0 rfl) ?_
  refine lv_iload_n hx hb dL_law_465 rfl (lv_at hl 3 rfl) ?_
  refine lv_iconst (v := 1) hx hb dL_law_466 (by decide) ?_
  refine lv_iadd hx hb dL_law_467 ?_
  refine wa_sld hx hb hX hbl hbA hS (i + 1) (nI_add i 1) (by omega) hL dL_law_468 ?_
  refine lv_aload_n hx hb dL_law_469 rfl (lv_at hl 0 rfl) ?_
  refine lv_iload_n hx hb dL_law_470 rfl (lv_at hl 3 rfl) ?_
  refine lv_iconst (v := 2) hx hb dL_law_471 (by decide) ?_
  refine lv_iadd hx hb dL_law_472 ?_
  refine wa_sld hx hb hX hbl hbA hS (i + 2) (nI_add i 2) (by omega) hL dL_law_473 ?_
  refine lm_i (X := (xW yx qx (nI n) (nI t) rt tr C u1 w mx (nI r) ct g h)) (Y := (mWC ym qm (nI t) (nI n) C w rt (nI r) no sa to tr st im va)) (va_runV (As := [.int (xs (i + 1)), .int (xs (i + 2))]) (rest := [.int r1]) F (kX5_lasts l D ym qm t n C w rt r no sa to tr st im va (xs (i + 1)) (xs (i + 2)) _ hn hI ht) (cwV 2 hts gL_law_X5_lasts rfl rfl rfl ⟨rfl, hdX5_lasts⟩ ⟨(Nat.le_of_ble_eq_true rfl), (Nat.le_of_ble_eq_true rfl)⟩) ⟨(muB_blind (fun _ _ _ _ _ => trivial)), va_recv hKm (P_r hP) (ci := 5) (q0 := 0) rfl rfl, lm_pre (X := (xW yx qx (nI n) (nI t) rt tr C u1 w mx (nI r) ct g h)) (Y := (mWC ym qm (nI t) (nI n) C w rt (nI r) no sa to tr st im va)) hP hKm hN hD (fun _ _ _ => trivial)⟩ rfl rfl hl.1 rfl (lv_room (Nat.le_of_ble_eq_true rfl)) dL_law_474 ⟨(Nat.le_of_ble_eq_true rfl), (Nat.le_of_ble_eq_true rfl)⟩) hP hD hS hA (fun r2 u2 H locs w2 hP hD hS => ?_)
  have hP : va_P D vwCl ((xW yx qx (nI n) (nI t) rt tr C u1 w mx (nI r) ct g h) ++ (mWC ym qm (nI t) (nI n) C w rt (nI r) no sa to tr u2 im va)) H := hP
  have hD : va_D (fun q : Nat => s.heap.size ≤ q) ((xW yx qx (nI n) (nI t) rt tr C u1 w mx (nI r) ct g h) ++ (mWC ym qm (nI t) (nI n) C w rt (nI r) no sa to tr u2 im va)) := hD
  refine lv_icmp_eq (tgt := 777) hx hb dL_law_477 (by decide) (fun c1 => ?_) (fun c1 => absurd (w1.trans ((lasts_cg (cp_cg ah st)).trans w2.symm)) c1)
  exact K n t r C w rt tr u1 mx g h ct no sa to u2 im va H locs hI hR hP hD hS

set_option maxHeartbeats 4000000 in
set_option maxRecDepth 100000 in
theorem cs_cut {p : Program} {l : Launch} {e : Env} {s : State} {m : MethodId} {below : List Frame} {meth : Method} {c : Code} {b L : Nat} {xs : Nat → Int32} {D : va_G} {yx : Nat → ClassId} {qx : Nat → Nat} {ym : Nat → ClassId} {qm : Nat → Nat} (hx : p.tables.exec = Jvm.exec) (hb : c.code = cL_law) (hml : c.maxLocals = 4) (hown : s.vm.findClass RL = some m.cls) (hts : ∀ w ∈ wsL_law, w.before #[Value.ref b] s = true) (hX : va_X b L xs s s.heap) (hbl : b < s.heap.size) (hKx : va_K D vwCl (xT yx) s) (hKm : va_K D vwCl (mTy ym) s) (hN : NW s) (hZ0 : trE (fun q : Nat => s.heap.size ≤ q) s) (hL : L ≤ 3072) (i : Nat) (hi : i + 6 ≤ L) (n t r : Nat) (C : Nat → CT) (w : Nat → Int32) (rt : Int32) (tr : Int64) (ah : Nat → Int32) (mx : MT) (g h : Nat → Int32) (ct : Int32) (no sa to st im va : Nat → Int32) (H : Heap) (locs : List Loc) (hI : INV n t C) (hR : NS r no sa to g h ct) (hP : va_P D vwCl ((xW yx qx (nI n) (nI t) rt tr C ah w mx (nI r) ct g h) ++ (mWC ym qm (nI t) (nI n) C w rt (nI r) no sa to tr st im va)) H) (hD : va_D (fun q : Nat => s.heap.size ≤ q) ((xW yx qx (nI n) (nI t) rt tr C ah w mx (nI r) ct g h) ++ (mWC ym qm (nI t) (nI n) C w rt (nI r) no sa to tr st im va))) (hS : va_S (fun q : Nat => s.heap.size ≤ q) s.heap H locs) (ls : Array Slot) (hl : lv_has ls 4 [(0, .ref b), (1, .ref (qx 0)), (2, .ref (qm 0)), (3, .int (nI i))]) (K : ∀ (n t r : Nat) (C : Nat → CT) (w : Nat → Int32) (rt : Int32) (tr : Int64) (ah : Nat → Int32) (mx : MT) (g h : Nat → Int32) (ct : Int32) (no sa to st im va : Nat → Int32) (H : Heap) (locs : List Loc), INV n t C → NS r no sa to g h ct → va_P D vwCl ((xW yx qx (nI n) (nI t) rt tr C ah w mx (nI r) ct g h) ++ (mWC ym qm (nI t) (nI n) C w rt (nI r) no sa to tr st im va)) H → va_D (fun q : Nat => s.heap.size ≤ q) ((xW yx qx (nI n) (nI t) rt tr C ah w mx (nI r) ct g h) ++ (mWC ym qm (nI t) (nI n) C w rt (nI r) no sa to tr st im va)) → va_S (fun q : Nat => s.heap.size ≤ q) s.heap H locs → W p l e room_1 s m #[Value.ref b] below meth c H locs 37 439 (lw_Z below #[Value.ref b] s) (F0 m 777 ls [])) : W p l e room_1 s m #[Value.ref b] below meth c H locs 37 439 (lw_Z below #[Value.ref b] s) (F0 m 482 ls []) := by
  have hn := hI.1
  have ht := hI.2.1
  have hr30 := hR.1
  have hA : ∀ q : Nat, s.heap.size ≤ q → (fun q : Nat => s.heap.size ≤ q) q := fun _ h9 => h9
  have hbA : ¬ (fun q : Nat => s.heap.size ≤ q) b := Nat.not_le.mpr hbl
  have F : CallFix p m c cL_law 4 s #[Value.ref b] wsL_law RL := ⟨hx, hb, hml, hown, hts⟩
  refine lv_aload_n hx hb dL_law_482 rfl (lv_at hl 1 rfl) ?_
  refine lv_aload_n hx hb dL_law_483 rfl (lv_at hl 0 rfl) ?_
  refine lv_iload_n hx hb dL_law_484 rfl (lv_at hl 3 rfl) ?_
  refine lv_iconst (v := 1) hx hb dL_law_485 (by decide) ?_
  refine lv_iadd hx hb dL_law_486 ?_
  refine wa_sld hx hb hX hbl hbA hS (i + 1) (nI_add i 1) (by omega) hL dL_law_487 ?_
  refine lv_aload_n hx hb dL_law_488 rfl (lv_at hl 0 rfl) ?_
  refine lv_iload_n hx hb dL_law_489 rfl (lv_at hl 3 rfl) ?_
  refine lv_iconst (v := 2) hx hb dL_law_490 (by decide) ?_
  refine lv_iadd hx hb dL_law_491 ?_
  refine wa_sld hx hb hX hbl hbA hS (i + 2) (nI_add i 2) (by omega) hL dL_law_492 ?_
  refine ro_i (va_runV (As := [.int (xs (i + 1)), .int (xs (i + 2))]) (rest := []) F (kX4_cut l D yx qx n (nI t) rt tr C ah w mx (nI r) ct g h (xs (i + 1)) (xs (i + 2)) hn) (cwV 2 hts gL_law_X4_cut rfl rfl rfl ⟨rfl, hdX4_cut⟩ ⟨(Nat.le_of_ble_eq_true rfl), (Nat.le_of_ble_eq_true rfl)⟩) ⟨rdB_blind, va_recv hKx (P_l hP) (ci := 4) (q0 := 0) rfl rfl, rdB_pre (P_l hP) hKx hN⟩ rfl rfl hl.1 rfl (lv_room (Nat.le_of_ble_eq_true rfl)) dL_law_493 ⟨(Nat.le_of_ble_eq_true rfl), (Nat.le_of_ble_eq_true rfl)⟩) ?_
  refine lv_aload_n hx hb dL_law_496 rfl (lv_at hl 2 rfl) ?_
  refine lv_aload_n hx hb dL_law_497 rfl (lv_at hl 0 rfl) ?_
  refine lv_iload_n hx hb dL_law_498 rfl (lv_at hl 3 rfl) ?_
  refine lv_iconst (v := 1) hx hb dL_law_499 (by decide) ?_
  refine lv_iadd hx hb dL_law_500 ?_
  refine wa_sld hx hb hX hbl hbA hS (i + 1) (nI_add i 1) (by omega) hL dL_law_501 ?_
  refine lv_aload_n hx hb dL_law_502 rfl (lv_at hl 0 rfl) ?_
  refine lv_iload_n hx hb dL_law_503 rfl (lv_at hl 3 rfl) ?_
  refine lv_iconst (v := 2) hx hb dL_law_504 (by decide) ?_
  refine lv_iadd hx hb dL_law_505 ?_
  refine wa_sld hx hb hX hbl hbA hS (i + 2) (nI_add i 2) (by omega) hL dL_law_506 ?_
  refine ro_i (va_runV (As := [.int (xs (i + 1)), .int (xs (i + 2))]) (rest := [.int (cutF n C (xs (i + 1)) (xs (i + 2)))]) F (kX5_cut l D ym qm t n C w rt r no sa to tr st im va (xs (i + 1)) (xs (i + 2)) hn) (cwV 2 hts gL_law_X5_cut rfl rfl rfl ⟨rfl, hdX5_cut⟩ ⟨(Nat.le_of_ble_eq_true rfl), (Nat.le_of_ble_eq_true rfl)⟩) ⟨rdB_blind, va_recv hKm (P_r hP) (ci := 5) (q0 := 0) rfl rfl, rdB_pre (P_r hP) hKm hN⟩ rfl rfl hl.1 rfl (lv_room (Nat.le_of_ble_eq_true rfl)) dL_law_507 ⟨(Nat.le_of_ble_eq_true rfl), (Nat.le_of_ble_eq_true rfl)⟩) ?_
  refine lv_icmp_eq (tgt := 777) hx hb dL_law_510 (by decide) (fun c1 => ?_) (fun c1 => absurd rfl c1)
  exact K n t r C w rt tr ah mx g h ct no sa to st im va H locs hI hR hP hD hS

set_option maxHeartbeats 4000000 in
set_option maxRecDepth 100000 in
theorem cs_rate {p : Program} {l : Launch} {e : Env} {s : State} {m : MethodId} {below : List Frame} {meth : Method} {c : Code} {b L : Nat} {xs : Nat → Int32} {D : va_G} {yx : Nat → ClassId} {qx : Nat → Nat} {ym : Nat → ClassId} {qm : Nat → Nat} (hx : p.tables.exec = Jvm.exec) (hb : c.code = cL_law) (hml : c.maxLocals = 4) (hown : s.vm.findClass RL = some m.cls) (hts : ∀ w ∈ wsL_law, w.before #[Value.ref b] s = true) (hX : va_X b L xs s s.heap) (hbl : b < s.heap.size) (hKx : va_K D vwCl (xT yx) s) (hKm : va_K D vwCl (mTy ym) s) (hN : NW s) (hZ0 : trE (fun q : Nat => s.heap.size ≤ q) s) (hL : L ≤ 3072) (i : Nat) (hi : i + 6 ≤ L) (n t r : Nat) (C : Nat → CT) (w : Nat → Int32) (rt : Int32) (tr : Int64) (ah : Nat → Int32) (mx : MT) (g h : Nat → Int32) (ct : Int32) (no sa to st im va : Nat → Int32) (H : Heap) (locs : List Loc) (hI : INV n t C) (hR : NS r no sa to g h ct) (hP : va_P D vwCl ((xW yx qx (nI n) (nI t) rt tr C ah w mx (nI r) ct g h) ++ (mWC ym qm (nI t) (nI n) C w rt (nI r) no sa to tr st im va)) H) (hD : va_D (fun q : Nat => s.heap.size ≤ q) ((xW yx qx (nI n) (nI t) rt tr C ah w mx (nI r) ct g h) ++ (mWC ym qm (nI t) (nI n) C w rt (nI r) no sa to tr st im va))) (hS : va_S (fun q : Nat => s.heap.size ≤ q) s.heap H locs) (ls : Array Slot) (hl : lv_has ls 4 [(0, .ref b), (1, .ref (qx 0)), (2, .ref (qm 0)), (3, .int (nI i))]) (K : ∀ (n t r : Nat) (C : Nat → CT) (w : Nat → Int32) (rt : Int32) (tr : Int64) (ah : Nat → Int32) (mx : MT) (g h : Nat → Int32) (ct : Int32) (no sa to st im va : Nat → Int32) (H : Heap) (locs : List Loc), INV n t C → NS r no sa to g h ct → va_P D vwCl ((xW yx qx (nI n) (nI t) rt tr C ah w mx (nI r) ct g h) ++ (mWC ym qm (nI t) (nI n) C w rt (nI r) no sa to tr st im va)) H → va_D (fun q : Nat => s.heap.size ≤ q) ((xW yx qx (nI n) (nI t) rt tr C ah w mx (nI r) ct g h) ++ (mWC ym qm (nI t) (nI n) C w rt (nI r) no sa to tr st im va)) → va_S (fun q : Nat => s.heap.size ≤ q) s.heap H locs → W p l e room_1 s m #[Value.ref b] below meth c H locs 37 439 (lw_Z below #[Value.ref b] s) (F0 m 777 ls [])) : W p l e room_1 s m #[Value.ref b] below meth c H locs 37 439 (lw_Z below #[Value.ref b] s) (F0 m 515 ls []) := by
  have hn := hI.1
  have ht := hI.2.1
  have hr30 := hR.1
  have hA : ∀ q : Nat, s.heap.size ≤ q → (fun q : Nat => s.heap.size ≤ q) q := fun _ h9 => h9
  have hbA : ¬ (fun q : Nat => s.heap.size ≤ q) b := Nat.not_le.mpr hbl
  have F : CallFix p m c cL_law 4 s #[Value.ref b] wsL_law RL := ⟨hx, hb, hml, hown, hts⟩
  refine lv_aload_n hx hb dL_law_515 rfl (lv_at hl 1 rfl) ?_
  refine lv_aload_n hx hb dL_law_516 rfl (lv_at hl 0 rfl) ?_
  refine lv_iload_n hx hb dL_law_517 rfl (lv_at hl 3 rfl) ?_
  refine lv_iconst (v := 1) hx hb dL_law_518 (by decide) ?_
  refine lv_iadd hx hb dL_law_519 ?_
  refine wa_sld hx hb hX hbl hbA hS (i + 1) (nI_add i 1) (by omega) hL dL_law_520 ?_
  refine lx_i (Y := (xW yx qx (nI n) (nI t) rt tr C ah w mx (nI r) ct g h)) (Z := (mWC ym qm (nI t) (nI n) C w rt (nI r) no sa to tr st im va)) (va_runV (As := [.int (xs (i + 1))]) (rest := []) F (kX4_rate l D yx qx n (nI t) rt tr C ah w mx (nI r) ct g h (xs (i + 1)) _ ) (cwV 1 hts gL_law_X4_rate rfl rfl rfl ⟨rfl, hdX4_rate⟩ ⟨(Nat.le_of_ble_eq_true rfl), (Nat.le_of_ble_eq_true rfl)⟩) ⟨(muB_blind (fun _ _ _ _ _ => trivial)), va_recv hKx (P_l hP) (ci := 4) (q0 := 0) rfl rfl, lx_pre (Y := (xW yx qx (nI n) (nI t) rt tr C ah w mx (nI r) ct g h)) (Z := (mWC ym qm (nI t) (nI n) C w rt (nI r) no sa to tr st im va)) hP hKx hN hD (fun _ _ _ => trivial)⟩ rfl rfl hl.1 rfl (lv_room (Nat.le_of_ble_eq_true rfl)) dL_law_521 ⟨(Nat.le_of_ble_eq_true rfl), (Nat.le_of_ble_eq_true rfl)⟩) hP hD hS hA (fun r1 u1 H locs w1 hP hD hS => ?_)
  have hP : va_P D vwCl ((xW yx qx (nI n) (nI t) u1 tr C ah w mx (nI r) ct g h) ++ (mWC ym qm (nI t) (nI n) C w rt (nI r) no sa to tr st im va)) H := hP
  have hD : va_D (fun q : Nat => s.heap.size ≤ q) ((xW yx qx (nI n) (nI t) u1 tr C ah w mx (nI r) ct g h) ++ (mWC ym qm (nI t) (nI n) C w rt (nI r) no sa to tr st im va)) := hD
  refine lv_aload_n hx hb dL_law_524 rfl (lv_at hl 2 rfl) ?_
  refine lv_aload_n hx hb dL_law_525 rfl (lv_at hl 0 rfl) ?_
  refine lv_iload_n hx hb dL_law_526 rfl (lv_at hl 3 rfl) ?_
  refine lv_iconst (v := 1) hx hb dL_law_527 (by decide) ?_
  refine lv_iadd hx hb dL_law_528 ?_
  refine wa_sld hx hb hX hbl hbA hS (i + 1) (nI_add i 1) (by omega) hL dL_law_529 ?_
  refine lm_i (X := (xW yx qx (nI n) (nI t) u1 tr C ah w mx (nI r) ct g h)) (Y := (mWC ym qm (nI t) (nI n) C w rt (nI r) no sa to tr st im va)) (va_runV (As := [.int (xs (i + 1))]) (rest := [.int r1]) F (kX5_rate l D ym qm t n C w rt r no sa to tr st im va (xs (i + 1)) _ ) (cwV 1 hts gL_law_X5_rate rfl rfl rfl ⟨rfl, hdX5_rate⟩ ⟨(Nat.le_of_ble_eq_true rfl), (Nat.le_of_ble_eq_true rfl)⟩) ⟨(muB_blind (fun _ _ _ _ _ => trivial)), va_recv hKm (P_r hP) (ci := 5) (q0 := 0) rfl rfl, lm_pre (X := (xW yx qx (nI n) (nI t) u1 tr C ah w mx (nI r) ct g h)) (Y := (mWC ym qm (nI t) (nI n) C w rt (nI r) no sa to tr st im va)) hP hKm hN hD (fun _ _ _ => trivial)⟩ rfl rfl hl.1 rfl (lv_room (Nat.le_of_ble_eq_true rfl)) dL_law_530 ⟨(Nat.le_of_ble_eq_true rfl), (Nat.le_of_ble_eq_true rfl)⟩) hP hD hS hA (fun r2 u2 H locs w2 hP hD hS => ?_)
  have hP : va_P D vwCl ((xW yx qx (nI n) (nI t) u1 tr C ah w mx (nI r) ct g h) ++ (mWC ym qm (nI t) (nI n) C w u2 (nI r) no sa to tr st im va)) H := hP
  have hD : va_D (fun q : Nat => s.heap.size ≤ q) ((xW yx qx (nI n) (nI t) u1 tr C ah w mx (nI r) ct g h) ++ (mWC ym qm (nI t) (nI n) C w u2 (nI r) no sa to tr st im va)) := hD
  obtain ⟨e1, e2⟩ := pr_inj w1 w2
  subst e2
  refine lv_icmp_eq (tgt := 777) hx hb dL_law_533 (by decide) (fun c1 => ?_) (fun c1 => absurd e1 c1)
  exact K n t r C w u1 tr ah mx g h ct no sa to st im va H locs hI hR hP hD hS

set_option maxHeartbeats 4000000 in
set_option maxRecDepth 100000 in
theorem cs_duty {p : Program} {l : Launch} {e : Env} {s : State} {m : MethodId} {below : List Frame} {meth : Method} {c : Code} {b L : Nat} {xs : Nat → Int32} {D : va_G} {yx : Nat → ClassId} {qx : Nat → Nat} {ym : Nat → ClassId} {qm : Nat → Nat} (hx : p.tables.exec = Jvm.exec) (hb : c.code = cL_law) (hml : c.maxLocals = 4) (hown : s.vm.findClass RL = some m.cls) (hts : ∀ w ∈ wsL_law, w.before #[Value.ref b] s = true) (hX : va_X b L xs s s.heap) (hbl : b < s.heap.size) (hKx : va_K D vwCl (xT yx) s) (hKm : va_K D vwCl (mTy ym) s) (hN : NW s) (hZ0 : trE (fun q : Nat => s.heap.size ≤ q) s) (hL : L ≤ 3072) (i : Nat) (hi : i + 6 ≤ L) (n t r : Nat) (C : Nat → CT) (w : Nat → Int32) (rt : Int32) (tr : Int64) (ah : Nat → Int32) (mx : MT) (g h : Nat → Int32) (ct : Int32) (no sa to st im va : Nat → Int32) (H : Heap) (locs : List Loc) (hI : INV n t C) (hR : NS r no sa to g h ct) (hP : va_P D vwCl ((xW yx qx (nI n) (nI t) rt tr C ah w mx (nI r) ct g h) ++ (mWC ym qm (nI t) (nI n) C w rt (nI r) no sa to tr st im va)) H) (hD : va_D (fun q : Nat => s.heap.size ≤ q) ((xW yx qx (nI n) (nI t) rt tr C ah w mx (nI r) ct g h) ++ (mWC ym qm (nI t) (nI n) C w rt (nI r) no sa to tr st im va))) (hS : va_S (fun q : Nat => s.heap.size ≤ q) s.heap H locs) (ls : Array Slot) (hl : lv_has ls 4 [(0, .ref b), (1, .ref (qx 0)), (2, .ref (qm 0)), (3, .int (nI i))]) (K : ∀ (n t r : Nat) (C : Nat → CT) (w : Nat → Int32) (rt : Int32) (tr : Int64) (ah : Nat → Int32) (mx : MT) (g h : Nat → Int32) (ct : Int32) (no sa to st im va : Nat → Int32) (H : Heap) (locs : List Loc), INV n t C → NS r no sa to g h ct → va_P D vwCl ((xW yx qx (nI n) (nI t) rt tr C ah w mx (nI r) ct g h) ++ (mWC ym qm (nI t) (nI n) C w rt (nI r) no sa to tr st im va)) H → va_D (fun q : Nat => s.heap.size ≤ q) ((xW yx qx (nI n) (nI t) rt tr C ah w mx (nI r) ct g h) ++ (mWC ym qm (nI t) (nI n) C w rt (nI r) no sa to tr st im va)) → va_S (fun q : Nat => s.heap.size ≤ q) s.heap H locs → W p l e room_1 s m #[Value.ref b] below meth c H locs 37 439 (lw_Z below #[Value.ref b] s) (F0 m 777 ls [])) : W p l e room_1 s m #[Value.ref b] below meth c H locs 37 439 (lw_Z below #[Value.ref b] s) (F0 m 538 ls []) := by
  have hn := hI.1
  have ht := hI.2.1
  have hr30 := hR.1
  have hA : ∀ q : Nat, s.heap.size ≤ q → (fun q : Nat => s.heap.size ≤ q) q := fun _ h9 => h9
  have hbA : ¬ (fun q : Nat => s.heap.size ≤ q) b := Nat.not_le.mpr hbl
  have F : CallFix p m c cL_law 4 s #[Value.ref b] wsL_law RL := ⟨hx, hb, hml, hown, hts⟩
  refine lv_aload_n hx hb dL_law_538 rfl (lv_at hl 1 rfl) ?_
  refine lv_aload_n hx hb dL_law_539 rfl (lv_at hl 0 rfl) ?_
  refine lv_iload_n hx hb dL_law_540 rfl (lv_at hl 3 rfl) ?_
  refine lv_iconst (v := 1) hx hb dL_law_541 (by decide) ?_
  refine lv_iadd hx hb dL_law_542 ?_
  refine wa_sld hx hb hX hbl hbA hS (i + 1) (nI_add i 1) (by omega) hL dL_law_543 ?_
  refine ro_i (va_runV (As := [.int (xs (i + 1))]) (rest := []) F (kX4_duty l D yx qx n (nI t) rt tr C ah w mx (nI r) ct g h (xs (i + 1)) hn) (cwV 1 hts gL_law_X4_duty rfl rfl rfl ⟨rfl, hdX4_duty⟩ ⟨(Nat.le_of_ble_eq_true rfl), (Nat.le_of_ble_eq_true rfl)⟩) ⟨rdB_blind, va_recv hKx (P_l hP) (ci := 4) (q0 := 0) rfl rfl, rdB_pre (P_l hP) hKx hN⟩ rfl rfl hl.1 rfl (lv_room (Nat.le_of_ble_eq_true rfl)) dL_law_544 ⟨(Nat.le_of_ble_eq_true rfl), (Nat.le_of_ble_eq_true rfl)⟩) ?_
  refine lv_aload_n hx hb dL_law_547 rfl (lv_at hl 2 rfl) ?_
  refine lv_aload_n hx hb dL_law_548 rfl (lv_at hl 0 rfl) ?_
  refine lv_iload_n hx hb dL_law_549 rfl (lv_at hl 3 rfl) ?_
  refine lv_iconst (v := 1) hx hb dL_law_550 (by decide) ?_
  refine lv_iadd hx hb dL_law_551 ?_
  refine wa_sld hx hb hX hbl hbA hS (i + 1) (nI_add i 1) (by omega) hL dL_law_552 ?_
  refine ro_i (va_runV (As := [.int (xs (i + 1))]) (rest := [.int (dutyF n C rt (xs (i + 1)))]) F (kX5_duty l D ym qm t n C w rt r no sa to tr st im va (xs (i + 1)) hn) (cwV 1 hts gL_law_X5_duty rfl rfl rfl ⟨rfl, hdX5_duty⟩ ⟨(Nat.le_of_ble_eq_true rfl), (Nat.le_of_ble_eq_true rfl)⟩) ⟨rdB_blind, va_recv hKm (P_r hP) (ci := 5) (q0 := 0) rfl rfl, rdB_pre (P_r hP) hKm hN⟩ rfl rfl hl.1 rfl (lv_room (Nat.le_of_ble_eq_true rfl)) dL_law_553 ⟨(Nat.le_of_ble_eq_true rfl), (Nat.le_of_ble_eq_true rfl)⟩) ?_
  refine lv_icmp_eq (tgt := 777) hx hb dL_law_556 (by decide) (fun c1 => ?_) (fun c1 => absurd rfl c1)
  exact K n t r C w rt tr ah mx g h ct no sa to st im va H locs hI hR hP hD hS

set_option maxHeartbeats 4000000 in
set_option maxRecDepth 100000 in
theorem cs_odds {p : Program} {l : Launch} {e : Env} {s : State} {m : MethodId} {below : List Frame} {meth : Method} {c : Code} {b L : Nat} {xs : Nat → Int32} {D : va_G} {yx : Nat → ClassId} {qx : Nat → Nat} {ym : Nat → ClassId} {qm : Nat → Nat} (hx : p.tables.exec = Jvm.exec) (hb : c.code = cL_law) (hml : c.maxLocals = 4) (hown : s.vm.findClass RL = some m.cls) (hts : ∀ w ∈ wsL_law, w.before #[Value.ref b] s = true) (hX : va_X b L xs s s.heap) (hbl : b < s.heap.size) (hKx : va_K D vwCl (xT yx) s) (hKm : va_K D vwCl (mTy ym) s) (hN : NW s) (hZ0 : trE (fun q : Nat => s.heap.size ≤ q) s) (hL : L ≤ 3072) (i : Nat) (hi : i + 6 ≤ L) (n t r : Nat) (C : Nat → CT) (w : Nat → Int32) (rt : Int32) (tr : Int64) (ah : Nat → Int32) (mx : MT) (g h : Nat → Int32) (ct : Int32) (no sa to st im va : Nat → Int32) (H : Heap) (locs : List Loc) (hI : INV n t C) (hR : NS r no sa to g h ct) (hP : va_P D vwCl ((xW yx qx (nI n) (nI t) rt tr C ah w mx (nI r) ct g h) ++ (mWC ym qm (nI t) (nI n) C w rt (nI r) no sa to tr st im va)) H) (hD : va_D (fun q : Nat => s.heap.size ≤ q) ((xW yx qx (nI n) (nI t) rt tr C ah w mx (nI r) ct g h) ++ (mWC ym qm (nI t) (nI n) C w rt (nI r) no sa to tr st im va))) (hS : va_S (fun q : Nat => s.heap.size ≤ q) s.heap H locs) (ls : Array Slot) (hl : lv_has ls 4 [(0, .ref b), (1, .ref (qx 0)), (2, .ref (qm 0)), (3, .int (nI i))]) (K : ∀ (n t r : Nat) (C : Nat → CT) (w : Nat → Int32) (rt : Int32) (tr : Int64) (ah : Nat → Int32) (mx : MT) (g h : Nat → Int32) (ct : Int32) (no sa to st im va : Nat → Int32) (H : Heap) (locs : List Loc), INV n t C → NS r no sa to g h ct → va_P D vwCl ((xW yx qx (nI n) (nI t) rt tr C ah w mx (nI r) ct g h) ++ (mWC ym qm (nI t) (nI n) C w rt (nI r) no sa to tr st im va)) H → va_D (fun q : Nat => s.heap.size ≤ q) ((xW yx qx (nI n) (nI t) rt tr C ah w mx (nI r) ct g h) ++ (mWC ym qm (nI t) (nI n) C w rt (nI r) no sa to tr st im va)) → va_S (fun q : Nat => s.heap.size ≤ q) s.heap H locs → W p l e room_1 s m #[Value.ref b] below meth c H locs 37 439 (lw_Z below #[Value.ref b] s) (F0 m 777 ls [])) : W p l e room_1 s m #[Value.ref b] below meth c H locs 37 439 (lw_Z below #[Value.ref b] s) (F0 m 561 ls []) := by
  have hn := hI.1
  have ht := hI.2.1
  have hr30 := hR.1
  have hA : ∀ q : Nat, s.heap.size ≤ q → (fun q : Nat => s.heap.size ≤ q) q := fun _ h9 => h9
  have hbA : ¬ (fun q : Nat => s.heap.size ≤ q) b := Nat.not_le.mpr hbl
  have F : CallFix p m c cL_law 4 s #[Value.ref b] wsL_law RL := ⟨hx, hb, hml, hown, hts⟩
  refine lv_aload_n hx hb dL_law_561 rfl (lv_at hl 1 rfl) ?_
  refine lv_aload_n hx hb dL_law_562 rfl (lv_at hl 0 rfl) ?_
  refine lv_iload_n hx hb dL_law_563 rfl (lv_at hl 3 rfl) ?_
  refine lv_iconst (v := 1) hx hb dL_law_564 (by decide) ?_
  refine lv_iadd hx hb dL_law_565 ?_
  refine wa_sld hx hb hX hbl hbA hS (i + 1) (nI_add i 1) (by omega) hL dL_law_566 ?_
  refine lv_aload_n hx hb dL_law_567 rfl (lv_at hl 0 rfl) ?_
  refine lv_iload_n hx hb dL_law_568 rfl (lv_at hl 3 rfl) ?_
  refine lv_iconst (v := 2) hx hb dL_law_569 (by decide) ?_
  refine lv_iadd hx hb dL_law_570 ?_
  refine wa_sld hx hb hX hbl hbA hS (i + 2) (nI_add i 2) (by omega) hL dL_law_571 ?_
  refine ro_l (va_runV (As := [.int (xs (i + 1)), .int (xs (i + 2))]) (rest := []) F (kX4_odds l D yx qx n (nI t) rt tr C ah w mx (nI r) ct g h (xs (i + 1)) (xs (i + 2)) ) (cwV 2 hts gL_law_X4_odds rfl rfl rfl ⟨rfl, hdX4_odds⟩ ⟨(Nat.le_of_ble_eq_true rfl), (Nat.le_of_ble_eq_true rfl)⟩) ⟨rdB_blind, va_recv hKx (P_l hP) (ci := 4) (q0 := 0) rfl rfl, rdB_pre (P_l hP) hKx hN⟩ rfl rfl hl.1 rfl (lv_room (Nat.le_of_ble_eq_true rfl)) dL_law_572 ⟨(Nat.le_of_ble_eq_true rfl), (Nat.le_of_ble_eq_true rfl)⟩) ?_
  refine lv_aload_n hx hb dL_law_575 rfl (lv_at hl 2 rfl) ?_
  refine lv_aload_n hx hb dL_law_576 rfl (lv_at hl 0 rfl) ?_
  refine lv_iload_n hx hb dL_law_577 rfl (lv_at hl 3 rfl) ?_
  refine lv_iconst (v := 1) hx hb dL_law_578 (by decide) ?_
  refine lv_iadd hx hb dL_law_579 ?_
  refine wa_sld hx hb hX hbl hbA hS (i + 1) (nI_add i 1) (by omega) hL dL_law_580 ?_
  refine lv_aload_n hx hb dL_law_581 rfl (lv_at hl 0 rfl) ?_
  refine lv_iload_n hx hb dL_law_582 rfl (lv_at hl 3 rfl) ?_
  refine lv_iconst (v := 2) hx hb dL_law_583 (by decide) ?_
  refine lv_iadd hx hb dL_law_584 ?_
  refine wa_sld hx hb hX hbl hbA hS (i + 2) (nI_add i 2) (by omega) hL dL_law_585 ?_
  refine ro_l (va_runV (As := [.int (xs (i + 1)), .int (xs (i + 2))]) (rest := [.long (oddsF (xs (i + 1)) (xs (i + 2)))]) F (kX5_odds l D ym qm t n C w rt r no sa to tr st im va (xs (i + 1)) (xs (i + 2)) ) (cwV 2 hts gL_law_X5_odds rfl rfl rfl ⟨rfl, hdX5_odds⟩ ⟨(Nat.le_of_ble_eq_true rfl), (Nat.le_of_ble_eq_true rfl)⟩) ⟨rdB_blind, va_recv hKm (P_r hP) (ci := 5) (q0 := 0) rfl rfl, rdB_pre (P_r hP) hKm hN⟩ rfl rfl hl.1 rfl (lv_room (Nat.le_of_ble_eq_true rfl)) dL_law_586 ⟨(Nat.le_of_ble_eq_true rfl), (Nat.le_of_ble_eq_true rfl)⟩) ?_
  refine W.lcmp hx hb dL_law_589 ?_
  refine lv_if_eq (tgt := 777) hx hb dL_law_590 (by decide) (fun c1 => ?_) (fun c1 => absurd (lg_self _) c1)
  exact K n t r C w rt tr ah mx g h ct no sa to st im va H locs hI hR hP hD hS

set_option maxHeartbeats 4000000 in
set_option maxRecDepth 100000 in
theorem cs_apart {p : Program} {l : Launch} {e : Env} {s : State} {m : MethodId} {below : List Frame} {meth : Method} {c : Code} {b L : Nat} {xs : Nat → Int32} {D : va_G} {yx : Nat → ClassId} {qx : Nat → Nat} {ym : Nat → ClassId} {qm : Nat → Nat} (hx : p.tables.exec = Jvm.exec) (hb : c.code = cL_law) (hml : c.maxLocals = 4) (hown : s.vm.findClass RL = some m.cls) (hts : ∀ w ∈ wsL_law, w.before #[Value.ref b] s = true) (hX : va_X b L xs s s.heap) (hbl : b < s.heap.size) (hKx : va_K D vwCl (xT yx) s) (hKm : va_K D vwCl (mTy ym) s) (hN : NW s) (hZ0 : trE (fun q : Nat => s.heap.size ≤ q) s) (hL : L ≤ 3072) (i : Nat) (hi : i + 6 ≤ L) (n t r : Nat) (C : Nat → CT) (w : Nat → Int32) (rt : Int32) (tr : Int64) (ah : Nat → Int32) (mx : MT) (g h : Nat → Int32) (ct : Int32) (no sa to st im va : Nat → Int32) (H : Heap) (locs : List Loc) (hI : INV n t C) (hR : NS r no sa to g h ct) (hP : va_P D vwCl ((xW yx qx (nI n) (nI t) rt tr C ah w mx (nI r) ct g h) ++ (mWC ym qm (nI t) (nI n) C w rt (nI r) no sa to tr st im va)) H) (hD : va_D (fun q : Nat => s.heap.size ≤ q) ((xW yx qx (nI n) (nI t) rt tr C ah w mx (nI r) ct g h) ++ (mWC ym qm (nI t) (nI n) C w rt (nI r) no sa to tr st im va))) (hS : va_S (fun q : Nat => s.heap.size ≤ q) s.heap H locs) (ls : Array Slot) (hl : lv_has ls 4 [(0, .ref b), (1, .ref (qx 0)), (2, .ref (qm 0)), (3, .int (nI i))]) (K : ∀ (n t r : Nat) (C : Nat → CT) (w : Nat → Int32) (rt : Int32) (tr : Int64) (ah : Nat → Int32) (mx : MT) (g h : Nat → Int32) (ct : Int32) (no sa to st im va : Nat → Int32) (H : Heap) (locs : List Loc), INV n t C → NS r no sa to g h ct → va_P D vwCl ((xW yx qx (nI n) (nI t) rt tr C ah w mx (nI r) ct g h) ++ (mWC ym qm (nI t) (nI n) C w rt (nI r) no sa to tr st im va)) H → va_D (fun q : Nat => s.heap.size ≤ q) ((xW yx qx (nI n) (nI t) rt tr C ah w mx (nI r) ct g h) ++ (mWC ym qm (nI t) (nI n) C w rt (nI r) no sa to tr st im va)) → va_S (fun q : Nat => s.heap.size ≤ q) s.heap H locs → W p l e room_1 s m #[Value.ref b] below meth c H locs 37 439 (lw_Z below #[Value.ref b] s) (F0 m 777 ls [])) : W p l e room_1 s m #[Value.ref b] below meth c H locs 37 439 (lw_Z below #[Value.ref b] s) (F0 m 595 ls []) := by
  have hn := hI.1
  have ht := hI.2.1
  have hr30 := hR.1
  have hA : ∀ q : Nat, s.heap.size ≤ q → (fun q : Nat => s.heap.size ≤ q) q := fun _ h9 => h9
  have hbA : ¬ (fun q : Nat => s.heap.size ≤ q) b := Nat.not_le.mpr hbl
  have F : CallFix p m c cL_law 4 s #[Value.ref b] wsL_law RL := ⟨hx, hb, hml, hown, hts⟩
  refine lv_aload_n hx hb dL_law_595 rfl (lv_at hl 1 rfl) ?_
  refine lv_aload_n hx hb dL_law_596 rfl (lv_at hl 0 rfl) ?_
  refine lv_iload_n hx hb dL_law_597 rfl (lv_at hl 3 rfl) ?_
  refine lv_iconst (v := 1) hx hb dL_law_598 (by decide) ?_
  refine lv_iadd hx hb dL_law_599 ?_
  refine wa_sld hx hb hX hbl hbA hS (i + 1) (nI_add i 1) (by omega) hL dL_law_600 ?_
  refine lv_aload_n hx hb dL_law_601 rfl (lv_at hl 0 rfl) ?_
  refine lv_iload_n hx hb dL_law_602 rfl (lv_at hl 3 rfl) ?_
  refine lv_iconst (v := 2) hx hb dL_law_603 (by decide) ?_
  refine lv_iadd hx hb dL_law_604 ?_
  refine wa_sld hx hb hX hbl hbA hS (i + 2) (nI_add i 2) (by omega) hL dL_law_605 ?_
  refine ro_i (va_runV (As := [.int (xs (i + 1)), .int (xs (i + 2))]) (rest := []) F (kX4_apart l D yx qx n (nI t) rt tr C ah w mx (nI r) ct g h (xs (i + 1)) (xs (i + 2)) ) (cwV 2 hts gL_law_X4_apart rfl rfl rfl ⟨rfl, hdX4_apart⟩ ⟨(Nat.le_of_ble_eq_true rfl), (Nat.le_of_ble_eq_true rfl)⟩) ⟨rdB_blind, va_recv hKx (P_l hP) (ci := 4) (q0 := 0) rfl rfl, rdB_pre (P_l hP) hKx hN⟩ rfl rfl hl.1 rfl (lv_room (Nat.le_of_ble_eq_true rfl)) dL_law_606 ⟨(Nat.le_of_ble_eq_true rfl), (Nat.le_of_ble_eq_true rfl)⟩) ?_
  refine lv_aload_n hx hb dL_law_609 rfl (lv_at hl 2 rfl) ?_
  refine lv_aload_n hx hb dL_law_610 rfl (lv_at hl 0 rfl) ?_
  refine lv_iload_n hx hb dL_law_611 rfl (lv_at hl 3 rfl) ?_
  refine lv_iconst (v := 1) hx hb dL_law_612 (by decide) ?_
  refine lv_iadd hx hb dL_law_613 ?_
  refine wa_sld hx hb hX hbl hbA hS (i + 1) (nI_add i 1) (by omega) hL dL_law_614 ?_
  refine lv_aload_n hx hb dL_law_615 rfl (lv_at hl 0 rfl) ?_
  refine lv_iload_n hx hb dL_law_616 rfl (lv_at hl 3 rfl) ?_
  refine lv_iconst (v := 2) hx hb dL_law_617 (by decide) ?_
  refine lv_iadd hx hb dL_law_618 ?_
  refine wa_sld hx hb hX hbl hbA hS (i + 2) (nI_add i 2) (by omega) hL dL_law_619 ?_
  refine ro_i (va_runV (As := [.int (xs (i + 1)), .int (xs (i + 2))]) (rest := [.int (apartF (xs (i + 1)) (xs (i + 2)))]) F (kX5_apart l D ym qm t n C w rt r no sa to tr st im va (xs (i + 1)) (xs (i + 2)) ) (cwV 2 hts gL_law_X5_apart rfl rfl rfl ⟨rfl, hdX5_apart⟩ ⟨(Nat.le_of_ble_eq_true rfl), (Nat.le_of_ble_eq_true rfl)⟩) ⟨rdB_blind, va_recv hKm (P_r hP) (ci := 5) (q0 := 0) rfl rfl, rdB_pre (P_r hP) hKm hN⟩ rfl rfl hl.1 rfl (lv_room (Nat.le_of_ble_eq_true rfl)) dL_law_620 ⟨(Nat.le_of_ble_eq_true rfl), (Nat.le_of_ble_eq_true rfl)⟩) ?_
  refine lv_icmp_eq (tgt := 777) hx hb dL_law_623 (by decide) (fun c1 => ?_) (fun c1 => absurd rfl c1)
  exact K n t r C w rt tr ah mx g h ct no sa to st im va H locs hI hR hP hD hS

set_option maxHeartbeats 4000000 in
set_option maxRecDepth 100000 in
theorem cs_read {p : Program} {l : Launch} {e : Env} {s : State} {m : MethodId} {below : List Frame} {meth : Method} {c : Code} {b L : Nat} {xs : Nat → Int32} {D : va_G} {yx : Nat → ClassId} {qx : Nat → Nat} {ym : Nat → ClassId} {qm : Nat → Nat} (hx : p.tables.exec = Jvm.exec) (hb : c.code = cL_law) (hml : c.maxLocals = 4) (hown : s.vm.findClass RL = some m.cls) (hts : ∀ w ∈ wsL_law, w.before #[Value.ref b] s = true) (hX : va_X b L xs s s.heap) (hbl : b < s.heap.size) (hKx : va_K D vwCl (xT yx) s) (hKm : va_K D vwCl (mTy ym) s) (hN : NW s) (hZ0 : trE (fun q : Nat => s.heap.size ≤ q) s) (hL : L ≤ 3072) (i : Nat) (hi : i + 6 ≤ L) (n t r : Nat) (C : Nat → CT) (w : Nat → Int32) (rt : Int32) (tr : Int64) (ah : Nat → Int32) (mx : MT) (g h : Nat → Int32) (ct : Int32) (no sa to st im va : Nat → Int32) (H : Heap) (locs : List Loc) (hI : INV n t C) (hR : NS r no sa to g h ct) (hP : va_P D vwCl ((xW yx qx (nI n) (nI t) rt tr C ah w mx (nI r) ct g h) ++ (mWC ym qm (nI t) (nI n) C w rt (nI r) no sa to tr st im va)) H) (hD : va_D (fun q : Nat => s.heap.size ≤ q) ((xW yx qx (nI n) (nI t) rt tr C ah w mx (nI r) ct g h) ++ (mWC ym qm (nI t) (nI n) C w rt (nI r) no sa to tr st im va))) (hS : va_S (fun q : Nat => s.heap.size ≤ q) s.heap H locs) (ls : Array Slot) (hl : lv_has ls 4 [(0, .ref b), (1, .ref (qx 0)), (2, .ref (qm 0)), (3, .int (nI i))]) (K : ∀ (n t r : Nat) (C : Nat → CT) (w : Nat → Int32) (rt : Int32) (tr : Int64) (ah : Nat → Int32) (mx : MT) (g h : Nat → Int32) (ct : Int32) (no sa to st im va : Nat → Int32) (H : Heap) (locs : List Loc), INV n t C → NS r no sa to g h ct → va_P D vwCl ((xW yx qx (nI n) (nI t) rt tr C ah w mx (nI r) ct g h) ++ (mWC ym qm (nI t) (nI n) C w rt (nI r) no sa to tr st im va)) H → va_D (fun q : Nat => s.heap.size ≤ q) ((xW yx qx (nI n) (nI t) rt tr C ah w mx (nI r) ct g h) ++ (mWC ym qm (nI t) (nI n) C w rt (nI r) no sa to tr st im va)) → va_S (fun q : Nat => s.heap.size ≤ q) s.heap H locs → W p l e room_1 s m #[Value.ref b] below meth c H locs 37 439 (lw_Z below #[Value.ref b] s) (F0 m 777 ls [])) : W p l e room_1 s m #[Value.ref b] below meth c H locs 37 439 (lw_Z below #[Value.ref b] s) (F0 m 628 ls []) := by
  have hn := hI.1
  have ht := hI.2.1
  have hr30 := hR.1
  have hA : ∀ q : Nat, s.heap.size ≤ q → (fun q : Nat => s.heap.size ≤ q) q := fun _ h9 => h9
  have hbA : ¬ (fun q : Nat => s.heap.size ≤ q) b := Nat.not_le.mpr hbl
  have F : CallFix p m c cL_law 4 s #[Value.ref b] wsL_law RL := ⟨hx, hb, hml, hown, hts⟩
  refine lv_aload_n hx hb dL_law_628 rfl (lv_at hl 1 rfl) ?_
  refine lv_aload_n hx hb dL_law_629 rfl (lv_at hl 0 rfl) ?_
  refine lv_iload_n hx hb dL_law_630 rfl (lv_at hl 3 rfl) ?_
  refine lv_iconst (v := 1) hx hb dL_law_631 (by decide) ?_
  refine lv_iadd hx hb dL_law_632 ?_
  refine wa_sld hx hb hX hbl hbA hS (i + 1) (nI_add i 1) (by omega) hL dL_law_633 ?_
  refine lv_aload_n hx hb dL_law_634 rfl (lv_at hl 0 rfl) ?_
  refine lv_iload_n hx hb dL_law_635 rfl (lv_at hl 3 rfl) ?_
  refine lv_iconst (v := 2) hx hb dL_law_636 (by decide) ?_
  refine lv_iadd hx hb dL_law_637 ?_
  refine wa_sld hx hb hX hbl hbA hS (i + 2) (nI_add i 2) (by omega) hL dL_law_638 ?_
  refine lv_aload_n hx hb dL_law_639 rfl (lv_at hl 0 rfl) ?_
  refine lv_iload_n hx hb dL_law_640 rfl (lv_at hl 3 rfl) ?_
  refine lv_iconst (v := 3) hx hb dL_law_641 (by decide) ?_
  refine lv_iadd hx hb dL_law_642 ?_
  refine wa_sld hx hb hX hbl hbA hS (i + 3) (nI_add i 3) (by omega) hL dL_law_643 ?_
  refine lx_i (Y := (xW yx qx (nI n) (nI t) rt tr C ah w mx (nI r) ct g h)) (Z := (mWC ym qm (nI t) (nI n) C w rt (nI r) no sa to tr st im va)) (va_runV (As := [.int (xs (i + 1)), .int (xs (i + 2)), .int (xs (i + 3))]) (rest := []) F (kX4_read l D yx qx n (nI t) rt tr C ah w mx (nI r) ct g h (xs (i + 1)) (xs (i + 2)) (xs (i + 3)) _ ) (cwV 3 hts gL_law_X4_read rfl rfl rfl ⟨rfl, hdX4_read⟩ ⟨(Nat.le_of_ble_eq_true rfl), (Nat.le_of_ble_eq_true rfl)⟩) ⟨(muB_blind (fun _ _ _ _ _ => trivial)), va_recv hKx (P_l hP) (ci := 4) (q0 := 0) rfl rfl, lx_pre (Y := (xW yx qx (nI n) (nI t) rt tr C ah w mx (nI r) ct g h)) (Z := (mWC ym qm (nI t) (nI n) C w rt (nI r) no sa to tr st im va)) hP hKx hN hD (fun _ _ _ => trivial)⟩ rfl rfl hl.1 rfl (lv_room (Nat.le_of_ble_eq_true rfl)) dL_law_644 ⟨(Nat.le_of_ble_eq_true rfl), (Nat.le_of_ble_eq_true rfl)⟩) hP hD hS hA (fun r1 u1 H locs w1 hP hD hS => ?_)
  have hP : va_P D vwCl ((xW yx qx (nI n) (nI t) rt tr C ah w mx u1.1 u1.2.1 u1.2.2.1 u1.2.2.2) ++ (mWC ym qm (nI t) (nI n) C w rt (nI r) no sa to tr st im va)) H := hP
  have hD : va_D (fun q : Nat => s.heap.size ≤ q) ((xW yx qx (nI n) (nI t) rt tr C ah w mx u1.1 u1.2.1 u1.2.2.1 u1.2.2.2) ++ (mWC ym qm (nI t) (nI n) C w rt (nI r) no sa to tr st im va)) := hD
  refine lv_aload_n hx hb dL_law_647 rfl (lv_at hl 2 rfl) ?_
  refine lv_aload_n hx hb dL_law_648 rfl (lv_at hl 0 rfl) ?_
  refine lv_iload_n hx hb dL_law_649 rfl (lv_at hl 3 rfl) ?_
  refine lv_iconst (v := 1) hx hb dL_law_650 (by decide) ?_
  refine lv_iadd hx hb dL_law_651 ?_
  refine wa_sld hx hb hX hbl hbA hS (i + 1) (nI_add i 1) (by omega) hL dL_law_652 ?_
  refine lv_aload_n hx hb dL_law_653 rfl (lv_at hl 0 rfl) ?_
  refine lv_iload_n hx hb dL_law_654 rfl (lv_at hl 3 rfl) ?_
  refine lv_iconst (v := 2) hx hb dL_law_655 (by decide) ?_
  refine lv_iadd hx hb dL_law_656 ?_
  refine wa_sld hx hb hX hbl hbA hS (i + 2) (nI_add i 2) (by omega) hL dL_law_657 ?_
  refine lv_aload_n hx hb dL_law_658 rfl (lv_at hl 0 rfl) ?_
  refine lv_iload_n hx hb dL_law_659 rfl (lv_at hl 3 rfl) ?_
  refine lv_iconst (v := 3) hx hb dL_law_660 (by decide) ?_
  refine lv_iadd hx hb dL_law_661 ?_
  refine wa_sld hx hb hX hbl hbA hS (i + 3) (nI_add i 3) (by omega) hL dL_law_662 ?_
  refine lm_i (X := (xW yx qx (nI n) (nI t) rt tr C ah w mx u1.1 u1.2.1 u1.2.2.1 u1.2.2.2)) (Y := (mWC ym qm (nI t) (nI n) C w rt (nI r) no sa to tr st im va)) (va_runV (As := [.int (xs (i + 1)), .int (xs (i + 2)), .int (xs (i + 3))]) (rest := [.int r1]) F (kX5_read l D ym qm t n C w rt r no sa to tr st im va (xs (i + 1)) (xs (i + 2)) (xs (i + 3)) _ hr30) (cwV 3 hts gL_law_X5_read rfl rfl rfl ⟨rfl, hdX5_read⟩ ⟨(Nat.le_of_ble_eq_true rfl), (Nat.le_of_ble_eq_true rfl)⟩) ⟨(muB_blind (fun _ _ _ _ _ => trivial)), va_recv hKm (P_r hP) (ci := 5) (q0 := 0) rfl rfl, lm_pre (X := (xW yx qx (nI n) (nI t) rt tr C ah w mx u1.1 u1.2.1 u1.2.2.1 u1.2.2.2)) (Y := (mWC ym qm (nI t) (nI n) C w rt (nI r) no sa to tr st im va)) hP hKm hN hD (fun _ _ _ => trivial)⟩ rfl rfl hl.1 rfl (lv_room (Nat.le_of_ble_eq_true rfl)) dL_law_663 ⟨(Nat.le_of_ble_eq_true rfl), (Nat.le_of_ble_eq_true rfl)⟩) hP hD hS hA (fun r2 u2 H locs w2 hP hD hS => ?_)
  have hP : va_P D vwCl ((xW yx qx (nI n) (nI t) rt tr C ah w mx u1.1 u1.2.1 u1.2.2.1 u1.2.2.2) ++ (mWC ym qm (nI t) (nI n) C w rt u2.1 u2.2.1 u2.2.2.1 u2.2.2.2 tr st im va)) H := hP
  have hD : va_D (fun q : Nat => s.heap.size ≤ q) ((xW yx qx (nI n) (nI t) rt tr C ah w mx u1.1 u1.2.1 u1.2.2.1 u1.2.2.2) ++ (mWC ym qm (nI t) (nI n) C w rt u2.1 u2.2.1 u2.2.2.1 u2.2.2.2 tr st im va)) := hD
  obtain ⟨e1, r2n, en1, en2, hR2⟩ := read_inv hR w1 w2
  rw [en1, en2] at hP hD
  refine lv_icmp_eq (tgt := 777) hx hb dL_law_666 (by decide) (fun c1 => ?_) (fun c1 => absurd e1 c1)
  exact K n t r2n C w rt tr ah mx u1.2.2.1 u1.2.2.2 u1.2.1 u2.2.1 u2.2.2.1 u2.2.2.2 st im va H locs hI hR2 hP hD hS

set_option maxHeartbeats 4000000 in
set_option maxRecDepth 100000 in
theorem cs_clear {p : Program} {l : Launch} {e : Env} {s : State} {m : MethodId} {below : List Frame} {meth : Method} {c : Code} {b L : Nat} {xs : Nat → Int32} {D : va_G} {yx : Nat → ClassId} {qx : Nat → Nat} {ym : Nat → ClassId} {qm : Nat → Nat} (hx : p.tables.exec = Jvm.exec) (hb : c.code = cL_law) (hml : c.maxLocals = 4) (hown : s.vm.findClass RL = some m.cls) (hts : ∀ w ∈ wsL_law, w.before #[Value.ref b] s = true) (hX : va_X b L xs s s.heap) (hbl : b < s.heap.size) (hKx : va_K D vwCl (xT yx) s) (hKm : va_K D vwCl (mTy ym) s) (hN : NW s) (hZ0 : trE (fun q : Nat => s.heap.size ≤ q) s) (hL : L ≤ 3072) (i : Nat) (hi : i + 6 ≤ L) (n t r : Nat) (C : Nat → CT) (w : Nat → Int32) (rt : Int32) (tr : Int64) (ah : Nat → Int32) (mx : MT) (g h : Nat → Int32) (ct : Int32) (no sa to st im va : Nat → Int32) (H : Heap) (locs : List Loc) (hI : INV n t C) (hR : NS r no sa to g h ct) (hP : va_P D vwCl ((xW yx qx (nI n) (nI t) rt tr C ah w mx (nI r) ct g h) ++ (mWC ym qm (nI t) (nI n) C w rt (nI r) no sa to tr st im va)) H) (hD : va_D (fun q : Nat => s.heap.size ≤ q) ((xW yx qx (nI n) (nI t) rt tr C ah w mx (nI r) ct g h) ++ (mWC ym qm (nI t) (nI n) C w rt (nI r) no sa to tr st im va))) (hS : va_S (fun q : Nat => s.heap.size ≤ q) s.heap H locs) (ls : Array Slot) (hl : lv_has ls 4 [(0, .ref b), (1, .ref (qx 0)), (2, .ref (qm 0)), (3, .int (nI i))]) (K : ∀ (n t r : Nat) (C : Nat → CT) (w : Nat → Int32) (rt : Int32) (tr : Int64) (ah : Nat → Int32) (mx : MT) (g h : Nat → Int32) (ct : Int32) (no sa to st im va : Nat → Int32) (H : Heap) (locs : List Loc), INV n t C → NS r no sa to g h ct → va_P D vwCl ((xW yx qx (nI n) (nI t) rt tr C ah w mx (nI r) ct g h) ++ (mWC ym qm (nI t) (nI n) C w rt (nI r) no sa to tr st im va)) H → va_D (fun q : Nat => s.heap.size ≤ q) ((xW yx qx (nI n) (nI t) rt tr C ah w mx (nI r) ct g h) ++ (mWC ym qm (nI t) (nI n) C w rt (nI r) no sa to tr st im va)) → va_S (fun q : Nat => s.heap.size ≤ q) s.heap H locs → W p l e room_1 s m #[Value.ref b] below meth c H locs 37 439 (lw_Z below #[Value.ref b] s) (F0 m 777 ls [])) : W p l e room_1 s m #[Value.ref b] below meth c H locs 37 439 (lw_Z below #[Value.ref b] s) (F0 m 671 ls []) := by
  have hn := hI.1
  have ht := hI.2.1
  have hr30 := hR.1
  have hA : ∀ q : Nat, s.heap.size ≤ q → (fun q : Nat => s.heap.size ≤ q) q := fun _ h9 => h9
  have hbA : ¬ (fun q : Nat => s.heap.size ≤ q) b := Nat.not_le.mpr hbl
  have F : CallFix p m c cL_law 4 s #[Value.ref b] wsL_law RL := ⟨hx, hb, hml, hown, hts⟩
  refine lv_aload_n hx hb dL_law_671 rfl (lv_at hl 1 rfl) ?_
  refine lx_i (Y := (xW yx qx (nI n) (nI t) rt tr C ah w mx (nI r) ct g h)) (Z := (mWC ym qm (nI t) (nI n) C w rt (nI r) no sa to tr st im va)) (va_runV (As := []) (rest := []) F (kX4_clear l D yx qx n (nI t) rt tr C ah w mx (nI r) ct g h  _ ) (cwV 0 hts gL_law_X4_clear rfl rfl rfl ⟨rfl, hdX4_clear⟩ ⟨(Nat.le_of_ble_eq_true rfl), (Nat.le_of_ble_eq_true rfl)⟩) ⟨(muB_blind (fun _ _ _ _ _ => trivial)), va_recv hKx (P_l hP) (ci := 4) (q0 := 0) rfl rfl, lx_pre (Y := (xW yx qx (nI n) (nI t) rt tr C ah w mx (nI r) ct g h)) (Z := (mWC ym qm (nI t) (nI n) C w rt (nI r) no sa to tr st im va)) hP hKx hN hD (fun _ _ _ => trivial)⟩ rfl rfl hl.1 rfl (lv_room (Nat.le_of_ble_eq_true rfl)) dL_law_672 ⟨(Nat.le_of_ble_eq_true rfl), (Nat.le_of_ble_eq_true rfl)⟩) hP hD hS hA (fun r1 u1 H locs w1 hP hD hS => ?_)
  have hP : va_P D vwCl ((xW yx qx (nI n) (nI t) rt tr C ah w mx 0 (-9) (rG g 16) (rH h 16)) ++ (mWC ym qm (nI t) (nI n) C w rt (nI r) no sa to tr st im va)) H := hP
  have hD : va_D (fun q : Nat => s.heap.size ≤ q) ((xW yx qx (nI n) (nI t) rt tr C ah w mx 0 (-9) (rG g 16) (rH h 16)) ++ (mWC ym qm (nI t) (nI n) C w rt (nI r) no sa to tr st im va)) := hD
  refine lv_aload_n hx hb dL_law_675 rfl (lv_at hl 2 rfl) ?_
  refine lm_i (X := (xW yx qx (nI n) (nI t) rt tr C ah w mx 0 (-9) (rG g 16) (rH h 16))) (Y := (mWC ym qm (nI t) (nI n) C w rt (nI r) no sa to tr st im va)) (va_runV (As := []) (rest := [.int r1]) F (kX5_clear l D ym qm t n C w rt r no sa to tr st im va  _ ) (cwV 0 hts gL_law_X5_clear rfl rfl rfl ⟨rfl, hdX5_clear⟩ ⟨(Nat.le_of_ble_eq_true rfl), (Nat.le_of_ble_eq_true rfl)⟩) ⟨(muB_blind (fun _ _ _ _ _ => trivial)), va_recv hKm (P_r hP) (ci := 5) (q0 := 0) rfl rfl, lm_pre (X := (xW yx qx (nI n) (nI t) rt tr C ah w mx 0 (-9) (rG g 16) (rH h 16))) (Y := (mWC ym qm (nI t) (nI n) C w rt (nI r) no sa to tr st im va)) hP hKm hN hD (fun _ _ _ => trivial)⟩ rfl rfl hl.1 rfl (lv_room (Nat.le_of_ble_eq_true rfl)) dL_law_676 ⟨(Nat.le_of_ble_eq_true rfl), (Nat.le_of_ble_eq_true rfl)⟩) hP hD hS hA (fun r2 u2 H locs w2 hP hD hS => ?_)
  have hP : va_P D vwCl ((xW yx qx (nI n) (nI t) rt tr C ah w mx 0 (-9) (rG g 16) (rH h 16)) ++ (mWC ym qm (nI t) (nI n) C w rt 0 no sa to tr st im va)) H := hP
  have hD : va_D (fun q : Nat => s.heap.size ≤ q) ((xW yx qx (nI n) (nI t) rt tr C ah w mx 0 (-9) (rG g 16) (rH h 16)) ++ (mWC ym qm (nI t) (nI n) C w rt 0 no sa to tr st im va)) := hD
  refine lv_icmp_eq (tgt := 777) hx hb dL_law_679 (by decide) (fun c1 => ?_) (fun c1 => absurd (w1.trans w2.symm) c1)
  exact K n t 0 C w rt tr ah mx (rG g 16) (rH h 16) (-9) no sa to st im va H locs hI (NS_clear no sa to g h) hP hD hS

set_option maxHeartbeats 4000000 in
set_option maxRecDepth 100000 in
theorem cs_contradicts {p : Program} {l : Launch} {e : Env} {s : State} {m : MethodId} {below : List Frame} {meth : Method} {c : Code} {b L : Nat} {xs : Nat → Int32} {D : va_G} {yx : Nat → ClassId} {qx : Nat → Nat} {ym : Nat → ClassId} {qm : Nat → Nat} (hx : p.tables.exec = Jvm.exec) (hb : c.code = cL_law) (hml : c.maxLocals = 4) (hown : s.vm.findClass RL = some m.cls) (hts : ∀ w ∈ wsL_law, w.before #[Value.ref b] s = true) (hX : va_X b L xs s s.heap) (hbl : b < s.heap.size) (hKx : va_K D vwCl (xT yx) s) (hKm : va_K D vwCl (mTy ym) s) (hN : NW s) (hZ0 : trE (fun q : Nat => s.heap.size ≤ q) s) (hL : L ≤ 3072) (i : Nat) (hi : i + 6 ≤ L) (n t r : Nat) (C : Nat → CT) (w : Nat → Int32) (rt : Int32) (tr : Int64) (ah : Nat → Int32) (mx : MT) (g h : Nat → Int32) (ct : Int32) (no sa to st im va : Nat → Int32) (H : Heap) (locs : List Loc) (hI : INV n t C) (hR : NS r no sa to g h ct) (hP : va_P D vwCl ((xW yx qx (nI n) (nI t) rt tr C ah w mx (nI r) ct g h) ++ (mWC ym qm (nI t) (nI n) C w rt (nI r) no sa to tr st im va)) H) (hD : va_D (fun q : Nat => s.heap.size ≤ q) ((xW yx qx (nI n) (nI t) rt tr C ah w mx (nI r) ct g h) ++ (mWC ym qm (nI t) (nI n) C w rt (nI r) no sa to tr st im va))) (hS : va_S (fun q : Nat => s.heap.size ≤ q) s.heap H locs) (ls : Array Slot) (hl : lv_has ls 4 [(0, .ref b), (1, .ref (qx 0)), (2, .ref (qm 0)), (3, .int (nI i))]) (K : ∀ (n t r : Nat) (C : Nat → CT) (w : Nat → Int32) (rt : Int32) (tr : Int64) (ah : Nat → Int32) (mx : MT) (g h : Nat → Int32) (ct : Int32) (no sa to st im va : Nat → Int32) (H : Heap) (locs : List Loc), INV n t C → NS r no sa to g h ct → va_P D vwCl ((xW yx qx (nI n) (nI t) rt tr C ah w mx (nI r) ct g h) ++ (mWC ym qm (nI t) (nI n) C w rt (nI r) no sa to tr st im va)) H → va_D (fun q : Nat => s.heap.size ≤ q) ((xW yx qx (nI n) (nI t) rt tr C ah w mx (nI r) ct g h) ++ (mWC ym qm (nI t) (nI n) C w rt (nI r) no sa to tr st im va)) → va_S (fun q : Nat => s.heap.size ≤ q) s.heap H locs → W p l e room_1 s m #[Value.ref b] below meth c H locs 37 439 (lw_Z below #[Value.ref b] s) (F0 m 777 ls [])) : W p l e room_1 s m #[Value.ref b] below meth c H locs 37 439 (lw_Z below #[Value.ref b] s) (F0 m 684 ls []) := by
  have hn := hI.1
  have ht := hI.2.1
  have hr30 := hR.1
  have hA : ∀ q : Nat, s.heap.size ≤ q → (fun q : Nat => s.heap.size ≤ q) q := fun _ h9 => h9
  have hbA : ¬ (fun q : Nat => s.heap.size ≤ q) b := Nat.not_le.mpr hbl
  have F : CallFix p m c cL_law 4 s #[Value.ref b] wsL_law RL := ⟨hx, hb, hml, hown, hts⟩
  refine lv_aload_n hx hb dL_law_684 rfl (lv_at hl 1 rfl) ?_
  refine ro_i (va_runV (As := []) (rest := []) F (kX4_contradicts l D yx qx n (nI t) rt tr C ah w mx (nI r) ct g h  ) (cwV 0 hts gL_law_X4_contradicts rfl rfl rfl ⟨rfl, hdX4_contradicts⟩ ⟨(Nat.le_of_ble_eq_true rfl), (Nat.le_of_ble_eq_true rfl)⟩) ⟨rdB_blind, va_recv hKx (P_l hP) (ci := 4) (q0 := 0) rfl rfl, rdB_pre (P_l hP) hKx hN⟩ rfl rfl hl.1 rfl (lv_room (Nat.le_of_ble_eq_true rfl)) dL_law_685 ⟨(Nat.le_of_ble_eq_true rfl), (Nat.le_of_ble_eq_true rfl)⟩) ?_
  refine lv_aload_n hx hb dL_law_688 rfl (lv_at hl 2 rfl) ?_
  refine lm_i (X := (xW yx qx (nI n) (nI t) rt tr C ah w mx (nI r) ct g h)) (Y := (mWC ym qm (nI t) (nI n) C w rt (nI r) no sa to tr st im va)) (va_runV (As := []) (rest := [.int (ct)]) F (kX5_contradicts l D ym qm t n C w rt r no sa to tr st im va  _ g h ct hR) (cwV 0 hts gL_law_X5_contradicts rfl rfl rfl ⟨rfl, hdX5_contradicts⟩ ⟨(Nat.le_of_ble_eq_true rfl), (Nat.le_of_ble_eq_true rfl)⟩) ⟨(muB_blind (fun _ _ _ _ _ => trivial)), va_recv hKm (P_r hP) (ci := 5) (q0 := 0) rfl rfl, lm_pre (X := (xW yx qx (nI n) (nI t) rt tr C ah w mx (nI r) ct g h)) (Y := (mWC ym qm (nI t) (nI n) C w rt (nI r) no sa to tr st im va)) hP hKm hN hD (fun _ _ _ => trivial)⟩ rfl rfl hl.1 rfl (lv_room (Nat.le_of_ble_eq_true rfl)) dL_law_689 ⟨(Nat.le_of_ble_eq_true rfl), (Nat.le_of_ble_eq_true rfl)⟩) hP hD hS hA (fun r2 u2 H locs w2 hP hD hS => ?_)
  have hP : va_P D vwCl ((xW yx qx (nI n) (nI t) rt tr C ah w mx (nI r) ct g h) ++ (mWC ym qm (nI t) (nI n) C w rt (nI r) no sa to tr st u2.1 u2.2)) H := hP
  have hD : va_D (fun q : Nat => s.heap.size ≤ q) ((xW yx qx (nI n) (nI t) rt tr C ah w mx (nI r) ct g h) ++ (mWC ym qm (nI t) (nI n) C w rt (nI r) no sa to tr st u2.1 u2.2)) := hD
  refine lv_icmp_eq (tgt := 777) hx hb dL_law_692 (by decide) (fun c1 => ?_) (fun c1 => absurd w2.symm c1)
  exact K n t r C w rt tr ah mx g h ct no sa to st u2.1 u2.2 H locs hI hR hP hD hS

set_option maxHeartbeats 4000000 in
set_option maxRecDepth 100000 in
theorem cs_hang {p : Program} {l : Launch} {e : Env} {s : State} {m : MethodId} {below : List Frame} {meth : Method} {c : Code} {b L : Nat} {xs : Nat → Int32} {D : va_G} {yx : Nat → ClassId} {qx : Nat → Nat} {ym : Nat → ClassId} {qm : Nat → Nat} (hx : p.tables.exec = Jvm.exec) (hb : c.code = cL_law) (hml : c.maxLocals = 4) (hown : s.vm.findClass RL = some m.cls) (hts : ∀ w ∈ wsL_law, w.before #[Value.ref b] s = true) (hX : va_X b L xs s s.heap) (hbl : b < s.heap.size) (hKx : va_K D vwCl (xT yx) s) (hKm : va_K D vwCl (mTy ym) s) (hN : NW s) (hZ0 : trE (fun q : Nat => s.heap.size ≤ q) s) (hL : L ≤ 3072) (i : Nat) (hi : i + 6 ≤ L) (n t r : Nat) (C : Nat → CT) (w : Nat → Int32) (rt : Int32) (tr : Int64) (ah : Nat → Int32) (mx : MT) (g h : Nat → Int32) (ct : Int32) (no sa to st im va : Nat → Int32) (H : Heap) (locs : List Loc) (hI : INV n t C) (hR : NS r no sa to g h ct) (hP : va_P D vwCl ((xW yx qx (nI n) (nI t) rt tr C ah w mx (nI r) ct g h) ++ (mWC ym qm (nI t) (nI n) C w rt (nI r) no sa to tr st im va)) H) (hD : va_D (fun q : Nat => s.heap.size ≤ q) ((xW yx qx (nI n) (nI t) rt tr C ah w mx (nI r) ct g h) ++ (mWC ym qm (nI t) (nI n) C w rt (nI r) no sa to tr st im va))) (hS : va_S (fun q : Nat => s.heap.size ≤ q) s.heap H locs) (ls : Array Slot) (hl : lv_has ls 4 [(0, .ref b), (1, .ref (qx 0)), (2, .ref (qm 0)), (3, .int (nI i))]) (K : ∀ (n t r : Nat) (C : Nat → CT) (w : Nat → Int32) (rt : Int32) (tr : Int64) (ah : Nat → Int32) (mx : MT) (g h : Nat → Int32) (ct : Int32) (no sa to st im va : Nat → Int32) (H : Heap) (locs : List Loc), INV n t C → NS r no sa to g h ct → va_P D vwCl ((xW yx qx (nI n) (nI t) rt tr C ah w mx (nI r) ct g h) ++ (mWC ym qm (nI t) (nI n) C w rt (nI r) no sa to tr st im va)) H → va_D (fun q : Nat => s.heap.size ≤ q) ((xW yx qx (nI n) (nI t) rt tr C ah w mx (nI r) ct g h) ++ (mWC ym qm (nI t) (nI n) C w rt (nI r) no sa to tr st im va)) → va_S (fun q : Nat => s.heap.size ≤ q) s.heap H locs → W p l e room_1 s m #[Value.ref b] below meth c H locs 37 439 (lw_Z below #[Value.ref b] s) (F0 m 777 ls [])) : W p l e room_1 s m #[Value.ref b] below meth c H locs 37 439 (lw_Z below #[Value.ref b] s) (F0 m 697 ls []) := by
  have hn := hI.1
  have ht := hI.2.1
  have hr30 := hR.1
  have hA : ∀ q : Nat, s.heap.size ≤ q → (fun q : Nat => s.heap.size ≤ q) q := fun _ h9 => h9
  have hbA : ¬ (fun q : Nat => s.heap.size ≤ q) b := Nat.not_le.mpr hbl
  have F : CallFix p m c cL_law 4 s #[Value.ref b] wsL_law RL := ⟨hx, hb, hml, hown, hts⟩
  refine lv_aload_n hx hb dL_law_697 rfl (lv_at hl 1 rfl) ?_
  refine lv_aload_n hx hb dL_law_698 rfl (lv_at hl 0 rfl) ?_
  refine lv_iload_n hx hb dL_law_699 rfl (lv_at hl 3 rfl) ?_
  refine lv_iconst (v := 1) hx hb dL_law_700 (by decide) ?_
  refine lv_iadd hx hb dL_law_701 ?_
  refine wa_sld hx hb hX hbl hbA hS (i + 1) (nI_add i 1) (by omega) hL dL_law_702 ?_
  refine lv_aload_n hx hb dL_law_703 rfl (lv_at hl 0 rfl) ?_
  refine lv_iload_n hx hb dL_law_704 rfl (lv_at hl 3 rfl) ?_
  refine lv_iconst (v := 2) hx hb dL_law_705 (by decide) ?_
  refine lv_iadd hx hb dL_law_706 ?_
  refine wa_sld hx hb hX hbl hbA hS (i + 2) (nI_add i 2) (by omega) hL dL_law_707 ?_
  refine lv_aload_n hx hb dL_law_708 rfl (lv_at hl 0 rfl) ?_
  refine lv_iload_n hx hb dL_law_709 rfl (lv_at hl 3 rfl) ?_
  refine lv_iconst (v := 3) hx hb dL_law_710 (by decide) ?_
  refine lv_iadd hx hb dL_law_711 ?_
  refine wa_sld hx hb hX hbl hbA hS (i + 3) (nI_add i 3) (by omega) hL dL_law_712 ?_
  refine ro_i (va_runV (As := [.int (xs (i + 1)), .int (xs (i + 2)), .int (xs (i + 3))]) (rest := []) F (kX4_hang l D yx qx n (nI t) rt tr C ah w mx (nI r) ct g h (xs (i + 1)) (xs (i + 2)) (xs (i + 3)) ) (cwV 3 hts gL_law_X4_hang rfl rfl rfl ⟨rfl, hdX4_hang⟩ ⟨(Nat.le_of_ble_eq_true rfl), (Nat.le_of_ble_eq_true rfl)⟩) ⟨rdB_blind, va_recv hKx (P_l hP) (ci := 4) (q0 := 0) rfl rfl, rdB_pre (P_l hP) hKx hN⟩ rfl rfl hl.1 rfl (lv_room (Nat.le_of_ble_eq_true rfl)) dL_law_713 ⟨(Nat.le_of_ble_eq_true rfl), (Nat.le_of_ble_eq_true rfl)⟩) ?_
  refine lv_aload_n hx hb dL_law_716 rfl (lv_at hl 2 rfl) ?_
  refine lv_aload_n hx hb dL_law_717 rfl (lv_at hl 0 rfl) ?_
  refine lv_iload_n hx hb dL_law_718 rfl (lv_at hl 3 rfl) ?_
  refine lv_iconst (v := 1) hx hb dL_law_719 (by decide) ?_
  refine lv_iadd hx hb dL_law_720 ?_
  refine wa_sld hx hb hX hbl hbA hS (i + 1) (nI_add i 1) (by omega) hL dL_law_721 ?_
  refine lv_aload_n hx hb dL_law_722 rfl (lv_at hl 0 rfl) ?_
  refine lv_iload_n hx hb dL_law_723 rfl (lv_at hl 3 rfl) ?_
  refine lv_iconst (v := 2) hx hb dL_law_724 (by decide) ?_
  refine lv_iadd hx hb dL_law_725 ?_
  refine wa_sld hx hb hX hbl hbA hS (i + 2) (nI_add i 2) (by omega) hL dL_law_726 ?_
  refine lv_aload_n hx hb dL_law_727 rfl (lv_at hl 0 rfl) ?_
  refine lv_iload_n hx hb dL_law_728 rfl (lv_at hl 3 rfl) ?_
  refine lv_iconst (v := 3) hx hb dL_law_729 (by decide) ?_
  refine lv_iadd hx hb dL_law_730 ?_
  refine wa_sld hx hb hX hbl hbA hS (i + 3) (nI_add i 3) (by omega) hL dL_law_731 ?_
  refine lm_i (X := (xW yx qx (nI n) (nI t) rt tr C ah w mx (nI r) ct g h)) (Y := (mWC ym qm (nI t) (nI n) C w rt (nI r) no sa to tr st im va)) (va_runV (As := [.int (xs (i + 1)), .int (xs (i + 2)), .int (xs (i + 3))]) (rest := [.int (hangX g h (xs (i + 1)) (xs (i + 2)) (xs (i + 3)))]) F (kX5_hang l D ym qm t n C w rt r no sa to tr st im va (xs (i + 1)) (xs (i + 2)) (xs (i + 3)) _ g h ct hR) (cwV 3 hts gL_law_X5_hang rfl rfl rfl ⟨rfl, hdX5_hang⟩ ⟨(Nat.le_of_ble_eq_true rfl), (Nat.le_of_ble_eq_true rfl)⟩) ⟨(muB_blind (fun _ _ _ _ _ => trivial)), va_recv hKm (P_r hP) (ci := 5) (q0 := 0) rfl rfl, lm_pre (X := (xW yx qx (nI n) (nI t) rt tr C ah w mx (nI r) ct g h)) (Y := (mWC ym qm (nI t) (nI n) C w rt (nI r) no sa to tr st im va)) hP hKm hN hD (fun _ _ _ => trivial)⟩ rfl rfl hl.1 rfl (lv_room (Nat.le_of_ble_eq_true rfl)) dL_law_732 ⟨(Nat.le_of_ble_eq_true rfl), (Nat.le_of_ble_eq_true rfl)⟩) hP hD hS hA (fun r2 u2 H locs w2 hP hD hS => ?_)
  have hP : va_P D vwCl ((xW yx qx (nI n) (nI t) rt tr C ah w mx (nI r) ct g h) ++ (mWC ym qm (nI t) (nI n) C w rt (nI r) no sa to tr st u2.1 u2.2)) H := hP
  have hD : va_D (fun q : Nat => s.heap.size ≤ q) ((xW yx qx (nI n) (nI t) rt tr C ah w mx (nI r) ct g h) ++ (mWC ym qm (nI t) (nI n) C w rt (nI r) no sa to tr st u2.1 u2.2)) := hD
  refine lv_icmp_eq (tgt := 777) hx hb dL_law_735 (by decide) (fun c1 => ?_) (fun c1 => absurd w2.symm c1)
  exact K n t r C w rt tr ah mx g h ct no sa to st u2.1 u2.2 H locs hI hR hP hD hS

set_option maxHeartbeats 4000000 in
set_option maxRecDepth 100000 in
theorem cs_count {p : Program} {l : Launch} {e : Env} {s : State} {m : MethodId} {below : List Frame} {meth : Method} {c : Code} {b L : Nat} {xs : Nat → Int32} {D : va_G} {yx : Nat → ClassId} {qx : Nat → Nat} {ym : Nat → ClassId} {qm : Nat → Nat} (hx : p.tables.exec = Jvm.exec) (hb : c.code = cL_law) (hml : c.maxLocals = 4) (hown : s.vm.findClass RL = some m.cls) (hts : ∀ w ∈ wsL_law, w.before #[Value.ref b] s = true) (hX : va_X b L xs s s.heap) (hbl : b < s.heap.size) (hKx : va_K D vwCl (xT yx) s) (hKm : va_K D vwCl (mTy ym) s) (hN : NW s) (hZ0 : trE (fun q : Nat => s.heap.size ≤ q) s) (hL : L ≤ 3072) (i : Nat) (hi : i + 6 ≤ L) (n t r : Nat) (C : Nat → CT) (w : Nat → Int32) (rt : Int32) (tr : Int64) (ah : Nat → Int32) (mx : MT) (g h : Nat → Int32) (ct : Int32) (no sa to st im va : Nat → Int32) (H : Heap) (locs : List Loc) (hI : INV n t C) (hR : NS r no sa to g h ct) (hP : va_P D vwCl ((xW yx qx (nI n) (nI t) rt tr C ah w mx (nI r) ct g h) ++ (mWC ym qm (nI t) (nI n) C w rt (nI r) no sa to tr st im va)) H) (hD : va_D (fun q : Nat => s.heap.size ≤ q) ((xW yx qx (nI n) (nI t) rt tr C ah w mx (nI r) ct g h) ++ (mWC ym qm (nI t) (nI n) C w rt (nI r) no sa to tr st im va))) (hS : va_S (fun q : Nat => s.heap.size ≤ q) s.heap H locs) (ls : Array Slot) (hl : lv_has ls 4 [(0, .ref b), (1, .ref (qx 0)), (2, .ref (qm 0)), (3, .int (nI i))]) (K : ∀ (n t r : Nat) (C : Nat → CT) (w : Nat → Int32) (rt : Int32) (tr : Int64) (ah : Nat → Int32) (mx : MT) (g h : Nat → Int32) (ct : Int32) (no sa to st im va : Nat → Int32) (H : Heap) (locs : List Loc), INV n t C → NS r no sa to g h ct → va_P D vwCl ((xW yx qx (nI n) (nI t) rt tr C ah w mx (nI r) ct g h) ++ (mWC ym qm (nI t) (nI n) C w rt (nI r) no sa to tr st im va)) H → va_D (fun q : Nat => s.heap.size ≤ q) ((xW yx qx (nI n) (nI t) rt tr C ah w mx (nI r) ct g h) ++ (mWC ym qm (nI t) (nI n) C w rt (nI r) no sa to tr st im va)) → va_S (fun q : Nat => s.heap.size ≤ q) s.heap H locs → W p l e room_1 s m #[Value.ref b] below meth c H locs 37 439 (lw_Z below #[Value.ref b] s) (F0 m 777 ls [])) : W p l e room_1 s m #[Value.ref b] below meth c H locs 37 439 (lw_Z below #[Value.ref b] s) (F0 m 740 ls []) := by
  have hn := hI.1
  have ht := hI.2.1
  have hr30 := hR.1
  have hA : ∀ q : Nat, s.heap.size ≤ q → (fun q : Nat => s.heap.size ≤ q) q := fun _ h9 => h9
  have hbA : ¬ (fun q : Nat => s.heap.size ≤ q) b := Nat.not_le.mpr hbl
  have F : CallFix p m c cL_law 4 s #[Value.ref b] wsL_law RL := ⟨hx, hb, hml, hown, hts⟩
  refine lv_aload_n hx hb dL_law_740 rfl (lv_at hl 1 rfl) ?_
  refine lv_aload_n hx hb dL_law_741 rfl (lv_at hl 0 rfl) ?_
  refine lv_iload_n hx hb dL_law_742 rfl (lv_at hl 3 rfl) ?_
  refine lv_iconst (v := 1) hx hb dL_law_743 (by decide) ?_
  refine lv_iadd hx hb dL_law_744 ?_
  refine wa_sld hx hb hX hbl hbA hS (i + 1) (nI_add i 1) (by omega) hL dL_law_745 ?_
  refine ro_i (va_runV (As := [.int (xs (i + 1))]) (rest := []) F (kX4_count l D yx qx n (nI t) rt tr C ah w mx (nI r) ct g h (xs (i + 1)) hn) (cwV 1 hts gL_law_X4_count rfl rfl rfl ⟨rfl, hdX4_count⟩ ⟨(Nat.le_of_ble_eq_true rfl), (Nat.le_of_ble_eq_true rfl)⟩) ⟨rdB_blind, va_recv hKx (P_l hP) (ci := 4) (q0 := 0) rfl rfl, rdB_pre (P_l hP) hKx hN⟩ rfl rfl hl.1 rfl (lv_room (Nat.le_of_ble_eq_true rfl)) dL_law_746 ⟨(Nat.le_of_ble_eq_true rfl), (Nat.le_of_ble_eq_true rfl)⟩) ?_
  refine lv_aload_n hx hb dL_law_749 rfl (lv_at hl 2 rfl) ?_
  refine lv_aload_n hx hb dL_law_750 rfl (lv_at hl 0 rfl) ?_
  refine lv_iload_n hx hb dL_law_751 rfl (lv_at hl 3 rfl) ?_
  refine lv_iconst (v := 1) hx hb dL_law_752 (by decide) ?_
  refine lv_iadd hx hb dL_law_753 ?_
  refine wa_sld hx hb hX hbl hbA hS (i + 1) (nI_add i 1) (by omega) hL dL_law_754 ?_
  refine ro_i (va_runV (As := [.int (xs (i + 1))]) (rest := [.int (countF n (nI t) (nI r) rt C (xs (i + 1)))]) F (kX5_count l D ym qm t n C w rt r no sa to tr st im va (xs (i + 1)) hn) (cwV 1 hts gL_law_X5_count rfl rfl rfl ⟨rfl, hdX5_count⟩ ⟨(Nat.le_of_ble_eq_true rfl), (Nat.le_of_ble_eq_true rfl)⟩) ⟨rdB_blind, va_recv hKm (P_r hP) (ci := 5) (q0 := 0) rfl rfl, rdB_pre (P_r hP) hKm hN⟩ rfl rfl hl.1 rfl (lv_room (Nat.le_of_ble_eq_true rfl)) dL_law_755 ⟨(Nat.le_of_ble_eq_true rfl), (Nat.le_of_ble_eq_true rfl)⟩) ?_
  refine lv_icmp_eq (tgt := 777) hx hb dL_law_758 (by decide) (fun c1 => ?_) (fun c1 => absurd rfl c1)
  exact K n t r C w rt tr ah mx g h ct no sa to st im va H locs hI hR hP hD hS

set_option maxHeartbeats 4000000 in
set_option maxRecDepth 100000 in
theorem cs_trace {p : Program} {l : Launch} {e : Env} {s : State} {m : MethodId} {below : List Frame} {meth : Method} {c : Code} {b L : Nat} {xs : Nat → Int32} {D : va_G} {yx : Nat → ClassId} {qx : Nat → Nat} {ym : Nat → ClassId} {qm : Nat → Nat} (hx : p.tables.exec = Jvm.exec) (hb : c.code = cL_law) (hml : c.maxLocals = 4) (hown : s.vm.findClass RL = some m.cls) (hts : ∀ w ∈ wsL_law, w.before #[Value.ref b] s = true) (hX : va_X b L xs s s.heap) (hbl : b < s.heap.size) (hKx : va_K D vwCl (xT yx) s) (hKm : va_K D vwCl (mTy ym) s) (hN : NW s) (hZ0 : trE (fun q : Nat => s.heap.size ≤ q) s) (hL : L ≤ 3072) (i : Nat) (hi : i + 6 ≤ L) (n t r : Nat) (C : Nat → CT) (w : Nat → Int32) (rt : Int32) (tr : Int64) (ah : Nat → Int32) (mx : MT) (g h : Nat → Int32) (ct : Int32) (no sa to st im va : Nat → Int32) (H : Heap) (locs : List Loc) (hI : INV n t C) (hR : NS r no sa to g h ct) (hP : va_P D vwCl ((xW yx qx (nI n) (nI t) rt tr C ah w mx (nI r) ct g h) ++ (mWC ym qm (nI t) (nI n) C w rt (nI r) no sa to tr st im va)) H) (hD : va_D (fun q : Nat => s.heap.size ≤ q) ((xW yx qx (nI n) (nI t) rt tr C ah w mx (nI r) ct g h) ++ (mWC ym qm (nI t) (nI n) C w rt (nI r) no sa to tr st im va))) (hS : va_S (fun q : Nat => s.heap.size ≤ q) s.heap H locs) (ls : Array Slot) (hl : lv_has ls 4 [(0, .ref b), (1, .ref (qx 0)), (2, .ref (qm 0)), (3, .int (nI i))]) (K : ∀ (n t r : Nat) (C : Nat → CT) (w : Nat → Int32) (rt : Int32) (tr : Int64) (ah : Nat → Int32) (mx : MT) (g h : Nat → Int32) (ct : Int32) (no sa to st im va : Nat → Int32) (H : Heap) (locs : List Loc), INV n t C → NS r no sa to g h ct → va_P D vwCl ((xW yx qx (nI n) (nI t) rt tr C ah w mx (nI r) ct g h) ++ (mWC ym qm (nI t) (nI n) C w rt (nI r) no sa to tr st im va)) H → va_D (fun q : Nat => s.heap.size ≤ q) ((xW yx qx (nI n) (nI t) rt tr C ah w mx (nI r) ct g h) ++ (mWC ym qm (nI t) (nI n) C w rt (nI r) no sa to tr st im va)) → va_S (fun q : Nat => s.heap.size ≤ q) s.heap H locs → W p l e room_1 s m #[Value.ref b] below meth c H locs 37 439 (lw_Z below #[Value.ref b] s) (F0 m 777 ls [])) : W p l e room_1 s m #[Value.ref b] below meth c H locs 37 439 (lw_Z below #[Value.ref b] s) (F0 m 763 ls []) := by
  have hn := hI.1
  have ht := hI.2.1
  have hr30 := hR.1
  have hA : ∀ q : Nat, s.heap.size ≤ q → (fun q : Nat => s.heap.size ≤ q) q := fun _ h9 => h9
  have hbA : ¬ (fun q : Nat => s.heap.size ≤ q) b := Nat.not_le.mpr hbl
  have F : CallFix p m c cL_law 4 s #[Value.ref b] wsL_law RL := ⟨hx, hb, hml, hown, hts⟩
  refine lv_aload_n hx hb dL_law_763 rfl (lv_at hl 1 rfl) ?_
  refine ro_l (va_runV (As := []) (rest := []) F (kX4_trace l D yx qx n (nI t) rt tr C ah w mx (nI r) ct g h  ) (cwV 0 hts gL_law_X4_trace rfl rfl rfl ⟨rfl, hdX4_trace⟩ ⟨(Nat.le_of_ble_eq_true rfl), (Nat.le_of_ble_eq_true rfl)⟩) ⟨rdB_blind, va_recv hKx (P_l hP) (ci := 4) (q0 := 0) rfl rfl, rdB_pre (P_l hP) hKx hN⟩ rfl rfl hl.1 rfl (lv_room (Nat.le_of_ble_eq_true rfl)) dL_law_764 ⟨(Nat.le_of_ble_eq_true rfl), (Nat.le_of_ble_eq_true rfl)⟩) ?_
  refine lv_aload_n hx hb dL_law_767 rfl (lv_at hl 2 rfl) ?_
  refine ro_l (va_runV (As := []) (rest := [.long (tr)]) F (kX5_trace l D ym qm t n C w rt r no sa to tr st im va  ) (cwV 0 hts gL_law_X5_trace rfl rfl rfl ⟨rfl, hdX5_trace⟩ ⟨(Nat.le_of_ble_eq_true rfl), (Nat.le_of_ble_eq_true rfl)⟩) ⟨rdB_blind, va_recv hKm (P_r hP) (ci := 5) (q0 := 0) rfl rfl, rdB_pre (P_r hP) hKm hN⟩ rfl rfl hl.1 rfl (lv_room (Nat.le_of_ble_eq_true rfl)) dL_law_768 ⟨(Nat.le_of_ble_eq_true rfl), (Nat.le_of_ble_eq_true rfl)⟩) ?_
  refine W.lcmp hx hb dL_law_771 ?_
  refine lv_if_eq (tgt := 777) hx hb dL_law_772 (by decide) (fun c1 => ?_) (fun c1 => absurd (lg_self _) c1)
  exact K n t r C w rt tr ah mx g h ct no sa to st im va H locs hI hR hP hD hS
