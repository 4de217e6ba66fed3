set_option maxHeartbeats 4000000 in
set_option maxRecDepth 100000 in
theorem law_loop {p : Program} {l : Launch} {e : Env} {s : State} {m : MethodId} {below : List Frame} {meth : Method} {c : Code} {b L : Nat} {xs : Nat → Int32} {D : va_G} {yx : Nat → ClassId} {qx : Nat → Nat} {ym : Nat → ClassId} {qm : Nat → Nat} (hx : p.tables.exec = Jvm.exec) (hb : c.code = cL_law) (hml : c.maxLocals = 4) (hown : s.vm.findClass RL = some m.cls) (hts : ∀ w ∈ wsL_law, w.before #[Value.ref b] s = true) (hX : va_X b L xs s s.heap) (hbl : b < s.heap.size) (hKx : va_K D vwCl (xT yx) s) (hKm : va_K D vwCl (mTy ym) s) (hN : NW s) (hZ0 : trE (fun q : Nat => s.heap.size ≤ q) s) (hL : L ≤ 3072) (hr : meth.sig.returnType = ret) (hlocks : meth.locks = false) : ∀ (N i : Nat), i ≤ L → L + 1 ≤ i + N → ∀ (n t r : Nat) (C : Nat → CT) (w : Nat → Int32) (rt : Int32) (tr : Int64) (ah : Nat → Int32) (mx : MT) (g h : Nat → Int32) (ct : Int32) (no sa to st im va : Nat → Int32) (H : Heap) (locs : List Loc), INV n t C → NS r no sa to g h ct → va_P D vwCl ((xW yx qx (nI n) (nI t) rt tr C ah w mx (nI r) ct g h) ++ (mWC ym qm (nI t) (nI n) C w rt (nI r) no sa to tr st im va)) H → va_D (fun q : Nat => s.heap.size ≤ q) ((xW yx qx (nI n) (nI t) rt tr C ah w mx (nI r) ct g h) ++ (mWC ym qm (nI t) (nI n) C w rt (nI r) no sa to tr st im va)) → va_S (fun q : Nat => s.heap.size ≤ q) s.heap H locs → ∀ (ls : Array Slot), lv_has ls 4 [(0, .ref b), (1, .ref (qx 0)), (2, .ref (qm 0)), (3, .int (nI i))] → W p l e room_1 s m #[Value.ref b] below meth c H locs 37 439 (lw_Z below #[Value.ref b] s) (F0 m 18 ls []) := by
  intro N
  induction N with
  | zero =>
    intro i h1 h2
    exact absurd h2 (by omega)
  | succ N ih =>
    intro i hiL hfu n t r C w rt tr ah mx g h ct no sa to st im va H locs hI hR hP hD hS ls hl
    have hbA : ¬ (fun q : Nat => s.heap.size ≤ q) b := Nat.not_le.mpr hbl
    refine lv_iload_n hx hb dL_law_18 rfl (lv_at hl 3 rfl) ?_
    refine lv_aload_n hx hb dL_law_19 rfl (lv_at hl 0 rfl) ?_
    refine va_slen hx hb hX hbl hbA hS dL_law_20 ?_
    refine lv_bipush (v := 6) hx hb dL_law_21 (by decide) ?_
    refine lv_isub hx hb dL_law_23 ?_
    have hti : (Int32.ofNat L - 6).toInt = (L : Int) - 6 := pk_sub_toInt (a := L) (b := 6) (by omega) (by omega)
    have hii : (nI i).toInt = (i : Int) := nI_toInt (by omega)
    refine lv_icmp_gt (tgt := 783) hx hb dL_law_24 (by decide) (fun c1 => ?_) (fun c1 => ?_)
    · refine lv_iconst (v := 1) hx hb dL_law_783 (by decide) ?_
      refine va_forget (fun q hq => hS.2.2 q hq) ?_
      refine W.widen (k := 600000) (n := 7302249) (by omega) (by omega) ?_
      exact lw_ret hx hb hr hlocks dL_law_784
    · rw [Int32.lt_iff_toInt_lt, hti, hii] at c1
      have hi : i + 6 ≤ L := by omega
      have hk : ∀ (n t r : Nat) (C : Nat → CT) (w : Nat → Int32) (rt : Int32) (tr : Int64) (ah : Nat → Int32) (mx : MT) (g h : Nat → Int32) (ct : Int32) (no sa to st im va : Nat → Int32) (H : Heap) (locs : List Loc), INV n t C → NS r no sa to g h ct → va_P D vwCl ((xW yx qx (nI n) (nI t) rt tr C ah w mx (nI r) ct g h) ++ (mWC ym qm (nI t) (nI n) C w rt (nI r) no sa to tr st im va)) H → va_D (fun q : Nat => s.heap.size ≤ q) ((xW yx qx (nI n) (nI t) rt tr C ah w mx (nI r) ct g h) ++ (mWC ym qm (nI t) (nI n) C w rt (nI r) no sa to tr st im va)) → va_S (fun q : Nat => s.heap.size ≤ q) s.heap H locs → W p l e room_1 s m #[Value.ref b] below meth c H locs 37 439 (lw_Z below #[Value.ref b] s) (F0 m 777 ls []) := by
        intro n t r C w rt tr ah mx g h ct no sa to st im va H locs hI hR hP hD hS
        refine lv_iinc (v := nI i + 6) (lv' := [(3, .int (nI i + 6)), (0, .ref b), (1, .ref (qx 0)), (2, .ref (qm 0))]) hx hb dL_law_777 hl (k := 3) rfl rfl (by decide) rfl (fun ls hl => ?_)
        refine lv_goto (tgt := 18) hx hb dL_law_780 (by decide) ?_
        exact ih (i + 6) hi (by omega) n t r C w rt tr ah mx g h ct no sa to st im va H locs hI hR hP hD hS ls (lv_sub hl [1, 2, 3, 0] (by
          show ([(0, .ref b), (1, .ref (qx 0)), (2, .ref (qm 0)), (3, .int (nI i + 6))] : List (Nat × Value)) = [(0, .ref b), (1, .ref (qx 0)), (2, .ref (qm 0)), (3, .int (nI (i + 6)))]
          rw [← nI_add]; rfl))
      refine lv_aload_n hx hb dL_law_27 rfl (lv_at hl 0 rfl) ?_
      refine lv_iload_n hx hb dL_law_28 rfl (lv_at hl 3 rfl) ?_
      refine wa_sld hx hb hX hbl hbA hS i rfl (by omega) hL dL_law_29 ?_
      refine lv_bipush (v := 31) hx hb dL_law_30 (by decide) ?_
      refine lv_iand hx hb dL_law_32 ?_
      obtain ⟨j, hj, ej⟩ := pk_andE (xs i) (m := 31) 5 (by decide)
      refine lv_cst ej ?_
      by_cases hj2 : j < 21
      · rcases (show j = 0 ∨ j = 1 ∨ j = 2 ∨ j = 3 ∨ j = 4 ∨ j = 5 ∨ j = 6 ∨ j = 7 ∨ j = 8 ∨ j = 9 ∨ j = 10 ∨ j = 11 ∨ j = 12 ∨ j = 13 ∨ j = 14 ∨ j = 15 ∨ j = 16 ∨ j = 17 ∨ j = 18 ∨ j = 19 ∨ j = 20 by omega) with rfl | rfl | rfl | rfl | rfl | rfl | rfl | rfl | rfl | rfl | rfl | rfl | rfl | rfl | rfl | rfl | rfl | rfl | rfl | rfl | rfl
        · refine lv_tableIn (off := 99) (tgt := 132) hx hb dL_law_33 (by decide) (by decide) rfl (by decide) ?_
          exact cs_lay hx hb hml hown hts hX hbl hKx hKm hN hZ0 hL i hi n t r C w rt tr ah mx g h ct no sa to st im va H locs hI hR hP hD hS ls hl hk
        · refine lv_tableIn (off := 162) (tgt := 195) hx hb dL_law_33 (by decide) (by decide) rfl (by decide) ?_
          exact cs_years hx hb hml hown hts hX hbl hKx hKm hN hZ0 hL i hi n t r C w rt tr ah mx g h ct no sa to st im va H locs hI hR hP hD hS ls hl hk
        · refine lv_tableIn (off := 185) (tgt := 218) hx hb dL_law_33 (by decide) (by decide) rfl (by decide) ?_
          exact cs_loss hx hb hml hown hts hX hbl hKx hKm hN hZ0 hL i hi n t r C w rt tr ah mx g h ct no sa to st im va H locs hI hR hP hD hS ls hl hk
        · refine lv_tableIn (off := 228) (tgt := 261) hx hb dL_law_33 (by decide) (by decide) rfl (by decide) ?_
          exact cs_about hx hb hml hown hts hX hbl hKx hKm hN hZ0 hL i hi n t r C w rt tr ah mx g h ct no sa to st im va H locs hI hR hP hD hS ls hl hk
        · refine lv_tableIn (off := 261) (tgt := 294) hx hb dL_law_33 (by decide) (by decide) rfl (by decide) ?_
          exact cs_move hx hb hml hown hts hX hbl hKx hKm hN hZ0 hL i hi n t r C w rt tr ah mx g h ct no sa to st im va H locs hI hR hP hD hS ls hl hk
        · refine lv_tableIn (off := 294) (tgt := 327) hx hb dL_law_33 (by decide) (by decide) rfl (by decide) ?_
          exact cs_draw hx hb hml hown hts hX hbl hKx hKm hN hZ0 hL i hi n t r C w rt tr ah mx g h ct no sa to st im va H locs hI hR hP hD hS ls hl hk
        · refine lv_tableIn (off := 327) (tgt := 360) hx hb dL_law_33 (by decide) (by decide) rfl (by decide) ?_
          exact cs_want hx hb hml hown hts hX hbl hKx hKm hN hZ0 hL i hi n t r C w rt tr ah mx g h ct no sa to st im va H locs hI hR hP hD hS ls hl hk
        · refine lv_tableIn (off := 360) (tgt := 393) hx hb dL_law_33 (by decide) (by decide) rfl (by decide) ?_
          exact cs_blend hx hb hml hown hts hX hbl hKx hKm hN hZ0 hL i hi n t r C w rt tr ah mx g h ct no sa to st im va H locs hI hR hP hD hS ls hl hk
        · refine lv_tableIn (off := 393) (tgt := 426) hx hb dL_law_33 (by decide) (by decide) rfl (by decide) ?_
          exact cs_best hx hb hml hown hts hX hbl hKx hKm hN hZ0 hL i hi n t r C w rt tr ah mx g h ct no sa to st im va H locs hI hR hP hD hS ls hl hk
        · refine lv_tableIn (off := 416) (tgt := 449) hx hb dL_law_33 (by decide) (by decide) rfl (by decide) ?_
          exact cs_lasts hx hb hml hown hts hX hbl hKx hKm hN hZ0 hL i hi n t r C w rt tr ah mx g h ct no sa to st im va H locs hI hR hP hD hS ls hl hk
        · refine lv_tableIn (off := 449) (tgt := 482) hx hb dL_law_33 (by decide) (by decide) rfl (by decide) ?_
          exact cs_cut hx hb hml hown hts hX hbl hKx hKm hN hZ0 hL i hi n t r C w rt tr ah mx g h ct no sa to st im va H locs hI hR hP hD hS ls hl hk
        · refine lv_tableIn (off := 482) (tgt := 515) hx hb dL_law_33 (by decide) (by decide) rfl (by decide) ?_
          exact cs_rate hx hb hml hown hts hX hbl hKx hKm hN hZ0 hL i hi n t r C w rt tr ah mx g h ct no sa to st im va H locs hI hR hP hD hS ls hl hk
        · refine lv_tableIn (off := 505) (tgt := 538) hx hb dL_law_33 (by decide) (by decide) rfl (by decide) ?_
          exact cs_duty hx hb hml hown hts hX hbl hKx hKm hN hZ0 hL i hi n t r C w rt tr ah mx g h ct no sa to st im va H locs hI hR hP hD hS ls hl hk
        · refine lv_tableIn (off := 528) (tgt := 561) hx hb dL_law_33 (by decide) (by decide) rfl (by decide) ?_
          exact cs_odds hx hb hml hown hts hX hbl hKx hKm hN hZ0 hL i hi n t r C w rt tr ah mx g h ct no sa to st im va H locs hI hR hP hD hS ls hl hk
        · refine lv_tableIn (off := 562) (tgt := 595) hx hb dL_law_33 (by decide) (by decide) rfl (by decide) ?_
          exact cs_apart hx hb hml hown hts hX hbl hKx hKm hN hZ0 hL i hi n t r C w rt tr ah mx g h ct no sa to st im va H locs hI hR hP hD hS ls hl hk
        · refine lv_tableIn (off := 595) (tgt := 628) hx hb dL_law_33 (by decide) (by decide) rfl (by decide) ?_
          exact cs_read hx hb hml hown hts hX hbl hKx hKm hN hZ0 hL i hi n t r C w rt tr ah mx g h ct no sa to st im va H locs hI hR hP hD hS ls hl hk
        · refine lv_tableIn (off := 638) (tgt := 671) hx hb dL_law_33 (by decide) (by decide) rfl (by decide) ?_
          exact cs_clear hx hb hml hown hts hX hbl hKx hKm hN hZ0 hL i hi n t r C w rt tr ah mx g h ct no sa to st im va H locs hI hR hP hD hS ls hl hk
        · refine lv_tableIn (off := 651) (tgt := 684) hx hb dL_law_33 (by decide) (by decide) rfl (by decide) ?_
          exact cs_contradicts hx hb hml hown hts hX hbl hKx hKm hN hZ0 hL i hi n t r C w rt tr ah mx g h ct no sa to st im va H locs hI hR hP hD hS ls hl hk
        · refine lv_tableIn (off := 664) (tgt := 697) hx hb dL_law_33 (by decide) (by decide) rfl (by decide) ?_
          exact cs_hang hx hb hml hown hts hX hbl hKx hKm hN hZ0 hL i hi n t r C w rt tr ah mx g h ct no sa to st im va H locs hI hR hP hD hS ls hl hk
        · refine lv_tableIn (off := 707) (tgt := 740) hx hb dL_law_33 (by decide) (by decide) rfl (by decide) ?_
          exact cs_count hx hb hml hown hts hX hbl hKx hKm hN hZ0 hL i hi n t r C w rt tr ah mx g h ct no sa to st im va H locs hI hR hP hD hS ls hl hk
        · refine lv_tableIn (off := 730) (tgt := 763) hx hb dL_law_33 (by decide) (by decide) rfl (by decide) ?_
          exact cs_trace hx hb hml hown hts hX hbl hKx hKm hN hZ0 hL i hi n t r C w rt tr ah mx g h ct no sa to st im va H locs hI hR hP hD hS ls hl hk
      · refine lv_tableOut (tgt := 777) hx hb dL_law_33 (Or.inr (by rw [nI_toInt (by omega)]; omega)) (by decide) ?_
        exact hk n t r C w rt tr ah mx g h ct no sa to st im va H locs hI hR hP hD hS
