set_option maxHeartbeats 4000000 in
set_option maxRecDepth 100000 in
theorem kX5_lead (l : Launch) (D : va_G) (y : Nat → ClassId) (q : Nat → Nat) (t n : Nat) (C : Nat → CT) (w : Nat → Int32) (rt : Int32) (r0 : Nat) (no sa to : Nat → Int32) (tr : Int64) (st im va : Nat → Int32) (fr : Nat) (mm : Nat) (sz : Nat) (hfr : fr < 16) (hmm : mm ≤ 30) (hrd : rdOK mm no sa) : Met l yX5_lead wsX5_lead ({ frames := 0, cells := 0, slots := 0, locals := 0 }) (va_Pc [.ref (q 0), .int (nI fr), .int (nI mm)] (muB D (mTy y) (mWC y q (nI t) (nI n) C w rt (nI r0) no sa to tr st im va) sz eT)) (QV (σ := (Nat → Int32) × (Nat → Int32)) D (fun u => FLG u.1 ∧ u.1 fr = 1 ∧ SND fr mm no sa to u.1 u.2 ∧ CLO mm no sa u.1) (fun u => (mWC y q (nI t) (nI n) C w rt (nI r0) no sa to tr st u.1 u.2)) (va_A (mWC y q (nI t) (nI n) C w rt (nI r0) no sa to tr st im va) sz)) 0 0 (va_A (mWC y q (nI t) (nI n) C w rt (nI r0) no sa to tr st im va) sz) := by
  refine mu_start (Qc := QV (σ := (Nat → Int32) × (Nat → Int32)) D (fun u => FLG u.1 ∧ u.1 fr = 1 ∧ SND fr mm no sa to u.1 u.2 ∧ CLO mm no sa u.1) (fun u => (mWC y q (nI t) (nI n) C w rt (nI r0) no sa to tr st u.1 u.2))) (cc := cX5_lead) (maxL := 7) (ret := none) (by decide) rfl (Nat.le_of_ble_eq_true rfl) ?_
  intro p e s m below meth c ls A hx hb hr hml hown hlocks hts hnm hA hP hK hN hD hE hAA hsz hl
  have hS : va_S A s.heap s.heap [] := va_S.rf
  have hown : s.vm.findClass RX5 = some m.cls := hown
  have F : CallFix p m c cX5_lead 7 s [.ref (q 0), .int (nI fr), .int (nI mm)].toArray wsX5_lead RX5 := ⟨hx, hb, hml, hown, hts⟩
  have hl : lv_has ls 7 [(0, .ref (q 0)), (1, .int (nI fr)), (2, .int (nI mm))] := hl
  have iX5 : ∀ w ∈ u_ws RX5 TX5 20, w ∈ wsX5_lead := mem_pl [6, 7, 8, 9, 10, 11, 12, 13, 14, 15, 16, 17, 18, 19, 20, 21, 22, 23, 24, 25] rfl
  refine lv_iconst (v := 0) hx hb dX5_lead_0 (by decide) ?_
  refine lv_istore_n (lv' := [(3, .int 0), (0, .ref (q 0)), (1, .int (nI fr)), (2, .int (nI mm))]) hx hb dX5_lead_1 rfl hl (by decide) rfl (fun ls hl => ?_)
  refine W.lpW (pc := 2) (τ := Nat) (D := D) (A := A) (H0 := s.heap) (cl := vwCl) (fun i => i ≤ 16) (fun i => (mWC y q (nI t) (nI n) C w rt (nI r0) no sa to tr st (lM im fr i) (rH va i))) (fun i ls => lv_has ls 7 [(0, .ref (q 0)), (1, .int (nI fr)), (2, .int (nI mm)), (3, .int (nI i))]) (fun i => 16 - i) ?_ 0 ls (Nat.zero_le _) (lv_sub hl [1, 2, 3, 0] rfl) (by show va_P D vwCl (mWC y q (nI t) (nI n) C w rt (nI r0) no sa to tr st (lM im fr 0) (rH va 0)) _; rw [lM_0, rH_0]; exact hP) (by show va_D A (mWC y q (nI t) (nI n) C w rt (nI r0) no sa to tr st (lM im fr 0) (rH va 0)); rw [lM_0, rH_0]; exact hD) hS
  intro i ls H locs hi hl hP hD hS ihi
  have hi : i ≤ 16 := hi
  have hl : lv_has ls 7 [(0, .ref (q 0)), (1, .int (nI fr)), (2, .int (nI mm)), (3, .int (nI i))] := hl
  have hP : va_P D vwCl (mWC y q (nI t) (nI n) C w rt (nI r0) no sa to tr st (lM im fr i) (rH va i)) H := hP
  have hD : va_D A (mWC y q (nI t) (nI n) C w rt (nI r0) no sa to tr st (lM im fr i) (rH va i)) := hD
  refine lv_iload_n hx hb dX5_lead_2 rfl (lv_at hl 3 rfl) ?_
  refine lv_bipush (v := 16) hx hb dX5_lead_3 (by decide) ?_
  refine lv_icmp_ge (tgt := 37) hx hb dX5_lead_5 (by decide) (fun c_1 => ?_) (fun c_1 => ?_)
  · skip
    have c_1 : 16 ≤ i := (nI_leI (a := 16) (b := i) (by omega) (by omega)).mp c_1
    have hin : i = 16 := Nat.le_antisymm hi c_1
    rw [hin] at hP hD
    refine lv_iconst (v := 1) hx hb dX5_lead_37 (by decide) ?_
    refine lv_istore_n (lv' := [(3, .int 1), (0, .ref (q 0)), (1, .int (nI fr)), (2, .int (nI mm))]) hx hb dX5_lead_38 rfl hl (by decide) rfl (fun ls hl => ?_)
    refine W.lpW (pc := 39) (τ := (Nat → Int32) × (Nat → Int32) × Int32) (D := D) (A := A) (H0 := s.heap) (cl := vwCl) (fun x => FLG x.1 ∧ x.1 fr = 1 ∧ SND fr mm no sa to x.1 x.2.1 ∧ ((x.2.2 = 0 ∧ CLO mm no sa x.1) ∨ x.2.2 = 1)) (fun x => (mWC y q (nI t) (nI n) C w rt (nI r0) no sa to tr st x.1 x.2.1)) (fun x ls => lv_has ls 7 [(0, .ref (q 0)), (1, .int (nI fr)), (2, .int (nI mm)), (3, .int x.2.2)]) (fun x => 2 * (16 - cntM x.1) + (if x.2.2 = 1 then 1 else 0)) ?_ (lM im fr 16, rH va 16, 1) ls ⟨lM_flg _ _, lM_f hfr, lM_snd, Or.inr rfl⟩ (lv_sub hl [1, 2, 3, 0] rfl) hP hD hS
    intro x ls H locs hφ hl hP hD hS ih
    obtain ⟨jm, jv, mo⟩ := x
    obtain ⟨f1, f2, f3, f4⟩ := hφ
    have f1 : FLG jm := f1
    have f2 : jm fr = 1 := f2
    have f3 : SND fr mm no sa to jm jv := f3
    have f4 : (mo = 0 ∧ CLO mm no sa jm) ∨ mo = 1 := f4
    have hl : lv_has ls 7 [(0, .ref (q 0)), (1, .int (nI fr)), (2, .int (nI mm)), (3, .int mo)] := hl
    have hP : va_P D vwCl (mWC y q (nI t) (nI n) C w rt (nI r0) no sa to tr st jm jv) H := hP
    have hD : va_D A (mWC y q (nI t) (nI n) C w rt (nI r0) no sa to tr st jm jv) := hD
    refine lv_iload_n hx hb dX5_lead_39 rfl (lv_at hl 3 rfl) ?_
    refine lv_if_eq (tgt := 188) hx hb dX5_lead_40 (by decide) (fun c_2 => ?_) (fun c_2 => ?_)
    · skip
      exact mu_vret (jm, jv) hx hb hr hlocks hP hD hS dX5_lead_188 ⟨f1, f2, f3, f4.elim (fun h => h.2) (fun h => absurd (h.symm.trans c_2) (by decide))⟩
    · skip
      have hmo : mo = 1 := f4.elim (fun h => absurd h.1 c_2) id
      refine lv_iconst (v := 0) hx hb dX5_lead_43 (by decide) ?_
      refine lv_istore_n (lv' := [(3, .int 0), (0, .ref (q 0)), (1, .int (nI fr)), (2, .int (nI mm))]) hx hb dX5_lead_44 rfl hl (by decide) rfl (fun ls hl => ?_)
      refine lv_iconst (v := 0) hx hb dX5_lead_45 (by decide) ?_
      refine lv_istore (lv' := [(4, .int 0), (3, .int 0), (0, .ref (q 0)), (1, .int (nI fr)), (2, .int (nI mm))]) hx hb dX5_lead_46 hl (by decide) rfl (fun ls hl => ?_)
      refine W.lpW (pc := 48) (τ := Nat × (Nat → Int32) × (Nat → Int32) × Int32) (D := D) (A := A) (H0 := s.heap) (cl := vwCl) (fun z => z.1 ≤ mm ∧ FLG z.2.1 ∧ z.2.1 fr = 1 ∧ SND fr mm no sa to z.2.1 z.2.2.1 ∧ ((z.2.2.2 = 0 ∧ z.2.1 = jm ∧ CLO z.1 no sa z.2.1) ∨ (z.2.2.2 = 1 ∧ cntM jm < cntM z.2.1))) (fun z => (mWC y q (nI t) (nI n) C w rt (nI r0) no sa to tr st z.2.1 z.2.2.1)) (fun z ls => lv_has ls 7 [(0, .ref (q 0)), (1, .int (nI fr)), (2, .int (nI mm)), (3, .int z.2.2.2), (4, .int (nI z.1))]) (fun z => mm - z.1) ?_ (0, jm, jv, 0) ls ⟨Nat.zero_le _, f1, f2, f3, Or.inl ⟨rfl, rfl, fun i hi => absurd hi (Nat.not_lt_zero _)⟩⟩ (lv_sub hl [2, 3, 4, 1, 0] rfl) hP hD hS
      intro z ls H locs hψ hl hP hD hS ih2
      obtain ⟨r, km, kv, mp⟩ := z
      obtain ⟨g1, g2, g3, g4, g5⟩ := hψ
      have g1 : r ≤ mm := g1
      have g2 : FLG km := g2
      have g3 : km fr = 1 := g3
      have g4 : SND fr mm no sa to km kv := g4
      have g5 : (mp = 0 ∧ km = jm ∧ CLO r no sa km) ∨ (mp = 1 ∧ cntM jm < cntM km) := g5
      have hl : lv_has ls 7 [(0, .ref (q 0)), (1, .int (nI fr)), (2, .int (nI mm)), (3, .int mp), (4, .int (nI r))] := hl
      have hP : va_P D vwCl (mWC y q (nI t) (nI n) C w rt (nI r0) no sa to tr st km kv) H := hP
      have hD : va_D A (mWC y q (nI t) (nI n) C w rt (nI r0) no sa to tr st km kv) := hD
      refine lv_iload hx hb dX5_lead_48 (lv_at hl 4 rfl) ?_
      refine lv_iload_n hx hb dX5_lead_50 rfl (lv_at hl 2 rfl) ?_
      refine lv_icmp_ge (tgt := 185) hx hb dX5_lead_51 (by decide) (fun c_3 => ?_) (fun c_3 => ?_)
      · skip
        have c_3 : mm ≤ r := (nI_leI (a := mm) (b := r) (by omega) (by omega)).mp c_3
        refine lv_goto (tgt := 39) hx hb dX5_lead_185 (by decide) ?_
        exact ih (km, kv, mp) ls H locs (by show 2 * (16 - cntM km) + (if mp = 1 then 1 else 0) < 2 * (16 - cntM jm) + (if mo = 1 then 1 else 0); have hc1 := cnt_le km; rw [if_pos hmo]; rcases g5 with ⟨e1, e2, -⟩ | ⟨e1, e2⟩; (rw [e1, e2, if_neg (by decide)]; omega); (rw [e1, if_pos rfl]; omega)) ⟨g2, g3, g4, (by show (mp = 0 ∧ CLO mm no sa km) ∨ mp = 1; rcases g5 with ⟨e1, e2, e3⟩ | ⟨e1, e2⟩; (exact Or.inl ⟨e1, fun i hi => e3 i (by omega)⟩); (exact Or.inr e1))⟩ (lv_sub hl [0, 1, 2, 3] rfl) hP hD hS
      · skip
        have c_3 : ¬ mm ≤ r := fun h => c_3 ((nI_leI (a := mm) (b := r) (by omega) (by omega)).mpr h)
        have hA9 := (hrd r (by omega)).1
        have hB9 := (hrd r (by omega)).2
        have hA6 := hA9.2
        have hB6 := hB9.2
        refine lv_aload_n hx hb dX5_lead_54 rfl (lv_at hl 0 rfl) ?_
        refine va_get (D := D) (ci := 5) (v := .ref (q 10)) (C := RX5) (T := TX5) (N := 20) hx hb hts iX5 hown hK hP 0 rfl rfl 13 (by decide) (hts _ (List.mem_of_getElem? (i := 3) rfl)) (fun _ h9 => h9) rfl dX5_lead_55 ?_
        refine lv_iload hx hb dX5_lead_58 (lv_at hl 4 rfl) ?_
        refine wa_iald hx hb hK hP 10 9 rfl rfl r rfl (by omega) (by decide) dX5_lead_60 ?_
        refine lv_cst (v := nI (nt (no r))) hA9.1 ?_
        refine lv_istore (lv' := [(5, .int (nI (nt (no r)))), (0, .ref (q 0)), (1, .int (nI fr)), (2, .int (nI mm)), (3, .int mp), (4, .int (nI r))]) hx hb dX5_lead_61 hl (by decide) rfl (fun ls hl => ?_)
        refine lv_bipush (v := 6) hx hb dX5_lead_63 (by decide) ?_
        refine lv_aload_n hx hb dX5_lead_65 rfl (lv_at hl 1 rfl) ?_
        refine va_get (D := D) (ci := 5) (v := .ref (q 11)) (C := RX5) (T := TX5) (N := 20) hx hb hts iX5 hown hK hP 0 rfl rfl 14 (by decide) (hts _ (List.mem_of_getElem? (i := 4) rfl)) (fun _ h9 => h9) rfl dX5_lead_66 ?_
        refine lv_iload hx hb dX5_lead_69 (lv_at hl 5 rfl) ?_
        refine wa_iald hx hb hK hP 11 10 rfl rfl r rfl (by omega) (by decide) dX5_lead_71 ?_
        refine lv_iadd hx hb dX5_lead_72 ?_
        refine lv_cst (v := nI (6 + nt (sa r))) (by have h9 := hB9.1; generalize nt (sa r) = w9 at h9; rw [h9]; exact nI_add 6 w9) ?_
        refine lv_istore (lv' := [(6, .int (nI (6 + nt (sa r)))), (5, .int (nI (nt (no r)))), (0, .ref (q 0)), (1, .int (nI fr)), (2, .int (nI mm)), (3, .int mp), (4, .int (nI r))]) hx hb dX5_lead_73 hl (by decide) rfl (fun ls hl => ?_)
        refine lv_aload_n hx hb dX5_lead_75 rfl (lv_at hl 2 rfl) ?_
        refine va_get (D := D) (ci := 5) (v := .ref (q 14)) (C := RX5) (T := TX5) (N := 20) hx hb hts iX5 hown hK hP 0 rfl rfl 18 (by decide) (hts _ (List.mem_of_getElem? (i := 1) rfl)) (fun _ h9 => h9) rfl dX5_lead_76 ?_
        refine lv_iload hx hb dX5_lead_79 (lv_at hl 1 rfl) ?_
        refine wa_zald hx hb hK hP 14 13 rfl rfl (nt (no r)) rfl (by omega) (by decide) dX5_lead_81 ?_
        refine lv_if_eq (tgt := 127) hx hb dX5_lead_82 (by decide) (fun c_4 => ?_) (fun c_4 => ?_)
        · skip
          refine lv_aload_n hx hb dX5_lead_127 rfl (lv_at hl 2 rfl) ?_
          refine va_get (D := D) (ci := 5) (v := .ref (q 14)) (C := RX5) (T := TX5) (N := 20) hx hb hts iX5 hown hK hP 0 rfl rfl 18 (by decide) (hts _ (List.mem_of_getElem? (i := 1) rfl)) (fun _ h9 => h9) rfl dX5_lead_128 ?_
          refine lv_iload hx hb dX5_lead_131 (lv_at hl 0 rfl) ?_
          refine wa_zald hx hb hK hP 14 13 rfl rfl (6 + nt (sa r)) rfl (by omega) (by decide) dX5_lead_133 ?_
          refine lv_if_eq (tgt := 179) hx hb dX5_lead_134 (by decide) (fun c_5 => ?_) (fun c_5 => ?_)
          · skip
            refine lv_iinc (v := (nI r + 1)) (lv' := [(4, .int (nI r + 1)), (6, .int (nI (6 + nt (sa r)))), (5, .int (nI (nt (no r)))), (0, .ref (q 0)), (1, .int (nI fr)), (2, .int (nI mm)), (3, .int mp)]) hx hb dX5_lead_179 hl (k := 6) rfl rfl (by decide) rfl (fun ls hl => ?_)
            refine lv_goto (tgt := 48) hx hb dX5_lead_182 (by decide) ?_
            exact ih2 (r + 1, km, kv, mp) ls H locs (by show mm - (r + 1) < mm - r; omega) ⟨by show r + 1 ≤ mm; omega, g2, g3, g4, ld_n g5 ⟨fun h => absurd h (f10 c_4), fun h => absurd h (f10 c_5)⟩⟩ (lv_sub hl [3, 4, 5, 6, 0] (by
              show ([(0, .ref (q 0)), (1, .int (nI fr)), (2, .int (nI mm)), (3, .int mp), (4, .int (nI r + 1))] : List (Nat × Value)) = [(0, .ref (q 0)), (1, .int (nI fr)), (2, .int (nI mm)), (3, .int mp), (4, .int (nI (r + 1)))]
              rw [← nI_1])) hP hD hS
          · skip
            refine lv_aload_n hx hb dX5_lead_137 rfl (lv_at hl 2 rfl) ?_
            refine va_get (D := D) (ci := 5) (v := .ref (q 14)) (C := RX5) (T := TX5) (N := 20) hx hb hts iX5 hown hK hP 0 rfl rfl 18 (by decide) (hts _ (List.mem_of_getElem? (i := 1) rfl)) (fun _ h9 => h9) rfl dX5_lead_138 ?_
            refine lv_iload hx hb dX5_lead_141 (lv_at hl 1 rfl) ?_
            refine wa_zald hx hb hK hP 14 13 rfl rfl (nt (no r)) rfl (by omega) (by decide) dX5_lead_143 ?_
            refine lv_if_ne (tgt := 179) hx hb dX5_lead_144 (by decide) (fun c_6 => ?_) (fun c_6 => ?_)
            · skip
              exact absurd c_4 c_6
            · skip
              refine lv_aload_n hx hb dX5_lead_147 rfl (lv_at hl 2 rfl) ?_
              refine va_get (D := D) (ci := 5) (v := .ref (q 14)) (C := RX5) (T := TX5) (N := 20) hx hb hts iX5 hown hK hP 0 rfl rfl 18 (by decide) (hts _ (List.mem_of_getElem? (i := 1) rfl)) (fun _ h9 => h9) rfl dX5_lead_148 ?_
              refine lv_iload hx hb dX5_lead_151 (lv_at hl 1 rfl) ?_
              refine lv_iconst (v := 1) hx hb dX5_lead_153 (by decide) ?_
              refine wa_zast (v := 1) hx hb hK hP hD hS 14 13 rfl rfl (nt (no r)) rfl (by omega) (by decide) rfl dX5_lead_154 (fun H locs hP hD hS => ?_)
              have hP : va_P D vwCl (mWC y q (nI t) (nI n) C w rt (nI r0) no sa to tr st (upd km (nt (no r)) 1) kv) H := hP
              have hD : va_D A (mWC y q (nI t) (nI n) C w rt (nI r0) no sa to tr st (upd km (nt (no r)) 1) kv) := hD
              refine lv_aload_n hx hb dX5_lead_155 rfl (lv_at hl 2 rfl) ?_
              refine va_get (D := D) (ci := 5) (v := .ref (q 15)) (C := RX5) (T := TX5) (N := 20) hx hb hts iX5 hown hK hP 0 rfl rfl 19 (by decide) (hts _ (List.mem_of_getElem? (i := 2) rfl)) (fun _ h9 => h9) rfl dX5_lead_156 ?_
              refine lv_iload hx hb dX5_lead_159 (lv_at hl 1 rfl) ?_
              refine lv_aload_n hx hb dX5_lead_161 rfl (lv_at hl 2 rfl) ?_
              refine va_get (D := D) (ci := 5) (v := .ref (q 12)) (C := RX5) (T := TX5) (N := 20) hx hb hts iX5 hown hK hP 0 rfl rfl 15 (by decide) (hts _ (List.mem_of_getElem? (i := 5) rfl)) (fun _ h9 => h9) rfl dX5_lead_162 ?_
              refine lv_iload hx hb dX5_lead_165 (lv_at hl 6 rfl) ?_
              refine wa_iald hx hb hK hP 12 11 rfl rfl r rfl (by omega) (by decide) dX5_lead_167 ?_
              refine lv_aload_n hx hb dX5_lead_168 rfl (lv_at hl 2 rfl) ?_
              refine va_get (D := D) (ci := 5) (v := .ref (q 15)) (C := RX5) (T := TX5) (N := 20) hx hb hts iX5 hown hK hP 0 rfl rfl 19 (by decide) (hts _ (List.mem_of_getElem? (i := 2) rfl)) (fun _ h9 => h9) rfl dX5_lead_169 ?_
              refine lv_iload hx hb dX5_lead_172 (lv_at hl 0 rfl) ?_
              refine wa_iald hx hb hK hP 15 14 rfl rfl (6 + nt (sa r)) rfl (by omega) (by decide) dX5_lead_174 ?_
              refine lv_isub hx hb dX5_lead_175 ?_
              refine wa_iast (v := ((to r) - (kv (6 + nt (sa r))))) hx hb hK hP hD hS 15 14 rfl rfl (nt (no r)) rfl (by omega) (by decide) dX5_lead_176 (fun H locs hP hD hS => ?_)
              have hP : va_P D vwCl (mWC y q (nI t) (nI n) C w rt (nI r0) no sa to tr st (upd km (nt (no r)) 1) (upd kv (nt (no r)) ((to r) - (kv (6 + nt (sa r)))))) H := hP
              have hD : va_D A (mWC y q (nI t) (nI n) C w rt (nI r0) no sa to tr st (upd km (nt (no r)) 1) (upd kv (nt (no r)) ((to r) - (kv (6 + nt (sa r)))))) := hD
              refine lv_iconst (v := 1) hx hb dX5_lead_177 (by decide) ?_
              refine lv_istore_n (lv' := [(3, .int 1), (6, .int (nI (6 + nt (sa r)))), (5, .int (nI (nt (no r)))), (0, .ref (q 0)), (1, .int (nI fr)), (2, .int (nI mm)), (4, .int (nI r))]) hx hb dX5_lead_178 rfl hl (by decide) rfl (fun ls hl => ?_)
              refine lv_iinc (v := (nI r + 1)) (lv' := [(4, .int (nI r + 1)), (3, .int 1), (6, .int (nI (6 + nt (sa r)))), (5, .int (nI (nt (no r)))), (0, .ref (q 0)), (1, .int (nI fr)), (2, .int (nI mm))]) hx hb dX5_lead_179 hl (k := 6) rfl rfl (by decide) rfl (fun ls hl => ?_)
              refine lv_goto (tgt := 48) hx hb dX5_lead_182 (by decide) ?_
              exact ih2 (r + 1, (upd km (nt (no r)) 1), (upd kv (nt (no r)) ((to r) - (kv (6 + nt (sa r))))), 1) ls H locs (by show mm - (r + 1) < mm - r; omega) ⟨by show r + 1 ≤ mm; omega, flg_up g2 _, one_up g3, snd_up g4 (by omega) (by omega) ((g2 (6 + nt (sa r)) (by omega)).resolve_left c_5) (Or.inr ⟨rfl, rfl⟩), Or.inr ⟨rfl, ld_u g5 (by omega) c_4⟩⟩ (lv_sub hl [4, 5, 6, 1, 0] (by
                show ([(0, .ref (q 0)), (1, .int (nI fr)), (2, .int (nI mm)), (3, .int 1), (4, .int (nI r + 1))] : List (Nat × Value)) = [(0, .ref (q 0)), (1, .int (nI fr)), (2, .int (nI mm)), (3, .int 1), (4, .int (nI (r + 1)))]
                rw [← nI_1])) hP hD hS
        · skip
          refine lv_aload_n hx hb dX5_lead_85 rfl (lv_at hl 2 rfl) ?_
          refine va_get (D := D) (ci := 5) (v := .ref (q 14)) (C := RX5) (T := TX5) (N := 20) hx hb hts iX5 hown hK hP 0 rfl rfl 18 (by decide) (hts _ (List.mem_of_getElem? (i := 1) rfl)) (fun _ h9 => h9) rfl dX5_lead_86 ?_
          refine lv_iload hx hb dX5_lead_89 (lv_at hl 0 rfl) ?_
          refine wa_zald hx hb hK hP 14 13 rfl rfl (6 + nt (sa r)) rfl (by omega) (by decide) dX5_lead_91 ?_
          refine lv_if_ne (tgt := 127) hx hb dX5_lead_92 (by decide) (fun c_7 => ?_) (fun c_7 => ?_)
          · skip
            refine lv_aload_n hx hb dX5_lead_127 rfl (lv_at hl 2 rfl) ?_
            refine va_get (D := D) (ci := 5) (v := .ref (q 14)) (C := RX5) (T := TX5) (N := 20) hx hb hts iX5 hown hK hP 0 rfl rfl 18 (by decide) (hts _ (List.mem_of_getElem? (i := 1) rfl)) (fun _ h9 => h9) rfl dX5_lead_128 ?_
            refine lv_iload hx hb dX5_lead_131 (lv_at hl 0 rfl) ?_
            refine wa_zald hx hb hK hP 14 13 rfl rfl (6 + nt (sa r)) rfl (by omega) (by decide) dX5_lead_133 ?_
            refine lv_if_eq (tgt := 179) hx hb dX5_lead_134 (by decide) (fun c_8 => ?_) (fun c_8 => ?_)
            · skip
              exact absurd c_8 c_7
            · skip
              refine lv_aload_n hx hb dX5_lead_137 rfl (lv_at hl 2 rfl) ?_
              refine va_get (D := D) (ci := 5) (v := .ref (q 14)) (C := RX5) (T := TX5) (N := 20) hx hb hts iX5 hown hK hP 0 rfl rfl 18 (by decide) (hts _ (List.mem_of_getElem? (i := 1) rfl)) (fun _ h9 => h9) rfl dX5_lead_138 ?_
              refine lv_iload hx hb dX5_lead_141 (lv_at hl 1 rfl) ?_
              refine wa_zald hx hb hK hP 14 13 rfl rfl (nt (no r)) rfl (by omega) (by decide) dX5_lead_143 ?_
              refine lv_if_ne (tgt := 179) hx hb dX5_lead_144 (by decide) (fun c_9 => ?_) (fun c_9 => ?_)
              · skip
                refine lv_iinc (v := (nI r + 1)) (lv' := [(4, .int (nI r + 1)), (6, .int (nI (6 + nt (sa r)))), (5, .int (nI (nt (no r)))), (0, .ref (q 0)), (1, .int (nI fr)), (2, .int (nI mm)), (3, .int mp)]) hx hb dX5_lead_179 hl (k := 6) rfl rfl (by decide) rfl (fun ls hl => ?_)
                refine lv_goto (tgt := 48) hx hb dX5_lead_182 (by decide) ?_
                exact ih2 (r + 1, km, kv, mp) ls H locs (by show mm - (r + 1) < mm - r; omega) ⟨by show r + 1 ≤ mm; omega, g2, g3, g4, ld_n g5 ⟨fun _ => (g2 (6 + nt (sa r)) (by omega)).resolve_left c_7, fun _ => (g2 (nt (no r)) (by omega)).resolve_left c_4⟩⟩ (lv_sub hl [3, 4, 5, 6, 0] (by
                  show ([(0, .ref (q 0)), (1, .int (nI fr)), (2, .int (nI mm)), (3, .int mp), (4, .int (nI r + 1))] : List (Nat × Value)) = [(0, .ref (q 0)), (1, .int (nI fr)), (2, .int (nI mm)), (3, .int mp), (4, .int (nI (r + 1)))]
                  rw [← nI_1])) hP hD hS
              · skip
                exact absurd c_9 c_4
          · skip
            refine lv_aload_n hx hb dX5_lead_95 rfl (lv_at hl 2 rfl) ?_
            refine va_get (D := D) (ci := 5) (v := .ref (q 14)) (C := RX5) (T := TX5) (N := 20) hx hb hts iX5 hown hK hP 0 rfl rfl 18 (by decide) (hts _ (List.mem_of_getElem? (i := 1) rfl)) (fun _ h9 => h9) rfl dX5_lead_96 ?_
            refine lv_iload hx hb dX5_lead_99 (lv_at hl 0 rfl) ?_
            refine lv_iconst (v := 1) hx hb dX5_lead_101 (by decide) ?_
            refine wa_zast (v := 1) hx hb hK hP hD hS 14 13 rfl rfl (6 + nt (sa r)) rfl (by omega) (by decide) rfl dX5_lead_102 (fun H locs hP hD hS => ?_)
            have hP : va_P D vwCl (mWC y q (nI t) (nI n) C w rt (nI r0) no sa to tr st (upd km (6 + nt (sa r)) 1) kv) H := hP
            have hD : va_D A (mWC y q (nI t) (nI n) C w rt (nI r0) no sa to tr st (upd km (6 + nt (sa r)) 1) kv) := hD
            refine lv_aload_n hx hb dX5_lead_103 rfl (lv_at hl 2 rfl) ?_
            refine va_get (D := D) (ci := 5) (v := .ref (q 15)) (C := RX5) (T := TX5) (N := 20) hx hb hts iX5 hown hK hP 0 rfl rfl 19 (by decide) (hts _ (List.mem_of_getElem? (i := 2) rfl)) (fun _ h9 => h9) rfl dX5_lead_104 ?_
            refine lv_iload hx hb dX5_lead_107 (lv_at hl 0 rfl) ?_
            refine lv_aload_n hx hb dX5_lead_109 rfl (lv_at hl 2 rfl) ?_
            refine va_get (D := D) (ci := 5) (v := .ref (q 12)) (C := RX5) (T := TX5) (N := 20) hx hb hts iX5 hown hK hP 0 rfl rfl 15 (by decide) (hts _ (List.mem_of_getElem? (i := 5) rfl)) (fun _ h9 => h9) rfl dX5_lead_110 ?_
            refine lv_iload hx hb dX5_lead_113 (lv_at hl 6 rfl) ?_
            refine wa_iald hx hb hK hP 12 11 rfl rfl r rfl (by omega) (by decide) dX5_lead_115 ?_
            refine lv_aload_n hx hb dX5_lead_116 rfl (lv_at hl 2 rfl) ?_
            refine va_get (D := D) (ci := 5) (v := .ref (q 15)) (C := RX5) (T := TX5) (N := 20) hx hb hts iX5 hown hK hP 0 rfl rfl 19 (by decide) (hts _ (List.mem_of_getElem? (i := 2) rfl)) (fun _ h9 => h9) rfl dX5_lead_117 ?_
            refine lv_iload hx hb dX5_lead_120 (lv_at hl 1 rfl) ?_
            refine wa_iald hx hb hK hP 15 14 rfl rfl (nt (no r)) rfl (by omega) (by decide) dX5_lead_122 ?_
            refine lv_isub hx hb dX5_lead_123 ?_
            refine wa_iast (v := ((to r) - (kv (nt (no r))))) hx hb hK hP hD hS 15 14 rfl rfl (6 + nt (sa r)) rfl (by omega) (by decide) dX5_lead_124 (fun H locs hP hD hS => ?_)
            have hP : va_P D vwCl (mWC y q (nI t) (nI n) C w rt (nI r0) no sa to tr st (upd km (6 + nt (sa r)) 1) (upd kv (6 + nt (sa r)) ((to r) - (kv (nt (no r)))))) H := hP
            have hD : va_D A (mWC y q (nI t) (nI n) C w rt (nI r0) no sa to tr st (upd km (6 + nt (sa r)) 1) (upd kv (6 + nt (sa r)) ((to r) - (kv (nt (no r)))))) := hD
            refine lv_iconst (v := 1) hx hb dX5_lead_125 (by decide) ?_
            refine lv_istore_n (lv' := [(3, .int 1), (6, .int (nI (6 + nt (sa r)))), (5, .int (nI (nt (no r)))), (0, .ref (q 0)), (1, .int (nI fr)), (2, .int (nI mm)), (4, .int (nI r))]) hx hb dX5_lead_126 rfl hl (by decide) rfl (fun ls hl => ?_)
            refine lv_aload_n hx hb dX5_lead_127 rfl (lv_at hl 3 rfl) ?_
            refine va_get (D := D) (ci := 5) (v := .ref (q 14)) (C := RX5) (T := TX5) (N := 20) hx hb hts iX5 hown hK hP 0 rfl rfl 18 (by decide) (hts _ (List.mem_of_getElem? (i := 1) rfl)) (fun _ h9 => h9) rfl dX5_lead_128 ?_
            refine lv_iload hx hb dX5_lead_131 (lv_at hl 1 rfl) ?_
            refine wa_zald hx hb hK hP 14 13 rfl rfl (6 + nt (sa r)) rfl (by omega) (by decide) dX5_lead_133 ?_
            refine lv_if_eq (tgt := 179) hx hb dX5_lead_134 (by decide) (fun c_10 => ?_) (fun c_10 => ?_)
            · skip
              exact absurd c_10 (by rw [ap_s]; decide)
            · skip
              refine lv_aload_n hx hb dX5_lead_137 rfl (lv_at hl 3 rfl) ?_
              refine va_get (D := D) (ci := 5) (v := .ref (q 14)) (C := RX5) (T := TX5) (N := 20) hx hb hts iX5 hown hK hP 0 rfl rfl 18 (by decide) (hts _ (List.mem_of_getElem? (i := 1) rfl)) (fun _ h9 => h9) rfl dX5_lead_138 ?_
              refine lv_iload hx hb dX5_lead_141 (lv_at hl 2 rfl) ?_
              refine wa_zald hx hb hK hP 14 13 rfl rfl (nt (no r)) rfl (by omega) (by decide) dX5_lead_143 ?_
              refine lv_if_ne (tgt := 179) hx hb dX5_lead_144 (by decide) (fun c_11 => ?_) (fun c_11 => ?_)
              · skip
                refine lv_iinc (v := (nI r + 1)) (lv' := [(4, .int (nI r + 1)), (3, .int 1), (6, .int (nI (6 + nt (sa r)))), (5, .int (nI (nt (no r)))), (0, .ref (q 0)), (1, .int (nI fr)), (2, .int (nI mm))]) hx hb dX5_lead_179 hl (k := 6) rfl rfl (by decide) rfl (fun ls hl => ?_)
                refine lv_goto (tgt := 48) hx hb dX5_lead_182 (by decide) ?_
                exact ih2 (r + 1, (upd km (6 + nt (sa r)) 1), (upd kv (6 + nt (sa r)) ((to r) - (kv (nt (no r))))), 1) ls H locs (by show mm - (r + 1) < mm - r; omega) ⟨by show r + 1 ≤ mm; omega, flg_up g2 _, one_up g3, snd_up g4 (by omega) (by omega) ((g2 (nt (no r)) (by omega)).resolve_left c_4) (Or.inl ⟨rfl, rfl⟩), Or.inr ⟨rfl, ld_u g5 (by omega) c_7⟩⟩ (lv_sub hl [4, 5, 6, 1, 0] (by
                  show ([(0, .ref (q 0)), (1, .int (nI fr)), (2, .int (nI mm)), (3, .int 1), (4, .int (nI r + 1))] : List (Nat × Value)) = [(0, .ref (q 0)), (1, .int (nI fr)), (2, .int (nI mm)), (3, .int 1), (4, .int (nI (r + 1)))]
                  rw [← nI_1])) hP hD hS
              · skip
                rw [upd_ap, if_neg (by omega)] at c_11
                exact absurd c_11 c_4
  · skip
    have c_1 : ¬ 16 ≤ i := fun h => c_1 ((nI_leI (a := 16) (b := i) (by omega) (by omega)).mpr h)
    refine lv_aload_n hx hb dX5_lead_8 rfl (lv_at hl 0 rfl) ?_
    refine va_get (D := D) (ci := 5) (v := .ref (q 14)) (C := RX5) (T := TX5) (N := 20) hx hb hts iX5 hown hK hP 0 rfl rfl 18 (by decide) (hts _ (List.mem_of_getElem? (i := 1) rfl)) (fun _ h9 => h9) rfl dX5_lead_9 ?_
    refine lv_iload_n hx hb dX5_lead_12 rfl (lv_at hl 3 rfl) ?_
    refine lv_iload_n hx hb dX5_lead_13 rfl (lv_at hl 3 rfl) ?_
    refine lv_iload_n hx hb dX5_lead_14 rfl (lv_at hl 1 rfl) ?_
    refine lv_icmp_ne (tgt := 22) hx hb dX5_lead_15 (by decide) (fun c_12 => ?_) (fun c_12 => ?_)
    · skip
      have c_12 : ¬ i = fr := fun h => c_12 ((nI_eq (a := i) (b := fr) (by omega) (by omega)).mpr h)
      refine lv_iconst (v := 0) hx hb dX5_lead_22 (by decide) ?_
      refine wa_zast (v := 0) hx hb hK hP hD hS 14 13 rfl rfl i rfl (by omega) (by decide) rfl dX5_lead_23 (fun H locs hP hD hS => ?_)
      have hP : va_P D vwCl (mWC y q (nI t) (nI n) C w rt (nI r0) no sa to tr st (upd (lM im fr i) i 0) (rH va i)) H := hP
      have hD : va_D A (mWC y q (nI t) (nI n) C w rt (nI r0) no sa to tr st (upd (lM im fr i) i 0) (rH va i)) := hD
      refine lv_aload_n hx hb dX5_lead_24 rfl (lv_at hl 0 rfl) ?_
      refine va_get (D := D) (ci := 5) (v := .ref (q 15)) (C := RX5) (T := TX5) (N := 20) hx hb hts iX5 hown hK hP 0 rfl rfl 19 (by decide) (hts _ (List.mem_of_getElem? (i := 2) rfl)) (fun _ h9 => h9) rfl dX5_lead_25 ?_
      refine lv_iload_n hx hb dX5_lead_28 rfl (lv_at hl 3 rfl) ?_
      refine lv_iconst (v := 0) hx hb dX5_lead_29 (by decide) ?_
      refine wa_iast (v := 0) hx hb hK hP hD hS 15 14 rfl rfl i rfl (by omega) (by decide) dX5_lead_30 (fun H locs hP hD hS => ?_)
      have hP : va_P D vwCl (mWC y q (nI t) (nI n) C w rt (nI r0) no sa to tr st (upd (lM im fr i) i 0) (upd (rH va i) i 0)) H := hP
      have hD : va_D A (mWC y q (nI t) (nI n) C w rt (nI r0) no sa to tr st (upd (lM im fr i) i 0) (upd (rH va i) i 0)) := hD
      refine lv_iinc (v := (nI i + 1)) (lv' := [(3, .int (nI i + 1)), (0, .ref (q 0)), (1, .int (nI fr)), (2, .int (nI mm))]) hx hb dX5_lead_31 hl (k := 3) rfl rfl (by decide) rfl (fun ls hl => ?_)
      refine lv_goto (tgt := 2) hx hb dX5_lead_34 (by decide) ?_
      rw [lM_n c_12, rH_t] at hP hD
      have hP : va_P D vwCl (mWC y q (nI t) (nI n) C w rt (nI r0) no sa to tr st (lM im fr (i + 1)) (rH va (i + 1))) H := hP
      have hD : va_D A (mWC y q (nI t) (nI n) C w rt (nI r0) no sa to tr st (lM im fr (i + 1)) (rH va (i + 1))) := hD
      exact ihi (i + 1) ls H locs (by show 16 - (i + 1) < 16 - i; omega) (by show i + 1 ≤ 16; omega) (lv_sub hl [1, 2, 3, 0] (by
        show ([(0, .ref (q 0)), (1, .int (nI fr)), (2, .int (nI mm)), (3, .int (nI i + 1))] : List (Nat × Value)) = [(0, .ref (q 0)), (1, .int (nI fr)), (2, .int (nI mm)), (3, .int (nI (i + 1)))]
        rw [← nI_1])) hP hD hS
    · skip
      have c_12 : i = fr := (nI_eq (a := i) (b := fr) (by omega) (by omega)).mp c_12
      refine lv_iconst (v := 1) hx hb dX5_lead_18 (by decide) ?_
      refine lv_goto (tgt := 23) hx hb dX5_lead_19 (by decide) ?_
      refine wa_zast (v := 1) hx hb hK hP hD hS 14 13 rfl rfl i rfl (by omega) (by decide) rfl dX5_lead_23 (fun H locs hP hD hS => ?_)
      have hP : va_P D vwCl (mWC y q (nI t) (nI n) C w rt (nI r0) no sa to tr st (upd (lM im fr i) i 1) (rH va i)) H := hP
      have hD : va_D A (mWC y q (nI t) (nI n) C w rt (nI r0) no sa to tr st (upd (lM im fr i) i 1) (rH va i)) := hD
      refine lv_aload_n hx hb dX5_lead_24 rfl (lv_at hl 0 rfl) ?_
      refine va_get (D := D) (ci := 5) (v := .ref (q 15)) (C := RX5) (T := TX5) (N := 20) hx hb hts iX5 hown hK hP 0 rfl rfl 19 (by decide) (hts _ (List.mem_of_getElem? (i := 2) rfl)) (fun _ h9 => h9) rfl dX5_lead_25 ?_
      refine lv_iload_n hx hb dX5_lead_28 rfl (lv_at hl 3 rfl) ?_
      refine lv_iconst (v := 0) hx hb dX5_lead_29 (by decide) ?_
      refine wa_iast (v := 0) hx hb hK hP hD hS 15 14 rfl rfl i rfl (by omega) (by decide) dX5_lead_30 (fun H locs hP hD hS => ?_)
      have hP : va_P D vwCl (mWC y q (nI t) (nI n) C w rt (nI r0) no sa to tr st (upd (lM im fr i) i 1) (upd (rH va i) i 0)) H := hP
      have hD : va_D A (mWC y q (nI t) (nI n) C w rt (nI r0) no sa to tr st (upd (lM im fr i) i 1) (upd (rH va i) i 0)) := hD
      refine lv_iinc (v := (nI i + 1)) (lv' := [(3, .int (nI i + 1)), (0, .ref (q 0)), (1, .int (nI fr)), (2, .int (nI mm))]) hx hb dX5_lead_31 hl (k := 3) rfl rfl (by decide) rfl (fun ls hl => ?_)
      refine lv_goto (tgt := 2) hx hb dX5_lead_34 (by decide) ?_
      rw [lM_t c_12, rH_t] at hP hD
      have hP : va_P D vwCl (mWC y q (nI t) (nI n) C w rt (nI r0) no sa to tr st (lM im fr (i + 1)) (rH va (i + 1))) H := hP
      have hD : va_D A (mWC y q (nI t) (nI n) C w rt (nI r0) no sa to tr st (lM im fr (i + 1)) (rH va (i + 1))) := hD
      exact ihi (i + 1) ls H locs (by show 16 - (i + 1) < 16 - i; omega) (by show i + 1 ≤ 16; omega) (lv_sub hl [1, 2, 3, 0] (by
        show ([(0, .ref (q 0)), (1, .int (nI fr)), (2, .int (nI mm)), (3, .int (nI i + 1))] : List (Nat × Value)) = [(0, .ref (q 0)), (1, .int (nI fr)), (2, .int (nI mm)), (3, .int (nI (i + 1)))]
        rw [← nI_1])) hP hD hS

set_option maxHeartbeats 4000000 in
set_option maxRecDepth 100000 in
theorem kX5_firstWrong (l : Launch) (D : va_G) (y : Nat → ClassId) (q : Nat → Nat) (t n : Nat) (C : Nat → CT) (w : Nat → Int32) (rt : Int32) (r0 : Nat) (no sa to : Nat → Int32) (tr : Int64) (st im va : Nat → Int32) (sz : Nat) (g h : Nat → Int32) (ct : Int32) (hNS : NS r0 no sa to g h ct) : Met l yX5_firstWrong wsX5_firstWrong ({ frames := 1, cells := 0, slots := 0, locals := 26 }) (va_Pc [.ref (q 0)] (muB D (mTy y) (mWC y q (nI t) (nI n) C w rt (nI r0) no sa to tr st im va) sz eT)) (QI (σ := (Nat → Int32) × (Nat → Int32)) D (fun r u => r = ct) (fun u => (mWC y q (nI t) (nI n) C w rt (nI r0) no sa to tr st u.1 u.2)) (va_A (mWC y q (nI t) (nI n) C w rt (nI r0) no sa to tr st im va) sz)) 0 0 (va_A (mWC y q (nI t) (nI n) C w rt (nI r0) no sa to tr st im va) sz) := by
  refine mu_start (Qc := QI (σ := (Nat → Int32) × (Nat → Int32)) D (fun r u => r = ct) (fun u => (mWC y q (nI t) (nI n) C w rt (nI r0) no sa to tr st u.1 u.2))) (cc := cX5_firstWrong) (maxL := 3) (ret := (some .int)) (by decide) rfl (Nat.le_of_ble_eq_true rfl) ?_
  intro p e s m below meth c ls A hx hb hr hml hown hlocks hts hnm hA hP hK hN hD hE hAA hsz hl
  have hS : va_S A s.heap s.heap [] := va_S.rf
  have hown : s.vm.findClass RX5 = some m.cls := hown
  have F : CallFix p m c cX5_firstWrong 3 s [.ref (q 0)].toArray wsX5_firstWrong RX5 := ⟨hx, hb, hml, hown, hts⟩
  have hl : lv_has ls 3 [(0, .ref (q 0))] := hl
  have iX5 : ∀ w ∈ u_ws RX5 TX5 20, w ∈ wsX5_firstWrong := mem_pl [12, 13, 14, 15, 16, 17, 18, 19, 20, 21, 22, 23, 24, 25, 26, 27, 28, 29, 30, 31] rfl
  obtain ⟨hr30, hrd, K, hKr, hAG, hct⟩ := hNS
  refine lv_iconst (v := 0) hx hb dX5_firstWrong_0 (by decide) ?_
  refine lv_istore_n (lv' := [(1, .int 0), (0, .ref (q 0))]) hx hb dX5_firstWrong_1 rfl hl (by decide) rfl (fun ls hl => ?_)
  refine W.lpW (pc := 2) (τ := Nat × (Nat → Int32) × (Nat → Int32)) (D := D) (A := A) (H0 := s.heap) (cl := vwCl) (fun z => z.1 ≤ r0 ∧ z.1 ≤ K) (fun z => (mWC y q (nI t) (nI n) C w rt (nI r0) no sa to tr st z.2.1 z.2.2)) (fun z ls => lv_has ls 3 [(0, .ref (q 0)), (1, .int (nI z.1))]) (fun z => r0 - z.1) ?_ (0, im, va) ls ⟨Nat.zero_le _, Nat.zero_le _⟩ (lv_sub hl [1, 0] rfl) hP hD hS
  intro z ls H locs hψ hl hP hD hS ih
  obtain ⟨i, jm, jv⟩ := z
  obtain ⟨hi, hiK⟩ := hψ
  have hi : i ≤ r0 := hi
  have hiK : i ≤ K := hiK
  have hl : lv_has ls 3 [(0, .ref (q 0)), (1, .int (nI i))] := hl
  have hP : va_P D vwCl (mWC y q (nI t) (nI n) C w rt (nI r0) no sa to tr st jm jv) H := hP
  have hD : va_D A (mWC y q (nI t) (nI n) C w rt (nI r0) no sa to tr st jm jv) := hD
  refine lv_iload_n hx hb dX5_firstWrong_2 rfl (lv_at hl 1 rfl) ?_
  refine lv_aload_n hx hb dX5_firstWrong_3 rfl (lv_at hl 0 rfl) ?_
  refine va_get (D := D) (ci := 5) (v := .int (nI r0)) (C := RX5) (T := TX5) (N := 20) hx hb hts iX5 hown hK hP 0 rfl rfl 12 (by decide) (hts _ (List.mem_of_getElem? (i := 1) rfl)) (fun _ h9 => h9) rfl dX5_firstWrong_4 ?_
  refine lv_icmp_ge (tgt := 63) hx hb dX5_firstWrong_7 (by decide) (fun c_1 => ?_) (fun c_1 => ?_)
  · skip
    have c_1 : r0 ≤ i := (nI_leI (a := r0) (b := i) (by omega) (by omega)).mp c_1
    refine lv_bipush (v := (-9)) hx hb dX5_firstWrong_63 (by decide) ?_
    exact mu_iret (jm, jv) hx hb hr hlocks hP hD hS dX5_firstWrong_65 (fw_end hiK c_1 hct)
  · skip
    have c_1 : ¬ r0 ≤ i := fun h => c_1 ((nI_leI (a := r0) (b := i) (by omega) (by omega)).mpr h)
    have hA9 := (hrd i (by omega)).1
    have hB9 := (hrd i (by omega)).2
    have hA6 := hA9.2
    have hB6 := hB9.2
    refine lv_aload_n hx hb dX5_firstWrong_10 rfl (lv_at hl 0 rfl) ?_
    refine lv_aload_n hx hb dX5_firstWrong_11 rfl (lv_at hl 0 rfl) ?_
    refine va_get (D := D) (ci := 5) (v := .ref (q 10)) (C := RX5) (T := TX5) (N := 20) hx hb hts iX5 hown hK hP 0 rfl rfl 13 (by decide) (hts _ (List.mem_of_getElem? (i := 2) rfl)) (fun _ h9 => h9) rfl dX5_firstWrong_12 ?_
    refine lv_iload_n hx hb dX5_firstWrong_15 rfl (lv_at hl 1 rfl) ?_
    refine wa_iald hx hb hK hP 10 9 rfl rfl i rfl (by omega) (by decide) dX5_firstWrong_16 ?_
    refine lv_cst (v := nI (nt (no i))) hA9.1 ?_
    refine lv_iload_n hx hb dX5_firstWrong_17 rfl (lv_at hl 1 rfl) ?_
    refine muF_v (va_runV (As := [.int (nI (nt (no i))), .int (nI i)]) (rest := []) F (kX5_lead l D y q t n C w rt r0 no sa to tr st jm jv (nt (no i)) i _ (by omega) (by omega) (fun z9 hz9 => hrd z9 (by omega))) (cwV 2 hts gX5_firstWrong_X5_lead rfl rfl rfl ⟨rfl, hdX5_lead⟩ ⟨(Nat.le_of_ble_eq_true rfl), (Nat.le_of_ble_eq_true rfl)⟩) ⟨(muB_blind (fun _ _ _ _ _ => trivial)), va_recv hK hP (ci := 5) (q0 := 0) rfl rfl, muF_pre hP hK hN hD (fun _ _ _ => trivial)⟩ rfl rfl hl.1 rfl (lv_room (Nat.le_of_ble_eq_true rfl)) dX5_firstWrong_18 ⟨Nat.zero_le _, Nat.zero_le _⟩) hP hD hS hA (fun u_3 H locs w_4 hP hD hS => ?_)
    obtain ⟨l1, l2, l3, l4⟩ := w_4
    have hP : va_P D vwCl (mWC y q (nI t) (nI n) C w rt (nI r0) no sa to tr st u_3.1 u_3.2) H := hP
    have hD : va_D A (mWC y q (nI t) (nI n) C w rt (nI r0) no sa to tr st u_3.1 u_3.2) := hD
    refine lv_bipush (v := 6) hx hb dX5_firstWrong_21 (by decide) ?_
    refine lv_aload_n hx hb dX5_firstWrong_23 rfl (lv_at hl 0 rfl) ?_
    refine va_get (D := D) (ci := 5) (v := .ref (q 11)) (C := RX5) (T := TX5) (N := 20) hx hb hts iX5 hown hK hP 0 rfl rfl 14 (by decide) (hts _ (List.mem_of_getElem? (i := 3) rfl)) (fun _ h9 => h9) rfl dX5_firstWrong_24 ?_
    refine lv_iload_n hx hb dX5_firstWrong_27 rfl (lv_at hl 1 rfl) ?_
    refine wa_iald hx hb hK hP 11 10 rfl rfl i rfl (by omega) (by decide) dX5_firstWrong_28 ?_
    refine lv_iadd hx hb dX5_firstWrong_29 ?_
    refine lv_cst (v := nI (6 + nt (sa i))) (by have h9 := hB9.1; generalize nt (sa i) = w9 at h9; rw [h9]; exact nI_add 6 w9) ?_
    refine lv_istore_n (lv' := [(2, .int (nI (6 + nt (sa i)))), (0, .ref (q 0)), (1, .int (nI i))]) hx hb dX5_firstWrong_30 rfl hl (by decide) rfl (fun ls hl => ?_)
    refine lv_aload_n hx hb dX5_firstWrong_31 rfl (lv_at hl 1 rfl) ?_
    refine va_get (D := D) (ci := 5) (v := .ref (q 14)) (C := RX5) (T := TX5) (N := 20) hx hb hts iX5 hown hK hP 0 rfl rfl 18 (by decide) (hts _ (List.mem_of_getElem? (i := 4) rfl)) (fun _ h9 => h9) rfl dX5_firstWrong_32 ?_
    refine lv_iload_n hx hb dX5_firstWrong_35 rfl (lv_at hl 0 rfl) ?_
    refine wa_zald hx hb hK hP 14 13 rfl rfl (6 + nt (sa i)) rfl (by omega) (by decide) dX5_firstWrong_36 ?_
    refine lv_if_eq (tgt := 57) hx hb dX5_firstWrong_37 (by decide) (fun c_5 => ?_) (fun c_5 => ?_)
    · skip
      refine lv_iinc (v := (nI i + 1)) (lv' := [(1, .int (nI i + 1)), (2, .int (nI (6 + nt (sa i)))), (0, .ref (q 0))]) hx hb dX5_firstWrong_57 hl (k := 2) rfl rfl (by decide) rfl (fun ls hl => ?_)
      refine lv_goto (tgt := 2) hx hb dX5_firstWrong_60 (by decide) ?_
      have hnx := fw_next hrd (by omega) hiK hAG hct l1 l2 l3 l4 (Or.inl c_5)
      exact ih (i + 1, u_3.1, u_3.2) ls H locs (by show r0 - (i + 1) < r0 - i; omega) ⟨by show i + 1 ≤ r0; omega, hnx⟩ (lv_sub hl [2, 0] (by
        show ([(0, .ref (q 0)), (1, .int (nI i + 1))] : List (Nat × Value)) = [(0, .ref (q 0)), (1, .int (nI (i + 1)))]
        rw [← nI_1])) hP hD hS
    · skip
      refine lv_aload_n hx hb dX5_firstWrong_40 rfl (lv_at hl 1 rfl) ?_
      refine va_get (D := D) (ci := 5) (v := .ref (q 15)) (C := RX5) (T := TX5) (N := 20) hx hb hts iX5 hown hK hP 0 rfl rfl 19 (by decide) (hts _ (List.mem_of_getElem? (i := 5) rfl)) (fun _ h9 => h9) rfl dX5_firstWrong_41 ?_
      refine lv_iload_n hx hb dX5_firstWrong_44 rfl (lv_at hl 0 rfl) ?_
      refine wa_iald hx hb hK hP 15 14 rfl rfl (6 + nt (sa i)) rfl (by omega) (by decide) dX5_firstWrong_45 ?_
      refine lv_aload_n hx hb dX5_firstWrong_46 rfl (lv_at hl 1 rfl) ?_
      refine va_get (D := D) (ci := 5) (v := .ref (q 12)) (C := RX5) (T := TX5) (N := 20) hx hb hts iX5 hown hK hP 0 rfl rfl 15 (by decide) (hts _ (List.mem_of_getElem? (i := 6) rfl)) (fun _ h9 => h9) rfl dX5_firstWrong_47 ?_
      refine lv_iload_n hx hb dX5_firstWrong_50 rfl (lv_at hl 2 rfl) ?_
      refine wa_iald hx hb hK hP 12 11 rfl rfl i rfl (by omega) (by decide) dX5_firstWrong_51 ?_
      refine lv_icmp_eq (tgt := 57) hx hb dX5_firstWrong_52 (by decide) (fun c_6 => ?_) (fun c_6 => ?_)
      · skip
        refine lv_iinc (v := (nI i + 1)) (lv' := [(1, .int (nI i + 1)), (2, .int (nI (6 + nt (sa i)))), (0, .ref (q 0))]) hx hb dX5_firstWrong_57 hl (k := 2) rfl rfl (by decide) rfl (fun ls hl => ?_)
        refine lv_goto (tgt := 2) hx hb dX5_firstWrong_60 (by decide) ?_
        have hnx := fw_next hrd (by omega) hiK hAG hct l1 l2 l3 l4 (Or.inr c_6)
        exact ih (i + 1, u_3.1, u_3.2) ls H locs (by show r0 - (i + 1) < r0 - i; omega) ⟨by show i + 1 ≤ r0; omega, hnx⟩ (lv_sub hl [2, 0] (by
          show ([(0, .ref (q 0)), (1, .int (nI i + 1))] : List (Nat × Value)) = [(0, .ref (q 0)), (1, .int (nI (i + 1)))]
          rw [← nI_1])) hP hD hS
      · skip
        refine lv_iload_n hx hb dX5_firstWrong_55 rfl (lv_at hl 2 rfl) ?_
        exact mu_iret (u_3.1, u_3.2) hx hb hr hlocks hP hD hS dX5_firstWrong_56 (fw_ret hrd (by omega) hiK hAG hct l1 l3 c_5 c_6)

set_option maxHeartbeats 4000000 in
set_option maxRecDepth 100000 in
theorem kX5_contradicts (l : Launch) (D : va_G) (y : Nat → ClassId) (q : Nat → Nat) (t n : Nat) (C : Nat → CT) (w : Nat → Int32) (rt : Int32) (r0 : Nat) (no sa to : Nat → Int32) (tr : Int64) (st im va : Nat → Int32) (sz : Nat) (g h : Nat → Int32) (ct : Int32) (hNS : NS r0 no sa to g h ct) : Met l yX5_contradicts wsX5_contradicts ({ frames := 2, cells := 0, slots := 0, locals := 48 }) (va_Pc [.ref (q 0)] (muB D (mTy y) (mWC y q (nI t) (nI n) C w rt (nI r0) no sa to tr st im va) sz eT)) (QI (σ := (Nat → Int32) × (Nat → Int32)) D (fun r u => r = ct) (fun u => (mWC y q (nI t) (nI n) C w rt (nI r0) no sa to tr st u.1 u.2)) (va_A (mWC y q (nI t) (nI n) C w rt (nI r0) no sa to tr st im va) sz)) 0 0 (va_A (mWC y q (nI t) (nI n) C w rt (nI r0) no sa to tr st im va) sz) := by
  refine mu_start (Qc := QI (σ := (Nat → Int32) × (Nat → Int32)) D (fun r u => r = ct) (fun u => (mWC y q (nI t) (nI n) C w rt (nI r0) no sa to tr st u.1 u.2))) (cc := cX5_contradicts) (maxL := 1) (ret := (some .int)) (by decide) rfl (Nat.le_of_ble_eq_true rfl) ?_
  intro p e s m below meth c ls A hx hb hr hml hown hlocks hts hnm hA hP hK hN hD hE hAA hsz hl
  have hS : va_S A s.heap s.heap [] := va_S.rf
  have hown : s.vm.findClass RX5 = some m.cls := hown
  have F : CallFix p m c cX5_contradicts 1 s [.ref (q 0)].toArray wsX5_contradicts RX5 := ⟨hx, hb, hml, hown, hts⟩
  have hl : lv_has ls 1 [(0, .ref (q 0))] := hl
  refine lv_aload_n hx hb dX5_contradicts_0 rfl (lv_at hl 0 rfl) ?_
  refine muF_i (va_runV (As := []) (rest := []) F (kX5_firstWrong l D y q t n C w rt r0 no sa to tr st im va _ g h ct hNS) (cwV 0 hts gX5_contradicts_X5_firstWrong rfl rfl rfl ⟨rfl, hdX5_firstWrong⟩ ⟨(Nat.le_of_ble_eq_true rfl), (Nat.le_of_ble_eq_true rfl)⟩) ⟨(muB_blind (fun _ _ _ _ _ => trivial)), va_recv hK hP (ci := 5) (q0 := 0) rfl rfl, muF_pre hP hK hN hD (fun _ _ _ => trivial)⟩ rfl rfl hl.1 rfl (lv_room (Nat.le_of_ble_eq_true rfl)) dX5_contradicts_1 ⟨Nat.zero_le _, Nat.zero_le _⟩) hP hD hS hA (fun r_1 u_2 H locs w_3 hP hD hS => ?_)
  refine lv_cst w_3 ?_
  have hP : va_P D vwCl (mWC y q (nI t) (nI n) C w rt (nI r0) no sa to tr st u_2.1 u_2.2) H := hP
  have hD : va_D A (mWC y q (nI t) (nI n) C w rt (nI r0) no sa to tr st u_2.1 u_2.2) := hD
  exact mu_iret (u_2.1, u_2.2) hx hb hr hlocks hP hD hS dX5_contradicts_4 rfl

set_option maxHeartbeats 4000000 in
set_option maxRecDepth 100000 in
theorem kX5_hang (l : Launch) (D : va_G) (y : Nat → ClassId) (q : Nat → Nat) (t n : Nat) (C : Nat → CT) (w : Nat → Int32) (rt : Int32) (r0 : Nat) (no sa to : Nat → Int32) (tr : Int64) (st im va : Nat → Int32) (a0 : Int32) (b0 : Int32) (w0 : Int32) (sz : Nat) (g h : Nat → Int32) (ct : Int32) (hNS : NS r0 no sa to g h ct) : Met l yX5_hang wsX5_hang ({ frames := 2, cells := 0, slots := 0, locals := 48 }) (va_Pc [.ref (q 0), .int a0, .int b0, .int w0] (muB D (mTy y) (mWC y q (nI t) (nI n) C w rt (nI r0) no sa to tr st im va) sz eT)) (QI (σ := (Nat → Int32) × (Nat → Int32)) D (fun r u => r = hangX g h a0 b0 w0) (fun u => (mWC y q (nI t) (nI n) C w rt (nI r0) no sa to tr st u.1 u.2)) (va_A (mWC y q (nI t) (nI n) C w rt (nI r0) no sa to tr st im va) sz)) 0 0 (va_A (mWC y q (nI t) (nI n) C w rt (nI r0) no sa to tr st im va) sz) := by
  refine mu_start (Qc := QI (σ := (Nat → Int32) × (Nat → Int32)) D (fun r u => r = hangX g h a0 b0 w0) (fun u => (mWC y q (nI t) (nI n) C w rt (nI r0) no sa to tr st u.1 u.2))) (cc := cX5_hang) (maxL := 5) (ret := (some .int)) (by decide) rfl (Nat.le_of_ble_eq_true rfl) ?_
  intro p e s m below meth c ls A hx hb hr hml hown hlocks hts hnm hA hP hK hN hD hE hAA hsz hl
  have hS : va_S A s.heap s.heap [] := va_S.rf
  have hown : s.vm.findClass RX5 = some m.cls := hown
  have F : CallFix p m c cX5_hang 5 s [.ref (q 0), .int a0, .int b0, .int w0].toArray wsX5_hang RX5 := ⟨hx, hb, hml, hown, hts⟩
  have hl : lv_has ls 5 [(0, .ref (q 0)), (1, .int a0), (2, .int b0), (3, .int w0)] := hl
  have iX5 : ∀ w ∈ u_ws RX5 TX5 20, w ∈ wsX5_hang := mem_pl [21, 22, 23, 24, 25, 26, 27, 28, 29, 30, 31, 32, 33, 34, 35, 36, 37, 38, 39, 40] rfl
  have hNS9 := hNS
  obtain ⟨hr30, hrd, K, hKr, hAG, hct⟩ := hNS
  have hNS := hNS9
  refine lv_iload_n hx hb dX5_hang_0 rfl (lv_at hl 1 rfl) ?_
  refine lv_iconst (v := 0) hx hb dX5_hang_1 (by decide) ?_
  refine lv_iconst (v := 5) hx hb dX5_hang_2 (by decide) ?_
  refine ro_i (va_runS (As := [.int a0, .int 0, .int 5]) (rest := []) F (kX5_in l a0 0 5) (va_cwS 3 hts gX5_hang_X5_in rfl rfl rfl hdX5_in ⟨(Nat.le_of_ble_eq_true rfl), (Nat.le_of_ble_eq_true rfl)⟩) ⟨tr_blind, tr_pre⟩ rfl rfl hl.1 rfl (lv_room (Nat.le_of_ble_eq_true rfl)) dX5_hang_3 ⟨Nat.zero_le _, Nat.zero_le _⟩) ?_
  refine lv_if_eq (tgt := 27) hx hb dX5_hang_6 (by decide) (fun c_1 => ?_) (fun c_1 => ?_)
  · skip
    have c_1 := zI_0 c_1
    refine lv_ldc (v := (-1000001)) hx hb hown (hts _ (List.mem_of_getElem? (i := 1) rfl)) dX5_hang_27 ?_
    exact mu_iret (im, va) hx hb hr hlocks hP hD hS dX5_hang_29 (by simp [hangX, zI, (by decide : inR 0 0 1 = true), c_1])
  · skip
    have c_1 := zI_1 c_1
    obtain ⟨a, hza, rfl⟩ := inR_of (k := 5) (by decide) (by decide) c_1
    have ea : (nI a).toNatClampNeg = a := nI_clamp (by omega)
    refine lv_iload_n hx hb dX5_hang_9 rfl (lv_at hl 2 rfl) ?_
    refine lv_iconst (v := 0) hx hb dX5_hang_10 (by decide) ?_
    refine lv_iconst (v := 5) hx hb dX5_hang_11 (by decide) ?_
    refine ro_i (va_runS (As := [.int b0, .int 0, .int 5]) (rest := []) F (kX5_in l b0 0 5) (va_cwS 3 hts gX5_hang_X5_in rfl rfl rfl hdX5_in ⟨(Nat.le_of_ble_eq_true rfl), (Nat.le_of_ble_eq_true rfl)⟩) ⟨tr_blind, tr_pre⟩ rfl rfl hl.1 rfl (lv_room (Nat.le_of_ble_eq_true rfl)) dX5_hang_12 ⟨Nat.zero_le _, Nat.zero_le _⟩) ?_
    refine lv_if_eq (tgt := 27) hx hb dX5_hang_15 (by decide) (fun c_2 => ?_) (fun c_2 => ?_)
    · skip
      have c_2 := zI_0 c_2
      refine lv_ldc (v := (-1000001)) hx hb hown (hts _ (List.mem_of_getElem? (i := 1) rfl)) dX5_hang_27 ?_
      exact mu_iret (im, va) hx hb hr hlocks hP hD hS dX5_hang_29 (by simp [hangX, zI, (by decide : inR 0 0 1 = true), c_1, ea, c_2])
    · skip
      have c_2 := zI_1 c_2
      obtain ⟨b, hzb, rfl⟩ := inR_of (k := 5) (by decide) (by decide) c_2
      have eb : (nI b).toNatClampNeg = b := nI_clamp (by omega)
      refine lv_iload_n hx hb dX5_hang_18 rfl (lv_at hl 3 rfl) ?_
      refine lv_iconst (v := 0) hx hb dX5_hang_19 (by decide) ?_
      refine lv_iconst (v := 1) hx hb dX5_hang_20 (by decide) ?_
      refine ro_i (va_runS (As := [.int w0, .int 0, .int 1]) (rest := []) F (kX5_in l w0 0 1) (va_cwS 3 hts gX5_hang_X5_in rfl rfl rfl hdX5_in ⟨(Nat.le_of_ble_eq_true rfl), (Nat.le_of_ble_eq_true rfl)⟩) ⟨tr_blind, tr_pre⟩ rfl rfl hl.1 rfl (lv_room (Nat.le_of_ble_eq_true rfl)) dX5_hang_21 ⟨Nat.zero_le _, Nat.zero_le _⟩) ?_
      refine lv_if_ne (tgt := 30) hx hb dX5_hang_24 (by decide) (fun c_3 => ?_) (fun c_3 => ?_)
      · skip
        have c_3 := zI_1 c_3
        refine lv_aload_n hx hb dX5_hang_30 rfl (lv_at hl 0 rfl) ?_
        refine muF_i (va_runV (As := []) (rest := []) F (kX5_firstWrong l D y q t n C w rt r0 no sa to tr st im va _ g h ct hNS) (cwV 0 hts gX5_hang_X5_firstWrong rfl rfl rfl ⟨rfl, hdX5_firstWrong⟩ ⟨(Nat.le_of_ble_eq_true rfl), (Nat.le_of_ble_eq_true rfl)⟩) ⟨(muB_blind (fun _ _ _ _ _ => trivial)), va_recv hK hP (ci := 5) (q0 := 0) rfl rfl, muF_pre hP hK hN hD (fun _ _ _ => trivial)⟩ rfl rfl hl.1 rfl (lv_room (Nat.le_of_ble_eq_true rfl)) dX5_hang_31 ⟨Nat.zero_le _, Nat.zero_le _⟩) hP hD hS hA (fun r_4 u_5 H locs w_6 hP hD hS => ?_)
        refine lv_cst w_6 ?_
        have hP : va_P D vwCl (mWC y q (nI t) (nI n) C w rt (nI r0) no sa to tr st u_5.1 u_5.2) H := hP
        have hD : va_D A (mWC y q (nI t) (nI n) C w rt (nI r0) no sa to tr st u_5.1 u_5.2) := hD
        refine lv_istore (lv' := [(4, .int ct), (0, .ref (q 0)), (1, .int (nI a)), (2, .int (nI b)), (3, .int w0)]) hx hb dX5_hang_34 hl (by decide) rfl (fun ls hl => ?_)
        refine lv_aload_n hx hb dX5_hang_36 rfl (lv_at hl 1 rfl) ?_
        refine lv_iload_n hx hb dX5_hang_37 rfl (lv_at hl 3 rfl) ?_
        refine lv_iload hx hb dX5_hang_38 (lv_at hl 0 rfl) ?_
        refine lv_bipush (v := (-9)) hx hb dX5_hang_40 (by decide) ?_
        refine lv_icmp_ne (tgt := 52) hx hb dX5_hang_42 (by decide) (fun c_7 => ?_) (fun c_7 => ?_)
        · skip
          refine lv_iload hx hb dX5_hang_52 (lv_at hl 0 rfl) ?_
          refine lv_cst (v := nI K) (fw_K hct c_7) ?_
          refine muF_v (va_runV (As := [.int (nI b), .int (nI K)]) (rest := []) F (kX5_lead l D y q t n C w rt r0 no sa to tr st u_5.1 u_5.2 b K _ (by omega) (by omega) (fun z9 hz9 => hrd z9 (by omega))) (cwV 2 hts gX5_hang_X5_lead rfl rfl rfl ⟨rfl, hdX5_lead⟩ ⟨(Nat.le_of_ble_eq_true rfl), (Nat.le_of_ble_eq_true rfl)⟩) ⟨(muB_blind (fun _ _ _ _ _ => trivial)), va_recv hK hP (ci := 5) (q0 := 0) rfl rfl, muF_pre hP hK hN hD (fun _ _ _ => trivial)⟩ rfl rfl hl.1 rfl (lv_room (Nat.le_of_ble_eq_true rfl)) dX5_hang_54 ⟨Nat.zero_le _, Nat.zero_le _⟩) hP hD hS hA (fun u_9 H locs w_10 hP hD hS => ?_)
          obtain ⟨l1, l2, l3, l4⟩ := w_10
          have hP : va_P D vwCl (mWC y q (nI t) (nI n) C w rt (nI r0) no sa to tr st u_9.1 u_9.2) H := hP
          have hD : va_D A (mWC y q (nI t) (nI n) C w rt (nI r0) no sa to tr st u_9.1 u_9.2) := hD
          have LU := lead_use hrd hKr (by omega) l3 l2 l1 l4 hAG a (by omega)
          refine lv_iload_n hx hb dX5_hang_57 rfl (lv_at hl 4 rfl) ?_
          refine lv_if_ne (tgt := 78) hx hb dX5_hang_58 (by decide) (fun c_11 => ?_) (fun c_11 => ?_)
          · skip
            refine lv_aload_n hx hb dX5_hang_78 rfl (lv_at hl 1 rfl) ?_
            refine va_get (D := D) (ci := 5) (v := .ref (q 14)) (C := RX5) (T := TX5) (N := 20) hx hb hts iX5 hown hK hP 0 rfl rfl 18 (by decide) (hts _ (List.mem_of_getElem? (i := 3) rfl)) (fun _ h9 => h9) rfl dX5_hang_79 ?_
            refine lv_iload_n hx hb dX5_hang_82 rfl (lv_at hl 2 rfl) ?_
            refine wa_zald hx hb hK hP 14 13 rfl rfl a rfl (by omega) (by decide) dX5_hang_83 ?_
            refine lv_if_eq (tgt := 96) hx hb dX5_hang_84 (by decide) (fun c_12 => ?_) (fun c_12 => ?_)
            · skip
              have hg : ¬ g a = g b := fun h9 => f10 c_12 (LU.1.mpr h9)
              refine lv_ldc (v := (-1000000)) hx hb hown (hts _ (List.mem_of_getElem? (i := 5) rfl)) dX5_hang_96 ?_
              exact mu_iret (u_9.1, u_9.2) hx hb hr hlocks hP hD hS dX5_hang_98 (by simp [hangX, zI, (by decide : inR 0 0 1 = true), c_1, ea, c_2, eb, c_3, c_7, c_11, c_12, hg])
            · skip
              have h1 := (l1 a (by omega)).resolve_left c_12
              have hg : g a = g b := LU.1.mp h1
              have hv := LU.2 h1
              rw [if_pos (by omega)] at hv
              refine lv_aload_n hx hb dX5_hang_87 rfl (lv_at hl 1 rfl) ?_
              refine va_get (D := D) (ci := 5) (v := .ref (q 15)) (C := RX5) (T := TX5) (N := 20) hx hb hts iX5 hown hK hP 0 rfl rfl 19 (by decide) (hts _ (List.mem_of_getElem? (i := 4) rfl)) (fun _ h9 => h9) rfl dX5_hang_88 ?_
              refine lv_iload_n hx hb dX5_hang_91 rfl (lv_at hl 2 rfl) ?_
              refine wa_iald hx hb hK hP 15 14 rfl rfl a rfl (by omega) (by decide) dX5_hang_92 ?_
              refine lv_goto (tgt := 98) hx hb dX5_hang_93 (by decide) ?_
              exact mu_iret (u_9.1, u_9.2) hx hb hr hlocks hP hD hS dX5_hang_98 (by simp [hangX, zI, (by decide : inR 0 0 1 = true), c_1, ea, c_2, eb, c_3, c_7, c_11, c_12, hg, hv])
          · skip
            refine lv_aload_n hx hb dX5_hang_61 rfl (lv_at hl 1 rfl) ?_
            refine va_get (D := D) (ci := 5) (v := .ref (q 14)) (C := RX5) (T := TX5) (N := 20) hx hb hts iX5 hown hK hP 0 rfl rfl 18 (by decide) (hts _ (List.mem_of_getElem? (i := 3) rfl)) (fun _ h9 => h9) rfl dX5_hang_62 ?_
            refine lv_iload_n hx hb dX5_hang_65 rfl (lv_at hl 2 rfl) ?_
            refine wa_zald hx hb hK hP 14 13 rfl rfl a rfl (by omega) (by decide) dX5_hang_66 ?_
            refine lv_if_eq (tgt := 74) hx hb dX5_hang_67 (by decide) (fun c_13 => ?_) (fun c_13 => ?_)
            · skip
              have hg : ¬ g a = g b := fun h9 => f10 c_13 (LU.1.mpr h9)
              refine lv_iconst (v := 0) hx hb dX5_hang_74 (by decide) ?_
              refine lv_goto (tgt := 98) hx hb dX5_hang_75 (by decide) ?_
              exact mu_iret (u_9.1, u_9.2) hx hb hr hlocks hP hD hS dX5_hang_98 (by simp [hangX, zI, (by decide : inR 0 0 1 = true), c_1, ea, c_2, eb, c_3, c_7, c_11, c_13, hg])
            · skip
              have h1 := (l1 a (by omega)).resolve_left c_13
              have hg : g a = g b := LU.1.mp h1
              have hv := LU.2 h1
              rw [if_pos (by omega)] at hv
              refine lv_iconst (v := 1) hx hb dX5_hang_70 (by decide) ?_
              refine lv_goto (tgt := 98) hx hb dX5_hang_71 (by decide) ?_
              exact mu_iret (u_9.1, u_9.2) hx hb hr hlocks hP hD hS dX5_hang_98 (by simp [hangX, zI, (by decide : inR 0 0 1 = true), c_1, ea, c_2, eb, c_3, c_7, c_11, c_13, hg, hv])
        · skip
          refine lv_aload_n hx hb dX5_hang_45 rfl (lv_at hl 1 rfl) ?_
          refine va_get (D := D) (ci := 5) (v := .int (nI r0)) (C := RX5) (T := TX5) (N := 20) hx hb hts iX5 hown hK hP 0 rfl rfl 12 (by decide) (hts _ (List.mem_of_getElem? (i := 2) rfl)) (fun _ h9 => h9) rfl dX5_hang_46 ?_
          refine lv_goto (tgt := 54) hx hb dX5_hang_49 (by decide) ?_
          refine lv_cst (v := nI K) (fw_r hKr hr30 hct c_7) ?_
          refine muF_v (va_runV (As := [.int (nI b), .int (nI K)]) (rest := []) F (kX5_lead l D y q t n C w rt r0 no sa to tr st u_5.1 u_5.2 b K _ (by omega) (by omega) (fun z9 hz9 => hrd z9 (by omega))) (cwV 2 hts gX5_hang_X5_lead rfl rfl rfl ⟨rfl, hdX5_lead⟩ ⟨(Nat.le_of_ble_eq_true rfl), (Nat.le_of_ble_eq_true rfl)⟩) ⟨(muB_blind (fun _ _ _ _ _ => trivial)), va_recv hK hP (ci := 5) (q0 := 0) rfl rfl, muF_pre hP hK hN hD (fun _ _ _ => trivial)⟩ rfl rfl hl.1 rfl (lv_room (Nat.le_of_ble_eq_true rfl)) dX5_hang_54 ⟨Nat.zero_le _, Nat.zero_le _⟩) hP hD hS hA (fun u_15 H locs w_16 hP hD hS => ?_)
          obtain ⟨l1, l2, l3, l4⟩ := w_16
          have hP : va_P D vwCl (mWC y q (nI t) (nI n) C w rt (nI r0) no sa to tr st u_15.1 u_15.2) H := hP
          have hD : va_D A (mWC y q (nI t) (nI n) C w rt (nI r0) no sa to tr st u_15.1 u_15.2) := hD
          have LU := lead_use hrd hKr (by omega) l3 l2 l1 l4 hAG a (by omega)
          refine lv_iload_n hx hb dX5_hang_57 rfl (lv_at hl 4 rfl) ?_
          refine lv_if_ne (tgt := 78) hx hb dX5_hang_58 (by decide) (fun c_17 => ?_) (fun c_17 => ?_)
          · skip
            refine lv_aload_n hx hb dX5_hang_78 rfl (lv_at hl 1 rfl) ?_
            refine va_get (D := D) (ci := 5) (v := .ref (q 14)) (C := RX5) (T := TX5) (N := 20) hx hb hts iX5 hown hK hP 0 rfl rfl 18 (by decide) (hts _ (List.mem_of_getElem? (i := 3) rfl)) (fun _ h9 => h9) rfl dX5_hang_79 ?_
            refine lv_iload_n hx hb dX5_hang_82 rfl (lv_at hl 2 rfl) ?_
            refine wa_zald hx hb hK hP 14 13 rfl rfl a rfl (by omega) (by decide) dX5_hang_83 ?_
            refine lv_if_eq (tgt := 96) hx hb dX5_hang_84 (by decide) (fun c_18 => ?_) (fun c_18 => ?_)
            · skip
              have hg : ¬ g a = g b := fun h9 => f10 c_18 (LU.1.mpr h9)
              refine lv_ldc (v := (-1000000)) hx hb hown (hts _ (List.mem_of_getElem? (i := 5) rfl)) dX5_hang_96 ?_
              exact mu_iret (u_15.1, u_15.2) hx hb hr hlocks hP hD hS dX5_hang_98 (by simp [hangX, zI, (by decide : inR 0 0 1 = true), c_1, ea, c_2, eb, c_3, c_7, c_17, c_18, hg])
            · skip
              have h1 := (l1 a (by omega)).resolve_left c_18
              have hg : g a = g b := LU.1.mp h1
              have hv := LU.2 h1
              rw [if_pos (by omega)] at hv
              refine lv_aload_n hx hb dX5_hang_87 rfl (lv_at hl 1 rfl) ?_
              refine va_get (D := D) (ci := 5) (v := .ref (q 15)) (C := RX5) (T := TX5) (N := 20) hx hb hts iX5 hown hK hP 0 rfl rfl 19 (by decide) (hts _ (List.mem_of_getElem? (i := 4) rfl)) (fun _ h9 => h9) rfl dX5_hang_88 ?_
              refine lv_iload_n hx hb dX5_hang_91 rfl (lv_at hl 2 rfl) ?_
              refine wa_iald hx hb hK hP 15 14 rfl rfl a rfl (by omega) (by decide) dX5_hang_92 ?_
              refine lv_goto (tgt := 98) hx hb dX5_hang_93 (by decide) ?_
              exact mu_iret (u_15.1, u_15.2) hx hb hr hlocks hP hD hS dX5_hang_98 (by simp [hangX, zI, (by decide : inR 0 0 1 = true), c_1, ea, c_2, eb, c_3, c_7, c_17, c_18, hg, hv])
          · skip
            refine lv_aload_n hx hb dX5_hang_61 rfl (lv_at hl 1 rfl) ?_
            refine va_get (D := D) (ci := 5) (v := .ref (q 14)) (C := RX5) (T := TX5) (N := 20) hx hb hts iX5 hown hK hP 0 rfl rfl 18 (by decide) (hts _ (List.mem_of_getElem? (i := 3) rfl)) (fun _ h9 => h9) rfl dX5_hang_62 ?_
            refine lv_iload_n hx hb dX5_hang_65 rfl (lv_at hl 2 rfl) ?_
            refine wa_zald hx hb hK hP 14 13 rfl rfl a rfl (by omega) (by decide) dX5_hang_66 ?_
            refine lv_if_eq (tgt := 74) hx hb dX5_hang_67 (by decide) (fun c_19 => ?_) (fun c_19 => ?_)
            · skip
              have hg : ¬ g a = g b := fun h9 => f10 c_19 (LU.1.mpr h9)
              refine lv_iconst (v := 0) hx hb dX5_hang_74 (by decide) ?_
              refine lv_goto (tgt := 98) hx hb dX5_hang_75 (by decide) ?_
              exact mu_iret (u_15.1, u_15.2) hx hb hr hlocks hP hD hS dX5_hang_98 (by simp [hangX, zI, (by decide : inR 0 0 1 = true), c_1, ea, c_2, eb, c_3, c_7, c_17, c_19, hg])
            · skip
              have h1 := (l1 a (by omega)).resolve_left c_19
              have hg : g a = g b := LU.1.mp h1
              have hv := LU.2 h1
              rw [if_pos (by omega)] at hv
              refine lv_iconst (v := 1) hx hb dX5_hang_70 (by decide) ?_
              refine lv_goto (tgt := 98) hx hb dX5_hang_71 (by decide) ?_
              exact mu_iret (u_15.1, u_15.2) hx hb hr hlocks hP hD hS dX5_hang_98 (by simp [hangX, zI, (by decide : inR 0 0 1 = true), c_1, ea, c_2, eb, c_3, c_7, c_17, c_19, hg, hv])
      · skip
        have c_3 := zI_0 c_3
        refine lv_ldc (v := (-1000001)) hx hb hown (hts _ (List.mem_of_getElem? (i := 1) rfl)) dX5_hang_27 ?_
        exact mu_iret (im, va) hx hb hr hlocks hP hD hS dX5_hang_29 (by simp [hangX, zI, (by decide : inR 0 0 1 = true), c_1, ea, c_2, eb, c_3])
