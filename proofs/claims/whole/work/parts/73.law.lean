set_option maxRecDepth 20000 in
set_option maxHeartbeats 4000000 in
theorem lb_make {p : Program} {l : Launch} {e : Env} {s : State} {m : MethodId} {below : List Frame} {meth : Method} {c : Code} {Q : State → Prop} {D : va_G} {cI cZ cJ cW : ClassId} {b Ln : Nat} {xs : Nat → Int32} (hG : fy_G s D cI cZ cJ cW) (hX : fy_GX l s) (hN : fy_GC s) (hx : p.tables.exec = Jvm.exec) (hb : c.code = code) (hml : c.maxLocals = 7) (hown : s.vm.findClass "ForwardYardLaw" = some m.cls) (hts : ∀ w ∈ fy_T, w.before #[Value.ref b] s = true) (hXs : va_X b Ln xs s s.heap) (hbl : b < s.heap.size) (hL : Ln ≤ 2048) (yd rg wr cr fw wt wl se qu ao : Nat) (wa pa : Nat → Nat) (mo m1 m2 m3 m4 m5 m6 m7 m8 : Nat) (t : Nat) (ht : 4 * t + 4 ≤ Ln) (N : Nat) (C : Nat) (L : List Nat) (val : Nat → Int32) (age : Nat → Nat) (nf : Nat → Nat) (rf : Nat → Nat → Option Nat) (reg : Nat → Option Nat) (wk : Nat → Option Nat) (sp rw sq rx : Nat) (pl : Nat → Nat) (G V F row rowq f0 g0 : Nat → Int32) (pf : Nat → Nat → Int32) (wn0 tu0 st0 wq oq fo : Int32) (nu va ag fi re mk mr mw : Nat → Int32) (cd : Int32) (ou : Nat → Int64) (hI : fm_In t N C L age nf rf reg wk) (hk : fm_Ok L val age nf rf pl row) (hy : ya_R reg wk pl G V) (hM : fm_Mo L val age nf rf reg wk nu va ag fi re mr mw) {ls : Array Slot} {H : Heap} {locs : List Loc} (hl : lv_has ls 7 [(4, .int (nI (4 * t))), (0, .ref b), (1, .ref yd), (2, .ref mo), (3, .ref ao)]) (hP : va_P D vwCl (lw_Y cI cW yd rg wr cr fw wt wl se qu wa pa N C L nf sp rw sq rx G V F row rowq f0 g0 pf wn0 tu0 st0 wq oq fo ++ [(ao, .inl (cJ, 1, .inr (.inl ou)))] ++ lw_M cI cZ mo m1 m2 m3 m4 m5 m6 m7 m8 cd N C L nu va ag fi re mk mr mw) H) (hD : va_D (fy_B s) (lw_Y cI cW yd rg wr cr fw wt wl se qu wa pa N C L nf sp rw sq rx G V F row rowq f0 g0 pf wn0 tu0 st0 wq oq fo ++ [(ao, .inl (cJ, 1, .inr (.inl ou)))] ++ lw_M cI cZ mo m1 m2 m3 m4 m5 m6 m7 m8 cd N C L nu va ag fi re mk mr mw)) (hS : va_S (fy_B s) s.heap H locs) (ih : ∀ (ls : Array Slot) (H : Heap) (locs : List Loc), lw_Inv s D cI cZ cJ cW b yd rg wr cr fw wt wl se qu ao wa pa mo m1 m2 m3 m4 m5 m6 m7 m8 (t + 1) ls H locs → W p l e room_1 s m #[Value.ref b] below meth c H locs (31 + (t + 1)) (2151 + 6 * (t + 1)) Q (F0 m 23 ls [])) : W p l e room_1 s m #[Value.ref b] below meth c H locs (31 + t) (2151 + 6 * t) Q (F0 m 112 ls []) := by
  have hK : va_K D vwCl (fy_tys cI cZ cJ cW) s := hG.2
  have hLa := fy_La.rf s
  have hAB : ∀ q, fy_B s q → fy_B s q := fun _ h => h
  have hA : ∀ q, s.heap.size ≤ q → fy_B s q := fun _ h => h
  have ht5 : t < 512 := by omega
  obtain ⟨k, ans, N', C', L', val', age', nf', rf', reg', wk', ho, hk3, hI'⟩ := ft_make hI ht5 (xs (4 * t + 1)) (xs (4 * t + 2)) (xs (4 * t + 3))
  refine lv_aload_n hx hb d_La_law_112 rfl (lv_at hl 2 rfl) ?_
  refine lv_aload_n hx hb d_La_law_113 rfl (lv_at hl 1 rfl) ?_
  refine lv_iload hx hb d_La_law_114 (lv_at hl 0 rfl) ?_
  refine lv_iconst (v := nI 1) hx hb d_La_law_116 (by decide) ?_
  refine lv_iadd hx hb d_La_law_117 ?_
  refine fy_top (z := nI ((4 * t) + 1)) (nI_add _ _) ?_
  refine fy_sld (A := fy_B s) hx hb hXs hbl (fun h => Nat.not_le_of_lt hbl h) hS hL (by omega) d_La_law_118 ?_
  refine lv_aload_n hx hb d_La_law_119 rfl (lv_at hl 1 rfl) ?_
  refine lv_iload hx hb d_La_law_120 (lv_at hl 0 rfl) ?_
  refine lv_iconst (v := nI 2) hx hb d_La_law_122 (by decide) ?_
  refine lv_iadd hx hb d_La_law_123 ?_
  refine fy_top (z := nI ((4 * t) + 2)) (nI_add _ _) ?_
  refine fy_sld (A := fy_B s) hx hb hXs hbl (fun h => Nat.not_le_of_lt hbl h) hS hL (by omega) d_La_law_124 ?_
  refine lv_aload_n hx hb d_La_law_125 rfl (lv_at hl 1 rfl) ?_
  refine lv_iload hx hb d_La_law_126 (lv_at hl 0 rfl) ?_
  refine lv_iconst (v := nI 3) hx hb d_La_law_128 (by decide) ?_
  refine lv_iadd hx hb d_La_law_129 ?_
  refine fy_top (z := nI ((4 * t) + 3)) (nI_add _ _) ?_
  refine fy_sld (A := fy_B s) hx hb hXs hbl (fun h => Nat.not_le_of_lt hbl h) hS hL (by omega) d_La_law_130 ?_
  refine lv_aload_n hx hb d_La_law_131 rfl (lv_at hl 4 rfl) ?_
  refine fy_callSW3 (As := [.ref yd, .int (xs ((4 * t) + 1)), .int (xs ((4 * t) + 2)), .int (xs ((4 * t) + 3)), .ref ao]) (rest := []) (H := H) [] (lw_M cI cZ mo m1 m2 m3 m4 m5 m6 m7 m8 cd N C L nu va ag fi re mk mr mw) ⟨hx, hb, hml, hown, hts⟩ (c_La_make l s D cI cZ cJ cW hG hX hN yd rg wr cr fw wt wl se qu wa pa ao t N C L val age nf rf reg wk sp rw sq rx pl G V F row rowq f0 g0 pf wn0 tu0 st0 wq oq fo ou hI hk hy (xs (4 * t + 1)) (xs (4 * t + 2)) (xs (4 * t + 3)) k ans N' C' L' val' age' nf' rf' reg' wk' ho) List.mem_cons_self (fy_good (fy_w1 k_c_La_make)) rfl rfl ⟨Nat.le_of_ble_eq_true rfl, Nat.le_of_ble_eq_true rfl⟩ (hts _ k_m_La_73) (hts _ k_s_La_make) (hts _ k_ini_La) ⟨by decide, by decide, show (parseMethodDescriptor y_La_make.desc).map (fun d => d.parameters.length) = some 5 by decide +kernel⟩ hLa hAB hA hP hD hS hl.1 rfl (Nat.le_of_ble_eq_true rfl) d_La_law_132 ⟨show _ ≤ 601024 by omega, show _ ≤ 7293034 by omega⟩ (fun r w1 H locs hp hP hD hS => ?_)
  obtain ⟨rfl, sp2, rw2, sq2, rx2, pl2, G2, V2, F2, row2, rowq2, f02, g02, pf2, wn02, tu02, st02, wq2, oq2, fo2, ou2, hou, hk2, hy2, rfl⟩ := hp
  have hP : va_P D vwCl (lw_Y cI cW yd rg wr cr fw wt wl se qu wa pa N' C' L' nf' sp2 rw2 sq2 rx2 G2 V2 F2 row2 rowq2 f02 g02 pf2 wn02 tu02 st02 wq2 oq2 fo2 ++ [(ao, .inl (cJ, 1, .inr (.inl ou2)))] ++ lw_M cI cZ mo m1 m2 m3 m4 m5 m6 m7 m8 cd N C L nu va ag fi re mk mr mw) H := hP
  have hD : va_D (fy_B s) (lw_Y cI cW yd rg wr cr fw wt wl se qu wa pa N' C' L' nf' sp2 rw2 sq2 rx2 G2 V2 F2 row2 rowq2 f02 g02 pf2 wn02 tu02 st02 wq2 oq2 fo2 ++ [(ao, .inl (cJ, 1, .inr (.inl ou2)))] ++ lw_M cI cZ mo m1 m2 m3 m4 m5 m6 m7 m8 cd N C L nu va ag fi re mk mr mw) := hD
  refine W.eq (g2 := F0 m 135 ls [.int (nI k)]) rfl ?_
  refine lv_istore hx hb d_La_law_135 hl (by decide) rfl (fun ls hl => ?_)
  have hl : lv_has ls 7 [(5, .int (nI k)), (4, .int (nI (4 * t))), (0, .ref b), (1, .ref yd), (2, .ref mo), (3, .ref ao)] := hl
  refine lv_aload_n hx hb d_La_law_137 rfl (lv_at hl 4 rfl) ?_
  refine lv_aload_n hx hb d_La_law_138 rfl (lv_at hl 2 rfl) ?_
  refine lv_iload hx hb d_La_law_139 (lv_at hl 1 rfl) ?_
  refine lv_iconst (v := nI 1) hx hb d_La_law_141 (by decide) ?_
  refine lv_iadd hx hb d_La_law_142 ?_
  refine fy_top (z := nI ((4 * t) + 1)) (nI_add _ _) ?_
  refine fy_sld (A := fy_B s) hx hb hXs hbl (fun h => Nat.not_le_of_lt hbl h) hS hL (by omega) d_La_law_143 ?_
  refine lv_aload_n hx hb d_La_law_144 rfl (lv_at hl 2 rfl) ?_
  refine lv_iload hx hb d_La_law_145 (lv_at hl 1 rfl) ?_
  refine lv_iconst (v := nI 2) hx hb d_La_law_147 (by decide) ?_
  refine lv_iadd hx hb d_La_law_148 ?_
  refine fy_top (z := nI ((4 * t) + 2)) (nI_add _ _) ?_
  refine fy_sld (A := fy_B s) hx hb hXs hbl (fun h => Nat.not_le_of_lt hbl h) hS hL (by omega) d_La_law_149 ?_
  refine lv_aload_n hx hb d_La_law_150 rfl (lv_at hl 2 rfl) ?_
  refine lv_iload hx hb d_La_law_151 (lv_at hl 1 rfl) ?_
  refine lv_iconst (v := nI 3) hx hb d_La_law_153 (by decide) ?_
  refine lv_iadd hx hb d_La_law_154 ?_
  refine fy_top (z := nI ((4 * t) + 3)) (nI_add _ _) ?_
  refine fy_sld (A := fy_B s) hx hb hXs hbl (fun h => Nat.not_le_of_lt hbl h) hS hL (by omega) d_La_law_155 ?_
  refine fy_callV3 (As := [.int (xs ((4 * t) + 1)), .int (xs ((4 * t) + 2)), .int (xs ((4 * t) + 3))]) (rest := []) (H := H) (lw_Y cI cW yd rg wr cr fw wt wl se qu wa pa N' C' L' nf' sp2 rw2 sq2 rx2 G2 V2 F2 row2 rowq2 f02 g02 pf2 wn02 tu02 st02 wq2 oq2 fo2 ++ [(ao, .inl (cJ, 1, .inr (.inl ou2)))]) [] ⟨hx, hb, hml, hown, hts⟩ (c_Mo_make l s D cI cZ cJ cW hG mo m1 m2 m3 m4 m5 m6 m7 m8 cd t N C L val age nf rf reg wk nu va ag fi re mk mr mw hI hM (xs (4 * t + 1)) (xs (4 * t + 2)) (xs (4 * t + 3)) k ans N' C' L' val' age' nf' rf' reg' wk' ho) (cwV 3 hts g_La_78 rfl rfl rfl (by decide +kernel) ⟨Nat.le_of_ble_eq_true rfl, Nat.le_of_ble_eq_true rfl⟩) hK hLa hAB hA (by rw [List.append_nil]; exact hP) (by rw [List.append_nil]; exact hD) hS (ci := 5) rfl rfl (q0 := 22) rfl rfl hl.1 rfl (Nat.le_of_ble_eq_true rfl) d_La_law_156 ⟨show _ ≤ 601024 by omega, show _ ≤ 7293034 by omega⟩ (fun r w1 H locs hp hP hD hS => ?_)
  rw [List.append_nil] at hP hD
  obtain ⟨b9, nu2, va2, ag2, fi2, re2, mk2, mr2, mw2, hb9, rfl, hM2, rfl⟩ := hp
  have hP : va_P D vwCl (lw_Y cI cW yd rg wr cr fw wt wl se qu wa pa N' C' L' nf' sp2 rw2 sq2 rx2 G2 V2 F2 row2 rowq2 f02 g02 pf2 wn02 tu02 st02 wq2 oq2 fo2 ++ [(ao, .inl (cJ, 1, .inr (.inl ou2)))] ++ lw_M cI cZ mo m1 m2 m3 m4 m5 m6 m7 m8 (nI k) N' C' L' nu2 va2 ag2 fi2 re2 mk2 mr2 mw2) H := hP
  have hD : va_D (fy_B s) (lw_Y cI cW yd rg wr cr fw wt wl se qu wa pa N' C' L' nf' sp2 rw2 sq2 rx2 G2 V2 F2 row2 rowq2 f02 g02 pf2 wn02 tu02 st02 wq2 oq2 fo2 ++ [(ao, .inl (cJ, 1, .inr (.inl ou2)))] ++ lw_M cI cZ mo m1 m2 m3 m4 m5 m6 m7 m8 (nI k) N' C' L' nu2 va2 ag2 fi2 re2 mk2 mr2 mw2) := hD
  refine W.eq (g2 := F0 m 159 ls [.int b9]) rfl ?_
  refine lv_istore hx hb d_La_law_159 hl (by decide) rfl (fun ls hl => ?_)
  have hl : lv_has ls 7 [(6, .int b9), (5, .int (nI k)), (4, .int (nI (4 * t))), (0, .ref b), (1, .ref yd), (2, .ref mo), (3, .ref ao)] := hl
  refine lv_aload_n hx hb d_La_law_161 rfl (lv_at hl 5 rfl) ?_
  refine fy_callV3 (As := []) (rest := []) (H := H) (lw_Y cI cW yd rg wr cr fw wt wl se qu wa pa N' C' L' nf' sp2 rw2 sq2 rx2 G2 V2 F2 row2 rowq2 f02 g02 pf2 wn02 tu02 st02 wq2 oq2 fo2 ++ [(ao, .inl (cJ, 1, .inr (.inl ou2)))]) [] ⟨hx, hb, hml, hown, hts⟩ (c_Mo_thrownW l s D cI cZ cJ cW hG mo m1 m2 m3 m4 m5 m6 m7 m8 (nI k) N' C' L' nu2 va2 ag2 fi2 re2 mk2 mr2 mw2) (cwV 0 hts g_La_79 rfl rfl rfl (by decide +kernel) ⟨Nat.le_of_ble_eq_true rfl, Nat.le_of_ble_eq_true rfl⟩) hK hLa hAB hA (by rw [List.append_nil]; exact hP) (by rw [List.append_nil]; exact hD) hS (ci := 5) rfl rfl (q0 := 22) rfl rfl hl.1 rfl (Nat.le_of_ble_eq_true rfl) d_La_law_162 ⟨show _ ≤ 601024 by omega, show _ ≤ 7293034 by omega⟩ (fun r w1 H locs hp hP hD hS => ?_)
  rw [List.append_nil] at hP hD
  obtain ⟨rfl, rfl⟩ := hp
  have hP : va_P D vwCl (lw_Y cI cW yd rg wr cr fw wt wl se qu wa pa N' C' L' nf' sp2 rw2 sq2 rx2 G2 V2 F2 row2 rowq2 f02 g02 pf2 wn02 tu02 st02 wq2 oq2 fo2 ++ [(ao, .inl (cJ, 1, .inr (.inl ou2)))] ++ lw_M cI cZ mo m1 m2 m3 m4 m5 m6 m7 m8 (nI k) N' C' L' nu2 va2 ag2 fi2 re2 mk2 mr2 mw2) H := hP
  have hD : va_D (fy_B s) (lw_Y cI cW yd rg wr cr fw wt wl se qu wa pa N' C' L' nf' sp2 rw2 sq2 rx2 G2 V2 F2 row2 rowq2 f02 g02 pf2 wn02 tu02 st02 wq2 oq2 fo2 ++ [(ao, .inl (cJ, 1, .inr (.inl ou2)))] ++ lw_M cI cZ mo m1 m2 m3 m4 m5 m6 m7 m8 (nI k) N' C' L' nu2 va2 ag2 fi2 re2 mk2 mr2 mw2) := hD
  refine W.eq (g2 := F0 m 165 ls [.int (nI k)]) rfl ?_
  refine lv_iload hx hb d_La_law_165 (lv_at hl 1 rfl) ?_
  refine lv_icmp_eq hx hb d_La_law_167 (tgt := 172) (by decide) (fun _ => ?_) (fun h => absurd (rfl) h)
  refine lv_iload hx hb d_La_law_172 (lv_at hl 1 rfl) ?_
  by_cases hk0 : k = 0
  · refine lv_if_ne hx hb d_La_law_174 (tgt := 189) (by decide) (fun h => absurd (by rw [hk0]; rfl) h) (fun _ => ?_)
    refine lv_aload_n hx hb d_La_law_177 rfl (lv_at hl 6 rfl) ?_
    refine lv_iconst (v := nI 0) hx hb d_La_law_178 (by decide) ?_
    refine fy_lald (t0 := 2) (N := 1) (k := 0) (f := ou2) (v := ou2 0) hx hb hK hP 21 rfl rfl (by omega) (by omega) rfl d_La_law_179 ?_
    refine lv_iload hx hb d_La_law_180 (lv_at hl 0 rfl) ?_
    refine lv_i2l hx hb d_La_law_182 rfl ?_
    refine fy_lcmp hx hb (by rw [hou hk0, hb9 hk0]) d_La_law_183 ?_
    refine lv_if_eq hx hb d_La_law_184 (tgt := 189) (by decide) (fun _ => ?_) (fun h => absurd (rfl) h)
    refine lv_goto hx hb d_La_law_189 (tgt := 1034) (by decide) ?_
    refine lv_iinc (v := nI (4 * t + 4)) hx hb d_La_law_1034 hl (k := 2) rfl (by rw [show Int32.ofInt 4 = nI 4 from by decide]; exact nI_add _ _) (by decide) rfl (fun ls hl => ?_)
    have hl : lv_has ls 7 [(4, .int (nI (4 * t + 4))), (6, .int b9), (5, .int (nI k)), (0, .ref b), (1, .ref yd), (2, .ref mo), (3, .ref ao)] := hl
    refine lv_goto hx hb d_La_law_1037 (tgt := 23) (by decide) ?_
    have hl : lv_has ls 7 [(4, .int (nI (4 * (t + 1)))), (0, .ref b), (1, .ref yd), (2, .ref mo), (3, .ref ao)] := lv_sub hl [0, 3, 4, 5, 6] rfl
    exact fy_more (c' := 31 + (t + 1)) (s' := 2151 + 6 * (t + 1)) (by omega) (by omega) (ih _ _ _ ⟨N', C', L', val', age', nf', rf', reg', wk', sp2, rw2, sq2, rx2, pl2, G2, V2, F2, row2, rowq2, f02, g02, pf2, wn02, tu02, st02, wq2, oq2, fo2, nu2, va2, ag2, fi2, re2, mk2, mr2, mw2, nI k, ou2, hI', hk2, hy2, hM2, hl, hP, hD, hS⟩)
  · refine lv_if_ne hx hb d_La_law_174 (tgt := 189) (by decide) (fun _ => ?_) (fun h => absurd h (nI_ne0 (by omega) (by omega)))
    refine lv_goto hx hb d_La_law_189 (tgt := 1034) (by decide) ?_
    refine lv_iinc (v := nI (4 * t + 4)) hx hb d_La_law_1034 hl (k := 2) rfl (by rw [show Int32.ofInt 4 = nI 4 from by decide]; exact nI_add _ _) (by decide) rfl (fun ls hl => ?_)
    have hl : lv_has ls 7 [(4, .int (nI (4 * t + 4))), (6, .int b9), (5, .int (nI k)), (0, .ref b), (1, .ref yd), (2, .ref mo), (3, .ref ao)] := hl
    refine lv_goto hx hb d_La_law_1037 (tgt := 23) (by decide) ?_
    have hl : lv_has ls 7 [(4, .int (nI (4 * (t + 1)))), (0, .ref b), (1, .ref yd), (2, .ref mo), (3, .ref ao)] := lv_sub hl [0, 3, 4, 5, 6] rfl
    exact fy_more (c' := 31 + (t + 1)) (s' := 2151 + 6 * (t + 1)) (by omega) (by omega) (ih _ _ _ ⟨N', C', L', val', age', nf', rf', reg', wk', sp2, rw2, sq2, rx2, pl2, G2, V2, F2, row2, rowq2, f02, g02, pf2, wn02, tu02, st02, wq2, oq2, fo2, nu2, va2, ag2, fi2, re2, mk2, mr2, mw2, nI k, ou2, hI', hk2, hy2, hM2, hl, hP, hD, hS⟩)
set_option maxRecDepth 20000 in
set_option maxHeartbeats 4000000 in
theorem lb_set {p : Program} {l : Launch} {e : Env} {s : State} {m : MethodId} {below : List Frame} {meth : Method} {c : Code} {Q : State → Prop} {D : va_G} {cI cZ cJ cW : ClassId} {b Ln : Nat} {xs : Nat → Int32} (hG : fy_G s D cI cZ cJ cW) (hX : fy_GX l s) (hN : fy_GC s) (hx : p.tables.exec = Jvm.exec) (hb : c.code = code) (hml : c.maxLocals = 7) (hown : s.vm.findClass "ForwardYardLaw" = some m.cls) (hts : ∀ w ∈ fy_T, w.before #[Value.ref b] s = true) (hXs : va_X b Ln xs s s.heap) (hbl : b < s.heap.size) (hL : Ln ≤ 2048) (yd rg wr cr fw wt wl se qu ao : Nat) (wa pa : Nat → Nat) (mo m1 m2 m3 m4 m5 m6 m7 m8 : Nat) (t : Nat) (ht : 4 * t + 4 ≤ Ln) (N : Nat) (C : Nat) (L : List Nat) (val : Nat → Int32) (age : Nat → Nat) (nf : Nat → Nat) (rf : Nat → Nat → Option Nat) (reg : Nat → Option Nat) (wk : Nat → Option Nat) (sp rw sq rx : Nat) (pl : Nat → Nat) (G V F row rowq f0 g0 : Nat → Int32) (pf : Nat → Nat → Int32) (wn0 tu0 st0 wq oq fo : Int32) (nu va ag fi re mk mr mw : Nat → Int32) (cd : Int32) (ou : Nat → Int64) (hI : fm_In t N C L age nf rf reg wk) (hk : fm_Ok L val age nf rf pl row) (hy : ya_R reg wk pl G V) (hM : fm_Mo L val age nf rf reg wk nu va ag fi re mr mw) {ls : Array Slot} {H : Heap} {locs : List Loc} (hl : lv_has ls 7 [(4, .int (nI (4 * t))), (0, .ref b), (1, .ref yd), (2, .ref mo), (3, .ref ao)]) (hP : va_P D vwCl (lw_Y cI cW yd rg wr cr fw wt wl se qu wa pa N C L nf sp rw sq rx G V F row rowq f0 g0 pf wn0 tu0 st0 wq oq fo ++ [(ao, .inl (cJ, 1, .inr (.inl ou)))] ++ lw_M cI cZ mo m1 m2 m3 m4 m5 m6 m7 m8 cd N C L nu va ag fi re mk mr mw) H) (hD : va_D (fy_B s) (lw_Y cI cW yd rg wr cr fw wt wl se qu wa pa N C L nf sp rw sq rx G V F row rowq f0 g0 pf wn0 tu0 st0 wq oq fo ++ [(ao, .inl (cJ, 1, .inr (.inl ou)))] ++ lw_M cI cZ mo m1 m2 m3 m4 m5 m6 m7 m8 cd N C L nu va ag fi re mk mr mw)) (hS : va_S (fy_B s) s.heap H locs) (ih : ∀ (ls : Array Slot) (H : Heap) (locs : List Loc), lw_Inv s D cI cZ cJ cW b yd rg wr cr fw wt wl se qu ao wa pa mo m1 m2 m3 m4 m5 m6 m7 m8 (t + 1) ls H locs → W p l e room_1 s m #[Value.ref b] below meth c H locs (31 + (t + 1)) (2151 + 6 * (t + 1)) Q (F0 m 23 ls [])) : W p l e room_1 s m #[Value.ref b] below meth c H locs (31 + t) (2151 + 6 * t) Q (F0 m 192 ls []) := by
  have hK : va_K D vwCl (fy_tys cI cZ cJ cW) s := hG.2
  have hLa := fy_La.rf s
  have hAB : ∀ q, fy_B s q → fy_B s q := fun _ h => h
  have hA : ∀ q, s.heap.size ≤ q → fy_B s q := fun _ h => h
  have ht5 : t < 512 := by omega
  obtain ⟨k, ans, N', C', L', val', age', nf', rf', reg', wk', ho, hk3, hI'⟩ := ft_set hI ht5 (xs (4 * t + 1)) (xs (4 * t + 2)) (xs (4 * t + 3))
  refine lv_aload_n hx hb d_La_law_192 rfl (lv_at hl 2 rfl) ?_
  refine lv_aload_n hx hb d_La_law_193 rfl (lv_at hl 1 rfl) ?_
  refine lv_iload hx hb d_La_law_194 (lv_at hl 0 rfl) ?_
  refine lv_iconst (v := nI 1) hx hb d_La_law_196 (by decide) ?_
  refine lv_iadd hx hb d_La_law_197 ?_
  refine fy_top (z := nI ((4 * t) + 1)) (nI_add _ _) ?_
  refine fy_sld (A := fy_B s) hx hb hXs hbl (fun h => Nat.not_le_of_lt hbl h) hS hL (by omega) d_La_law_198 ?_
  refine lv_aload_n hx hb d_La_law_199 rfl (lv_at hl 1 rfl) ?_
  refine lv_iload hx hb d_La_law_200 (lv_at hl 0 rfl) ?_
  refine lv_iconst (v := nI 2) hx hb d_La_law_202 (by decide) ?_
  refine lv_iadd hx hb d_La_law_203 ?_
  refine fy_top (z := nI ((4 * t) + 2)) (nI_add _ _) ?_
  refine fy_sld (A := fy_B s) hx hb hXs hbl (fun h => Nat.not_le_of_lt hbl h) hS hL (by omega) d_La_law_204 ?_
  refine lv_aload_n hx hb d_La_law_205 rfl (lv_at hl 1 rfl) ?_
  refine lv_iload hx hb d_La_law_206 (lv_at hl 0 rfl) ?_
  refine lv_iconst (v := nI 3) hx hb d_La_law_208 (by decide) ?_
  refine lv_iadd hx hb d_La_law_209 ?_
  refine fy_top (z := nI ((4 * t) + 3)) (nI_add _ _) ?_
  refine fy_sld (A := fy_B s) hx hb hXs hbl (fun h => Nat.not_le_of_lt hbl h) hS hL (by omega) d_La_law_210 ?_
  refine fy_callSW3 (As := [.ref yd, .int (xs ((4 * t) + 1)), .int (xs ((4 * t) + 2)), .int (xs ((4 * t) + 3))]) (rest := []) (H := H) [] ([(ao, .inl (cJ, 1, .inr (.inl ou)))] ++ lw_M cI cZ mo m1 m2 m3 m4 m5 m6 m7 m8 cd N C L nu va ag fi re mk mr mw) ⟨hx, hb, hml, hown, hts⟩ (c_La_set l s D cI cZ cJ cW hG hX hN yd rg wr cr fw wt wl se qu wa pa t N C L val age nf rf reg wk sp rw sq rx pl G V F row rowq f0 g0 pf wn0 tu0 st0 wq oq fo hI hk hy (xs (4 * t + 1)) (xs (4 * t + 2)) (xs (4 * t + 3)) k ans N' C' L' val' age' nf' rf' reg' wk' ho) List.mem_cons_self (fy_good (fy_w1 k_c_La_set)) rfl rfl ⟨Nat.le_of_ble_eq_true rfl, Nat.le_of_ble_eq_true rfl⟩ (hts _ k_m_La_83) (hts _ k_s_La_set) (hts _ k_ini_La) ⟨by decide, by decide, show (parseMethodDescriptor y_La_set.desc).map (fun d => d.parameters.length) = some 4 by decide +kernel⟩ hLa hAB hA hP hD hS hl.1 rfl (Nat.le_of_ble_eq_true rfl) d_La_law_211 ⟨show _ ≤ 601024 by omega, show _ ≤ 7293034 by omega⟩ (fun r w1 H locs hp hP hD hS => ?_)
  obtain ⟨rfl, sp2, rw2, sq2, rx2, pl2, G2, V2, F2, row2, rowq2, f02, g02, pf2, wn02, tu02, st02, wq2, oq2, fo2, hk2, hy2, rfl⟩ := hp
  have hP : va_P D vwCl (lw_Y cI cW yd rg wr cr fw wt wl se qu wa pa N' C' L' nf' sp2 rw2 sq2 rx2 G2 V2 F2 row2 rowq2 f02 g02 pf2 wn02 tu02 st02 wq2 oq2 fo2 ++ [(ao, .inl (cJ, 1, .inr (.inl ou)))] ++ lw_M cI cZ mo m1 m2 m3 m4 m5 m6 m7 m8 cd N C L nu va ag fi re mk mr mw) H := hP
  have hD : va_D (fy_B s) (lw_Y cI cW yd rg wr cr fw wt wl se qu wa pa N' C' L' nf' sp2 rw2 sq2 rx2 G2 V2 F2 row2 rowq2 f02 g02 pf2 wn02 tu02 st02 wq2 oq2 fo2 ++ [(ao, .inl (cJ, 1, .inr (.inl ou)))] ++ lw_M cI cZ mo m1 m2 m3 m4 m5 m6 m7 m8 cd N C L nu va ag fi re mk mr mw) := hD
  refine W.eq (g2 := F0 m 214 ls [.int (nI k)]) rfl ?_
  refine lv_istore hx hb d_La_law_214 hl (by decide) rfl (fun ls hl => ?_)
  have hl : lv_has ls 7 [(5, .int (nI k)), (4, .int (nI (4 * t))), (0, .ref b), (1, .ref yd), (2, .ref mo), (3, .ref ao)] := hl
  refine lv_aload_n hx hb d_La_law_216 rfl (lv_at hl 4 rfl) ?_
  refine lv_aload_n hx hb d_La_law_217 rfl (lv_at hl 2 rfl) ?_
  refine lv_iload hx hb d_La_law_218 (lv_at hl 1 rfl) ?_
  refine lv_iconst (v := nI 1) hx hb d_La_law_220 (by decide) ?_
  refine lv_iadd hx hb d_La_law_221 ?_
  refine fy_top (z := nI ((4 * t) + 1)) (nI_add _ _) ?_
  refine fy_sld (A := fy_B s) hx hb hXs hbl (fun h => Nat.not_le_of_lt hbl h) hS hL (by omega) d_La_law_222 ?_
  refine lv_aload_n hx hb d_La_law_223 rfl (lv_at hl 2 rfl) ?_
  refine lv_iload hx hb d_La_law_224 (lv_at hl 1 rfl) ?_
  refine lv_iconst (v := nI 2) hx hb d_La_law_226 (by decide) ?_
  refine lv_iadd hx hb d_La_law_227 ?_
  refine fy_top (z := nI ((4 * t) + 2)) (nI_add _ _) ?_
  refine fy_sld (A := fy_B s) hx hb hXs hbl (fun h => Nat.not_le_of_lt hbl h) hS hL (by omega) d_La_law_228 ?_
  refine lv_aload_n hx hb d_La_law_229 rfl (lv_at hl 2 rfl) ?_
  refine lv_iload hx hb d_La_law_230 (lv_at hl 1 rfl) ?_
  refine lv_iconst (v := nI 3) hx hb d_La_law_232 (by decide) ?_
  refine lv_iadd hx hb d_La_law_233 ?_
  refine fy_top (z := nI ((4 * t) + 3)) (nI_add _ _) ?_
  refine fy_sld (A := fy_B s) hx hb hXs hbl (fun h => Nat.not_le_of_lt hbl h) hS hL (by omega) d_La_law_234 ?_
  refine fy_callV3 (As := [.int (xs ((4 * t) + 1)), .int (xs ((4 * t) + 2)), .int (xs ((4 * t) + 3))]) (rest := []) (H := H) (lw_Y cI cW yd rg wr cr fw wt wl se qu wa pa N' C' L' nf' sp2 rw2 sq2 rx2 G2 V2 F2 row2 rowq2 f02 g02 pf2 wn02 tu02 st02 wq2 oq2 fo2 ++ [(ao, .inl (cJ, 1, .inr (.inl ou)))]) [] ⟨hx, hb, hml, hown, hts⟩ (c_Mo_set l s D cI cZ cJ cW hG mo m1 m2 m3 m4 m5 m6 m7 m8 cd t N C L val age nf rf reg wk nu va ag fi re mk mr mw hI hM (xs (4 * t + 1)) (xs (4 * t + 2)) (xs (4 * t + 3)) k ans N' C' L' val' age' nf' rf' reg' wk' ho) (cwV 3 hts g_La_86 rfl rfl rfl (by decide +kernel) ⟨Nat.le_of_ble_eq_true rfl, Nat.le_of_ble_eq_true rfl⟩) hK hLa hAB hA (by rw [List.append_nil]; exact hP) (by rw [List.append_nil]; exact hD) hS (ci := 5) rfl rfl (q0 := 22) rfl rfl hl.1 rfl (Nat.le_of_ble_eq_true rfl) d_La_law_235 ⟨show _ ≤ 601024 by omega, show _ ≤ 7293034 by omega⟩ (fun r w1 H locs hp hP hD hS => ?_)
  rw [List.append_nil] at hP hD
  obtain ⟨b9, nu2, va2, ag2, fi2, re2, mk2, mr2, mw2, hb9, rfl, hM2, rfl⟩ := hp
  have hP : va_P D vwCl (lw_Y cI cW yd rg wr cr fw wt wl se qu wa pa N' C' L' nf' sp2 rw2 sq2 rx2 G2 V2 F2 row2 rowq2 f02 g02 pf2 wn02 tu02 st02 wq2 oq2 fo2 ++ [(ao, .inl (cJ, 1, .inr (.inl ou)))] ++ lw_M cI cZ mo m1 m2 m3 m4 m5 m6 m7 m8 (nI k) N' C' L' nu2 va2 ag2 fi2 re2 mk2 mr2 mw2) H := hP
  have hD : va_D (fy_B s) (lw_Y cI cW yd rg wr cr fw wt wl se qu wa pa N' C' L' nf' sp2 rw2 sq2 rx2 G2 V2 F2 row2 rowq2 f02 g02 pf2 wn02 tu02 st02 wq2 oq2 fo2 ++ [(ao, .inl (cJ, 1, .inr (.inl ou)))] ++ lw_M cI cZ mo m1 m2 m3 m4 m5 m6 m7 m8 (nI k) N' C' L' nu2 va2 ag2 fi2 re2 mk2 mr2 mw2) := hD
  refine W.eq (g2 := F0 m 238 ls []) rfl ?_
  refine lv_aload_n hx hb d_La_law_238 rfl (lv_at hl 4 rfl) ?_
  refine fy_callV3 (As := []) (rest := []) (H := H) (lw_Y cI cW yd rg wr cr fw wt wl se qu wa pa N' C' L' nf' sp2 rw2 sq2 rx2 G2 V2 F2 row2 rowq2 f02 g02 pf2 wn02 tu02 st02 wq2 oq2 fo2 ++ [(ao, .inl (cJ, 1, .inr (.inl ou)))]) [] ⟨hx, hb, hml, hown, hts⟩ (c_Mo_thrownW l s D cI cZ cJ cW hG mo m1 m2 m3 m4 m5 m6 m7 m8 (nI k) N' C' L' nu2 va2 ag2 fi2 re2 mk2 mr2 mw2) (cwV 0 hts g_La_79 rfl rfl rfl (by decide +kernel) ⟨Nat.le_of_ble_eq_true rfl, Nat.le_of_ble_eq_true rfl⟩) hK hLa hAB hA (by rw [List.append_nil]; exact hP) (by rw [List.append_nil]; exact hD) hS (ci := 5) rfl rfl (q0 := 22) rfl rfl hl.1 rfl (Nat.le_of_ble_eq_true rfl) d_La_law_239 ⟨show _ ≤ 601024 by omega, show _ ≤ 7293034 by omega⟩ (fun r w1 H locs hp hP hD hS => ?_)
  rw [List.append_nil] at hP hD
  obtain ⟨rfl, rfl⟩ := hp
  have hP : va_P D vwCl (lw_Y cI cW yd rg wr cr fw wt wl se qu wa pa N' C' L' nf' sp2 rw2 sq2 rx2 G2 V2 F2 row2 rowq2 f02 g02 pf2 wn02 tu02 st02 wq2 oq2 fo2 ++ [(ao, .inl (cJ, 1, .inr (.inl ou)))] ++ lw_M cI cZ mo m1 m2 m3 m4 m5 m6 m7 m8 (nI k) N' C' L' nu2 va2 ag2 fi2 re2 mk2 mr2 mw2) H := hP
  have hD : va_D (fy_B s) (lw_Y cI cW yd rg wr cr fw wt wl se qu wa pa N' C' L' nf' sp2 rw2 sq2 rx2 G2 V2 F2 row2 rowq2 f02 g02 pf2 wn02 tu02 st02 wq2 oq2 fo2 ++ [(ao, .inl (cJ, 1, .inr (.inl ou)))] ++ lw_M cI cZ mo m1 m2 m3 m4 m5 m6 m7 m8 (nI k) N' C' L' nu2 va2 ag2 fi2 re2 mk2 mr2 mw2) := hD
  refine W.eq (g2 := F0 m 242 ls [.int (nI k)]) rfl ?_
  refine lv_iload hx hb d_La_law_242 (lv_at hl 0 rfl) ?_
  refine lv_icmp_eq hx hb d_La_law_244 (tgt := 249) (by decide) (fun _ => ?_) (fun h => absurd (rfl) h)
  refine lv_goto hx hb d_La_law_249 (tgt := 1034) (by decide) ?_
  refine lv_iinc (v := nI (4 * t + 4)) hx hb d_La_law_1034 hl (k := 1) rfl (by rw [show Int32.ofInt 4 = nI 4 from by decide]; exact nI_add _ _) (by decide) rfl (fun ls hl => ?_)
  have hl : lv_has ls 7 [(4, .int (nI (4 * t + 4))), (5, .int (nI k)), (0, .ref b), (1, .ref yd), (2, .ref mo), (3, .ref ao)] := hl
  refine lv_goto hx hb d_La_law_1037 (tgt := 23) (by decide) ?_
  have hl : lv_has ls 7 [(4, .int (nI (4 * (t + 1)))), (0, .ref b), (1, .ref yd), (2, .ref mo), (3, .ref ao)] := lv_sub hl [0, 2, 3, 4, 5] rfl
  exact fy_more (c' := 31 + (t + 1)) (s' := 2151 + 6 * (t + 1)) (by omega) (by omega) (ih _ _ _ ⟨N', C', L', val', age', nf', rf', reg', wk', sp2, rw2, sq2, rx2, pl2, G2, V2, F2, row2, rowq2, f02, g02, pf2, wn02, tu02, st02, wq2, oq2, fo2, nu2, va2, ag2, fi2, re2, mk2, mr2, mw2, nI k, ou, hI', hk2, hy2, hM2, hl, hP, hD, hS⟩)
set_option maxRecDepth 20000 in
set_option maxHeartbeats 4000000 in
theorem lb_get {p : Program} {l : Launch} {e : Env} {s : State} {m : MethodId} {below : List Frame} {meth : Method} {c : Code} {Q : State → Prop} {D : va_G} {cI cZ cJ cW : ClassId} {b Ln : Nat} {xs : Nat → Int32} (hG : fy_G s D cI cZ cJ cW) (hX : fy_GX l s) (hN : fy_GC s) (hx : p.tables.exec = Jvm.exec) (hb : c.code = code) (hml : c.maxLocals = 7) (hown : s.vm.findClass "ForwardYardLaw" = some m.cls) (hts : ∀ w ∈ fy_T, w.before #[Value.ref b] s = true) (hXs : va_X b Ln xs s s.heap) (hbl : b < s.heap.size) (hL : Ln ≤ 2048) (yd rg wr cr fw wt wl se qu ao : Nat) (wa pa : Nat → Nat) (mo m1 m2 m3 m4 m5 m6 m7 m8 : Nat) (t : Nat) (ht : 4 * t + 4 ≤ Ln) (N : Nat) (C : Nat) (L : List Nat) (val : Nat → Int32) (age : Nat → Nat) (nf : Nat → Nat) (rf : Nat → Nat → Option Nat) (reg : Nat → Option Nat) (wk : Nat → Option Nat) (sp rw sq rx : Nat) (pl : Nat → Nat) (G V F row rowq f0 g0 : Nat → Int32) (pf : Nat → Nat → Int32) (wn0 tu0 st0 wq oq fo : Int32) (nu va ag fi re mk mr mw : Nat → Int32) (cd : Int32) (ou : Nat → Int64) (hI : fm_In t N C L age nf rf reg wk) (hk : fm_Ok L val age nf rf pl row) (hy : ya_R reg wk pl G V) (hM : fm_Mo L val age nf rf reg wk nu va ag fi re mr mw) {ls : Array Slot} {H : Heap} {locs : List Loc} (hl : lv_has ls 7 [(4, .int (nI (4 * t))), (0, .ref b), (1, .ref yd), (2, .ref mo), (3, .ref ao)]) (hP : va_P D vwCl (lw_Y cI cW yd rg wr cr fw wt wl se qu wa pa N C L nf sp rw sq rx G V F row rowq f0 g0 pf wn0 tu0 st0 wq oq fo ++ [(ao, .inl (cJ, 1, .inr (.inl ou)))] ++ lw_M cI cZ mo m1 m2 m3 m4 m5 m6 m7 m8 cd N C L nu va ag fi re mk mr mw) H) (hD : va_D (fy_B s) (lw_Y cI cW yd rg wr cr fw wt wl se qu wa pa N C L nf sp rw sq rx G V F row rowq f0 g0 pf wn0 tu0 st0 wq oq fo ++ [(ao, .inl (cJ, 1, .inr (.inl ou)))] ++ lw_M cI cZ mo m1 m2 m3 m4 m5 m6 m7 m8 cd N C L nu va ag fi re mk mr mw)) (hS : va_S (fy_B s) s.heap H locs) (ih : ∀ (ls : Array Slot) (H : Heap) (locs : List Loc), lw_Inv s D cI cZ cJ cW b yd rg wr cr fw wt wl se qu ao wa pa mo m1 m2 m3 m4 m5 m6 m7 m8 (t + 1) ls H locs → W p l e room_1 s m #[Value.ref b] below meth c H locs (31 + (t + 1)) (2151 + 6 * (t + 1)) Q (F0 m 23 ls [])) : W p l e room_1 s m #[Value.ref b] below meth c H locs (31 + t) (2151 + 6 * t) Q (F0 m 252 ls []) := by
  have hK : va_K D vwCl (fy_tys cI cZ cJ cW) s := hG.2
  have hLa := fy_La.rf s
  have hAB : ∀ q, fy_B s q → fy_B s q := fun _ h => h
  have hA : ∀ q, s.heap.size ≤ q → fy_B s q := fun _ h => h
  have ht5 : t < 512 := by omega
  obtain ⟨k, ans, N', C', L', val', age', nf', rf', reg', wk', ho, hk3, hI'⟩ := ft_get hI ht5 (xs (4 * t + 1)) (xs (4 * t + 2)) (xs (4 * t + 3))
  refine lv_aload_n hx hb d_La_law_252 rfl (lv_at hl 2 rfl) ?_
  refine lv_aload_n hx hb d_La_law_253 rfl (lv_at hl 1 rfl) ?_
  refine lv_iload hx hb d_La_law_254 (lv_at hl 0 rfl) ?_
  refine lv_iconst (v := nI 1) hx hb d_La_law_256 (by decide) ?_
  refine lv_iadd hx hb d_La_law_257 ?_
  refine fy_top (z := nI ((4 * t) + 1)) (nI_add _ _) ?_
  refine fy_sld (A := fy_B s) hx hb hXs hbl (fun h => Nat.not_le_of_lt hbl h) hS hL (by omega) d_La_law_258 ?_
  refine lv_aload_n hx hb d_La_law_259 rfl (lv_at hl 1 rfl) ?_
  refine lv_iload hx hb d_La_law_260 (lv_at hl 0 rfl) ?_
  refine lv_iconst (v := nI 2) hx hb d_La_law_262 (by decide) ?_
  refine lv_iadd hx hb d_La_law_263 ?_
  refine fy_top (z := nI ((4 * t) + 2)) (nI_add _ _) ?_
  refine fy_sld (A := fy_B s) hx hb hXs hbl (fun h => Nat.not_le_of_lt hbl h) hS hL (by omega) d_La_law_264 ?_
  refine lv_aload_n hx hb d_La_law_265 rfl (lv_at hl 1 rfl) ?_
  refine lv_iload hx hb d_La_law_266 (lv_at hl 0 rfl) ?_
  refine lv_iconst (v := nI 3) hx hb d_La_law_268 (by decide) ?_
  refine lv_iadd hx hb d_La_law_269 ?_
  refine fy_top (z := nI ((4 * t) + 3)) (nI_add _ _) ?_
  refine fy_sld (A := fy_B s) hx hb hXs hbl (fun h => Nat.not_le_of_lt hbl h) hS hL (by omega) d_La_law_270 ?_
  refine fy_callSW3 (As := [.ref yd, .int (xs ((4 * t) + 1)), .int (xs ((4 * t) + 2)), .int (xs ((4 * t) + 3))]) (rest := []) (H := H) [] ([(ao, .inl (cJ, 1, .inr (.inl ou)))] ++ lw_M cI cZ mo m1 m2 m3 m4 m5 m6 m7 m8 cd N C L nu va ag fi re mk mr mw) ⟨hx, hb, hml, hown, hts⟩ (c_La_get l s D cI cZ cJ cW hG hX hN yd rg wr cr fw wt wl se qu wa pa t N C L val age nf rf reg wk sp rw sq rx pl G V F row rowq f0 g0 pf wn0 tu0 st0 wq oq fo hI hk hy (xs (4 * t + 1)) (xs (4 * t + 2)) (xs (4 * t + 3)) k ans N' C' L' val' age' nf' rf' reg' wk' ho) List.mem_cons_self (fy_good (fy_w1 k_c_La_get)) rfl rfl ⟨Nat.le_of_ble_eq_true rfl, Nat.le_of_ble_eq_true rfl⟩ (hts _ k_m_La_87) (hts _ k_s_La_get) (hts _ k_ini_La) ⟨by decide, by decide, show (parseMethodDescriptor y_La_get.desc).map (fun d => d.parameters.length) = some 4 by decide +kernel⟩ hLa hAB hA hP hD hS hl.1 rfl (Nat.le_of_ble_eq_true rfl) d_La_law_271 ⟨show _ ≤ 601024 by omega, show _ ≤ 7293034 by omega⟩ (fun r w1 H locs hp hP hD hS => ?_)
  obtain ⟨rfl, sp2, rw2, sq2, rx2, pl2, G2, V2, F2, row2, rowq2, f02, g02, pf2, wn02, tu02, st02, wq2, oq2, fo2, hk2, hy2, rfl⟩ := hp
  have hP : va_P D vwCl (lw_Y cI cW yd rg wr cr fw wt wl se qu wa pa N' C' L' nf' sp2 rw2 sq2 rx2 G2 V2 F2 row2 rowq2 f02 g02 pf2 wn02 tu02 st02 wq2 oq2 fo2 ++ [(ao, .inl (cJ, 1, .inr (.inl ou)))] ++ lw_M cI cZ mo m1 m2 m3 m4 m5 m6 m7 m8 cd N C L nu va ag fi re mk mr mw) H := hP
  have hD : va_D (fy_B s) (lw_Y cI cW yd rg wr cr fw wt wl se qu wa pa N' C' L' nf' sp2 rw2 sq2 rx2 G2 V2 F2 row2 rowq2 f02 g02 pf2 wn02 tu02 st02 wq2 oq2 fo2 ++ [(ao, .inl (cJ, 1, .inr (.inl ou)))] ++ lw_M cI cZ mo m1 m2 m3 m4 m5 m6 m7 m8 cd N C L nu va ag fi re mk mr mw) := hD
  refine W.eq (g2 := F0 m 274 ls [.int (nI k)]) rfl ?_
  refine lv_istore hx hb d_La_law_274 hl (by decide) rfl (fun ls hl => ?_)
  have hl : lv_has ls 7 [(5, .int (nI k)), (4, .int (nI (4 * t))), (0, .ref b), (1, .ref yd), (2, .ref mo), (3, .ref ao)] := hl
  refine lv_aload_n hx hb d_La_law_276 rfl (lv_at hl 4 rfl) ?_
  refine lv_aload_n hx hb d_La_law_277 rfl (lv_at hl 2 rfl) ?_
  refine lv_iload hx hb d_La_law_278 (lv_at hl 1 rfl) ?_
  refine lv_iconst (v := nI 1) hx hb d_La_law_280 (by decide) ?_
  refine lv_iadd hx hb d_La_law_281 ?_
  refine fy_top (z := nI ((4 * t) + 1)) (nI_add _ _) ?_
  refine fy_sld (A := fy_B s) hx hb hXs hbl (fun h => Nat.not_le_of_lt hbl h) hS hL (by omega) d_La_law_282 ?_
  refine lv_aload_n hx hb d_La_law_283 rfl (lv_at hl 2 rfl) ?_
  refine lv_iload hx hb d_La_law_284 (lv_at hl 1 rfl) ?_
  refine lv_iconst (v := nI 2) hx hb d_La_law_286 (by decide) ?_
  refine lv_iadd hx hb d_La_law_287 ?_
  refine fy_top (z := nI ((4 * t) + 2)) (nI_add _ _) ?_
  refine fy_sld (A := fy_B s) hx hb hXs hbl (fun h => Nat.not_le_of_lt hbl h) hS hL (by omega) d_La_law_288 ?_
  refine lv_aload_n hx hb d_La_law_289 rfl (lv_at hl 2 rfl) ?_
  refine lv_iload hx hb d_La_law_290 (lv_at hl 1 rfl) ?_
  refine lv_iconst (v := nI 3) hx hb d_La_law_292 (by decide) ?_
  refine lv_iadd hx hb d_La_law_293 ?_
  refine fy_top (z := nI ((4 * t) + 3)) (nI_add _ _) ?_
  refine fy_sld (A := fy_B s) hx hb hXs hbl (fun h => Nat.not_le_of_lt hbl h) hS hL (by omega) d_La_law_294 ?_
  refine fy_callV3 (As := [.int (xs ((4 * t) + 1)), .int (xs ((4 * t) + 2)), .int (xs ((4 * t) + 3))]) (rest := []) (H := H) (lw_Y cI cW yd rg wr cr fw wt wl se qu wa pa N' C' L' nf' sp2 rw2 sq2 rx2 G2 V2 F2 row2 rowq2 f02 g02 pf2 wn02 tu02 st02 wq2 oq2 fo2 ++ [(ao, .inl (cJ, 1, .inr (.inl ou)))]) [] ⟨hx, hb, hml, hown, hts⟩ (c_Mo_get l s D cI cZ cJ cW hG mo m1 m2 m3 m4 m5 m6 m7 m8 cd t N C L val age nf rf reg wk nu va ag fi re mk mr mw hI hM (xs (4 * t + 1)) (xs (4 * t + 2)) (xs (4 * t + 3)) k ans N' C' L' val' age' nf' rf' reg' wk' ho) (cwV 3 hts g_La_89 rfl rfl rfl (by decide +kernel) ⟨Nat.le_of_ble_eq_true rfl, Nat.le_of_ble_eq_true rfl⟩) hK hLa hAB hA (by rw [List.append_nil]; exact hP) (by rw [List.append_nil]; exact hD) hS (ci := 5) rfl rfl (q0 := 22) rfl rfl hl.1 rfl (Nat.le_of_ble_eq_true rfl) d_La_law_295 ⟨show _ ≤ 601024 by omega, show _ ≤ 7293034 by omega⟩ (fun r w1 H locs hp hP hD hS => ?_)
  rw [List.append_nil] at hP hD
  obtain ⟨b9, nu2, va2, ag2, fi2, re2, mk2, mr2, mw2, hb9, rfl, hM2, rfl⟩ := hp
  have hP : va_P D vwCl (lw_Y cI cW yd rg wr cr fw wt wl se qu wa pa N' C' L' nf' sp2 rw2 sq2 rx2 G2 V2 F2 row2 rowq2 f02 g02 pf2 wn02 tu02 st02 wq2 oq2 fo2 ++ [(ao, .inl (cJ, 1, .inr (.inl ou)))] ++ lw_M cI cZ mo m1 m2 m3 m4 m5 m6 m7 m8 (nI k) N' C' L' nu2 va2 ag2 fi2 re2 mk2 mr2 mw2) H := hP
  have hD : va_D (fy_B s) (lw_Y cI cW yd rg wr cr fw wt wl se qu wa pa N' C' L' nf' sp2 rw2 sq2 rx2 G2 V2 F2 row2 rowq2 f02 g02 pf2 wn02 tu02 st02 wq2 oq2 fo2 ++ [(ao, .inl (cJ, 1, .inr (.inl ou)))] ++ lw_M cI cZ mo m1 m2 m3 m4 m5 m6 m7 m8 (nI k) N' C' L' nu2 va2 ag2 fi2 re2 mk2 mr2 mw2) := hD
  refine W.eq (g2 := F0 m 298 ls []) rfl ?_
  refine lv_aload_n hx hb d_La_law_298 rfl (lv_at hl 4 rfl) ?_
  refine fy_callV3 (As := []) (rest := []) (H := H) (lw_Y cI cW yd rg wr cr fw wt wl se qu wa pa N' C' L' nf' sp2 rw2 sq2 rx2 G2 V2 F2 row2 rowq2 f02 g02 pf2 wn02 tu02 st02 wq2 oq2 fo2 ++ [(ao, .inl (cJ, 1, .inr (.inl ou)))]) [] ⟨hx, hb, hml, hown, hts⟩ (c_Mo_thrownW l s D cI cZ cJ cW hG mo m1 m2 m3 m4 m5 m6 m7 m8 (nI k) N' C' L' nu2 va2 ag2 fi2 re2 mk2 mr2 mw2) (cwV 0 hts g_La_79 rfl rfl rfl (by decide +kernel) ⟨Nat.le_of_ble_eq_true rfl, Nat.le_of_ble_eq_true rfl⟩) hK hLa hAB hA (by rw [List.append_nil]; exact hP) (by rw [List.append_nil]; exact hD) hS (ci := 5) rfl rfl (q0 := 22) rfl rfl hl.1 rfl (Nat.le_of_ble_eq_true rfl) d_La_law_299 ⟨show _ ≤ 601024 by omega, show _ ≤ 7293034 by omega⟩ (fun r w1 H locs hp hP hD hS => ?_)
  rw [List.append_nil] at hP hD
  obtain ⟨rfl, rfl⟩ := hp
  have hP : va_P D vwCl (lw_Y cI cW yd rg wr cr fw wt wl se qu wa pa N' C' L' nf' sp2 rw2 sq2 rx2 G2 V2 F2 row2 rowq2 f02 g02 pf2 wn02 tu02 st02 wq2 oq2 fo2 ++ [(ao, .inl (cJ, 1, .inr (.inl ou)))] ++ lw_M cI cZ mo m1 m2 m3 m4 m5 m6 m7 m8 (nI k) N' C' L' nu2 va2 ag2 fi2 re2 mk2 mr2 mw2) H := hP
  have hD : va_D (fy_B s) (lw_Y cI cW yd rg wr cr fw wt wl se qu wa pa N' C' L' nf' sp2 rw2 sq2 rx2 G2 V2 F2 row2 rowq2 f02 g02 pf2 wn02 tu02 st02 wq2 oq2 fo2 ++ [(ao, .inl (cJ, 1, .inr (.inl ou)))] ++ lw_M cI cZ mo m1 m2 m3 m4 m5 m6 m7 m8 (nI k) N' C' L' nu2 va2 ag2 fi2 re2 mk2 mr2 mw2) := hD
  refine W.eq (g2 := F0 m 302 ls [.int (nI k)]) rfl ?_
  refine lv_iload hx hb d_La_law_302 (lv_at hl 0 rfl) ?_
  refine lv_icmp_eq hx hb d_La_law_304 (tgt := 309) (by decide) (fun _ => ?_) (fun h => absurd (rfl) h)
  refine lv_goto hx hb d_La_law_309 (tgt := 1034) (by decide) ?_
  refine lv_iinc (v := nI (4 * t + 4)) hx hb d_La_law_1034 hl (k := 1) rfl (by rw [show Int32.ofInt 4 = nI 4 from by decide]; exact nI_add _ _) (by decide) rfl (fun ls hl => ?_)
  have hl : lv_has ls 7 [(4, .int (nI (4 * t + 4))), (5, .int (nI k)), (0, .ref b), (1, .ref yd), (2, .ref mo), (3, .ref ao)] := hl
  refine lv_goto hx hb d_La_law_1037 (tgt := 23) (by decide) ?_
  have hl : lv_has ls 7 [(4, .int (nI (4 * (t + 1)))), (0, .ref b), (1, .ref yd), (2, .ref mo), (3, .ref ao)] := lv_sub hl [0, 2, 3, 4, 5] rfl
  exact fy_more (c' := 31 + (t + 1)) (s' := 2151 + 6 * (t + 1)) (by omega) (by omega) (ih _ _ _ ⟨N', C', L', val', age', nf', rf', reg', wk', sp2, rw2, sq2, rx2, pl2, G2, V2, F2, row2, rowq2, f02, g02, pf2, wn02, tu02, st02, wq2, oq2, fo2, nu2, va2, ag2, fi2, re2, mk2, mr2, mw2, nI k, ou, hI', hk2, hy2, hM2, hl, hP, hD, hS⟩)
set_option maxRecDepth 20000 in
set_option maxHeartbeats 4000000 in
theorem lb_copy {p : Program} {l : Launch} {e : Env} {s : State} {m : MethodId} {below : List Frame} {meth : Method} {c : Code} {Q : State → Prop} {D : va_G} {cI cZ cJ cW : ClassId} {b Ln : Nat} {xs : Nat → Int32} (hG : fy_G s D cI cZ cJ cW) (hX : fy_GX l s) (hN : fy_GC s) (hx : p.tables.exec = Jvm.exec) (hb : c.code = code) (hml : c.maxLocals = 7) (hown : s.vm.findClass "ForwardYardLaw" = some m.cls) (hts : ∀ w ∈ fy_T, w.before #[Value.ref b] s = true) (hXs : va_X b Ln xs s s.heap) (hbl : b < s.heap.size) (hL : Ln ≤ 2048) (yd rg wr cr fw wt wl se qu ao : Nat) (wa pa : Nat → Nat) (mo m1 m2 m3 m4 m5 m6 m7 m8 : Nat) (t : Nat) (ht : 4 * t + 4 ≤ Ln) (N : Nat) (C : Nat) (L : List Nat) (val : Nat → Int32) (age : Nat → Nat) (nf : Nat → Nat) (rf : Nat → Nat → Option Nat) (reg : Nat → Option Nat) (wk : Nat → Option Nat) (sp rw sq rx : Nat) (pl : Nat → Nat) (G V F row rowq f0 g0 : Nat → Int32) (pf : Nat → Nat → Int32) (wn0 tu0 st0 wq oq fo : Int32) (nu va ag fi re mk mr mw : Nat → Int32) (cd : Int32) (ou : Nat → Int64) (hI : fm_In t N C L age nf rf reg wk) (hk : fm_Ok L val age nf rf pl row) (hy : ya_R reg wk pl G V) (hM : fm_Mo L val age nf rf reg wk nu va ag fi re mr mw) {ls : Array Slot} {H : Heap} {locs : List Loc} (hl : lv_has ls 7 [(4, .int (nI (4 * t))), (0, .ref b), (1, .ref yd), (2, .ref mo), (3, .ref ao)]) (hP : va_P D vwCl (lw_Y cI cW yd rg wr cr fw wt wl se qu wa pa N C L nf sp rw sq rx G V F row rowq f0 g0 pf wn0 tu0 st0 wq oq fo ++ [(ao, .inl (cJ, 1, .inr (.inl ou)))] ++ lw_M cI cZ mo m1 m2 m3 m4 m5 m6 m7 m8 cd N C L nu va ag fi re mk mr mw) H) (hD : va_D (fy_B s) (lw_Y cI cW yd rg wr cr fw wt wl se qu wa pa N C L nf sp rw sq rx G V F row rowq f0 g0 pf wn0 tu0 st0 wq oq fo ++ [(ao, .inl (cJ, 1, .inr (.inl ou)))] ++ lw_M cI cZ mo m1 m2 m3 m4 m5 m6 m7 m8 cd N C L nu va ag fi re mk mr mw)) (hS : va_S (fy_B s) s.heap H locs) (ih : ∀ (ls : Array Slot) (H : Heap) (locs : List Loc), lw_Inv s D cI cZ cJ cW b yd rg wr cr fw wt wl se qu ao wa pa mo m1 m2 m3 m4 m5 m6 m7 m8 (t + 1) ls H locs → W p l e room_1 s m #[Value.ref b] below meth c H locs (31 + (t + 1)) (2151 + 6 * (t + 1)) Q (F0 m 23 ls [])) : W p l e room_1 s m #[Value.ref b] below meth c H locs (31 + t) (2151 + 6 * t) Q (F0 m 312 ls []) := by
  have hK : va_K D vwCl (fy_tys cI cZ cJ cW) s := hG.2
  have hLa := fy_La.rf s
  have hAB : ∀ q, fy_B s q → fy_B s q := fun _ h => h
  have hA : ∀ q, s.heap.size ≤ q → fy_B s q := fun _ h => h
  have ht5 : t < 512 := by omega
  obtain ⟨k, ans, N', C', L', val', age', nf', rf', reg', wk', ho, hk3, hI'⟩ := ft_copy hI ht5 (xs (4 * t + 1)) (xs (4 * t + 2))
  refine lv_aload_n hx hb d_La_law_312 rfl (lv_at hl 2 rfl) ?_
  refine lv_aload_n hx hb d_La_law_313 rfl (lv_at hl 1 rfl) ?_
  refine lv_iload hx hb d_La_law_314 (lv_at hl 0 rfl) ?_
  refine lv_iconst (v := nI 1) hx hb d_La_law_316 (by decide) ?_
  refine lv_iadd hx hb d_La_law_317 ?_
  refine fy_top (z := nI ((4 * t) + 1)) (nI_add _ _) ?_
  refine fy_sld (A := fy_B s) hx hb hXs hbl (fun h => Nat.not_le_of_lt hbl h) hS hL (by omega) d_La_law_318 ?_
  refine lv_aload_n hx hb d_La_law_319 rfl (lv_at hl 1 rfl) ?_
  refine lv_iload hx hb d_La_law_320 (lv_at hl 0 rfl) ?_
  refine lv_iconst (v := nI 2) hx hb d_La_law_322 (by decide) ?_
  refine lv_iadd hx hb d_La_law_323 ?_
  refine fy_top (z := nI ((4 * t) + 2)) (nI_add _ _) ?_
  refine fy_sld (A := fy_B s) hx hb hXs hbl (fun h => Nat.not_le_of_lt hbl h) hS hL (by omega) d_La_law_324 ?_
  refine fy_callSW3 (As := [.ref yd, .int (xs ((4 * t) + 1)), .int (xs ((4 * t) + 2))]) (rest := []) (H := H) [] ([(ao, .inl (cJ, 1, .inr (.inl ou)))] ++ lw_M cI cZ mo m1 m2 m3 m4 m5 m6 m7 m8 cd N C L nu va ag fi re mk mr mw) ⟨hx, hb, hml, hown, hts⟩ (c_La_copy l s D cI cZ cJ cW hG hX hN yd rg wr cr fw wt wl se qu wa pa t N C L val age nf rf reg wk sp rw sq rx pl G V F row rowq f0 g0 pf wn0 tu0 st0 wq oq fo hI hk hy (xs (4 * t + 1)) (xs (4 * t + 2)) k ans N' C' L' val' age' nf' rf' reg' wk' ho) List.mem_cons_self (fy_good (fy_w1 k_c_La_copy)) rfl rfl ⟨Nat.le_of_ble_eq_true rfl, Nat.le_of_ble_eq_true rfl⟩ (hts _ k_m_La_90) (hts _ k_s_La_copy) (hts _ k_ini_La) ⟨by decide, by decide, show (parseMethodDescriptor y_La_copy.desc).map (fun d => d.parameters.length) = some 3 by decide +kernel⟩ hLa hAB hA hP hD hS hl.1 rfl (Nat.le_of_ble_eq_true rfl) d_La_law_325 ⟨show _ ≤ 601024 by omega, show _ ≤ 7293034 by omega⟩ (fun r w1 H locs hp hP hD hS => ?_)
  obtain ⟨rfl, sp2, rw2, sq2, rx2, pl2, G2, V2, F2, row2, rowq2, f02, g02, pf2, wn02, tu02, st02, wq2, oq2, fo2, hk2, hy2, rfl⟩ := hp
  have hP : va_P D vwCl (lw_Y cI cW yd rg wr cr fw wt wl se qu wa pa N' C' L' nf' sp2 rw2 sq2 rx2 G2 V2 F2 row2 rowq2 f02 g02 pf2 wn02 tu02 st02 wq2 oq2 fo2 ++ [(ao, .inl (cJ, 1, .inr (.inl ou)))] ++ lw_M cI cZ mo m1 m2 m3 m4 m5 m6 m7 m8 cd N C L nu va ag fi re mk mr mw) H := hP
  have hD : va_D (fy_B s) (lw_Y cI cW yd rg wr cr fw wt wl se qu wa pa N' C' L' nf' sp2 rw2 sq2 rx2 G2 V2 F2 row2 rowq2 f02 g02 pf2 wn02 tu02 st02 wq2 oq2 fo2 ++ [(ao, .inl (cJ, 1, .inr (.inl ou)))] ++ lw_M cI cZ mo m1 m2 m3 m4 m5 m6 m7 m8 cd N C L nu va ag fi re mk mr mw) := hD
  refine W.eq (g2 := F0 m 328 ls [.int (nI k)]) rfl ?_
  refine lv_istore hx hb d_La_law_328 hl (by decide) rfl (fun ls hl => ?_)
  have hl : lv_has ls 7 [(5, .int (nI k)), (4, .int (nI (4 * t))), (0, .ref b), (1, .ref yd), (2, .ref mo), (3, .ref ao)] := hl
  refine lv_aload_n hx hb d_La_law_330 rfl (lv_at hl 4 rfl) ?_
  refine lv_aload_n hx hb d_La_law_331 rfl (lv_at hl 2 rfl) ?_
  refine lv_iload hx hb d_La_law_332 (lv_at hl 1 rfl) ?_
  refine lv_iconst (v := nI 1) hx hb d_La_law_334 (by decide) ?_
  refine lv_iadd hx hb d_La_law_335 ?_
  refine fy_top (z := nI ((4 * t) + 1)) (nI_add _ _) ?_
  refine fy_sld (A := fy_B s) hx hb hXs hbl (fun h => Nat.not_le_of_lt hbl h) hS hL (by omega) d_La_law_336 ?_
  refine lv_aload_n hx hb d_La_law_337 rfl (lv_at hl 2 rfl) ?_
  refine lv_iload hx hb d_La_law_338 (lv_at hl 1 rfl) ?_
  refine lv_iconst (v := nI 2) hx hb d_La_law_340 (by decide) ?_
  refine lv_iadd hx hb d_La_law_341 ?_
  refine fy_top (z := nI ((4 * t) + 2)) (nI_add _ _) ?_
  refine fy_sld (A := fy_B s) hx hb hXs hbl (fun h => Nat.not_le_of_lt hbl h) hS hL (by omega) d_La_law_342 ?_
  refine fy_callV3 (As := [.int (xs ((4 * t) + 1)), .int (xs ((4 * t) + 2))]) (rest := []) (H := H) (lw_Y cI cW yd rg wr cr fw wt wl se qu wa pa N' C' L' nf' sp2 rw2 sq2 rx2 G2 V2 F2 row2 rowq2 f02 g02 pf2 wn02 tu02 st02 wq2 oq2 fo2 ++ [(ao, .inl (cJ, 1, .inr (.inl ou)))]) [] ⟨hx, hb, hml, hown, hts⟩ (c_Mo_copy l s D cI cZ cJ cW hG mo m1 m2 m3 m4 m5 m6 m7 m8 cd t N C L val age nf rf reg wk nu va ag fi re mk mr mw hI hM (xs (4 * t + 1)) (xs (4 * t + 2)) k ans N' C' L' val' age' nf' rf' reg' wk' ho) (cwV 2 hts g_La_93 rfl rfl rfl (by decide +kernel) ⟨Nat.le_of_ble_eq_true rfl, Nat.le_of_ble_eq_true rfl⟩) hK hLa hAB hA (by rw [List.append_nil]; exact hP) (by rw [List.append_nil]; exact hD) hS (ci := 5) rfl rfl (q0 := 22) rfl rfl hl.1 rfl (Nat.le_of_ble_eq_true rfl) d_La_law_343 ⟨show _ ≤ 601024 by omega, show _ ≤ 7293034 by omega⟩ (fun r w1 H locs hp hP hD hS => ?_)
  rw [List.append_nil] at hP hD
  obtain ⟨b9, nu2, va2, ag2, fi2, re2, mk2, mr2, mw2, hb9, rfl, hM2, rfl⟩ := hp
  have hP : va_P D vwCl (lw_Y cI cW yd rg wr cr fw wt wl se qu wa pa N' C' L' nf' sp2 rw2 sq2 rx2 G2 V2 F2 row2 rowq2 f02 g02 pf2 wn02 tu02 st02 wq2 oq2 fo2 ++ [(ao, .inl (cJ, 1, .inr (.inl ou)))] ++ lw_M cI cZ mo m1 m2 m3 m4 m5 m6 m7 m8 (nI k) N' C' L' nu2 va2 ag2 fi2 re2 mk2 mr2 mw2) H := hP
  have hD : va_D (fy_B s) (lw_Y cI cW yd rg wr cr fw wt wl se qu wa pa N' C' L' nf' sp2 rw2 sq2 rx2 G2 V2 F2 row2 rowq2 f02 g02 pf2 wn02 tu02 st02 wq2 oq2 fo2 ++ [(ao, .inl (cJ, 1, .inr (.inl ou)))] ++ lw_M cI cZ mo m1 m2 m3 m4 m5 m6 m7 m8 (nI k) N' C' L' nu2 va2 ag2 fi2 re2 mk2 mr2 mw2) := hD
  refine W.eq (g2 := F0 m 346 ls []) rfl ?_
  refine lv_aload_n hx hb d_La_law_346 rfl (lv_at hl 4 rfl) ?_
  refine fy_callV3 (As := []) (rest := []) (H := H) (lw_Y cI cW yd rg wr cr fw wt wl se qu wa pa N' C' L' nf' sp2 rw2 sq2 rx2 G2 V2 F2 row2 rowq2 f02 g02 pf2 wn02 tu02 st02 wq2 oq2 fo2 ++ [(ao, .inl (cJ, 1, .inr (.inl ou)))]) [] ⟨hx, hb, hml, hown, hts⟩ (c_Mo_thrownW l s D cI cZ cJ cW hG mo m1 m2 m3 m4 m5 m6 m7 m8 (nI k) N' C' L' nu2 va2 ag2 fi2 re2 mk2 mr2 mw2) (cwV 0 hts g_La_79 rfl rfl rfl (by decide +kernel) ⟨Nat.le_of_ble_eq_true rfl, Nat.le_of_ble_eq_true rfl⟩) hK hLa hAB hA (by rw [List.append_nil]; exact hP) (by rw [List.append_nil]; exact hD) hS (ci := 5) rfl rfl (q0 := 22) rfl rfl hl.1 rfl (Nat.le_of_ble_eq_true rfl) d_La_law_347 ⟨show _ ≤ 601024 by omega, show _ ≤ 7293034 by omega⟩ (fun r w1 H locs hp hP hD hS => ?_)
  rw [List.append_nil] at hP hD
  obtain ⟨rfl, rfl⟩ := hp
  have hP : va_P D vwCl (lw_Y cI cW yd rg wr cr fw wt wl se qu wa pa N' C' L' nf' sp2 rw2 sq2 rx2 G2 V2 F2 row2 rowq2 f02 g02 pf2 wn02 tu02 st02 wq2 oq2 fo2 ++ [(ao, .inl (cJ, 1, .inr (.inl ou)))] ++ lw_M cI cZ mo m1 m2 m3 m4 m5 m6 m7 m8 (nI k) N' C' L' nu2 va2 ag2 fi2 re2 mk2 mr2 mw2) H := hP
  have hD : va_D (fy_B s) (lw_Y cI cW yd rg wr cr fw wt wl se qu wa pa N' C' L' nf' sp2 rw2 sq2 rx2 G2 V2 F2 row2 rowq2 f02 g02 pf2 wn02 tu02 st02 wq2 oq2 fo2 ++ [(ao, .inl (cJ, 1, .inr (.inl ou)))] ++ lw_M cI cZ mo m1 m2 m3 m4 m5 m6 m7 m8 (nI k) N' C' L' nu2 va2 ag2 fi2 re2 mk2 mr2 mw2) := hD
  refine W.eq (g2 := F0 m 350 ls [.int (nI k)]) rfl ?_
  refine lv_iload hx hb d_La_law_350 (lv_at hl 0 rfl) ?_
  refine lv_icmp_eq hx hb d_La_law_352 (tgt := 357) (by decide) (fun _ => ?_) (fun h => absurd (rfl) h)
  refine lv_goto hx hb d_La_law_357 (tgt := 1034) (by decide) ?_
  refine lv_iinc (v := nI (4 * t + 4)) hx hb d_La_law_1034 hl (k := 1) rfl (by rw [show Int32.ofInt 4 = nI 4 from by decide]; exact nI_add _ _) (by decide) rfl (fun ls hl => ?_)
  have hl : lv_has ls 7 [(4, .int (nI (4 * t + 4))), (5, .int (nI k)), (0, .ref b), (1, .ref yd), (2, .ref mo), (3, .ref ao)] := hl
  refine lv_goto hx hb d_La_law_1037 (tgt := 23) (by decide) ?_
  have hl : lv_has ls 7 [(4, .int (nI (4 * (t + 1)))), (0, .ref b), (1, .ref yd), (2, .ref mo), (3, .ref ao)] := lv_sub hl [0, 2, 3, 4, 5] rfl
  exact fy_more (c' := 31 + (t + 1)) (s' := 2151 + 6 * (t + 1)) (by omega) (by omega) (ih _ _ _ ⟨N', C', L', val', age', nf', rf', reg', wk', sp2, rw2, sq2, rx2, pl2, G2, V2, F2, row2, rowq2, f02, g02, pf2, wn02, tu02, st02, wq2, oq2, fo2, nu2, va2, ag2, fi2, re2, mk2, mr2, mw2, nI k, ou, hI', hk2, hy2, hM2, hl, hP, hD, hS⟩)
set_option maxRecDepth 20000 in
set_option maxHeartbeats 4000000 in
theorem lb_clear {p : Program} {l : Launch} {e : Env} {s : State} {m : MethodId} {below : List Frame} {meth : Method} {c : Code} {Q : State → Prop} {D : va_G} {cI cZ cJ cW : ClassId} {b Ln : Nat} {xs : Nat → Int32} (hG : fy_G s D cI cZ cJ cW) (hX : fy_GX l s) (hN : fy_GC s) (hx : p.tables.exec = Jvm.exec) (hb : c.code = code) (hml : c.maxLocals = 7) (hown : s.vm.findClass "ForwardYardLaw" = some m.cls) (hts : ∀ w ∈ fy_T, w.before #[Value.ref b] s = true) (hXs : va_X b Ln xs s s.heap) (hbl : b < s.heap.size) (hL : Ln ≤ 2048) (yd rg wr cr fw wt wl se qu ao : Nat) (wa pa : Nat → Nat) (mo m1 m2 m3 m4 m5 m6 m7 m8 : Nat) (t : Nat) (ht : 4 * t + 4 ≤ Ln) (N : Nat) (C : Nat) (L : List Nat) (val : Nat → Int32) (age : Nat → Nat) (nf : Nat → Nat) (rf : Nat → Nat → Option Nat) (reg : Nat → Option Nat) (wk : Nat → Option Nat) (sp rw sq rx : Nat) (pl : Nat → Nat) (G V F row rowq f0 g0 : Nat → Int32) (pf : Nat → Nat → Int32) (wn0 tu0 st0 wq oq fo : Int32) (nu va ag fi re mk mr mw : Nat → Int32) (cd : Int32) (ou : Nat → Int64) (hI : fm_In t N C L age nf rf reg wk) (hk : fm_Ok L val age nf rf pl row) (hy : ya_R reg wk pl G V) (hM : fm_Mo L val age nf rf reg wk nu va ag fi re mr mw) {ls : Array Slot} {H : Heap} {locs : List Loc} (hl : lv_has ls 7 [(4, .int (nI (4 * t))), (0, .ref b), (1, .ref yd), (2, .ref mo), (3, .ref ao)]) (hP : va_P D vwCl (lw_Y cI cW yd rg wr cr fw wt wl se qu wa pa N C L nf sp rw sq rx G V F row rowq f0 g0 pf wn0 tu0 st0 wq oq fo ++ [(ao, .inl (cJ, 1, .inr (.inl ou)))] ++ lw_M cI cZ mo m1 m2 m3 m4 m5 m6 m7 m8 cd N C L nu va ag fi re mk mr mw) H) (hD : va_D (fy_B s) (lw_Y cI cW yd rg wr cr fw wt wl se qu wa pa N C L nf sp rw sq rx G V F row rowq f0 g0 pf wn0 tu0 st0 wq oq fo ++ [(ao, .inl (cJ, 1, .inr (.inl ou)))] ++ lw_M cI cZ mo m1 m2 m3 m4 m5 m6 m7 m8 cd N C L nu va ag fi re mk mr mw)) (hS : va_S (fy_B s) s.heap H locs) (ih : ∀ (ls : Array Slot) (H : Heap) (locs : List Loc), lw_Inv s D cI cZ cJ cW b yd rg wr cr fw wt wl se qu ao wa pa mo m1 m2 m3 m4 m5 m6 m7 m8 (t + 1) ls H locs → W p l e room_1 s m #[Value.ref b] below meth c H locs (31 + (t + 1)) (2151 + 6 * (t + 1)) Q (F0 m 23 ls [])) : W p l e room_1 s m #[Value.ref b] below meth c H locs (31 + t) (2151 + 6 * t) Q (F0 m 360 ls []) := by
  have hK : va_K D vwCl (fy_tys cI cZ cJ cW) s := hG.2
  have hLa := fy_La.rf s
  have hAB : ∀ q, fy_B s q → fy_B s q := fun _ h => h
  have hA : ∀ q, s.heap.size ≤ q → fy_B s q := fun _ h => h
  have ht5 : t < 512 := by omega
  obtain ⟨k, ans, N', C', L', val', age', nf', rf', reg', wk', ho, hk3, hI'⟩ := ft_clear hI ht5 (xs (4 * t + 1))
  refine lv_aload_n hx hb d_La_law_360 rfl (lv_at hl 2 rfl) ?_
  refine lv_aload_n hx hb d_La_law_361 rfl (lv_at hl 1 rfl) ?_
  refine lv_iload hx hb d_La_law_362 (lv_at hl 0 rfl) ?_
  refine lv_iconst (v := nI 1) hx hb d_La_law_364 (by decide) ?_
  refine lv_iadd hx hb d_La_law_365 ?_
  refine fy_top (z := nI ((4 * t) + 1)) (nI_add _ _) ?_
  refine fy_sld (A := fy_B s) hx hb hXs hbl (fun h => Nat.not_le_of_lt hbl h) hS hL (by omega) d_La_law_366 ?_
  refine lv_aload_n hx hb d_La_law_367 rfl (lv_at hl 4 rfl) ?_
  refine fy_callSW3 (As := [.ref yd, .int (xs ((4 * t) + 1)), .ref ao]) (rest := []) (H := H) [] (lw_M cI cZ mo m1 m2 m3 m4 m5 m6 m7 m8 cd N C L nu va ag fi re mk mr mw) ⟨hx, hb, hml, hown, hts⟩ (c_La_clear l s D cI cZ cJ cW hG hX hN yd rg wr cr fw wt wl se qu wa pa ao t N C L val age nf rf reg wk sp rw sq rx pl G V F row rowq f0 g0 pf wn0 tu0 st0 wq oq fo ou hI hk hy (xs (4 * t + 1)) k ans N' C' L' val' age' nf' rf' reg' wk' ho) List.mem_cons_self (fy_good (fy_w1 k_c_La_clear)) rfl rfl ⟨Nat.le_of_ble_eq_true rfl, Nat.le_of_ble_eq_true rfl⟩ (hts _ k_m_La_94) (hts _ k_s_La_clear) (hts _ k_ini_La) ⟨by decide, by decide, show (parseMethodDescriptor y_La_clear.desc).map (fun d => d.parameters.length) = some 3 by decide +kernel⟩ hLa hAB hA hP hD hS hl.1 rfl (Nat.le_of_ble_eq_true rfl) d_La_law_368 ⟨show _ ≤ 601024 by omega, show _ ≤ 7293034 by omega⟩ (fun r w1 H locs hp hP hD hS => ?_)
  obtain ⟨rfl, sp2, rw2, sq2, rx2, pl2, G2, V2, F2, row2, rowq2, f02, g02, pf2, wn02, tu02, st02, wq2, oq2, fo2, ou2, hou, hk2, hy2, rfl⟩ := hp
  have hP : va_P D vwCl (lw_Y cI cW yd rg wr cr fw wt wl se qu wa pa N' C' L' nf' sp2 rw2 sq2 rx2 G2 V2 F2 row2 rowq2 f02 g02 pf2 wn02 tu02 st02 wq2 oq2 fo2 ++ [(ao, .inl (cJ, 1, .inr (.inl ou2)))] ++ lw_M cI cZ mo m1 m2 m3 m4 m5 m6 m7 m8 cd N C L nu va ag fi re mk mr mw) H := hP
  have hD : va_D (fy_B s) (lw_Y cI cW yd rg wr cr fw wt wl se qu wa pa N' C' L' nf' sp2 rw2 sq2 rx2 G2 V2 F2 row2 rowq2 f02 g02 pf2 wn02 tu02 st02 wq2 oq2 fo2 ++ [(ao, .inl (cJ, 1, .inr (.inl ou2)))] ++ lw_M cI cZ mo m1 m2 m3 m4 m5 m6 m7 m8 cd N C L nu va ag fi re mk mr mw) := hD
  refine W.eq (g2 := F0 m 371 ls [.int (nI k)]) rfl ?_
  refine lv_istore hx hb d_La_law_371 hl (by decide) rfl (fun ls hl => ?_)
  have hl : lv_has ls 7 [(5, .int (nI k)), (4, .int (nI (4 * t))), (0, .ref b), (1, .ref yd), (2, .ref mo), (3, .ref ao)] := hl
  refine lv_aload_n hx hb d_La_law_373 rfl (lv_at hl 4 rfl) ?_
  refine lv_aload_n hx hb d_La_law_374 rfl (lv_at hl 2 rfl) ?_
  refine lv_iload hx hb d_La_law_375 (lv_at hl 1 rfl) ?_
  refine lv_iconst (v := nI 1) hx hb d_La_law_377 (by decide) ?_
  refine lv_iadd hx hb d_La_law_378 ?_
  refine fy_top (z := nI ((4 * t) + 1)) (nI_add _ _) ?_
  refine fy_sld (A := fy_B s) hx hb hXs hbl (fun h => Nat.not_le_of_lt hbl h) hS hL (by omega) d_La_law_379 ?_
  refine fy_callV3 (As := [.int (xs ((4 * t) + 1))]) (rest := []) (H := H) (lw_Y cI cW yd rg wr cr fw wt wl se qu wa pa N' C' L' nf' sp2 rw2 sq2 rx2 G2 V2 F2 row2 rowq2 f02 g02 pf2 wn02 tu02 st02 wq2 oq2 fo2 ++ [(ao, .inl (cJ, 1, .inr (.inl ou2)))]) [] ⟨hx, hb, hml, hown, hts⟩ (c_Mo_clear l s D cI cZ cJ cW hG mo m1 m2 m3 m4 m5 m6 m7 m8 cd t N C L val age nf rf reg wk nu va ag fi re mk mr mw hI hM (xs (4 * t + 1)) k ans N' C' L' val' age' nf' rf' reg' wk' ho) (cwV 1 hts g_La_97 rfl rfl rfl (by decide +kernel) ⟨Nat.le_of_ble_eq_true rfl, Nat.le_of_ble_eq_true rfl⟩) hK hLa hAB hA (by rw [List.append_nil]; exact hP) (by rw [List.append_nil]; exact hD) hS (ci := 5) rfl rfl (q0 := 22) rfl rfl hl.1 rfl (Nat.le_of_ble_eq_true rfl) d_La_law_380 ⟨show _ ≤ 601024 by omega, show _ ≤ 7293034 by omega⟩ (fun r w1 H locs hp hP hD hS => ?_)
  rw [List.append_nil] at hP hD
  obtain ⟨b9, nu2, va2, ag2, fi2, re2, mk2, mr2, mw2, hb9, rfl, hM2, rfl⟩ := hp
  have hP : va_P D vwCl (lw_Y cI cW yd rg wr cr fw wt wl se qu wa pa N' C' L' nf' sp2 rw2 sq2 rx2 G2 V2 F2 row2 rowq2 f02 g02 pf2 wn02 tu02 st02 wq2 oq2 fo2 ++ [(ao, .inl (cJ, 1, .inr (.inl ou2)))] ++ lw_M cI cZ mo m1 m2 m3 m4 m5 m6 m7 m8 (nI k) N' C' L' nu2 va2 ag2 fi2 re2 mk2 mr2 mw2) H := hP
  have hD : va_D (fy_B s) (lw_Y cI cW yd rg wr cr fw wt wl se qu wa pa N' C' L' nf' sp2 rw2 sq2 rx2 G2 V2 F2 row2 rowq2 f02 g02 pf2 wn02 tu02 st02 wq2 oq2 fo2 ++ [(ao, .inl (cJ, 1, .inr (.inl ou2)))] ++ lw_M cI cZ mo m1 m2 m3 m4 m5 m6 m7 m8 (nI k) N' C' L' nu2 va2 ag2 fi2 re2 mk2 mr2 mw2) := hD
  refine W.eq (g2 := F0 m 383 ls [.int b9]) rfl ?_
  refine lv_istore hx hb d_La_law_383 hl (by decide) rfl (fun ls hl => ?_)
  have hl : lv_has ls 7 [(6, .int b9), (5, .int (nI k)), (4, .int (nI (4 * t))), (0, .ref b), (1, .ref yd), (2, .ref mo), (3, .ref ao)] := hl
  refine lv_aload_n hx hb d_La_law_385 rfl (lv_at hl 5 rfl) ?_
  refine fy_callV3 (As := []) (rest := []) (H := H) (lw_Y cI cW yd rg wr cr fw wt wl se qu wa pa N' C' L' nf' sp2 rw2 sq2 rx2 G2 V2 F2 row2 rowq2 f02 g02 pf2 wn02 tu02 st02 wq2 oq2 fo2 ++ [(ao, .inl (cJ, 1, .inr (.inl ou2)))]) [] ⟨hx, hb, hml, hown, hts⟩ (c_Mo_thrownW l s D cI cZ cJ cW hG mo m1 m2 m3 m4 m5 m6 m7 m8 (nI k) N' C' L' nu2 va2 ag2 fi2 re2 mk2 mr2 mw2) (cwV 0 hts g_La_79 rfl rfl rfl (by decide +kernel) ⟨Nat.le_of_ble_eq_true rfl, Nat.le_of_ble_eq_true rfl⟩) hK hLa hAB hA (by rw [List.append_nil]; exact hP) (by rw [List.append_nil]; exact hD) hS (ci := 5) rfl rfl (q0 := 22) rfl rfl hl.1 rfl (Nat.le_of_ble_eq_true rfl) d_La_law_386 ⟨show _ ≤ 601024 by omega, show _ ≤ 7293034 by omega⟩ (fun r w1 H locs hp hP hD hS => ?_)
  rw [List.append_nil] at hP hD
  obtain ⟨rfl, rfl⟩ := hp
  have hP : va_P D vwCl (lw_Y cI cW yd rg wr cr fw wt wl se qu wa pa N' C' L' nf' sp2 rw2 sq2 rx2 G2 V2 F2 row2 rowq2 f02 g02 pf2 wn02 tu02 st02 wq2 oq2 fo2 ++ [(ao, .inl (cJ, 1, .inr (.inl ou2)))] ++ lw_M cI cZ mo m1 m2 m3 m4 m5 m6 m7 m8 (nI k) N' C' L' nu2 va2 ag2 fi2 re2 mk2 mr2 mw2) H := hP
  have hD : va_D (fy_B s) (lw_Y cI cW yd rg wr cr fw wt wl se qu wa pa N' C' L' nf' sp2 rw2 sq2 rx2 G2 V2 F2 row2 rowq2 f02 g02 pf2 wn02 tu02 st02 wq2 oq2 fo2 ++ [(ao, .inl (cJ, 1, .inr (.inl ou2)))] ++ lw_M cI cZ mo m1 m2 m3 m4 m5 m6 m7 m8 (nI k) N' C' L' nu2 va2 ag2 fi2 re2 mk2 mr2 mw2) := hD
  refine W.eq (g2 := F0 m 389 ls [.int (nI k)]) rfl ?_
  refine lv_iload hx hb d_La_law_389 (lv_at hl 1 rfl) ?_
  refine lv_icmp_eq hx hb d_La_law_391 (tgt := 396) (by decide) (fun _ => ?_) (fun h => absurd (rfl) h)
  refine lv_iload hx hb d_La_law_396 (lv_at hl 1 rfl) ?_
  by_cases hk0 : k = 0
  · refine lv_if_ne hx hb d_La_law_398 (tgt := 420) (by decide) (fun h => absurd (by rw [hk0]; rfl) h) (fun _ => ?_)
    have hz : ans = nI 0 ∨ ans = nI 1 := by rcases ho with ⟨hk9, h1, hS9⟩ | ⟨j, hk9, h1, h2, hans, hS9⟩; (exact absurd hk9 (by omega)); (rw [hans]; split <;> simp)
    rw [← hb9 hk0] at hz
    refine lv_aload_n hx hb d_La_law_401 rfl (lv_at hl 6 rfl) ?_
    refine lv_iconst (v := nI 0) hx hb d_La_law_402 (by decide) ?_
    refine fy_lald (t0 := 2) (N := 1) (k := 0) (f := ou2) (v := ou2 0) hx hb hK hP 21 rfl rfl (by omega) (by omega) rfl d_La_law_403 ?_
    refine lv_iload hx hb d_La_law_404 (lv_at hl 0 rfl) ?_
    rcases hz with hz | hz
    · refine lv_if_eq hx hb d_La_law_406 (tgt := 413) (by decide) (fun _ => ?_) (fun h => absurd (hz) h)
      refine lv_lconst (v := 0) hx hb d_La_law_413 (by decide) ?_
      refine fy_lcmp hx hb (by rw [hou hk0, ← hb9 hk0, hz]; decide) d_La_law_414 ?_
      refine lv_if_eq hx hb d_La_law_415 (tgt := 420) (by decide) (fun _ => ?_) (fun h => absurd (rfl) h)
      refine lv_goto hx hb d_La_law_420 (tgt := 1034) (by decide) ?_
      refine lv_iinc (v := nI (4 * t + 4)) hx hb d_La_law_1034 hl (k := 2) rfl (by rw [show Int32.ofInt 4 = nI 4 from by decide]; exact nI_add _ _) (by decide) rfl (fun ls hl => ?_)
      have hl : lv_has ls 7 [(4, .int (nI (4 * t + 4))), (6, .int b9), (5, .int (nI k)), (0, .ref b), (1, .ref yd), (2, .ref mo), (3, .ref ao)] := hl
      refine lv_goto hx hb d_La_law_1037 (tgt := 23) (by decide) ?_
      have hl : lv_has ls 7 [(4, .int (nI (4 * (t + 1)))), (0, .ref b), (1, .ref yd), (2, .ref mo), (3, .ref ao)] := lv_sub hl [0, 3, 4, 5, 6] rfl
      exact fy_more (c' := 31 + (t + 1)) (s' := 2151 + 6 * (t + 1)) (by omega) (by omega) (ih _ _ _ ⟨N', C', L', val', age', nf', rf', reg', wk', sp2, rw2, sq2, rx2, pl2, G2, V2, F2, row2, rowq2, f02, g02, pf2, wn02, tu02, st02, wq2, oq2, fo2, nu2, va2, ag2, fi2, re2, mk2, mr2, mw2, nI k, ou2, hI', hk2, hy2, hM2, hl, hP, hD, hS⟩)
    · refine lv_if_eq hx hb d_La_law_406 (tgt := 413) (by decide) (fun h => absurd h (by rw [hz]; decide)) (fun _ => ?_)
      refine lv_lconst (v := 1) hx hb d_La_law_409 (by decide) ?_
      refine lv_goto hx hb d_La_law_410 (tgt := 414) (by decide) ?_
      refine fy_lcmp hx hb (by rw [hou hk0, ← hb9 hk0, hz]; decide) d_La_law_414 ?_
      refine lv_if_eq hx hb d_La_law_415 (tgt := 420) (by decide) (fun _ => ?_) (fun h => absurd (rfl) h)
      refine lv_goto hx hb d_La_law_420 (tgt := 1034) (by decide) ?_
      refine lv_iinc (v := nI (4 * t + 4)) hx hb d_La_law_1034 hl (k := 2) rfl (by rw [show Int32.ofInt 4 = nI 4 from by decide]; exact nI_add _ _) (by decide) rfl (fun ls hl => ?_)
      have hl : lv_has ls 7 [(4, .int (nI (4 * t + 4))), (6, .int b9), (5, .int (nI k)), (0, .ref b), (1, .ref yd), (2, .ref mo), (3, .ref ao)] := hl
      refine lv_goto hx hb d_La_law_1037 (tgt := 23) (by decide) ?_
      have hl : lv_has ls 7 [(4, .int (nI (4 * (t + 1)))), (0, .ref b), (1, .ref yd), (2, .ref mo), (3, .ref ao)] := lv_sub hl [0, 3, 4, 5, 6] rfl
      exact fy_more (c' := 31 + (t + 1)) (s' := 2151 + 6 * (t + 1)) (by omega) (by omega) (ih _ _ _ ⟨N', C', L', val', age', nf', rf', reg', wk', sp2, rw2, sq2, rx2, pl2, G2, V2, F2, row2, rowq2, f02, g02, pf2, wn02, tu02, st02, wq2, oq2, fo2, nu2, va2, ag2, fi2, re2, mk2, mr2, mw2, nI k, ou2, hI', hk2, hy2, hM2, hl, hP, hD, hS⟩)
  · refine lv_if_ne hx hb d_La_law_398 (tgt := 420) (by decide) (fun _ => ?_) (fun h => absurd h (nI_ne0 (by omega) (by omega)))
    refine lv_goto hx hb d_La_law_420 (tgt := 1034) (by decide) ?_
    refine lv_iinc (v := nI (4 * t + 4)) hx hb d_La_law_1034 hl (k := 2) rfl (by rw [show Int32.ofInt 4 = nI 4 from by decide]; exact nI_add _ _) (by decide) rfl (fun ls hl => ?_)
    have hl : lv_has ls 7 [(4, .int (nI (4 * t + 4))), (6, .int b9), (5, .int (nI k)), (0, .ref b), (1, .ref yd), (2, .ref mo), (3, .ref ao)] := hl
    refine lv_goto hx hb d_La_law_1037 (tgt := 23) (by decide) ?_
    have hl : lv_has ls 7 [(4, .int (nI (4 * (t + 1)))), (0, .ref b), (1, .ref yd), (2, .ref mo), (3, .ref ao)] := lv_sub hl [0, 3, 4, 5, 6] rfl
    exact fy_more (c' := 31 + (t + 1)) (s' := 2151 + 6 * (t + 1)) (by omega) (by omega) (ih _ _ _ ⟨N', C', L', val', age', nf', rf', reg', wk', sp2, rw2, sq2, rx2, pl2, G2, V2, F2, row2, rowq2, f02, g02, pf2, wn02, tu02, st02, wq2, oq2, fo2, nu2, va2, ag2, fi2, re2, mk2, mr2, mw2, nI k, ou2, hI', hk2, hy2, hM2, hl, hP, hD, hS⟩)
