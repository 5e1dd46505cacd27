set_option maxRecDepth 20000 in
set_option maxHeartbeats 4000000 in
theorem lb_field {p : Program} {l : Launch} {e : Env} {s : State} {m : MethodId} {below : List Frame} {meth : Method} {c : Code} {Q : State → Prop} {D : va_G} {cI cZ cJ cW : ClassId} {b Ln : Nat} {xs : Nat → Int32} (hG : fy_G s D cI cZ cJ cW) (hX : fy_GX l s) (hN : fy_GC s) (hx : p.tables.exec = Jvm.exec) (hb : c.code = code) (hml : c.maxLocals = 7) (hown : s.vm.findClass "ForwardYardLaw" = some m.cls) (hts : ∀ w ∈ fy_T, w.before #[Value.ref b] s = true) (hXs : va_X b Ln xs s s.heap) (hbl : b < s.heap.size) (hL : Ln ≤ 2048) (yd rg wr cr fw wt wl se qu ao : Nat) (wa pa : Nat → Nat) (mo m1 m2 m3 m4 m5 m6 m7 m8 : Nat) (t : Nat) (ht : 4 * t + 4 ≤ Ln) (N : Nat) (C : Nat) (L : List Nat) (val : Nat → Int32) (age : Nat → Nat) (nf : Nat → Nat) (rf : Nat → Nat → Option Nat) (reg : Nat → Option Nat) (wk : Nat → Option Nat) (sp rw sq rx : Nat) (pl : Nat → Nat) (G V F row rowq f0 g0 : Nat → Int32) (pf : Nat → Nat → Int32) (wn0 tu0 st0 wq oq fo : Int32) (nu va ag fi re mk mr mw : Nat → Int32) (cd : Int32) (ou : Nat → Int64) (hI : fm_In t N C L age nf rf reg wk) (hk : fm_Ok L val age nf rf pl row) (hy : ya_R reg wk pl G V) (hM : fm_Mo L val age nf rf reg wk nu va ag fi re mr mw) {ls : Array Slot} {H : Heap} {locs : List Loc} (hl : lv_has ls 7 [(4, .int (nI (4 * t))), (0, .ref b), (1, .ref yd), (2, .ref mo), (3, .ref ao)]) (hP : va_P D vwCl (lw_Y cI cW yd rg wr cr fw wt wl se qu wa pa N C L nf sp rw sq rx G V F row rowq f0 g0 pf wn0 tu0 st0 wq oq fo ++ [(ao, .inl (cJ, 1, .inr (.inl ou)))] ++ lw_M cI cZ mo m1 m2 m3 m4 m5 m6 m7 m8 cd N C L nu va ag fi re mk mr mw) H) (hD : va_D (fy_B s) (lw_Y cI cW yd rg wr cr fw wt wl se qu wa pa N C L nf sp rw sq rx G V F row rowq f0 g0 pf wn0 tu0 st0 wq oq fo ++ [(ao, .inl (cJ, 1, .inr (.inl ou)))] ++ lw_M cI cZ mo m1 m2 m3 m4 m5 m6 m7 m8 cd N C L nu va ag fi re mk mr mw)) (hS : va_S (fy_B s) s.heap H locs) (ih : ∀ (ls : Array Slot) (H : Heap) (locs : List Loc), lw_Inv s D cI cZ cJ cW b yd rg wr cr fw wt wl se qu ao wa pa mo m1 m2 m3 m4 m5 m6 m7 m8 (t + 1) ls H locs → W p l e room_1 s m #[Value.ref b] below meth c H locs (31 + (t + 1)) (2151 + 6 * (t + 1)) Q (F0 m 23 ls [])) : W p l e room_1 s m #[Value.ref b] below meth c H locs (31 + t) (2151 + 6 * t) Q (F0 m 711 ls []) := by
  have hK : va_K D vwCl (fy_tys cI cZ cJ cW) s := hG.2
  have hLa := fy_La.rf s
  have hAB : ∀ q, fy_B s q → fy_B s q := fun _ h => h
  have hA : ∀ q, s.heap.size ≤ q → fy_B s q := fun _ h => h
  have ht5 : t < 512 := by omega
  obtain ⟨k, ans, N', C', L', val', age', nf', rf', reg', wk', ho, hk3, hI'⟩ := ft_field hI ht5 (xs (4 * t + 1)) (xs (4 * t + 2))
  refine lv_aload_n hx hb d_La_law_711 rfl (lv_at hl 2 rfl) ?_
  refine lv_aload_n hx hb d_La_law_712 rfl (lv_at hl 1 rfl) ?_
  refine lv_iload hx hb d_La_law_713 (lv_at hl 0 rfl) ?_
  refine lv_iconst (v := nI 1) hx hb d_La_law_715 (by decide) ?_
  refine lv_iadd hx hb d_La_law_716 ?_
  refine fy_top (z := nI ((4 * t) + 1)) (nI_add _ _) ?_
  refine fy_sld (A := fy_B s) hx hb hXs hbl (fun h => Nat.not_le_of_lt hbl h) hS hL (by omega) d_La_law_717 ?_
  refine lv_aload_n hx hb d_La_law_718 rfl (lv_at hl 1 rfl) ?_
  refine lv_iload hx hb d_La_law_719 (lv_at hl 0 rfl) ?_
  refine lv_iconst (v := nI 2) hx hb d_La_law_721 (by decide) ?_
  refine lv_iadd hx hb d_La_law_722 ?_
  refine fy_top (z := nI ((4 * t) + 2)) (nI_add _ _) ?_
  refine fy_sld (A := fy_B s) hx hb hXs hbl (fun h => Nat.not_le_of_lt hbl h) hS hL (by omega) d_La_law_723 ?_
  refine lv_aload_n hx hb d_La_law_724 rfl (lv_at hl 4 rfl) ?_
  refine fy_callSW3 (As := [.ref yd, .int (xs ((4 * t) + 1)), .int (xs ((4 * t) + 2)), .ref ao]) (rest := []) (H := H) [] (lw_M cI cZ mo m1 m2 m3 m4 m5 m6 m7 m8 cd N C L nu va ag fi re mk mr mw) ⟨hx, hb, hml, hown, hts⟩ (c_La_field l s D cI cZ cJ cW hG hX hN yd rg wr cr fw wt wl se qu wa pa ao t N C L val age nf rf reg wk sp rw sq rx pl G V F row rowq f0 g0 pf wn0 tu0 st0 wq oq fo ou hI hk hy (xs (4 * t + 1)) (xs (4 * t + 2)) k ans N' C' L' val' age' nf' rf' reg' wk' ho) List.mem_cons_self (fy_good (fy_w1 k_c_La_field)) rfl rfl ⟨Nat.le_of_ble_eq_true rfl, Nat.le_of_ble_eq_true rfl⟩ (hts _ k_m_La_114) (hts _ k_s_La_field) (hts _ k_ini_La) ⟨by decide, by decide, show (parseMethodDescriptor y_La_field.desc).map (fun d => d.parameters.length) = some 4 by decide +kernel⟩ hLa hAB hA hP hD hS hl.1 rfl (Nat.le_of_ble_eq_true rfl) d_La_law_725 ⟨show _ ≤ 601024 by omega, show _ ≤ 7293034 by omega⟩ (fun r w1 H locs hp hP hD hS => ?_)
  obtain ⟨rfl, sp2, rw2, sq2, rx2, pl2, G2, V2, F2, row2, rowq2, f02, g02, pf2, wn02, tu02, st02, wq2, oq2, fo2, ou2, hou, hk2, hy2, rfl⟩ := hp
  have hP : va_P D vwCl (lw_Y cI cW yd rg wr cr fw wt wl se qu wa pa N' C' L' nf' sp2 rw2 sq2 rx2 G2 V2 F2 row2 rowq2 f02 g02 pf2 wn02 tu02 st02 wq2 oq2 fo2 ++ [(ao, .inl (cJ, 1, .inr (.inl ou2)))] ++ lw_M cI cZ mo m1 m2 m3 m4 m5 m6 m7 m8 cd N C L nu va ag fi re mk mr mw) H := hP
  have hD : va_D (fy_B s) (lw_Y cI cW yd rg wr cr fw wt wl se qu wa pa N' C' L' nf' sp2 rw2 sq2 rx2 G2 V2 F2 row2 rowq2 f02 g02 pf2 wn02 tu02 st02 wq2 oq2 fo2 ++ [(ao, .inl (cJ, 1, .inr (.inl ou2)))] ++ lw_M cI cZ mo m1 m2 m3 m4 m5 m6 m7 m8 cd N C L nu va ag fi re mk mr mw) := hD
  refine W.eq (g2 := F0 m 728 ls [.int (nI k)]) rfl ?_
  refine lv_istore hx hb d_La_law_728 hl (by decide) rfl (fun ls hl => ?_)
  have hl : lv_has ls 7 [(5, .int (nI k)), (4, .int (nI (4 * t))), (0, .ref b), (1, .ref yd), (2, .ref mo), (3, .ref ao)] := hl
  refine lv_aload_n hx hb d_La_law_730 rfl (lv_at hl 4 rfl) ?_
  refine lv_aload_n hx hb d_La_law_731 rfl (lv_at hl 2 rfl) ?_
  refine lv_iload hx hb d_La_law_732 (lv_at hl 1 rfl) ?_
  refine lv_iconst (v := nI 1) hx hb d_La_law_734 (by decide) ?_
  refine lv_iadd hx hb d_La_law_735 ?_
  refine fy_top (z := nI ((4 * t) + 1)) (nI_add _ _) ?_
  refine fy_sld (A := fy_B s) hx hb hXs hbl (fun h => Nat.not_le_of_lt hbl h) hS hL (by omega) d_La_law_736 ?_
  refine lv_aload_n hx hb d_La_law_737 rfl (lv_at hl 2 rfl) ?_
  refine lv_iload hx hb d_La_law_738 (lv_at hl 1 rfl) ?_
  refine lv_iconst (v := nI 2) hx hb d_La_law_740 (by decide) ?_
  refine lv_iadd hx hb d_La_law_741 ?_
  refine fy_top (z := nI ((4 * t) + 2)) (nI_add _ _) ?_
  refine fy_sld (A := fy_B s) hx hb hXs hbl (fun h => Nat.not_le_of_lt hbl h) hS hL (by omega) d_La_law_742 ?_
  refine fy_callV3 (As := [.int (xs ((4 * t) + 1)), .int (xs ((4 * t) + 2))]) (rest := []) (H := H) (lw_Y cI cW yd rg wr cr fw wt wl se qu wa pa N' C' L' nf' sp2 rw2 sq2 rx2 G2 V2 F2 row2 rowq2 f02 g02 pf2 wn02 tu02 st02 wq2 oq2 fo2 ++ [(ao, .inl (cJ, 1, .inr (.inl ou2)))]) [] ⟨hx, hb, hml, hown, hts⟩ (c_Mo_field l s D cI cZ cJ cW hG mo m1 m2 m3 m4 m5 m6 m7 m8 cd t N C L val age nf rf reg wk nu va ag fi re mk mr mw hI hM (xs (4 * t + 1)) (xs (4 * t + 2)) k ans N' C' L' val' age' nf' rf' reg' wk' ho) (cwV 2 hts g_La_116 rfl rfl rfl (by decide +kernel) ⟨Nat.le_of_ble_eq_true rfl, Nat.le_of_ble_eq_true rfl⟩) hK hLa hAB hA (by rw [List.append_nil]; exact hP) (by rw [List.append_nil]; exact hD) hS (ci := 5) rfl rfl (q0 := 22) rfl rfl hl.1 rfl (Nat.le_of_ble_eq_true rfl) d_La_law_743 ⟨show _ ≤ 601024 by omega, show _ ≤ 7293034 by omega⟩ (fun r w1 H locs hp hP hD hS => ?_)
  rw [List.append_nil] at hP hD
  obtain ⟨b9, nu2, va2, ag2, fi2, re2, mk2, mr2, mw2, hb9, rfl, hM2, rfl⟩ := hp
  have hP : va_P D vwCl (lw_Y cI cW yd rg wr cr fw wt wl se qu wa pa N' C' L' nf' sp2 rw2 sq2 rx2 G2 V2 F2 row2 rowq2 f02 g02 pf2 wn02 tu02 st02 wq2 oq2 fo2 ++ [(ao, .inl (cJ, 1, .inr (.inl ou2)))] ++ lw_M cI cZ mo m1 m2 m3 m4 m5 m6 m7 m8 (nI k) N' C' L' nu2 va2 ag2 fi2 re2 mk2 mr2 mw2) H := hP
  have hD : va_D (fy_B s) (lw_Y cI cW yd rg wr cr fw wt wl se qu wa pa N' C' L' nf' sp2 rw2 sq2 rx2 G2 V2 F2 row2 rowq2 f02 g02 pf2 wn02 tu02 st02 wq2 oq2 fo2 ++ [(ao, .inl (cJ, 1, .inr (.inl ou2)))] ++ lw_M cI cZ mo m1 m2 m3 m4 m5 m6 m7 m8 (nI k) N' C' L' nu2 va2 ag2 fi2 re2 mk2 mr2 mw2) := hD
  refine W.eq (g2 := F0 m 746 ls [.int b9]) rfl ?_
  refine lv_istore hx hb d_La_law_746 hl (by decide) rfl (fun ls hl => ?_)
  have hl : lv_has ls 7 [(6, .int b9), (5, .int (nI k)), (4, .int (nI (4 * t))), (0, .ref b), (1, .ref yd), (2, .ref mo), (3, .ref ao)] := hl
  refine lv_aload_n hx hb d_La_law_748 rfl (lv_at hl 5 rfl) ?_
  refine fy_callV3 (As := []) (rest := []) (H := H) (lw_Y cI cW yd rg wr cr fw wt wl se qu wa pa N' C' L' nf' sp2 rw2 sq2 rx2 G2 V2 F2 row2 rowq2 f02 g02 pf2 wn02 tu02 st02 wq2 oq2 fo2 ++ [(ao, .inl (cJ, 1, .inr (.inl ou2)))]) [] ⟨hx, hb, hml, hown, hts⟩ (c_Mo_thrownW l s D cI cZ cJ cW hG mo m1 m2 m3 m4 m5 m6 m7 m8 (nI k) N' C' L' nu2 va2 ag2 fi2 re2 mk2 mr2 mw2) (cwV 0 hts g_La_79 rfl rfl rfl (by decide +kernel) ⟨Nat.le_of_ble_eq_true rfl, Nat.le_of_ble_eq_true rfl⟩) hK hLa hAB hA (by rw [List.append_nil]; exact hP) (by rw [List.append_nil]; exact hD) hS (ci := 5) rfl rfl (q0 := 22) rfl rfl hl.1 rfl (Nat.le_of_ble_eq_true rfl) d_La_law_749 ⟨show _ ≤ 601024 by omega, show _ ≤ 7293034 by omega⟩ (fun r w1 H locs hp hP hD hS => ?_)
  rw [List.append_nil] at hP hD
  obtain ⟨rfl, rfl⟩ := hp
  have hP : va_P D vwCl (lw_Y cI cW yd rg wr cr fw wt wl se qu wa pa N' C' L' nf' sp2 rw2 sq2 rx2 G2 V2 F2 row2 rowq2 f02 g02 pf2 wn02 tu02 st02 wq2 oq2 fo2 ++ [(ao, .inl (cJ, 1, .inr (.inl ou2)))] ++ lw_M cI cZ mo m1 m2 m3 m4 m5 m6 m7 m8 (nI k) N' C' L' nu2 va2 ag2 fi2 re2 mk2 mr2 mw2) H := hP
  have hD : va_D (fy_B s) (lw_Y cI cW yd rg wr cr fw wt wl se qu wa pa N' C' L' nf' sp2 rw2 sq2 rx2 G2 V2 F2 row2 rowq2 f02 g02 pf2 wn02 tu02 st02 wq2 oq2 fo2 ++ [(ao, .inl (cJ, 1, .inr (.inl ou2)))] ++ lw_M cI cZ mo m1 m2 m3 m4 m5 m6 m7 m8 (nI k) N' C' L' nu2 va2 ag2 fi2 re2 mk2 mr2 mw2) := hD
  refine W.eq (g2 := F0 m 752 ls [.int (nI k)]) rfl ?_
  refine lv_iload hx hb d_La_law_752 (lv_at hl 1 rfl) ?_
  refine lv_icmp_eq hx hb d_La_law_754 (tgt := 759) (by decide) (fun _ => ?_) (fun h => absurd (rfl) h)
  refine lv_iload hx hb d_La_law_759 (lv_at hl 1 rfl) ?_
  by_cases hk0 : k = 0
  · refine lv_if_ne hx hb d_La_law_761 (tgt := 776) (by decide) (fun h => absurd (by rw [hk0]; rfl) h) (fun _ => ?_)
    refine lv_aload_n hx hb d_La_law_764 rfl (lv_at hl 6 rfl) ?_
    refine lv_iconst (v := nI 0) hx hb d_La_law_765 (by decide) ?_
    refine fy_lald (t0 := 2) (N := 1) (k := 0) (f := ou2) (v := ou2 0) hx hb hK hP 21 rfl rfl (by omega) (by omega) rfl d_La_law_766 ?_
    refine lv_iload hx hb d_La_law_767 (lv_at hl 0 rfl) ?_
    refine lv_i2l hx hb d_La_law_769 rfl ?_
    refine fy_lcmp hx hb (by rw [hou hk0, hb9 hk0]) d_La_law_770 ?_
    refine lv_if_eq hx hb d_La_law_771 (tgt := 776) (by decide) (fun _ => ?_) (fun h => absurd (rfl) h)
    refine lv_goto hx hb d_La_law_776 (tgt := 1034) (by decide) ?_
    refine lv_iinc (v := nI (4 * t + 4)) hx hb d_La_law_1034 hl (k := 2) rfl (by rw [show Int32.ofInt 4 = nI 4 from by decide]; exact nI_add _ _) (by decide) rfl (fun ls hl => ?_)
    have hl : lv_has ls 7 [(4, .int (nI (4 * t + 4))), (6, .int b9), (5, .int (nI k)), (0, .ref b), (1, .ref yd), (2, .ref mo), (3, .ref ao)] := hl
    refine lv_goto hx hb d_La_law_1037 (tgt := 23) (by decide) ?_
    have hl : lv_has ls 7 [(4, .int (nI (4 * (t + 1)))), (0, .ref b), (1, .ref yd), (2, .ref mo), (3, .ref ao)] := lv_sub hl [0, 3, 4, 5, 6] rfl
    exact fy_more (c' := 31 + (t + 1)) (s' := 2151 + 6 * (t + 1)) (by omega) (by omega) (ih _ _ _ ⟨N', C', L', val', age', nf', rf', reg', wk', sp2, rw2, sq2, rx2, pl2, G2, V2, F2, row2, rowq2, f02, g02, pf2, wn02, tu02, st02, wq2, oq2, fo2, nu2, va2, ag2, fi2, re2, mk2, mr2, mw2, nI k, ou2, hI', hk2, hy2, hM2, hl, hP, hD, hS⟩)
  · refine lv_if_ne hx hb d_La_law_761 (tgt := 776) (by decide) (fun _ => ?_) (fun h => absurd h (nI_ne0 (by omega) (by omega)))
    refine lv_goto hx hb d_La_law_776 (tgt := 1034) (by decide) ?_
    refine lv_iinc (v := nI (4 * t + 4)) hx hb d_La_law_1034 hl (k := 2) rfl (by rw [show Int32.ofInt 4 = nI 4 from by decide]; exact nI_add _ _) (by decide) rfl (fun ls hl => ?_)
    have hl : lv_has ls 7 [(4, .int (nI (4 * t + 4))), (6, .int b9), (5, .int (nI k)), (0, .ref b), (1, .ref yd), (2, .ref mo), (3, .ref ao)] := hl
    refine lv_goto hx hb d_La_law_1037 (tgt := 23) (by decide) ?_
    have hl : lv_has ls 7 [(4, .int (nI (4 * (t + 1)))), (0, .ref b), (1, .ref yd), (2, .ref mo), (3, .ref ao)] := lv_sub hl [0, 3, 4, 5, 6] rfl
    exact fy_more (c' := 31 + (t + 1)) (s' := 2151 + 6 * (t + 1)) (by omega) (by omega) (ih _ _ _ ⟨N', C', L', val', age', nf', rf', reg', wk', sp2, rw2, sq2, rx2, pl2, G2, V2, F2, row2, rowq2, f02, g02, pf2, wn02, tu02, st02, wq2, oq2, fo2, nu2, va2, ag2, fi2, re2, mk2, mr2, mw2, nI k, ou2, hI', hk2, hy2, hM2, hl, hP, hD, hS⟩)
set_option maxRecDepth 20000 in
set_option maxHeartbeats 4000000 in
theorem lb_same {p : Program} {l : Launch} {e : Env} {s : State} {m : MethodId} {below : List Frame} {meth : Method} {c : Code} {Q : State → Prop} {D : va_G} {cI cZ cJ cW : ClassId} {b Ln : Nat} {xs : Nat → Int32} (hG : fy_G s D cI cZ cJ cW) (hX : fy_GX l s) (hN : fy_GC s) (hx : p.tables.exec = Jvm.exec) (hb : c.code = code) (hml : c.maxLocals = 7) (hown : s.vm.findClass "ForwardYardLaw" = some m.cls) (hts : ∀ w ∈ fy_T, w.before #[Value.ref b] s = true) (hXs : va_X b Ln xs s s.heap) (hbl : b < s.heap.size) (hL : Ln ≤ 2048) (yd rg wr cr fw wt wl se qu ao : Nat) (wa pa : Nat → Nat) (mo m1 m2 m3 m4 m5 m6 m7 m8 : Nat) (t : Nat) (ht : 4 * t + 4 ≤ Ln) (N : Nat) (C : Nat) (L : List Nat) (val : Nat → Int32) (age : Nat → Nat) (nf : Nat → Nat) (rf : Nat → Nat → Option Nat) (reg : Nat → Option Nat) (wk : Nat → Option Nat) (sp rw sq rx : Nat) (pl : Nat → Nat) (G V F row rowq f0 g0 : Nat → Int32) (pf : Nat → Nat → Int32) (wn0 tu0 st0 wq oq fo : Int32) (nu va ag fi re mk mr mw : Nat → Int32) (cd : Int32) (ou : Nat → Int64) (hI : fm_In t N C L age nf rf reg wk) (hk : fm_Ok L val age nf rf pl row) (hy : ya_R reg wk pl G V) (hM : fm_Mo L val age nf rf reg wk nu va ag fi re mr mw) {ls : Array Slot} {H : Heap} {locs : List Loc} (hl : lv_has ls 7 [(4, .int (nI (4 * t))), (0, .ref b), (1, .ref yd), (2, .ref mo), (3, .ref ao)]) (hP : va_P D vwCl (lw_Y cI cW yd rg wr cr fw wt wl se qu wa pa N C L nf sp rw sq rx G V F row rowq f0 g0 pf wn0 tu0 st0 wq oq fo ++ [(ao, .inl (cJ, 1, .inr (.inl ou)))] ++ lw_M cI cZ mo m1 m2 m3 m4 m5 m6 m7 m8 cd N C L nu va ag fi re mk mr mw) H) (hD : va_D (fy_B s) (lw_Y cI cW yd rg wr cr fw wt wl se qu wa pa N C L nf sp rw sq rx G V F row rowq f0 g0 pf wn0 tu0 st0 wq oq fo ++ [(ao, .inl (cJ, 1, .inr (.inl ou)))] ++ lw_M cI cZ mo m1 m2 m3 m4 m5 m6 m7 m8 cd N C L nu va ag fi re mk mr mw)) (hS : va_S (fy_B s) s.heap H locs) (ih : ∀ (ls : Array Slot) (H : Heap) (locs : List Loc), lw_Inv s D cI cZ cJ cW b yd rg wr cr fw wt wl se qu ao wa pa mo m1 m2 m3 m4 m5 m6 m7 m8 (t + 1) ls H locs → W p l e room_1 s m #[Value.ref b] below meth c H locs (31 + (t + 1)) (2151 + 6 * (t + 1)) Q (F0 m 23 ls [])) : W p l e room_1 s m #[Value.ref b] below meth c H locs (31 + t) (2151 + 6 * t) Q (F0 m 779 ls []) := by
  have hK : va_K D vwCl (fy_tys cI cZ cJ cW) s := hG.2
  have hLa := fy_La.rf s
  have hAB : ∀ q, fy_B s q → fy_B s q := fun _ h => h
  have hA : ∀ q, s.heap.size ≤ q → fy_B s q := fun _ h => h
  have ht5 : t < 512 := by omega
  obtain ⟨k, ans, N', C', L', val', age', nf', rf', reg', wk', ho, hk3, hI'⟩ := ft_same hI ht5 (xs (4 * t + 1)) (xs (4 * t + 2))
  refine lv_aload_n hx hb d_La_law_779 rfl (lv_at hl 2 rfl) ?_
  refine lv_aload_n hx hb d_La_law_780 rfl (lv_at hl 1 rfl) ?_
  refine lv_iload hx hb d_La_law_781 (lv_at hl 0 rfl) ?_
  refine lv_iconst (v := nI 1) hx hb d_La_law_783 (by decide) ?_
  refine lv_iadd hx hb d_La_law_784 ?_
  refine fy_top (z := nI ((4 * t) + 1)) (nI_add _ _) ?_
  refine fy_sld (A := fy_B s) hx hb hXs hbl (fun h => Nat.not_le_of_lt hbl h) hS hL (by omega) d_La_law_785 ?_
  refine lv_aload_n hx hb d_La_law_786 rfl (lv_at hl 1 rfl) ?_
  refine lv_iload hx hb d_La_law_787 (lv_at hl 0 rfl) ?_
  refine lv_iconst (v := nI 2) hx hb d_La_law_789 (by decide) ?_
  refine lv_iadd hx hb d_La_law_790 ?_
  refine fy_top (z := nI ((4 * t) + 2)) (nI_add _ _) ?_
  refine fy_sld (A := fy_B s) hx hb hXs hbl (fun h => Nat.not_le_of_lt hbl h) hS hL (by omega) d_La_law_791 ?_
  refine lv_aload_n hx hb d_La_law_792 rfl (lv_at hl 4 rfl) ?_
  refine fy_callSW3 (As := [.ref yd, .int (xs ((4 * t) + 1)), .int (xs ((4 * t) + 2)), .ref ao]) (rest := []) (H := H) [] (lw_M cI cZ mo m1 m2 m3 m4 m5 m6 m7 m8 cd N C L nu va ag fi re mk mr mw) ⟨hx, hb, hml, hown, hts⟩ (c_La_same l s D cI cZ cJ cW hG hX hN yd rg wr cr fw wt wl se qu wa pa ao t N C L val age nf rf reg wk sp rw sq rx pl G V F row rowq f0 g0 pf wn0 tu0 st0 wq oq fo ou hI hk hy (xs (4 * t + 1)) (xs (4 * t + 2)) k ans N' C' L' val' age' nf' rf' reg' wk' ho) List.mem_cons_self (fy_good (fy_w1 k_c_La_same)) rfl rfl ⟨Nat.le_of_ble_eq_true rfl, Nat.le_of_ble_eq_true rfl⟩ (hts _ k_m_La_117) (hts _ k_s_La_same) (hts _ k_ini_La) ⟨by decide, by decide, show (parseMethodDescriptor y_La_same.desc).map (fun d => d.parameters.length) = some 4 by decide +kernel⟩ hLa hAB hA hP hD hS hl.1 rfl (Nat.le_of_ble_eq_true rfl) d_La_law_793 ⟨show _ ≤ 601024 by omega, show _ ≤ 7293034 by omega⟩ (fun r w1 H locs hp hP hD hS => ?_)
  obtain ⟨rfl, sp2, rw2, sq2, rx2, pl2, G2, V2, F2, row2, rowq2, f02, g02, pf2, wn02, tu02, st02, wq2, oq2, fo2, ou2, hou, hk2, hy2, rfl⟩ := hp
  have hP : va_P D vwCl (lw_Y cI cW yd rg wr cr fw wt wl se qu wa pa N' C' L' nf' sp2 rw2 sq2 rx2 G2 V2 F2 row2 rowq2 f02 g02 pf2 wn02 tu02 st02 wq2 oq2 fo2 ++ [(ao, .inl (cJ, 1, .inr (.inl ou2)))] ++ lw_M cI cZ mo m1 m2 m3 m4 m5 m6 m7 m8 cd N C L nu va ag fi re mk mr mw) H := hP
  have hD : va_D (fy_B s) (lw_Y cI cW yd rg wr cr fw wt wl se qu wa pa N' C' L' nf' sp2 rw2 sq2 rx2 G2 V2 F2 row2 rowq2 f02 g02 pf2 wn02 tu02 st02 wq2 oq2 fo2 ++ [(ao, .inl (cJ, 1, .inr (.inl ou2)))] ++ lw_M cI cZ mo m1 m2 m3 m4 m5 m6 m7 m8 cd N C L nu va ag fi re mk mr mw) := hD
  refine W.eq (g2 := F0 m 796 ls [.int (nI k)]) rfl ?_
  refine lv_istore hx hb d_La_law_796 hl (by decide) rfl (fun ls hl => ?_)
  have hl : lv_has ls 7 [(5, .int (nI k)), (4, .int (nI (4 * t))), (0, .ref b), (1, .ref yd), (2, .ref mo), (3, .ref ao)] := hl
  refine lv_aload_n hx hb d_La_law_798 rfl (lv_at hl 4 rfl) ?_
  refine lv_aload_n hx hb d_La_law_799 rfl (lv_at hl 2 rfl) ?_
  refine lv_iload hx hb d_La_law_800 (lv_at hl 1 rfl) ?_
  refine lv_iconst (v := nI 1) hx hb d_La_law_802 (by decide) ?_
  refine lv_iadd hx hb d_La_law_803 ?_
  refine fy_top (z := nI ((4 * t) + 1)) (nI_add _ _) ?_
  refine fy_sld (A := fy_B s) hx hb hXs hbl (fun h => Nat.not_le_of_lt hbl h) hS hL (by omega) d_La_law_804 ?_
  refine lv_aload_n hx hb d_La_law_805 rfl (lv_at hl 2 rfl) ?_
  refine lv_iload hx hb d_La_law_806 (lv_at hl 1 rfl) ?_
  refine lv_iconst (v := nI 2) hx hb d_La_law_808 (by decide) ?_
  refine lv_iadd hx hb d_La_law_809 ?_
  refine fy_top (z := nI ((4 * t) + 2)) (nI_add _ _) ?_
  refine fy_sld (A := fy_B s) hx hb hXs hbl (fun h => Nat.not_le_of_lt hbl h) hS hL (by omega) d_La_law_810 ?_
  refine fy_callV3 (As := [.int (xs ((4 * t) + 1)), .int (xs ((4 * t) + 2))]) (rest := []) (H := H) (lw_Y cI cW yd rg wr cr fw wt wl se qu wa pa N' C' L' nf' sp2 rw2 sq2 rx2 G2 V2 F2 row2 rowq2 f02 g02 pf2 wn02 tu02 st02 wq2 oq2 fo2 ++ [(ao, .inl (cJ, 1, .inr (.inl ou2)))]) [] ⟨hx, hb, hml, hown, hts⟩ (c_Mo_same l s D cI cZ cJ cW hG mo m1 m2 m3 m4 m5 m6 m7 m8 cd t N C L val age nf rf reg wk nu va ag fi re mk mr mw hI hM (xs (4 * t + 1)) (xs (4 * t + 2)) k ans N' C' L' val' age' nf' rf' reg' wk' ho) (cwV 2 hts g_La_119 rfl rfl rfl (by decide +kernel) ⟨Nat.le_of_ble_eq_true rfl, Nat.le_of_ble_eq_true rfl⟩) hK hLa hAB hA (by rw [List.append_nil]; exact hP) (by rw [List.append_nil]; exact hD) hS (ci := 5) rfl rfl (q0 := 22) rfl rfl hl.1 rfl (Nat.le_of_ble_eq_true rfl) d_La_law_811 ⟨show _ ≤ 601024 by omega, show _ ≤ 7293034 by omega⟩ (fun r w1 H locs hp hP hD hS => ?_)
  rw [List.append_nil] at hP hD
  obtain ⟨b9, nu2, va2, ag2, fi2, re2, mk2, mr2, mw2, hb9, rfl, hM2, rfl⟩ := hp
  have hP : va_P D vwCl (lw_Y cI cW yd rg wr cr fw wt wl se qu wa pa N' C' L' nf' sp2 rw2 sq2 rx2 G2 V2 F2 row2 rowq2 f02 g02 pf2 wn02 tu02 st02 wq2 oq2 fo2 ++ [(ao, .inl (cJ, 1, .inr (.inl ou2)))] ++ lw_M cI cZ mo m1 m2 m3 m4 m5 m6 m7 m8 (nI k) N' C' L' nu2 va2 ag2 fi2 re2 mk2 mr2 mw2) H := hP
  have hD : va_D (fy_B s) (lw_Y cI cW yd rg wr cr fw wt wl se qu wa pa N' C' L' nf' sp2 rw2 sq2 rx2 G2 V2 F2 row2 rowq2 f02 g02 pf2 wn02 tu02 st02 wq2 oq2 fo2 ++ [(ao, .inl (cJ, 1, .inr (.inl ou2)))] ++ lw_M cI cZ mo m1 m2 m3 m4 m5 m6 m7 m8 (nI k) N' C' L' nu2 va2 ag2 fi2 re2 mk2 mr2 mw2) := hD
  refine W.eq (g2 := F0 m 814 ls [.int b9]) rfl ?_
  refine lv_istore hx hb d_La_law_814 hl (by decide) rfl (fun ls hl => ?_)
  have hl : lv_has ls 7 [(6, .int b9), (5, .int (nI k)), (4, .int (nI (4 * t))), (0, .ref b), (1, .ref yd), (2, .ref mo), (3, .ref ao)] := hl
  refine lv_aload_n hx hb d_La_law_816 rfl (lv_at hl 5 rfl) ?_
  refine fy_callV3 (As := []) (rest := []) (H := H) (lw_Y cI cW yd rg wr cr fw wt wl se qu wa pa N' C' L' nf' sp2 rw2 sq2 rx2 G2 V2 F2 row2 rowq2 f02 g02 pf2 wn02 tu02 st02 wq2 oq2 fo2 ++ [(ao, .inl (cJ, 1, .inr (.inl ou2)))]) [] ⟨hx, hb, hml, hown, hts⟩ (c_Mo_thrownW l s D cI cZ cJ cW hG mo m1 m2 m3 m4 m5 m6 m7 m8 (nI k) N' C' L' nu2 va2 ag2 fi2 re2 mk2 mr2 mw2) (cwV 0 hts g_La_79 rfl rfl rfl (by decide +kernel) ⟨Nat.le_of_ble_eq_true rfl, Nat.le_of_ble_eq_true rfl⟩) hK hLa hAB hA (by rw [List.append_nil]; exact hP) (by rw [List.append_nil]; exact hD) hS (ci := 5) rfl rfl (q0 := 22) rfl rfl hl.1 rfl (Nat.le_of_ble_eq_true rfl) d_La_law_817 ⟨show _ ≤ 601024 by omega, show _ ≤ 7293034 by omega⟩ (fun r w1 H locs hp hP hD hS => ?_)
  rw [List.append_nil] at hP hD
  obtain ⟨rfl, rfl⟩ := hp
  have hP : va_P D vwCl (lw_Y cI cW yd rg wr cr fw wt wl se qu wa pa N' C' L' nf' sp2 rw2 sq2 rx2 G2 V2 F2 row2 rowq2 f02 g02 pf2 wn02 tu02 st02 wq2 oq2 fo2 ++ [(ao, .inl (cJ, 1, .inr (.inl ou2)))] ++ lw_M cI cZ mo m1 m2 m3 m4 m5 m6 m7 m8 (nI k) N' C' L' nu2 va2 ag2 fi2 re2 mk2 mr2 mw2) H := hP
  have hD : va_D (fy_B s) (lw_Y cI cW yd rg wr cr fw wt wl se qu wa pa N' C' L' nf' sp2 rw2 sq2 rx2 G2 V2 F2 row2 rowq2 f02 g02 pf2 wn02 tu02 st02 wq2 oq2 fo2 ++ [(ao, .inl (cJ, 1, .inr (.inl ou2)))] ++ lw_M cI cZ mo m1 m2 m3 m4 m5 m6 m7 m8 (nI k) N' C' L' nu2 va2 ag2 fi2 re2 mk2 mr2 mw2) := hD
  refine W.eq (g2 := F0 m 820 ls [.int (nI k)]) rfl ?_
  refine lv_iload hx hb d_La_law_820 (lv_at hl 1 rfl) ?_
  refine lv_icmp_eq hx hb d_La_law_822 (tgt := 827) (by decide) (fun _ => ?_) (fun h => absurd (rfl) h)
  refine lv_iload hx hb d_La_law_827 (lv_at hl 1 rfl) ?_
  by_cases hk0 : k = 0
  · refine lv_if_ne hx hb d_La_law_829 (tgt := 851) (by decide) (fun h => absurd (by rw [hk0]; rfl) h) (fun _ => ?_)
    have hz : ans = nI 0 ∨ ans = nI 1 := by rcases ho with ⟨hk9, h1, hS9⟩ | ⟨j, q, hk9, h1, h2, h3, h4, hans, hS9⟩; (exact absurd hk9 (by omega)); (rw [hans]; split <;> simp)
    rw [← hb9 hk0] at hz
    refine lv_aload_n hx hb d_La_law_832 rfl (lv_at hl 6 rfl) ?_
    refine lv_iconst (v := nI 0) hx hb d_La_law_833 (by decide) ?_
    refine fy_lald (t0 := 2) (N := 1) (k := 0) (f := ou2) (v := ou2 0) hx hb hK hP 21 rfl rfl (by omega) (by omega) rfl d_La_law_834 ?_
    refine lv_iload hx hb d_La_law_835 (lv_at hl 0 rfl) ?_
    rcases hz with hz | hz
    · refine lv_if_eq hx hb d_La_law_837 (tgt := 844) (by decide) (fun _ => ?_) (fun h => absurd (hz) h)
      refine lv_lconst (v := 0) hx hb d_La_law_844 (by decide) ?_
      refine fy_lcmp hx hb (by rw [hou hk0, ← hb9 hk0, hz]; decide) d_La_law_845 ?_
      refine lv_if_eq hx hb d_La_law_846 (tgt := 851) (by decide) (fun _ => ?_) (fun h => absurd (rfl) h)
      refine lv_goto hx hb d_La_law_851 (tgt := 1034) (by decide) ?_
      refine lv_iinc (v := nI (4 * t + 4)) hx hb d_La_law_1034 hl (k := 2) rfl (by rw [show Int32.ofInt 4 = nI 4 from by decide]; exact nI_add _ _) (by decide) rfl (fun ls hl => ?_)
      have hl : lv_has ls 7 [(4, .int (nI (4 * t + 4))), (6, .int b9), (5, .int (nI k)), (0, .ref b), (1, .ref yd), (2, .ref mo), (3, .ref ao)] := hl
      refine lv_goto hx hb d_La_law_1037 (tgt := 23) (by decide) ?_
      have hl : lv_has ls 7 [(4, .int (nI (4 * (t + 1)))), (0, .ref b), (1, .ref yd), (2, .ref mo), (3, .ref ao)] := lv_sub hl [0, 3, 4, 5, 6] rfl
      exact fy_more (c' := 31 + (t + 1)) (s' := 2151 + 6 * (t + 1)) (by omega) (by omega) (ih _ _ _ ⟨N', C', L', val', age', nf', rf', reg', wk', sp2, rw2, sq2, rx2, pl2, G2, V2, F2, row2, rowq2, f02, g02, pf2, wn02, tu02, st02, wq2, oq2, fo2, nu2, va2, ag2, fi2, re2, mk2, mr2, mw2, nI k, ou2, hI', hk2, hy2, hM2, hl, hP, hD, hS⟩)
    · refine lv_if_eq hx hb d_La_law_837 (tgt := 844) (by decide) (fun h => absurd h (by rw [hz]; decide)) (fun _ => ?_)
      refine lv_lconst (v := 1) hx hb d_La_law_840 (by decide) ?_
      refine lv_goto hx hb d_La_law_841 (tgt := 845) (by decide) ?_
      refine fy_lcmp hx hb (by rw [hou hk0, ← hb9 hk0, hz]; decide) d_La_law_845 ?_
      refine lv_if_eq hx hb d_La_law_846 (tgt := 851) (by decide) (fun _ => ?_) (fun h => absurd (rfl) h)
      refine lv_goto hx hb d_La_law_851 (tgt := 1034) (by decide) ?_
      refine lv_iinc (v := nI (4 * t + 4)) hx hb d_La_law_1034 hl (k := 2) rfl (by rw [show Int32.ofInt 4 = nI 4 from by decide]; exact nI_add _ _) (by decide) rfl (fun ls hl => ?_)
      have hl : lv_has ls 7 [(4, .int (nI (4 * t + 4))), (6, .int b9), (5, .int (nI k)), (0, .ref b), (1, .ref yd), (2, .ref mo), (3, .ref ao)] := hl
      refine lv_goto hx hb d_La_law_1037 (tgt := 23) (by decide) ?_
      have hl : lv_has ls 7 [(4, .int (nI (4 * (t + 1)))), (0, .ref b), (1, .ref yd), (2, .ref mo), (3, .ref ao)] := lv_sub hl [0, 3, 4, 5, 6] rfl
      exact fy_more (c' := 31 + (t + 1)) (s' := 2151 + 6 * (t + 1)) (by omega) (by omega) (ih _ _ _ ⟨N', C', L', val', age', nf', rf', reg', wk', sp2, rw2, sq2, rx2, pl2, G2, V2, F2, row2, rowq2, f02, g02, pf2, wn02, tu02, st02, wq2, oq2, fo2, nu2, va2, ag2, fi2, re2, mk2, mr2, mw2, nI k, ou2, hI', hk2, hy2, hM2, hl, hP, hD, hS⟩)
  · refine lv_if_ne hx hb d_La_law_829 (tgt := 851) (by decide) (fun _ => ?_) (fun h => absurd h (nI_ne0 (by omega) (by omega)))
    refine lv_goto hx hb d_La_law_851 (tgt := 1034) (by decide) ?_
    refine lv_iinc (v := nI (4 * t + 4)) hx hb d_La_law_1034 hl (k := 2) rfl (by rw [show Int32.ofInt 4 = nI 4 from by decide]; exact nI_add _ _) (by decide) rfl (fun ls hl => ?_)
    have hl : lv_has ls 7 [(4, .int (nI (4 * t + 4))), (6, .int b9), (5, .int (nI k)), (0, .ref b), (1, .ref yd), (2, .ref mo), (3, .ref ao)] := hl
    refine lv_goto hx hb d_La_law_1037 (tgt := 23) (by decide) ?_
    have hl : lv_has ls 7 [(4, .int (nI (4 * (t + 1)))), (0, .ref b), (1, .ref yd), (2, .ref mo), (3, .ref ao)] := lv_sub hl [0, 3, 4, 5, 6] rfl
    exact fy_more (c' := 31 + (t + 1)) (s' := 2151 + 6 * (t + 1)) (by omega) (by omega) (ih _ _ _ ⟨N', C', L', val', age', nf', rf', reg', wk', sp2, rw2, sq2, rx2, pl2, G2, V2, F2, row2, rowq2, f02, g02, pf2, wn02, tu02, st02, wq2, oq2, fo2, nu2, va2, ag2, fi2, re2, mk2, mr2, mw2, nI k, ou2, hI', hk2, hy2, hM2, hl, hP, hD, hS⟩)
set_option maxRecDepth 20000 in
set_option maxHeartbeats 4000000 in
theorem lb_reach {p : Program} {l : Launch} {e : Env} {s : State} {m : MethodId} {below : List Frame} {meth : Method} {c : Code} {Q : State → Prop} {D : va_G} {cI cZ cJ cW : ClassId} {b Ln : Nat} {xs : Nat → Int32} (hG : fy_G s D cI cZ cJ cW) (hX : fy_GX l s) (hN : fy_GC s) (hx : p.tables.exec = Jvm.exec) (hb : c.code = code) (hml : c.maxLocals = 7) (hown : s.vm.findClass "ForwardYardLaw" = some m.cls) (hts : ∀ w ∈ fy_T, w.before #[Value.ref b] s = true) (hXs : va_X b Ln xs s s.heap) (hbl : b < s.heap.size) (hL : Ln ≤ 2048) (yd rg wr cr fw wt wl se qu ao : Nat) (wa pa : Nat → Nat) (mo m1 m2 m3 m4 m5 m6 m7 m8 : Nat) (t : Nat) (ht : 4 * t + 4 ≤ Ln) (N : Nat) (C : Nat) (L : List Nat) (val : Nat → Int32) (age : Nat → Nat) (nf : Nat → Nat) (rf : Nat → Nat → Option Nat) (reg : Nat → Option Nat) (wk : Nat → Option Nat) (sp rw sq rx : Nat) (pl : Nat → Nat) (G V F row rowq f0 g0 : Nat → Int32) (pf : Nat → Nat → Int32) (wn0 tu0 st0 wq oq fo : Int32) (nu va ag fi re mk mr mw : Nat → Int32) (cd : Int32) (ou : Nat → Int64) (hI : fm_In t N C L age nf rf reg wk) (hk : fm_Ok L val age nf rf pl row) (hy : ya_R reg wk pl G V) (hM : fm_Mo L val age nf rf reg wk nu va ag fi re mr mw) {ls : Array Slot} {H : Heap} {locs : List Loc} (hl : lv_has ls 7 [(4, .int (nI (4 * t))), (0, .ref b), (1, .ref yd), (2, .ref mo), (3, .ref ao)]) (hP : va_P D vwCl (lw_Y cI cW yd rg wr cr fw wt wl se qu wa pa N C L nf sp rw sq rx G V F row rowq f0 g0 pf wn0 tu0 st0 wq oq fo ++ [(ao, .inl (cJ, 1, .inr (.inl ou)))] ++ lw_M cI cZ mo m1 m2 m3 m4 m5 m6 m7 m8 cd N C L nu va ag fi re mk mr mw) H) (hD : va_D (fy_B s) (lw_Y cI cW yd rg wr cr fw wt wl se qu wa pa N C L nf sp rw sq rx G V F row rowq f0 g0 pf wn0 tu0 st0 wq oq fo ++ [(ao, .inl (cJ, 1, .inr (.inl ou)))] ++ lw_M cI cZ mo m1 m2 m3 m4 m5 m6 m7 m8 cd N C L nu va ag fi re mk mr mw)) (hS : va_S (fy_B s) s.heap H locs) (ih : ∀ (ls : Array Slot) (H : Heap) (locs : List Loc), lw_Inv s D cI cZ cJ cW b yd rg wr cr fw wt wl se qu ao wa pa mo m1 m2 m3 m4 m5 m6 m7 m8 (t + 1) ls H locs → W p l e room_1 s m #[Value.ref b] below meth c H locs (31 + (t + 1)) (2151 + 6 * (t + 1)) Q (F0 m 23 ls [])) : W p l e room_1 s m #[Value.ref b] below meth c H locs (31 + t) (2151 + 6 * t) Q (F0 m 854 ls []) := by
  have hK : va_K D vwCl (fy_tys cI cZ cJ cW) s := hG.2
  have hLa := fy_La.rf s
  have hAB : ∀ q, fy_B s q → fy_B s q := fun _ h => h
  have hA : ∀ q, s.heap.size ≤ q → fy_B s q := fun _ h => h
  have ht5 : t < 512 := by omega
  obtain ⟨k, ans, N', C', L', val', age', nf', rf', reg', wk', ho, hk3, hI'⟩ := ft_reach hI ht5 (xs (4 * t + 1))
  refine lv_aload_n hx hb d_La_law_854 rfl (lv_at hl 2 rfl) ?_
  refine lv_aload_n hx hb d_La_law_855 rfl (lv_at hl 1 rfl) ?_
  refine lv_iload hx hb d_La_law_856 (lv_at hl 0 rfl) ?_
  refine lv_iconst (v := nI 1) hx hb d_La_law_858 (by decide) ?_
  refine lv_iadd hx hb d_La_law_859 ?_
  refine fy_top (z := nI ((4 * t) + 1)) (nI_add _ _) ?_
  refine fy_sld (A := fy_B s) hx hb hXs hbl (fun h => Nat.not_le_of_lt hbl h) hS hL (by omega) d_La_law_860 ?_
  refine lv_aload_n hx hb d_La_law_861 rfl (lv_at hl 4 rfl) ?_
  refine fy_callSW3 (As := [.ref yd, .int (xs ((4 * t) + 1)), .ref ao]) (rest := []) (H := H) [] (lw_M cI cZ mo m1 m2 m3 m4 m5 m6 m7 m8 cd N C L nu va ag fi re mk mr mw) ⟨hx, hb, hml, hown, hts⟩ (c_La_reach l s D cI cZ cJ cW hG hX hN yd rg wr cr fw wt wl se qu wa pa ao t N C L val age nf rf reg wk sp rw sq rx pl G V F row rowq f0 g0 pf wn0 tu0 st0 wq oq fo ou hI hk hy (xs (4 * t + 1)) k ans N' C' L' val' age' nf' rf' reg' wk' ho) List.mem_cons_self (fy_good (fy_w1 k_c_La_reach)) rfl rfl ⟨Nat.le_of_ble_eq_true rfl, Nat.le_of_ble_eq_true rfl⟩ (hts _ k_m_La_120) (hts _ k_s_La_reach) (hts _ k_ini_La) ⟨by decide, by decide, show (parseMethodDescriptor y_La_reach.desc).map (fun d => d.parameters.length) = some 3 by decide +kernel⟩ hLa hAB hA hP hD hS hl.1 rfl (Nat.le_of_ble_eq_true rfl) d_La_law_862 ⟨show _ ≤ 601024 by omega, show _ ≤ 7293034 by omega⟩ (fun r w1 H locs hp hP hD hS => ?_)
  obtain ⟨rfl, sp2, rw2, sq2, rx2, pl2, G2, V2, F2, row2, rowq2, f02, g02, pf2, wn02, tu02, st02, wq2, oq2, fo2, ou2, hou, hk2, hy2, rfl⟩ := hp
  have hP : va_P D vwCl (lw_Y cI cW yd rg wr cr fw wt wl se qu wa pa N' C' L' nf' sp2 rw2 sq2 rx2 G2 V2 F2 row2 rowq2 f02 g02 pf2 wn02 tu02 st02 wq2 oq2 fo2 ++ [(ao, .inl (cJ, 1, .inr (.inl ou2)))] ++ lw_M cI cZ mo m1 m2 m3 m4 m5 m6 m7 m8 cd N C L nu va ag fi re mk mr mw) H := hP
  have hD : va_D (fy_B s) (lw_Y cI cW yd rg wr cr fw wt wl se qu wa pa N' C' L' nf' sp2 rw2 sq2 rx2 G2 V2 F2 row2 rowq2 f02 g02 pf2 wn02 tu02 st02 wq2 oq2 fo2 ++ [(ao, .inl (cJ, 1, .inr (.inl ou2)))] ++ lw_M cI cZ mo m1 m2 m3 m4 m5 m6 m7 m8 cd N C L nu va ag fi re mk mr mw) := hD
  refine W.eq (g2 := F0 m 865 ls [.int (nI k)]) rfl ?_
  refine lv_istore hx hb d_La_law_865 hl (by decide) rfl (fun ls hl => ?_)
  have hl : lv_has ls 7 [(5, .int (nI k)), (4, .int (nI (4 * t))), (0, .ref b), (1, .ref yd), (2, .ref mo), (3, .ref ao)] := hl
  refine lv_aload_n hx hb d_La_law_867 rfl (lv_at hl 4 rfl) ?_
  refine lv_aload_n hx hb d_La_law_868 rfl (lv_at hl 2 rfl) ?_
  refine lv_iload hx hb d_La_law_869 (lv_at hl 1 rfl) ?_
  refine lv_iconst (v := nI 1) hx hb d_La_law_871 (by decide) ?_
  refine lv_iadd hx hb d_La_law_872 ?_
  refine fy_top (z := nI ((4 * t) + 1)) (nI_add _ _) ?_
  refine fy_sld (A := fy_B s) hx hb hXs hbl (fun h => Nat.not_le_of_lt hbl h) hS hL (by omega) d_La_law_873 ?_
  refine fy_callV3 (As := [.int (xs ((4 * t) + 1))]) (rest := []) (H := H) (lw_Y cI cW yd rg wr cr fw wt wl se qu wa pa N' C' L' nf' sp2 rw2 sq2 rx2 G2 V2 F2 row2 rowq2 f02 g02 pf2 wn02 tu02 st02 wq2 oq2 fo2 ++ [(ao, .inl (cJ, 1, .inr (.inl ou2)))]) [] ⟨hx, hb, hml, hown, hts⟩ (c_Mo_reach l s D cI cZ cJ cW hG mo m1 m2 m3 m4 m5 m6 m7 m8 cd t N C L val age nf rf reg wk nu va ag fi re mk mr mw hI hM (xs (4 * t + 1)) k ans N' C' L' val' age' nf' rf' reg' wk' ho) (cwV 1 hts g_La_122 rfl rfl rfl (by decide +kernel) ⟨Nat.le_of_ble_eq_true rfl, Nat.le_of_ble_eq_true rfl⟩) hK hLa hAB hA (by rw [List.append_nil]; exact hP) (by rw [List.append_nil]; exact hD) hS (ci := 5) rfl rfl (q0 := 22) rfl rfl hl.1 rfl (Nat.le_of_ble_eq_true rfl) d_La_law_874 ⟨show _ ≤ 601024 by omega, show _ ≤ 7293034 by omega⟩ (fun r w1 H locs hp hP hD hS => ?_)
  rw [List.append_nil] at hP hD
  obtain ⟨b9, nu2, va2, ag2, fi2, re2, mk2, mr2, mw2, hb9, rfl, hM2, rfl⟩ := hp
  have hP : va_P D vwCl (lw_Y cI cW yd rg wr cr fw wt wl se qu wa pa N' C' L' nf' sp2 rw2 sq2 rx2 G2 V2 F2 row2 rowq2 f02 g02 pf2 wn02 tu02 st02 wq2 oq2 fo2 ++ [(ao, .inl (cJ, 1, .inr (.inl ou2)))] ++ lw_M cI cZ mo m1 m2 m3 m4 m5 m6 m7 m8 (nI k) N' C' L' nu2 va2 ag2 fi2 re2 mk2 mr2 mw2) H := hP
  have hD : va_D (fy_B s) (lw_Y cI cW yd rg wr cr fw wt wl se qu wa pa N' C' L' nf' sp2 rw2 sq2 rx2 G2 V2 F2 row2 rowq2 f02 g02 pf2 wn02 tu02 st02 wq2 oq2 fo2 ++ [(ao, .inl (cJ, 1, .inr (.inl ou2)))] ++ lw_M cI cZ mo m1 m2 m3 m4 m5 m6 m7 m8 (nI k) N' C' L' nu2 va2 ag2 fi2 re2 mk2 mr2 mw2) := hD
  refine W.eq (g2 := F0 m 877 ls [.int b9]) rfl ?_
  refine lv_istore hx hb d_La_law_877 hl (by decide) rfl (fun ls hl => ?_)
  have hl : lv_has ls 7 [(6, .int b9), (5, .int (nI k)), (4, .int (nI (4 * t))), (0, .ref b), (1, .ref yd), (2, .ref mo), (3, .ref ao)] := hl
  refine lv_aload_n hx hb d_La_law_879 rfl (lv_at hl 5 rfl) ?_
  refine fy_callV3 (As := []) (rest := []) (H := H) (lw_Y cI cW yd rg wr cr fw wt wl se qu wa pa N' C' L' nf' sp2 rw2 sq2 rx2 G2 V2 F2 row2 rowq2 f02 g02 pf2 wn02 tu02 st02 wq2 oq2 fo2 ++ [(ao, .inl (cJ, 1, .inr (.inl ou2)))]) [] ⟨hx, hb, hml, hown, hts⟩ (c_Mo_thrownW l s D cI cZ cJ cW hG mo m1 m2 m3 m4 m5 m6 m7 m8 (nI k) N' C' L' nu2 va2 ag2 fi2 re2 mk2 mr2 mw2) (cwV 0 hts g_La_79 rfl rfl rfl (by decide +kernel) ⟨Nat.le_of_ble_eq_true rfl, Nat.le_of_ble_eq_true rfl⟩) hK hLa hAB hA (by rw [List.append_nil]; exact hP) (by rw [List.append_nil]; exact hD) hS (ci := 5) rfl rfl (q0 := 22) rfl rfl hl.1 rfl (Nat.le_of_ble_eq_true rfl) d_La_law_880 ⟨show _ ≤ 601024 by omega, show _ ≤ 7293034 by omega⟩ (fun r w1 H locs hp hP hD hS => ?_)
  rw [List.append_nil] at hP hD
  obtain ⟨rfl, rfl⟩ := hp
  have hP : va_P D vwCl (lw_Y cI cW yd rg wr cr fw wt wl se qu wa pa N' C' L' nf' sp2 rw2 sq2 rx2 G2 V2 F2 row2 rowq2 f02 g02 pf2 wn02 tu02 st02 wq2 oq2 fo2 ++ [(ao, .inl (cJ, 1, .inr (.inl ou2)))] ++ lw_M cI cZ mo m1 m2 m3 m4 m5 m6 m7 m8 (nI k) N' C' L' nu2 va2 ag2 fi2 re2 mk2 mr2 mw2) H := hP
  have hD : va_D (fy_B s) (lw_Y cI cW yd rg wr cr fw wt wl se qu wa pa N' C' L' nf' sp2 rw2 sq2 rx2 G2 V2 F2 row2 rowq2 f02 g02 pf2 wn02 tu02 st02 wq2 oq2 fo2 ++ [(ao, .inl (cJ, 1, .inr (.inl ou2)))] ++ lw_M cI cZ mo m1 m2 m3 m4 m5 m6 m7 m8 (nI k) N' C' L' nu2 va2 ag2 fi2 re2 mk2 mr2 mw2) := hD
  refine W.eq (g2 := F0 m 883 ls [.int (nI k)]) rfl ?_
  refine lv_iload hx hb d_La_law_883 (lv_at hl 1 rfl) ?_
  refine lv_icmp_eq hx hb d_La_law_885 (tgt := 890) (by decide) (fun _ => ?_) (fun h => absurd (rfl) h)
  refine lv_iload hx hb d_La_law_890 (lv_at hl 1 rfl) ?_
  by_cases hk0 : k = 0
  · refine lv_if_ne hx hb d_La_law_892 (tgt := 907) (by decide) (fun h => absurd (by rw [hk0]; rfl) h) (fun _ => ?_)
    refine lv_aload_n hx hb d_La_law_895 rfl (lv_at hl 6 rfl) ?_
    refine lv_iconst (v := nI 0) hx hb d_La_law_896 (by decide) ?_
    refine fy_lald (t0 := 2) (N := 1) (k := 0) (f := ou2) (v := ou2 0) hx hb hK hP 21 rfl rfl (by omega) (by omega) rfl d_La_law_897 ?_
    refine lv_iload hx hb d_La_law_898 (lv_at hl 0 rfl) ?_
    refine lv_i2l hx hb d_La_law_900 rfl ?_
    refine fy_lcmp hx hb (by rw [hou hk0, hb9 hk0]) d_La_law_901 ?_
    refine lv_if_eq hx hb d_La_law_902 (tgt := 907) (by decide) (fun _ => ?_) (fun h => absurd (rfl) h)
    refine lv_goto hx hb d_La_law_907 (tgt := 1034) (by decide) ?_
    refine lv_iinc (v := nI (4 * t + 4)) hx hb d_La_law_1034 hl (k := 2) rfl (by rw [show Int32.ofInt 4 = nI 4 from by decide]; exact nI_add _ _) (by decide) rfl (fun ls hl => ?_)
    have hl : lv_has ls 7 [(4, .int (nI (4 * t + 4))), (6, .int b9), (5, .int (nI k)), (0, .ref b), (1, .ref yd), (2, .ref mo), (3, .ref ao)] := hl
    refine lv_goto hx hb d_La_law_1037 (tgt := 23) (by decide) ?_
    have hl : lv_has ls 7 [(4, .int (nI (4 * (t + 1)))), (0, .ref b), (1, .ref yd), (2, .ref mo), (3, .ref ao)] := lv_sub hl [0, 3, 4, 5, 6] rfl
    exact fy_more (c' := 31 + (t + 1)) (s' := 2151 + 6 * (t + 1)) (by omega) (by omega) (ih _ _ _ ⟨N', C', L', val', age', nf', rf', reg', wk', sp2, rw2, sq2, rx2, pl2, G2, V2, F2, row2, rowq2, f02, g02, pf2, wn02, tu02, st02, wq2, oq2, fo2, nu2, va2, ag2, fi2, re2, mk2, mr2, mw2, nI k, ou2, hI', hk2, hy2, hM2, hl, hP, hD, hS⟩)
  · refine lv_if_ne hx hb d_La_law_892 (tgt := 907) (by decide) (fun _ => ?_) (fun h => absurd h (nI_ne0 (by omega) (by omega)))
    refine lv_goto hx hb d_La_law_907 (tgt := 1034) (by decide) ?_
    refine lv_iinc (v := nI (4 * t + 4)) hx hb d_La_law_1034 hl (k := 2) rfl (by rw [show Int32.ofInt 4 = nI 4 from by decide]; exact nI_add _ _) (by decide) rfl (fun ls hl => ?_)
    have hl : lv_has ls 7 [(4, .int (nI (4 * t + 4))), (6, .int b9), (5, .int (nI k)), (0, .ref b), (1, .ref yd), (2, .ref mo), (3, .ref ao)] := hl
    refine lv_goto hx hb d_La_law_1037 (tgt := 23) (by decide) ?_
    have hl : lv_has ls 7 [(4, .int (nI (4 * (t + 1)))), (0, .ref b), (1, .ref yd), (2, .ref mo), (3, .ref ao)] := lv_sub hl [0, 3, 4, 5, 6] rfl
    exact fy_more (c' := 31 + (t + 1)) (s' := 2151 + 6 * (t + 1)) (by omega) (by omega) (ih _ _ _ ⟨N', C', L', val', age', nf', rf', reg', wk', sp2, rw2, sq2, rx2, pl2, G2, V2, F2, row2, rowq2, f02, g02, pf2, wn02, tu02, st02, wq2, oq2, fo2, nu2, va2, ag2, fi2, re2, mk2, mr2, mw2, nI k, ou2, hI', hk2, hy2, hM2, hl, hP, hD, hS⟩)
set_option maxRecDepth 20000 in
set_option maxHeartbeats 4000000 in
theorem lb_collect {p : Program} {l : Launch} {e : Env} {s : State} {m : MethodId} {below : List Frame} {meth : Method} {c : Code} {Q : State → Prop} {D : va_G} {cI cZ cJ cW : ClassId} {b Ln : Nat} {xs : Nat → Int32} (hG : fy_G s D cI cZ cJ cW) (hX : fy_GX l s) (hN : fy_GC s) (hx : p.tables.exec = Jvm.exec) (hb : c.code = code) (hml : c.maxLocals = 7) (hown : s.vm.findClass "ForwardYardLaw" = some m.cls) (hts : ∀ w ∈ fy_T, w.before #[Value.ref b] s = true) (hXs : va_X b Ln xs s s.heap) (hbl : b < s.heap.size) (hL : Ln ≤ 2048) (yd rg wr cr fw wt wl se qu ao : Nat) (wa pa : Nat → Nat) (mo m1 m2 m3 m4 m5 m6 m7 m8 : Nat) (t : Nat) (ht : 4 * t + 4 ≤ Ln) (N : Nat) (C : Nat) (L : List Nat) (val : Nat → Int32) (age : Nat → Nat) (nf : Nat → Nat) (rf : Nat → Nat → Option Nat) (reg : Nat → Option Nat) (wk : Nat → Option Nat) (sp rw sq rx : Nat) (pl : Nat → Nat) (G V F row rowq f0 g0 : Nat → Int32) (pf : Nat → Nat → Int32) (wn0 tu0 st0 wq oq fo : Int32) (nu va ag fi re mk mr mw : Nat → Int32) (cd : Int32) (ou : Nat → Int64) (hI : fm_In t N C L age nf rf reg wk) (hk : fm_Ok L val age nf rf pl row) (hy : ya_R reg wk pl G V) (hM : fm_Mo L val age nf rf reg wk nu va ag fi re mr mw) {ls : Array Slot} {H : Heap} {locs : List Loc} (hl : lv_has ls 7 [(4, .int (nI (4 * t))), (0, .ref b), (1, .ref yd), (2, .ref mo), (3, .ref ao)]) (hP : va_P D vwCl (lw_Y cI cW yd rg wr cr fw wt wl se qu wa pa N C L nf sp rw sq rx G V F row rowq f0 g0 pf wn0 tu0 st0 wq oq fo ++ [(ao, .inl (cJ, 1, .inr (.inl ou)))] ++ lw_M cI cZ mo m1 m2 m3 m4 m5 m6 m7 m8 cd N C L nu va ag fi re mk mr mw) H) (hD : va_D (fy_B s) (lw_Y cI cW yd rg wr cr fw wt wl se qu wa pa N C L nf sp rw sq rx G V F row rowq f0 g0 pf wn0 tu0 st0 wq oq fo ++ [(ao, .inl (cJ, 1, .inr (.inl ou)))] ++ lw_M cI cZ mo m1 m2 m3 m4 m5 m6 m7 m8 cd N C L nu va ag fi re mk mr mw)) (hS : va_S (fy_B s) s.heap H locs) (ih : ∀ (ls : Array Slot) (H : Heap) (locs : List Loc), lw_Inv s D cI cZ cJ cW b yd rg wr cr fw wt wl se qu ao wa pa mo m1 m2 m3 m4 m5 m6 m7 m8 (t + 1) ls H locs → W p l e room_1 s m #[Value.ref b] below meth c H locs (31 + (t + 1)) (2151 + 6 * (t + 1)) Q (F0 m 23 ls [])) : W p l e room_1 s m #[Value.ref b] below meth c H locs (31 + t) (2151 + 6 * t) Q (F0 m 910 ls []) := by
  have hK : va_K D vwCl (fy_tys cI cZ cJ cW) s := hG.2
  have hLa := fy_La.rf s
  have hAB : ∀ q, fy_B s q → fy_B s q := fun _ h => h
  have hA : ∀ q, s.heap.size ≤ q → fy_B s q := fun _ h => h
  have ht5 : t < 512 := by omega
  obtain ⟨k, ans, N', C', L', val', age', nf', rf', reg', wk', ho, hk3, hI'⟩ := ft_collect hI ht5 (xs (4 * t + 1)) (xs (4 * t + 2))
  refine lv_aload_n hx hb d_La_law_910 rfl (lv_at hl 2 rfl) ?_
  refine lv_aload_n hx hb d_La_law_911 rfl (lv_at hl 1 rfl) ?_
  refine lv_iload hx hb d_La_law_912 (lv_at hl 0 rfl) ?_
  refine lv_iconst (v := nI 1) hx hb d_La_law_914 (by decide) ?_
  refine lv_iadd hx hb d_La_law_915 ?_
  refine fy_top (z := nI ((4 * t) + 1)) (nI_add _ _) ?_
  refine fy_sld (A := fy_B s) hx hb hXs hbl (fun h => Nat.not_le_of_lt hbl h) hS hL (by omega) d_La_law_916 ?_
  refine lv_aload_n hx hb d_La_law_917 rfl (lv_at hl 1 rfl) ?_
  refine lv_iload hx hb d_La_law_918 (lv_at hl 0 rfl) ?_
  refine lv_iconst (v := nI 2) hx hb d_La_law_920 (by decide) ?_
  refine lv_iadd hx hb d_La_law_921 ?_
  refine fy_top (z := nI ((4 * t) + 2)) (nI_add _ _) ?_
  refine fy_sld (A := fy_B s) hx hb hXs hbl (fun h => Nat.not_le_of_lt hbl h) hS hL (by omega) d_La_law_922 ?_
  refine lv_aload_n hx hb d_La_law_923 rfl (lv_at hl 4 rfl) ?_
  refine fy_callSW3 (As := [.ref yd, .int (xs ((4 * t) + 1)), .int (xs ((4 * t) + 2)), .ref ao]) (rest := []) (H := H) [] (lw_M cI cZ mo m1 m2 m3 m4 m5 m6 m7 m8 cd N C L nu va ag fi re mk mr mw) ⟨hx, hb, hml, hown, hts⟩ (c_La_collect l s D cI cZ cJ cW hG hX hN yd rg wr cr fw wt wl se qu wa pa ao t N C L val age nf rf reg wk sp rw sq rx pl G V F row rowq f0 g0 pf wn0 tu0 st0 wq oq fo ou hI hk hy (xs (4 * t + 1)) (xs (4 * t + 2)) k ans N' C' L' val' age' nf' rf' reg' wk' ho) List.mem_cons_self (fy_good (fy_w1 k_c_La_collect)) rfl rfl ⟨Nat.le_of_ble_eq_true rfl, Nat.le_of_ble_eq_true rfl⟩ (hts _ k_m_La_123) (hts _ k_s_La_collect) (hts _ k_ini_La) ⟨by decide, by decide, show (parseMethodDescriptor y_La_collect.desc).map (fun d => d.parameters.length) = some 4 by decide +kernel⟩ hLa hAB hA hP hD hS hl.1 rfl (Nat.le_of_ble_eq_true rfl) d_La_law_924 ⟨show _ ≤ 601024 by omega, show _ ≤ 7293034 by omega⟩ (fun r w1 H locs hp hP hD hS => ?_)
  obtain ⟨rfl, sp2, rw2, sq2, rx2, pl2, G2, V2, F2, row2, rowq2, f02, g02, pf2, wn02, tu02, st02, wq2, oq2, fo2, ou2, hou, hk2, hy2, rfl⟩ := hp
  have hP : va_P D vwCl (lw_Y cI cW yd rg wr cr fw wt wl se qu wa pa N' C' L' nf' sp2 rw2 sq2 rx2 G2 V2 F2 row2 rowq2 f02 g02 pf2 wn02 tu02 st02 wq2 oq2 fo2 ++ [(ao, .inl (cJ, 1, .inr (.inl ou2)))] ++ lw_M cI cZ mo m1 m2 m3 m4 m5 m6 m7 m8 cd N C L nu va ag fi re mk mr mw) H := hP
  have hD : va_D (fy_B s) (lw_Y cI cW yd rg wr cr fw wt wl se qu wa pa N' C' L' nf' sp2 rw2 sq2 rx2 G2 V2 F2 row2 rowq2 f02 g02 pf2 wn02 tu02 st02 wq2 oq2 fo2 ++ [(ao, .inl (cJ, 1, .inr (.inl ou2)))] ++ lw_M cI cZ mo m1 m2 m3 m4 m5 m6 m7 m8 cd N C L nu va ag fi re mk mr mw) := hD
  refine W.eq (g2 := F0 m 927 ls [.int (nI k)]) rfl ?_
  refine lv_istore hx hb d_La_law_927 hl (by decide) rfl (fun ls hl => ?_)
  have hl : lv_has ls 7 [(5, .int (nI k)), (4, .int (nI (4 * t))), (0, .ref b), (1, .ref yd), (2, .ref mo), (3, .ref ao)] := hl
  refine lv_aload_n hx hb d_La_law_929 rfl (lv_at hl 4 rfl) ?_
  refine lv_aload_n hx hb d_La_law_930 rfl (lv_at hl 2 rfl) ?_
  refine lv_iload hx hb d_La_law_931 (lv_at hl 1 rfl) ?_
  refine lv_iconst (v := nI 1) hx hb d_La_law_933 (by decide) ?_
  refine lv_iadd hx hb d_La_law_934 ?_
  refine fy_top (z := nI ((4 * t) + 1)) (nI_add _ _) ?_
  refine fy_sld (A := fy_B s) hx hb hXs hbl (fun h => Nat.not_le_of_lt hbl h) hS hL (by omega) d_La_law_935 ?_
  refine lv_aload_n hx hb d_La_law_936 rfl (lv_at hl 2 rfl) ?_
  refine lv_iload hx hb d_La_law_937 (lv_at hl 1 rfl) ?_
  refine lv_iconst (v := nI 2) hx hb d_La_law_939 (by decide) ?_
  refine lv_iadd hx hb d_La_law_940 ?_
  refine fy_top (z := nI ((4 * t) + 2)) (nI_add _ _) ?_
  refine fy_sld (A := fy_B s) hx hb hXs hbl (fun h => Nat.not_le_of_lt hbl h) hS hL (by omega) d_La_law_941 ?_
  refine fy_callV3 (As := [.int (xs ((4 * t) + 1)), .int (xs ((4 * t) + 2))]) (rest := []) (H := H) (lw_Y cI cW yd rg wr cr fw wt wl se qu wa pa N' C' L' nf' sp2 rw2 sq2 rx2 G2 V2 F2 row2 rowq2 f02 g02 pf2 wn02 tu02 st02 wq2 oq2 fo2 ++ [(ao, .inl (cJ, 1, .inr (.inl ou2)))]) [] ⟨hx, hb, hml, hown, hts⟩ (c_Mo_collect l s D cI cZ cJ cW hG mo m1 m2 m3 m4 m5 m6 m7 m8 cd t N C L val age nf rf reg wk nu va ag fi re mk mr mw hI hM (xs (4 * t + 1)) (xs (4 * t + 2)) k ans N' C' L' val' age' nf' rf' reg' wk' ho) (cwV 2 hts g_La_125 rfl rfl rfl (by decide +kernel) ⟨Nat.le_of_ble_eq_true rfl, Nat.le_of_ble_eq_true rfl⟩) hK hLa hAB hA (by rw [List.append_nil]; exact hP) (by rw [List.append_nil]; exact hD) hS (ci := 5) rfl rfl (q0 := 22) rfl rfl hl.1 rfl (Nat.le_of_ble_eq_true rfl) d_La_law_942 ⟨show _ ≤ 601024 by omega, show _ ≤ 7293034 by omega⟩ (fun r w1 H locs hp hP hD hS => ?_)
  rw [List.append_nil] at hP hD
  obtain ⟨b9, nu2, va2, ag2, fi2, re2, mk2, mr2, mw2, hb9, rfl, hM2, rfl⟩ := hp
  have hP : va_P D vwCl (lw_Y cI cW yd rg wr cr fw wt wl se qu wa pa N' C' L' nf' sp2 rw2 sq2 rx2 G2 V2 F2 row2 rowq2 f02 g02 pf2 wn02 tu02 st02 wq2 oq2 fo2 ++ [(ao, .inl (cJ, 1, .inr (.inl ou2)))] ++ lw_M cI cZ mo m1 m2 m3 m4 m5 m6 m7 m8 (nI k) N' C' L' nu2 va2 ag2 fi2 re2 mk2 mr2 mw2) H := hP
  have hD : va_D (fy_B s) (lw_Y cI cW yd rg wr cr fw wt wl se qu wa pa N' C' L' nf' sp2 rw2 sq2 rx2 G2 V2 F2 row2 rowq2 f02 g02 pf2 wn02 tu02 st02 wq2 oq2 fo2 ++ [(ao, .inl (cJ, 1, .inr (.inl ou2)))] ++ lw_M cI cZ mo m1 m2 m3 m4 m5 m6 m7 m8 (nI k) N' C' L' nu2 va2 ag2 fi2 re2 mk2 mr2 mw2) := hD
  refine W.eq (g2 := F0 m 945 ls [.int b9]) rfl ?_
  refine lv_istore hx hb d_La_law_945 hl (by decide) rfl (fun ls hl => ?_)
  have hl : lv_has ls 7 [(6, .int b9), (5, .int (nI k)), (4, .int (nI (4 * t))), (0, .ref b), (1, .ref yd), (2, .ref mo), (3, .ref ao)] := hl
  refine lv_aload_n hx hb d_La_law_947 rfl (lv_at hl 5 rfl) ?_
  refine fy_callV3 (As := []) (rest := []) (H := H) (lw_Y cI cW yd rg wr cr fw wt wl se qu wa pa N' C' L' nf' sp2 rw2 sq2 rx2 G2 V2 F2 row2 rowq2 f02 g02 pf2 wn02 tu02 st02 wq2 oq2 fo2 ++ [(ao, .inl (cJ, 1, .inr (.inl ou2)))]) [] ⟨hx, hb, hml, hown, hts⟩ (c_Mo_thrownW l s D cI cZ cJ cW hG mo m1 m2 m3 m4 m5 m6 m7 m8 (nI k) N' C' L' nu2 va2 ag2 fi2 re2 mk2 mr2 mw2) (cwV 0 hts g_La_79 rfl rfl rfl (by decide +kernel) ⟨Nat.le_of_ble_eq_true rfl, Nat.le_of_ble_eq_true rfl⟩) hK hLa hAB hA (by rw [List.append_nil]; exact hP) (by rw [List.append_nil]; exact hD) hS (ci := 5) rfl rfl (q0 := 22) rfl rfl hl.1 rfl (Nat.le_of_ble_eq_true rfl) d_La_law_948 ⟨show _ ≤ 601024 by omega, show _ ≤ 7293034 by omega⟩ (fun r w1 H locs hp hP hD hS => ?_)
  rw [List.append_nil] at hP hD
  obtain ⟨rfl, rfl⟩ := hp
  have hP : va_P D vwCl (lw_Y cI cW yd rg wr cr fw wt wl se qu wa pa N' C' L' nf' sp2 rw2 sq2 rx2 G2 V2 F2 row2 rowq2 f02 g02 pf2 wn02 tu02 st02 wq2 oq2 fo2 ++ [(ao, .inl (cJ, 1, .inr (.inl ou2)))] ++ lw_M cI cZ mo m1 m2 m3 m4 m5 m6 m7 m8 (nI k) N' C' L' nu2 va2 ag2 fi2 re2 mk2 mr2 mw2) H := hP
  have hD : va_D (fy_B s) (lw_Y cI cW yd rg wr cr fw wt wl se qu wa pa N' C' L' nf' sp2 rw2 sq2 rx2 G2 V2 F2 row2 rowq2 f02 g02 pf2 wn02 tu02 st02 wq2 oq2 fo2 ++ [(ao, .inl (cJ, 1, .inr (.inl ou2)))] ++ lw_M cI cZ mo m1 m2 m3 m4 m5 m6 m7 m8 (nI k) N' C' L' nu2 va2 ag2 fi2 re2 mk2 mr2 mw2) := hD
  refine W.eq (g2 := F0 m 951 ls [.int (nI k)]) rfl ?_
  refine lv_iload hx hb d_La_law_951 (lv_at hl 1 rfl) ?_
  refine lv_icmp_eq hx hb d_La_law_953 (tgt := 958) (by decide) (fun _ => ?_) (fun h => absurd (rfl) h)
  refine lv_iload hx hb d_La_law_958 (lv_at hl 1 rfl) ?_
  by_cases hk0 : k = 0
  · refine lv_if_ne hx hb d_La_law_960 (tgt := 975) (by decide) (fun h => absurd (by rw [hk0]; rfl) h) (fun _ => ?_)
    refine lv_aload_n hx hb d_La_law_963 rfl (lv_at hl 6 rfl) ?_
    refine lv_iconst (v := nI 0) hx hb d_La_law_964 (by decide) ?_
    refine fy_lald (t0 := 2) (N := 1) (k := 0) (f := ou2) (v := ou2 0) hx hb hK hP 21 rfl rfl (by omega) (by omega) rfl d_La_law_965 ?_
    refine lv_iload hx hb d_La_law_966 (lv_at hl 0 rfl) ?_
    refine lv_i2l hx hb d_La_law_968 rfl ?_
    refine fy_lcmp hx hb (by rw [hou hk0, hb9 hk0]) d_La_law_969 ?_
    refine lv_if_eq hx hb d_La_law_970 (tgt := 975) (by decide) (fun _ => ?_) (fun h => absurd (rfl) h)
    refine lv_goto hx hb d_La_law_975 (tgt := 1034) (by decide) ?_
    refine lv_iinc (v := nI (4 * t + 4)) hx hb d_La_law_1034 hl (k := 2) rfl (by rw [show Int32.ofInt 4 = nI 4 from by decide]; exact nI_add _ _) (by decide) rfl (fun ls hl => ?_)
    have hl : lv_has ls 7 [(4, .int (nI (4 * t + 4))), (6, .int b9), (5, .int (nI k)), (0, .ref b), (1, .ref yd), (2, .ref mo), (3, .ref ao)] := hl
    refine lv_goto hx hb d_La_law_1037 (tgt := 23) (by decide) ?_
    have hl : lv_has ls 7 [(4, .int (nI (4 * (t + 1)))), (0, .ref b), (1, .ref yd), (2, .ref mo), (3, .ref ao)] := lv_sub hl [0, 3, 4, 5, 6] rfl
    exact fy_more (c' := 31 + (t + 1)) (s' := 2151 + 6 * (t + 1)) (by omega) (by omega) (ih _ _ _ ⟨N', C', L', val', age', nf', rf', reg', wk', sp2, rw2, sq2, rx2, pl2, G2, V2, F2, row2, rowq2, f02, g02, pf2, wn02, tu02, st02, wq2, oq2, fo2, nu2, va2, ag2, fi2, re2, mk2, mr2, mw2, nI k, ou2, hI', hk2, hy2, hM2, hl, hP, hD, hS⟩)
  · refine lv_if_ne hx hb d_La_law_960 (tgt := 975) (by decide) (fun _ => ?_) (fun h => absurd h (nI_ne0 (by omega) (by omega)))
    refine lv_goto hx hb d_La_law_975 (tgt := 1034) (by decide) ?_
    refine lv_iinc (v := nI (4 * t + 4)) hx hb d_La_law_1034 hl (k := 2) rfl (by rw [show Int32.ofInt 4 = nI 4 from by decide]; exact nI_add _ _) (by decide) rfl (fun ls hl => ?_)
    have hl : lv_has ls 7 [(4, .int (nI (4 * t + 4))), (6, .int b9), (5, .int (nI k)), (0, .ref b), (1, .ref yd), (2, .ref mo), (3, .ref ao)] := hl
    refine lv_goto hx hb d_La_law_1037 (tgt := 23) (by decide) ?_
    have hl : lv_has ls 7 [(4, .int (nI (4 * (t + 1)))), (0, .ref b), (1, .ref yd), (2, .ref mo), (3, .ref ao)] := lv_sub hl [0, 3, 4, 5, 6] rfl
    exact fy_more (c' := 31 + (t + 1)) (s' := 2151 + 6 * (t + 1)) (by omega) (by omega) (ih _ _ _ ⟨N', C', L', val', age', nf', rf', reg', wk', sp2, rw2, sq2, rx2, pl2, G2, V2, F2, row2, rowq2, f02, g02, pf2, wn02, tu02, st02, wq2, oq2, fo2, nu2, va2, ag2, fi2, re2, mk2, mr2, mw2, nI k, ou2, hI', hk2, hy2, hM2, hl, hP, hD, hS⟩)
set_option maxRecDepth 20000 in
set_option maxHeartbeats 4000000 in
theorem lb_figure {p : Program} {l : Launch} {e : Env} {s : State} {m : MethodId} {below : List Frame} {meth : Method} {c : Code} {Q : State → Prop} {D : va_G} {cI cZ cJ cW : ClassId} {b Ln : Nat} {xs : Nat → Int32} (hG : fy_G s D cI cZ cJ cW) (hX : fy_GX l s) (hN : fy_GC s) (hx : p.tables.exec = Jvm.exec) (hb : c.code = code) (hml : c.maxLocals = 7) (hown : s.vm.findClass "ForwardYardLaw" = some m.cls) (hts : ∀ w ∈ fy_T, w.before #[Value.ref b] s = true) (hXs : va_X b Ln xs s s.heap) (hbl : b < s.heap.size) (hL : Ln ≤ 2048) (yd rg wr cr fw wt wl se qu ao : Nat) (wa pa : Nat → Nat) (mo m1 m2 m3 m4 m5 m6 m7 m8 : Nat) (t : Nat) (ht : 4 * t + 4 ≤ Ln) (N : Nat) (C : Nat) (L : List Nat) (val : Nat → Int32) (age : Nat → Nat) (nf : Nat → Nat) (rf : Nat → Nat → Option Nat) (reg : Nat → Option Nat) (wk : Nat → Option Nat) (sp rw sq rx : Nat) (pl : Nat → Nat) (G V F row rowq f0 g0 : Nat → Int32) (pf : Nat → Nat → Int32) (wn0 tu0 st0 wq oq fo : Int32) (nu va ag fi re mk mr mw : Nat → Int32) (cd : Int32) (ou : Nat → Int64) (hI : fm_In t N C L age nf rf reg wk) (hk : fm_Ok L val age nf rf pl row) (hy : ya_R reg wk pl G V) (hM : fm_Mo L val age nf rf reg wk nu va ag fi re mr mw) {ls : Array Slot} {H : Heap} {locs : List Loc} (hl : lv_has ls 7 [(4, .int (nI (4 * t))), (0, .ref b), (1, .ref yd), (2, .ref mo), (3, .ref ao)]) (hP : va_P D vwCl (lw_Y cI cW yd rg wr cr fw wt wl se qu wa pa N C L nf sp rw sq rx G V F row rowq f0 g0 pf wn0 tu0 st0 wq oq fo ++ [(ao, .inl (cJ, 1, .inr (.inl ou)))] ++ lw_M cI cZ mo m1 m2 m3 m4 m5 m6 m7 m8 cd N C L nu va ag fi re mk mr mw) H) (hD : va_D (fy_B s) (lw_Y cI cW yd rg wr cr fw wt wl se qu wa pa N C L nf sp rw sq rx G V F row rowq f0 g0 pf wn0 tu0 st0 wq oq fo ++ [(ao, .inl (cJ, 1, .inr (.inl ou)))] ++ lw_M cI cZ mo m1 m2 m3 m4 m5 m6 m7 m8 cd N C L nu va ag fi re mk mr mw)) (hS : va_S (fy_B s) s.heap H locs) (ih : ∀ (ls : Array Slot) (H : Heap) (locs : List Loc), lw_Inv s D cI cZ cJ cW b yd rg wr cr fw wt wl se qu ao wa pa mo m1 m2 m3 m4 m5 m6 m7 m8 (t + 1) ls H locs → W p l e room_1 s m #[Value.ref b] below meth c H locs (31 + (t + 1)) (2151 + 6 * (t + 1)) Q (F0 m 23 ls [])) : W p l e room_1 s m #[Value.ref b] below meth c H locs (31 + t) (2151 + 6 * t) Q (F0 m 978 ls []) := by
  have hK : va_K D vwCl (fy_tys cI cZ cJ cW) s := hG.2
  have hLa := fy_La.rf s
  have hAB : ∀ q, fy_B s q → fy_B s q := fun _ h => h
  have hA : ∀ q, s.heap.size ≤ q → fy_B s q := fun _ h => h
  have ht5 : t < 512 := by omega
  obtain ⟨k, ans, N', C', L', val', age', nf', rf', reg', wk', ho, hk3, hI'⟩ := ft_figure hI ht5 (xs (4 * t + 1))
  refine lv_aload_n hx hb d_La_law_978 rfl (lv_at hl 2 rfl) ?_
  refine lv_aload_n hx hb d_La_law_979 rfl (lv_at hl 1 rfl) ?_
  refine lv_iload hx hb d_La_law_980 (lv_at hl 0 rfl) ?_
  refine lv_iconst (v := nI 1) hx hb d_La_law_982 (by decide) ?_
  refine lv_iadd hx hb d_La_law_983 ?_
  refine fy_top (z := nI ((4 * t) + 1)) (nI_add _ _) ?_
  refine fy_sld (A := fy_B s) hx hb hXs hbl (fun h => Nat.not_le_of_lt hbl h) hS hL (by omega) d_La_law_984 ?_
  refine lv_aload_n hx hb d_La_law_985 rfl (lv_at hl 4 rfl) ?_
  refine fy_callSW3 (As := [.ref yd, .int (xs ((4 * t) + 1)), .ref ao]) (rest := []) (H := H) [] (lw_M cI cZ mo m1 m2 m3 m4 m5 m6 m7 m8 cd N C L nu va ag fi re mk mr mw) ⟨hx, hb, hml, hown, hts⟩ (c_La_figure l s D cI cZ cJ cW hG hX hN yd rg wr cr fw wt wl se qu wa pa ao t N C L val age nf rf reg wk sp rw sq rx pl G V F row rowq f0 g0 pf wn0 tu0 st0 wq oq fo ou hI hk hy (xs (4 * t + 1)) k ans N' C' L' val' age' nf' rf' reg' wk' ho) List.mem_cons_self (fy_good (fy_w1 k_c_La_figure)) rfl rfl ⟨Nat.le_of_ble_eq_true rfl, Nat.le_of_ble_eq_true rfl⟩ (hts _ k_m_La_126) (hts _ k_s_La_figure) (hts _ k_ini_La) ⟨by decide, by decide, show (parseMethodDescriptor y_La_figure.desc).map (fun d => d.parameters.length) = some 3 by decide +kernel⟩ hLa hAB hA hP hD hS hl.1 rfl (Nat.le_of_ble_eq_true rfl) d_La_law_986 ⟨show _ ≤ 601024 by omega, show _ ≤ 7293034 by omega⟩ (fun r w1 H locs hp hP hD hS => ?_)
  obtain ⟨rfl, sp2, rw2, sq2, rx2, pl2, G2, V2, F2, row2, rowq2, f02, g02, pf2, wn02, tu02, st02, wq2, oq2, fo2, ou2, hou, hk2, hy2, rfl⟩ := hp
  have hP : va_P D vwCl (lw_Y cI cW yd rg wr cr fw wt wl se qu wa pa N' C' L' nf' sp2 rw2 sq2 rx2 G2 V2 F2 row2 rowq2 f02 g02 pf2 wn02 tu02 st02 wq2 oq2 fo2 ++ [(ao, .inl (cJ, 1, .inr (.inl ou2)))] ++ lw_M cI cZ mo m1 m2 m3 m4 m5 m6 m7 m8 cd N C L nu va ag fi re mk mr mw) H := hP
  have hD : va_D (fy_B s) (lw_Y cI cW yd rg wr cr fw wt wl se qu wa pa N' C' L' nf' sp2 rw2 sq2 rx2 G2 V2 F2 row2 rowq2 f02 g02 pf2 wn02 tu02 st02 wq2 oq2 fo2 ++ [(ao, .inl (cJ, 1, .inr (.inl ou2)))] ++ lw_M cI cZ mo m1 m2 m3 m4 m5 m6 m7 m8 cd N C L nu va ag fi re mk mr mw) := hD
  refine W.eq (g2 := F0 m 989 ls [.int (nI k)]) rfl ?_
  refine lv_istore hx hb d_La_law_989 hl (by decide) rfl (fun ls hl => ?_)
  have hl : lv_has ls 7 [(5, .int (nI k)), (4, .int (nI (4 * t))), (0, .ref b), (1, .ref yd), (2, .ref mo), (3, .ref ao)] := hl
  refine lv_aload_n hx hb d_La_law_991 rfl (lv_at hl 4 rfl) ?_
  refine lv_aload_n hx hb d_La_law_992 rfl (lv_at hl 2 rfl) ?_
  refine lv_iload hx hb d_La_law_993 (lv_at hl 1 rfl) ?_
  refine lv_iconst (v := nI 1) hx hb d_La_law_995 (by decide) ?_
  refine lv_iadd hx hb d_La_law_996 ?_
  refine fy_top (z := nI ((4 * t) + 1)) (nI_add _ _) ?_
  refine fy_sld (A := fy_B s) hx hb hXs hbl (fun h => Nat.not_le_of_lt hbl h) hS hL (by omega) d_La_law_997 ?_
  refine fy_callV3 (As := [.int (xs ((4 * t) + 1))]) (rest := []) (H := H) (lw_Y cI cW yd rg wr cr fw wt wl se qu wa pa N' C' L' nf' sp2 rw2 sq2 rx2 G2 V2 F2 row2 rowq2 f02 g02 pf2 wn02 tu02 st02 wq2 oq2 fo2 ++ [(ao, .inl (cJ, 1, .inr (.inl ou2)))]) [] ⟨hx, hb, hml, hown, hts⟩ (c_Mo_figure l s D cI cZ cJ cW hG mo m1 m2 m3 m4 m5 m6 m7 m8 cd t N C L val age nf rf reg wk nu va ag fi re mk mr mw hI hM (xs (4 * t + 1)) k ans N' C' L' val' age' nf' rf' reg' wk' ho) (cwV 1 hts g_La_128 rfl rfl rfl (by decide +kernel) ⟨Nat.le_of_ble_eq_true rfl, Nat.le_of_ble_eq_true rfl⟩) hK hLa hAB hA (by rw [List.append_nil]; exact hP) (by rw [List.append_nil]; exact hD) hS (ci := 5) rfl rfl (q0 := 22) rfl rfl hl.1 rfl (Nat.le_of_ble_eq_true rfl) d_La_law_998 ⟨show _ ≤ 601024 by omega, show _ ≤ 7293034 by omega⟩ (fun r w1 H locs hp hP hD hS => ?_)
  rw [List.append_nil] at hP hD
  obtain ⟨b9, nu2, va2, ag2, fi2, re2, mk2, mr2, mw2, hb9, rfl, hM2, rfl⟩ := hp
  have hP : va_P D vwCl (lw_Y cI cW yd rg wr cr fw wt wl se qu wa pa N' C' L' nf' sp2 rw2 sq2 rx2 G2 V2 F2 row2 rowq2 f02 g02 pf2 wn02 tu02 st02 wq2 oq2 fo2 ++ [(ao, .inl (cJ, 1, .inr (.inl ou2)))] ++ lw_M cI cZ mo m1 m2 m3 m4 m5 m6 m7 m8 (nI k) N' C' L' nu2 va2 ag2 fi2 re2 mk2 mr2 mw2) H := hP
  have hD : va_D (fy_B s) (lw_Y cI cW yd rg wr cr fw wt wl se qu wa pa N' C' L' nf' sp2 rw2 sq2 rx2 G2 V2 F2 row2 rowq2 f02 g02 pf2 wn02 tu02 st02 wq2 oq2 fo2 ++ [(ao, .inl (cJ, 1, .inr (.inl ou2)))] ++ lw_M cI cZ mo m1 m2 m3 m4 m5 m6 m7 m8 (nI k) N' C' L' nu2 va2 ag2 fi2 re2 mk2 mr2 mw2) := hD
  refine W.eq (g2 := F0 m 1001 ls [.int b9]) rfl ?_
  refine lv_istore hx hb d_La_law_1001 hl (by decide) rfl (fun ls hl => ?_)
  have hl : lv_has ls 7 [(6, .int b9), (5, .int (nI k)), (4, .int (nI (4 * t))), (0, .ref b), (1, .ref yd), (2, .ref mo), (3, .ref ao)] := hl
  refine lv_aload_n hx hb d_La_law_1003 rfl (lv_at hl 5 rfl) ?_
  refine fy_callV3 (As := []) (rest := []) (H := H) (lw_Y cI cW yd rg wr cr fw wt wl se qu wa pa N' C' L' nf' sp2 rw2 sq2 rx2 G2 V2 F2 row2 rowq2 f02 g02 pf2 wn02 tu02 st02 wq2 oq2 fo2 ++ [(ao, .inl (cJ, 1, .inr (.inl ou2)))]) [] ⟨hx, hb, hml, hown, hts⟩ (c_Mo_thrownW l s D cI cZ cJ cW hG mo m1 m2 m3 m4 m5 m6 m7 m8 (nI k) N' C' L' nu2 va2 ag2 fi2 re2 mk2 mr2 mw2) (cwV 0 hts g_La_79 rfl rfl rfl (by decide +kernel) ⟨Nat.le_of_ble_eq_true rfl, Nat.le_of_ble_eq_true rfl⟩) hK hLa hAB hA (by rw [List.append_nil]; exact hP) (by rw [List.append_nil]; exact hD) hS (ci := 5) rfl rfl (q0 := 22) rfl rfl hl.1 rfl (Nat.le_of_ble_eq_true rfl) d_La_law_1004 ⟨show _ ≤ 601024 by omega, show _ ≤ 7293034 by omega⟩ (fun r w1 H locs hp hP hD hS => ?_)
  rw [List.append_nil] at hP hD
  obtain ⟨rfl, rfl⟩ := hp
  have hP : va_P D vwCl (lw_Y cI cW yd rg wr cr fw wt wl se qu wa pa N' C' L' nf' sp2 rw2 sq2 rx2 G2 V2 F2 row2 rowq2 f02 g02 pf2 wn02 tu02 st02 wq2 oq2 fo2 ++ [(ao, .inl (cJ, 1, .inr (.inl ou2)))] ++ lw_M cI cZ mo m1 m2 m3 m4 m5 m6 m7 m8 (nI k) N' C' L' nu2 va2 ag2 fi2 re2 mk2 mr2 mw2) H := hP
  have hD : va_D (fy_B s) (lw_Y cI cW yd rg wr cr fw wt wl se qu wa pa N' C' L' nf' sp2 rw2 sq2 rx2 G2 V2 F2 row2 rowq2 f02 g02 pf2 wn02 tu02 st02 wq2 oq2 fo2 ++ [(ao, .inl (cJ, 1, .inr (.inl ou2)))] ++ lw_M cI cZ mo m1 m2 m3 m4 m5 m6 m7 m8 (nI k) N' C' L' nu2 va2 ag2 fi2 re2 mk2 mr2 mw2) := hD
  refine W.eq (g2 := F0 m 1007 ls [.int (nI k)]) rfl ?_
  refine lv_iload hx hb d_La_law_1007 (lv_at hl 1 rfl) ?_
  refine lv_icmp_eq hx hb d_La_law_1009 (tgt := 1014) (by decide) (fun _ => ?_) (fun h => absurd (rfl) h)
  refine lv_iload hx hb d_La_law_1014 (lv_at hl 1 rfl) ?_
  by_cases hk0 : k = 0
  · refine lv_if_ne hx hb d_La_law_1016 (tgt := 1031) (by decide) (fun h => absurd (by rw [hk0]; rfl) h) (fun _ => ?_)
    refine lv_aload_n hx hb d_La_law_1019 rfl (lv_at hl 6 rfl) ?_
    refine lv_iconst (v := nI 0) hx hb d_La_law_1020 (by decide) ?_
    refine fy_lald (t0 := 2) (N := 1) (k := 0) (f := ou2) (v := ou2 0) hx hb hK hP 21 rfl rfl (by omega) (by omega) rfl d_La_law_1021 ?_
    refine lv_iload hx hb d_La_law_1022 (lv_at hl 0 rfl) ?_
    refine lv_i2l hx hb d_La_law_1024 rfl ?_
    refine fy_lcmp hx hb (by rw [hou hk0, hb9 hk0]) d_La_law_1025 ?_
    refine lv_if_eq hx hb d_La_law_1026 (tgt := 1031) (by decide) (fun _ => ?_) (fun h => absurd (rfl) h)
    refine lv_goto hx hb d_La_law_1031 (tgt := 1034) (by decide) ?_
    refine lv_iinc (v := nI (4 * t + 4)) hx hb d_La_law_1034 hl (k := 2) rfl (by rw [show Int32.ofInt 4 = nI 4 from by decide]; exact nI_add _ _) (by decide) rfl (fun ls hl => ?_)
    have hl : lv_has ls 7 [(4, .int (nI (4 * t + 4))), (6, .int b9), (5, .int (nI k)), (0, .ref b), (1, .ref yd), (2, .ref mo), (3, .ref ao)] := hl
    refine lv_goto hx hb d_La_law_1037 (tgt := 23) (by decide) ?_
    have hl : lv_has ls 7 [(4, .int (nI (4 * (t + 1)))), (0, .ref b), (1, .ref yd), (2, .ref mo), (3, .ref ao)] := lv_sub hl [0, 3, 4, 5, 6] rfl
    exact fy_more (c' := 31 + (t + 1)) (s' := 2151 + 6 * (t + 1)) (by omega) (by omega) (ih _ _ _ ⟨N', C', L', val', age', nf', rf', reg', wk', sp2, rw2, sq2, rx2, pl2, G2, V2, F2, row2, rowq2, f02, g02, pf2, wn02, tu02, st02, wq2, oq2, fo2, nu2, va2, ag2, fi2, re2, mk2, mr2, mw2, nI k, ou2, hI', hk2, hy2, hM2, hl, hP, hD, hS⟩)
  · refine lv_if_ne hx hb d_La_law_1016 (tgt := 1031) (by decide) (fun _ => ?_) (fun h => absurd h (nI_ne0 (by omega) (by omega)))
    refine lv_goto hx hb d_La_law_1031 (tgt := 1034) (by decide) ?_
    refine lv_iinc (v := nI (4 * t + 4)) hx hb d_La_law_1034 hl (k := 2) rfl (by rw [show Int32.ofInt 4 = nI 4 from by decide]; exact nI_add _ _) (by decide) rfl (fun ls hl => ?_)
    have hl : lv_has ls 7 [(4, .int (nI (4 * t + 4))), (6, .int b9), (5, .int (nI k)), (0, .ref b), (1, .ref yd), (2, .ref mo), (3, .ref ao)] := hl
    refine lv_goto hx hb d_La_law_1037 (tgt := 23) (by decide) ?_
    have hl : lv_has ls 7 [(4, .int (nI (4 * (t + 1)))), (0, .ref b), (1, .ref yd), (2, .ref mo), (3, .ref ao)] := lv_sub hl [0, 3, 4, 5, 6] rfl
    exact fy_more (c' := 31 + (t + 1)) (s' := 2151 + 6 * (t + 1)) (by omega) (by omega) (ih _ _ _ ⟨N', C', L', val', age', nf', rf', reg', wk', sp2, rw2, sq2, rx2, pl2, G2, V2, F2, row2, rowq2, f02, g02, pf2, wn02, tu02, st02, wq2, oq2, fo2, nu2, va2, ag2, fi2, re2, mk2, mr2, mw2, nI k, ou2, hI', hk2, hy2, hM2, hl, hP, hD, hS⟩)
