set_option maxRecDepth 20000 in
set_option maxHeartbeats 4000000 in
theorem lb_write {p : Program} {l : Launch} {e : Env} {s : State} {m : MethodId} {below : List Frame} {meth : Method} {c : Code} {Q : State → Prop} {D : va_G} {cI cZ cJ cW : ClassId} {b Ln : Nat} {xs : Nat → Int32} (hG : fy_G s D cI cZ cJ cW) (hX : fy_GX l s) (hN : fy_GC s) (hx : p.tables.exec = Jvm.exec) (hb : c.code = code) (hml : c.maxLocals = 7) (hown : s.vm.findClass "ForwardYardLaw" = some m.cls) (hts : ∀ w ∈ fy_T, w.before #[Value.ref b] s = true) (hXs : va_X b Ln xs s s.heap) (hbl : b < s.heap.size) (hL : Ln ≤ 2048) (yd rg wr cr fw wt wl se qu ao : Nat) (wa pa : Nat → Nat) (mo m1 m2 m3 m4 m5 m6 m7 m8 : Nat) (t : Nat) (ht : 4 * t + 4 ≤ Ln) (N : Nat) (C : Nat) (L : List Nat) (val : Nat → Int32) (age : Nat → Nat) (nf : Nat → Nat) (rf : Nat → Nat → Option Nat) (reg : Nat → Option Nat) (wk : Nat → Option Nat) (sp rw sq rx : Nat) (pl : Nat → Nat) (G V F row rowq f0 g0 : Nat → Int32) (pf : Nat → Nat → Int32) (wn0 tu0 st0 wq oq fo : Int32) (nu va ag fi re mk mr mw : Nat → Int32) (cd : Int32) (ou : Nat → Int64) (hI : fm_In t N C L age nf rf reg wk) (hk : fm_Ok L val age nf rf pl row) (hy : ya_R reg wk pl G V) (hM : fm_Mo L val age nf rf reg wk nu va ag fi re mr mw) {ls : Array Slot} {H : Heap} {locs : List Loc} (hl : lv_has ls 7 [(4, .int (nI (4 * t))), (0, .ref b), (1, .ref yd), (2, .ref mo), (3, .ref ao)]) (hP : va_P D vwCl (lw_Y cI cW yd rg wr cr fw wt wl se qu wa pa N C L nf sp rw sq rx G V F row rowq f0 g0 pf wn0 tu0 st0 wq oq fo ++ [(ao, .inl (cJ, 1, .inr (.inl ou)))] ++ lw_M cI cZ mo m1 m2 m3 m4 m5 m6 m7 m8 cd N C L nu va ag fi re mk mr mw) H) (hD : va_D (fy_B s) (lw_Y cI cW yd rg wr cr fw wt wl se qu wa pa N C L nf sp rw sq rx G V F row rowq f0 g0 pf wn0 tu0 st0 wq oq fo ++ [(ao, .inl (cJ, 1, .inr (.inl ou)))] ++ lw_M cI cZ mo m1 m2 m3 m4 m5 m6 m7 m8 cd N C L nu va ag fi re mk mr mw)) (hS : va_S (fy_B s) s.heap H locs) (ih : ∀ (ls : Array Slot) (H : Heap) (locs : List Loc), lw_Inv s D cI cZ cJ cW b yd rg wr cr fw wt wl se qu ao wa pa mo m1 m2 m3 m4 m5 m6 m7 m8 (t + 1) ls H locs → W p l e room_1 s m #[Value.ref b] below meth c H locs (31 + (t + 1)) (2151 + 6 * (t + 1)) Q (F0 m 23 ls [])) : W p l e room_1 s m #[Value.ref b] below meth c H locs (31 + t) (2151 + 6 * t) Q (F0 m 423 ls []) := by
  have hK : va_K D vwCl (fy_tys cI cZ cJ cW) s := hG.2
  have hLa := fy_La.rf s
  have hAB : ∀ q, fy_B s q → fy_B s q := fun _ h => h
  have hA : ∀ q, s.heap.size ≤ q → fy_B s q := fun _ h => h
  have ht5 : t < 512 := by omega
  obtain ⟨k, ans, N', C', L', val', age', nf', rf', reg', wk', ho, hk3, hI'⟩ := ft_write hI ht5 (xs (4 * t + 1)) (xs (4 * t + 2))
  refine lv_aload_n hx hb d_La_law_423 rfl (lv_at hl 2 rfl) ?_
  refine lv_aload_n hx hb d_La_law_424 rfl (lv_at hl 1 rfl) ?_
  refine lv_iload hx hb d_La_law_425 (lv_at hl 0 rfl) ?_
  refine lv_iconst (v := nI 1) hx hb d_La_law_427 (by decide) ?_
  refine lv_iadd hx hb d_La_law_428 ?_
  refine fy_top (z := nI ((4 * t) + 1)) (nI_add _ _) ?_
  refine fy_sld (A := fy_B s) hx hb hXs hbl (fun h => Nat.not_le_of_lt hbl h) hS hL (by omega) d_La_law_429 ?_
  refine lv_aload_n hx hb d_La_law_430 rfl (lv_at hl 1 rfl) ?_
  refine lv_iload hx hb d_La_law_431 (lv_at hl 0 rfl) ?_
  refine lv_iconst (v := nI 2) hx hb d_La_law_433 (by decide) ?_
  refine lv_iadd hx hb d_La_law_434 ?_
  refine fy_top (z := nI ((4 * t) + 2)) (nI_add _ _) ?_
  refine fy_sld (A := fy_B s) hx hb hXs hbl (fun h => Nat.not_le_of_lt hbl h) hS hL (by omega) d_La_law_435 ?_
  refine lv_aload_n hx hb d_La_law_436 rfl (lv_at hl 4 rfl) ?_
  refine fy_callSW3 (As := [.ref yd, .int (xs ((4 * t) + 1)), .int (xs ((4 * t) + 2)), .ref ao]) (rest := []) (H := H) [] (lw_M cI cZ mo m1 m2 m3 m4 m5 m6 m7 m8 cd N C L nu va ag fi re mk mr mw) ⟨hx, hb, hml, hown, hts⟩ (c_La_write l s D cI cZ cJ cW hG hX hN yd rg wr cr fw wt wl se qu wa pa ao t N C L val age nf rf reg wk sp rw sq rx pl G V F row rowq f0 g0 pf wn0 tu0 st0 wq oq fo ou hI hk hy (xs (4 * t + 1)) (xs (4 * t + 2)) k ans N' C' L' val' age' nf' rf' reg' wk' ho) List.mem_cons_self (fy_good (fy_w1 k_c_La_write)) rfl rfl ⟨Nat.le_of_ble_eq_true rfl, Nat.le_of_ble_eq_true rfl⟩ (hts _ k_m_La_98) (hts _ k_s_La_write) (hts _ k_ini_La) ⟨by decide, by decide, show (parseMethodDescriptor y_La_write.desc).map (fun d => d.parameters.length) = some 4 by decide +kernel⟩ hLa hAB hA hP hD hS hl.1 rfl (Nat.le_of_ble_eq_true rfl) d_La_law_437 ⟨show _ ≤ 601024 by omega, show _ ≤ 7293034 by omega⟩ (fun r w1 H locs hp hP hD hS => ?_)
  obtain ⟨rfl, sp2, rw2, sq2, rx2, pl2, G2, V2, F2, row2, rowq2, f02, g02, pf2, wn02, tu02, st02, wq2, oq2, fo2, ou2, hou, hk2, hy2, rfl⟩ := hp
  have hP : va_P D vwCl (lw_Y cI cW yd rg wr cr fw wt wl se qu wa pa N' C' L' nf' sp2 rw2 sq2 rx2 G2 V2 F2 row2 rowq2 f02 g02 pf2 wn02 tu02 st02 wq2 oq2 fo2 ++ [(ao, .inl (cJ, 1, .inr (.inl ou2)))] ++ lw_M cI cZ mo m1 m2 m3 m4 m5 m6 m7 m8 cd N C L nu va ag fi re mk mr mw) H := hP
  have hD : va_D (fy_B s) (lw_Y cI cW yd rg wr cr fw wt wl se qu wa pa N' C' L' nf' sp2 rw2 sq2 rx2 G2 V2 F2 row2 rowq2 f02 g02 pf2 wn02 tu02 st02 wq2 oq2 fo2 ++ [(ao, .inl (cJ, 1, .inr (.inl ou2)))] ++ lw_M cI cZ mo m1 m2 m3 m4 m5 m6 m7 m8 cd N C L nu va ag fi re mk mr mw) := hD
  refine W.eq (g2 := F0 m 440 ls [.int (nI k)]) rfl ?_
  refine lv_istore hx hb d_La_law_440 hl (by decide) rfl (fun ls hl => ?_)
  have hl : lv_has ls 7 [(5, .int (nI k)), (4, .int (nI (4 * t))), (0, .ref b), (1, .ref yd), (2, .ref mo), (3, .ref ao)] := hl
  refine lv_aload_n hx hb d_La_law_442 rfl (lv_at hl 4 rfl) ?_
  refine lv_aload_n hx hb d_La_law_443 rfl (lv_at hl 2 rfl) ?_
  refine lv_iload hx hb d_La_law_444 (lv_at hl 1 rfl) ?_
  refine lv_iconst (v := nI 1) hx hb d_La_law_446 (by decide) ?_
  refine lv_iadd hx hb d_La_law_447 ?_
  refine fy_top (z := nI ((4 * t) + 1)) (nI_add _ _) ?_
  refine fy_sld (A := fy_B s) hx hb hXs hbl (fun h => Nat.not_le_of_lt hbl h) hS hL (by omega) d_La_law_448 ?_
  refine lv_aload_n hx hb d_La_law_449 rfl (lv_at hl 2 rfl) ?_
  refine lv_iload hx hb d_La_law_450 (lv_at hl 1 rfl) ?_
  refine lv_iconst (v := nI 2) hx hb d_La_law_452 (by decide) ?_
  refine lv_iadd hx hb d_La_law_453 ?_
  refine fy_top (z := nI ((4 * t) + 2)) (nI_add _ _) ?_
  refine fy_sld (A := fy_B s) hx hb hXs hbl (fun h => Nat.not_le_of_lt hbl h) hS hL (by omega) d_La_law_454 ?_
  refine fy_callV3 (As := [.int (xs ((4 * t) + 1)), .int (xs ((4 * t) + 2))]) (rest := []) (H := H) (lw_Y cI cW yd rg wr cr fw wt wl se qu wa pa N' C' L' nf' sp2 rw2 sq2 rx2 G2 V2 F2 row2 rowq2 f02 g02 pf2 wn02 tu02 st02 wq2 oq2 fo2 ++ [(ao, .inl (cJ, 1, .inr (.inl ou2)))]) [] ⟨hx, hb, hml, hown, hts⟩ (c_Mo_write l s D cI cZ cJ cW hG mo m1 m2 m3 m4 m5 m6 m7 m8 cd t N C L val age nf rf reg wk nu va ag fi re mk mr mw hI hM (xs (4 * t + 1)) (xs (4 * t + 2)) k ans N' C' L' val' age' nf' rf' reg' wk' ho) (cwV 2 hts g_La_101 rfl rfl rfl (by decide +kernel) ⟨Nat.le_of_ble_eq_true rfl, Nat.le_of_ble_eq_true rfl⟩) hK hLa hAB hA (by rw [List.append_nil]; exact hP) (by rw [List.append_nil]; exact hD) hS (ci := 5) rfl rfl (q0 := 22) rfl rfl hl.1 rfl (Nat.le_of_ble_eq_true rfl) d_La_law_455 ⟨show _ ≤ 601024 by omega, show _ ≤ 7293034 by omega⟩ (fun r w1 H locs hp hP hD hS => ?_)
  rw [List.append_nil] at hP hD
  obtain ⟨b9, nu2, va2, ag2, fi2, re2, mk2, mr2, mw2, hb9, rfl, hM2, rfl⟩ := hp
  have hP : va_P D vwCl (lw_Y cI cW yd rg wr cr fw wt wl se qu wa pa N' C' L' nf' sp2 rw2 sq2 rx2 G2 V2 F2 row2 rowq2 f02 g02 pf2 wn02 tu02 st02 wq2 oq2 fo2 ++ [(ao, .inl (cJ, 1, .inr (.inl ou2)))] ++ lw_M cI cZ mo m1 m2 m3 m4 m5 m6 m7 m8 (nI k) N' C' L' nu2 va2 ag2 fi2 re2 mk2 mr2 mw2) H := hP
  have hD : va_D (fy_B s) (lw_Y cI cW yd rg wr cr fw wt wl se qu wa pa N' C' L' nf' sp2 rw2 sq2 rx2 G2 V2 F2 row2 rowq2 f02 g02 pf2 wn02 tu02 st02 wq2 oq2 fo2 ++ [(ao, .inl (cJ, 1, .inr (.inl ou2)))] ++ lw_M cI cZ mo m1 m2 m3 m4 m5 m6 m7 m8 (nI k) N' C' L' nu2 va2 ag2 fi2 re2 mk2 mr2 mw2) := hD
  refine W.eq (g2 := F0 m 458 ls [.int b9]) rfl ?_
  refine lv_istore hx hb d_La_law_458 hl (by decide) rfl (fun ls hl => ?_)
  have hl : lv_has ls 7 [(6, .int b9), (5, .int (nI k)), (4, .int (nI (4 * t))), (0, .ref b), (1, .ref yd), (2, .ref mo), (3, .ref ao)] := hl
  refine lv_aload_n hx hb d_La_law_460 rfl (lv_at hl 5 rfl) ?_
  refine fy_callV3 (As := []) (rest := []) (H := H) (lw_Y cI cW yd rg wr cr fw wt wl se qu wa pa N' C' L' nf' sp2 rw2 sq2 rx2 G2 V2 F2 row2 rowq2 f02 g02 pf2 wn02 tu02 st02 wq2 oq2 fo2 ++ [(ao, .inl (cJ, 1, .inr (.inl ou2)))]) [] ⟨hx, hb, hml, hown, hts⟩ (c_Mo_thrownW l s D cI cZ cJ cW hG mo m1 m2 m3 m4 m5 m6 m7 m8 (nI k) N' C' L' nu2 va2 ag2 fi2 re2 mk2 mr2 mw2) (cwV 0 hts g_La_79 rfl rfl rfl (by decide +kernel) ⟨Nat.le_of_ble_eq_true rfl, Nat.le_of_ble_eq_true rfl⟩) hK hLa hAB hA (by rw [List.append_nil]; exact hP) (by rw [List.append_nil]; exact hD) hS (ci := 5) rfl rfl (q0 := 22) rfl rfl hl.1 rfl (Nat.le_of_ble_eq_true rfl) d_La_law_461 ⟨show _ ≤ 601024 by omega, show _ ≤ 7293034 by omega⟩ (fun r w1 H locs hp hP hD hS => ?_)
  rw [List.append_nil] at hP hD
  obtain ⟨rfl, rfl⟩ := hp
  have hP : va_P D vwCl (lw_Y cI cW yd rg wr cr fw wt wl se qu wa pa N' C' L' nf' sp2 rw2 sq2 rx2 G2 V2 F2 row2 rowq2 f02 g02 pf2 wn02 tu02 st02 wq2 oq2 fo2 ++ [(ao, .inl (cJ, 1, .inr (.inl ou2)))] ++ lw_M cI cZ mo m1 m2 m3 m4 m5 m6 m7 m8 (nI k) N' C' L' nu2 va2 ag2 fi2 re2 mk2 mr2 mw2) H := hP
  have hD : va_D (fy_B s) (lw_Y cI cW yd rg wr cr fw wt wl se qu wa pa N' C' L' nf' sp2 rw2 sq2 rx2 G2 V2 F2 row2 rowq2 f02 g02 pf2 wn02 tu02 st02 wq2 oq2 fo2 ++ [(ao, .inl (cJ, 1, .inr (.inl ou2)))] ++ lw_M cI cZ mo m1 m2 m3 m4 m5 m6 m7 m8 (nI k) N' C' L' nu2 va2 ag2 fi2 re2 mk2 mr2 mw2) := hD
  refine W.eq (g2 := F0 m 464 ls [.int (nI k)]) rfl ?_
  refine lv_iload hx hb d_La_law_464 (lv_at hl 1 rfl) ?_
  refine lv_icmp_eq hx hb d_La_law_466 (tgt := 471) (by decide) (fun _ => ?_) (fun h => absurd (rfl) h)
  refine lv_iload hx hb d_La_law_471 (lv_at hl 1 rfl) ?_
  by_cases hk0 : k = 0
  · refine lv_if_ne hx hb d_La_law_473 (tgt := 488) (by decide) (fun h => absurd (by rw [hk0]; rfl) h) (fun _ => ?_)
    refine lv_aload_n hx hb d_La_law_476 rfl (lv_at hl 6 rfl) ?_
    refine lv_iconst (v := nI 0) hx hb d_La_law_477 (by decide) ?_
    refine fy_lald (t0 := 2) (N := 1) (k := 0) (f := ou2) (v := ou2 0) hx hb hK hP 21 rfl rfl (by omega) (by omega) rfl d_La_law_478 ?_
    refine lv_iload hx hb d_La_law_479 (lv_at hl 0 rfl) ?_
    refine lv_i2l hx hb d_La_law_481 rfl ?_
    refine fy_lcmp hx hb (by rw [hou hk0, hb9 hk0]) d_La_law_482 ?_
    refine lv_if_eq hx hb d_La_law_483 (tgt := 488) (by decide) (fun _ => ?_) (fun h => absurd (rfl) h)
    refine lv_goto hx hb d_La_law_488 (tgt := 1034) (by decide) ?_
    refine lv_iinc (v := nI (4 * t + 4)) hx hb d_La_law_1034 hl (k := 2) rfl (by rw [show Int32.ofInt 4 = nI 4 from by decide]; exact nI_add _ _) (by decide) rfl (fun ls hl => ?_)
    have hl : lv_has ls 7 [(4, .int (nI (4 * t + 4))), (6, .int b9), (5, .int (nI k)), (0, .ref b), (1, .ref yd), (2, .ref mo), (3, .ref ao)] := hl
    refine lv_goto hx hb d_La_law_1037 (tgt := 23) (by decide) ?_
    have hl : lv_has ls 7 [(4, .int (nI (4 * (t + 1)))), (0, .ref b), (1, .ref yd), (2, .ref mo), (3, .ref ao)] := lv_sub hl [0, 3, 4, 5, 6] rfl
    exact fy_more (c' := 31 + (t + 1)) (s' := 2151 + 6 * (t + 1)) (by omega) (by omega) (ih _ _ _ ⟨N', C', L', val', age', nf', rf', reg', wk', sp2, rw2, sq2, rx2, pl2, G2, V2, F2, row2, rowq2, f02, g02, pf2, wn02, tu02, st02, wq2, oq2, fo2, nu2, va2, ag2, fi2, re2, mk2, mr2, mw2, nI k, ou2, hI', hk2, hy2, hM2, hl, hP, hD, hS⟩)
  · refine lv_if_ne hx hb d_La_law_473 (tgt := 488) (by decide) (fun _ => ?_) (fun h => absurd h (nI_ne0 (by omega) (by omega)))
    refine lv_goto hx hb d_La_law_488 (tgt := 1034) (by decide) ?_
    refine lv_iinc (v := nI (4 * t + 4)) hx hb d_La_law_1034 hl (k := 2) rfl (by rw [show Int32.ofInt 4 = nI 4 from by decide]; exact nI_add _ _) (by decide) rfl (fun ls hl => ?_)
    have hl : lv_has ls 7 [(4, .int (nI (4 * t + 4))), (6, .int b9), (5, .int (nI k)), (0, .ref b), (1, .ref yd), (2, .ref mo), (3, .ref ao)] := hl
    refine lv_goto hx hb d_La_law_1037 (tgt := 23) (by decide) ?_
    have hl : lv_has ls 7 [(4, .int (nI (4 * (t + 1)))), (0, .ref b), (1, .ref yd), (2, .ref mo), (3, .ref ao)] := lv_sub hl [0, 3, 4, 5, 6] rfl
    exact fy_more (c' := 31 + (t + 1)) (s' := 2151 + 6 * (t + 1)) (by omega) (by omega) (ih _ _ _ ⟨N', C', L', val', age', nf', rf', reg', wk', sp2, rw2, sq2, rx2, pl2, G2, V2, F2, row2, rowq2, f02, g02, pf2, wn02, tu02, st02, wq2, oq2, fo2, nu2, va2, ag2, fi2, re2, mk2, mr2, mw2, nI k, ou2, hI', hk2, hy2, hM2, hl, hP, hD, hS⟩)
set_option maxRecDepth 20000 in
set_option maxHeartbeats 4000000 in
theorem lb_watch {p : Program} {l : Launch} {e : Env} {s : State} {m : MethodId} {below : List Frame} {meth : Method} {c : Code} {Q : State → Prop} {D : va_G} {cI cZ cJ cW : ClassId} {b Ln : Nat} {xs : Nat → Int32} (hG : fy_G s D cI cZ cJ cW) (hX : fy_GX l s) (hN : fy_GC s) (hx : p.tables.exec = Jvm.exec) (hb : c.code = code) (hml : c.maxLocals = 7) (hown : s.vm.findClass "ForwardYardLaw" = some m.cls) (hts : ∀ w ∈ fy_T, w.before #[Value.ref b] s = true) (hXs : va_X b Ln xs s s.heap) (hbl : b < s.heap.size) (hL : Ln ≤ 2048) (yd rg wr cr fw wt wl se qu ao : Nat) (wa pa : Nat → Nat) (mo m1 m2 m3 m4 m5 m6 m7 m8 : Nat) (t : Nat) (ht : 4 * t + 4 ≤ Ln) (N : Nat) (C : Nat) (L : List Nat) (val : Nat → Int32) (age : Nat → Nat) (nf : Nat → Nat) (rf : Nat → Nat → Option Nat) (reg : Nat → Option Nat) (wk : Nat → Option Nat) (sp rw sq rx : Nat) (pl : Nat → Nat) (G V F row rowq f0 g0 : Nat → Int32) (pf : Nat → Nat → Int32) (wn0 tu0 st0 wq oq fo : Int32) (nu va ag fi re mk mr mw : Nat → Int32) (cd : Int32) (ou : Nat → Int64) (hI : fm_In t N C L age nf rf reg wk) (hk : fm_Ok L val age nf rf pl row) (hy : ya_R reg wk pl G V) (hM : fm_Mo L val age nf rf reg wk nu va ag fi re mr mw) {ls : Array Slot} {H : Heap} {locs : List Loc} (hl : lv_has ls 7 [(4, .int (nI (4 * t))), (0, .ref b), (1, .ref yd), (2, .ref mo), (3, .ref ao)]) (hP : va_P D vwCl (lw_Y cI cW yd rg wr cr fw wt wl se qu wa pa N C L nf sp rw sq rx G V F row rowq f0 g0 pf wn0 tu0 st0 wq oq fo ++ [(ao, .inl (cJ, 1, .inr (.inl ou)))] ++ lw_M cI cZ mo m1 m2 m3 m4 m5 m6 m7 m8 cd N C L nu va ag fi re mk mr mw) H) (hD : va_D (fy_B s) (lw_Y cI cW yd rg wr cr fw wt wl se qu wa pa N C L nf sp rw sq rx G V F row rowq f0 g0 pf wn0 tu0 st0 wq oq fo ++ [(ao, .inl (cJ, 1, .inr (.inl ou)))] ++ lw_M cI cZ mo m1 m2 m3 m4 m5 m6 m7 m8 cd N C L nu va ag fi re mk mr mw)) (hS : va_S (fy_B s) s.heap H locs) (ih : ∀ (ls : Array Slot) (H : Heap) (locs : List Loc), lw_Inv s D cI cZ cJ cW b yd rg wr cr fw wt wl se qu ao wa pa mo m1 m2 m3 m4 m5 m6 m7 m8 (t + 1) ls H locs → W p l e room_1 s m #[Value.ref b] below meth c H locs (31 + (t + 1)) (2151 + 6 * (t + 1)) Q (F0 m 23 ls [])) : W p l e room_1 s m #[Value.ref b] below meth c H locs (31 + t) (2151 + 6 * t) Q (F0 m 491 ls []) := by
  have hK : va_K D vwCl (fy_tys cI cZ cJ cW) s := hG.2
  have hLa := fy_La.rf s
  have hAB : ∀ q, fy_B s q → fy_B s q := fun _ h => h
  have hA : ∀ q, s.heap.size ≤ q → fy_B s q := fun _ h => h
  have ht5 : t < 512 := by omega
  obtain ⟨k, ans, N', C', L', val', age', nf', rf', reg', wk', ho, hk3, hI'⟩ := ft_watch hI ht5 (xs (4 * t + 1)) (xs (4 * t + 2))
  refine lv_aload_n hx hb d_La_law_491 rfl (lv_at hl 2 rfl) ?_
  refine lv_aload_n hx hb d_La_law_492 rfl (lv_at hl 1 rfl) ?_
  refine lv_iload hx hb d_La_law_493 (lv_at hl 0 rfl) ?_
  refine lv_iconst (v := nI 1) hx hb d_La_law_495 (by decide) ?_
  refine lv_iadd hx hb d_La_law_496 ?_
  refine fy_top (z := nI ((4 * t) + 1)) (nI_add _ _) ?_
  refine fy_sld (A := fy_B s) hx hb hXs hbl (fun h => Nat.not_le_of_lt hbl h) hS hL (by omega) d_La_law_497 ?_
  refine lv_aload_n hx hb d_La_law_498 rfl (lv_at hl 1 rfl) ?_
  refine lv_iload hx hb d_La_law_499 (lv_at hl 0 rfl) ?_
  refine lv_iconst (v := nI 2) hx hb d_La_law_501 (by decide) ?_
  refine lv_iadd hx hb d_La_law_502 ?_
  refine fy_top (z := nI ((4 * t) + 2)) (nI_add _ _) ?_
  refine fy_sld (A := fy_B s) hx hb hXs hbl (fun h => Nat.not_le_of_lt hbl h) hS hL (by omega) d_La_law_503 ?_
  refine fy_callSW3 (As := [.ref yd, .int (xs ((4 * t) + 1)), .int (xs ((4 * t) + 2))]) (rest := []) (H := H) [] ([(ao, .inl (cJ, 1, .inr (.inl ou)))] ++ lw_M cI cZ mo m1 m2 m3 m4 m5 m6 m7 m8 cd N C L nu va ag fi re mk mr mw) ⟨hx, hb, hml, hown, hts⟩ (c_La_watch l s D cI cZ cJ cW hG hX hN yd rg wr cr fw wt wl se qu wa pa t N C L val age nf rf reg wk sp rw sq rx pl G V F row rowq f0 g0 pf wn0 tu0 st0 wq oq fo hI hk hy (xs (4 * t + 1)) (xs (4 * t + 2)) k ans N' C' L' val' age' nf' rf' reg' wk' ho) List.mem_cons_self (fy_good (fy_w1 k_c_La_watch)) rfl rfl ⟨Nat.le_of_ble_eq_true rfl, Nat.le_of_ble_eq_true rfl⟩ (hts _ k_m_La_102) (hts _ k_s_La_watch) (hts _ k_ini_La) ⟨by decide, by decide, show (parseMethodDescriptor y_La_watch.desc).map (fun d => d.parameters.length) = some 3 by decide +kernel⟩ hLa hAB hA hP hD hS hl.1 rfl (Nat.le_of_ble_eq_true rfl) d_La_law_504 ⟨show _ ≤ 601024 by omega, show _ ≤ 7293034 by omega⟩ (fun r w1 H locs hp hP hD hS => ?_)
  obtain ⟨rfl, sp2, rw2, sq2, rx2, pl2, G2, V2, F2, row2, rowq2, f02, g02, pf2, wn02, tu02, st02, wq2, oq2, fo2, hk2, hy2, rfl⟩ := hp
  have hP : va_P D vwCl (lw_Y cI cW yd rg wr cr fw wt wl se qu wa pa N' C' L' nf' sp2 rw2 sq2 rx2 G2 V2 F2 row2 rowq2 f02 g02 pf2 wn02 tu02 st02 wq2 oq2 fo2 ++ [(ao, .inl (cJ, 1, .inr (.inl ou)))] ++ lw_M cI cZ mo m1 m2 m3 m4 m5 m6 m7 m8 cd N C L nu va ag fi re mk mr mw) H := hP
  have hD : va_D (fy_B s) (lw_Y cI cW yd rg wr cr fw wt wl se qu wa pa N' C' L' nf' sp2 rw2 sq2 rx2 G2 V2 F2 row2 rowq2 f02 g02 pf2 wn02 tu02 st02 wq2 oq2 fo2 ++ [(ao, .inl (cJ, 1, .inr (.inl ou)))] ++ lw_M cI cZ mo m1 m2 m3 m4 m5 m6 m7 m8 cd N C L nu va ag fi re mk mr mw) := hD
  refine W.eq (g2 := F0 m 507 ls [.int (nI k)]) rfl ?_
  refine lv_istore hx hb d_La_law_507 hl (by decide) rfl (fun ls hl => ?_)
  have hl : lv_has ls 7 [(5, .int (nI k)), (4, .int (nI (4 * t))), (0, .ref b), (1, .ref yd), (2, .ref mo), (3, .ref ao)] := hl
  refine lv_aload_n hx hb d_La_law_509 rfl (lv_at hl 4 rfl) ?_
  refine lv_aload_n hx hb d_La_law_510 rfl (lv_at hl 2 rfl) ?_
  refine lv_iload hx hb d_La_law_511 (lv_at hl 1 rfl) ?_
  refine lv_iconst (v := nI 1) hx hb d_La_law_513 (by decide) ?_
  refine lv_iadd hx hb d_La_law_514 ?_
  refine fy_top (z := nI ((4 * t) + 1)) (nI_add _ _) ?_
  refine fy_sld (A := fy_B s) hx hb hXs hbl (fun h => Nat.not_le_of_lt hbl h) hS hL (by omega) d_La_law_515 ?_
  refine lv_aload_n hx hb d_La_law_516 rfl (lv_at hl 2 rfl) ?_
  refine lv_iload hx hb d_La_law_517 (lv_at hl 1 rfl) ?_
  refine lv_iconst (v := nI 2) hx hb d_La_law_519 (by decide) ?_
  refine lv_iadd hx hb d_La_law_520 ?_
  refine fy_top (z := nI ((4 * t) + 2)) (nI_add _ _) ?_
  refine fy_sld (A := fy_B s) hx hb hXs hbl (fun h => Nat.not_le_of_lt hbl h) hS hL (by omega) d_La_law_521 ?_
  refine fy_callV3 (As := [.int (xs ((4 * t) + 1)), .int (xs ((4 * t) + 2))]) (rest := []) (H := H) (lw_Y cI cW yd rg wr cr fw wt wl se qu wa pa N' C' L' nf' sp2 rw2 sq2 rx2 G2 V2 F2 row2 rowq2 f02 g02 pf2 wn02 tu02 st02 wq2 oq2 fo2 ++ [(ao, .inl (cJ, 1, .inr (.inl ou)))]) [] ⟨hx, hb, hml, hown, hts⟩ (c_Mo_watch l s D cI cZ cJ cW hG mo m1 m2 m3 m4 m5 m6 m7 m8 cd t N C L val age nf rf reg wk nu va ag fi re mk mr mw hI hM (xs (4 * t + 1)) (xs (4 * t + 2)) k ans N' C' L' val' age' nf' rf' reg' wk' ho) (cwV 2 hts g_La_104 rfl rfl rfl (by decide +kernel) ⟨Nat.le_of_ble_eq_true rfl, Nat.le_of_ble_eq_true rfl⟩) hK hLa hAB hA (by rw [List.append_nil]; exact hP) (by rw [List.append_nil]; exact hD) hS (ci := 5) rfl rfl (q0 := 22) rfl rfl hl.1 rfl (Nat.le_of_ble_eq_true rfl) d_La_law_522 ⟨show _ ≤ 601024 by omega, show _ ≤ 7293034 by omega⟩ (fun r w1 H locs hp hP hD hS => ?_)
  rw [List.append_nil] at hP hD
  obtain ⟨b9, nu2, va2, ag2, fi2, re2, mk2, mr2, mw2, hb9, rfl, hM2, rfl⟩ := hp
  have hP : va_P D vwCl (lw_Y cI cW yd rg wr cr fw wt wl se qu wa pa N' C' L' nf' sp2 rw2 sq2 rx2 G2 V2 F2 row2 rowq2 f02 g02 pf2 wn02 tu02 st02 wq2 oq2 fo2 ++ [(ao, .inl (cJ, 1, .inr (.inl ou)))] ++ lw_M cI cZ mo m1 m2 m3 m4 m5 m6 m7 m8 (nI k) N' C' L' nu2 va2 ag2 fi2 re2 mk2 mr2 mw2) H := hP
  have hD : va_D (fy_B s) (lw_Y cI cW yd rg wr cr fw wt wl se qu wa pa N' C' L' nf' sp2 rw2 sq2 rx2 G2 V2 F2 row2 rowq2 f02 g02 pf2 wn02 tu02 st02 wq2 oq2 fo2 ++ [(ao, .inl (cJ, 1, .inr (.inl ou)))] ++ lw_M cI cZ mo m1 m2 m3 m4 m5 m6 m7 m8 (nI k) N' C' L' nu2 va2 ag2 fi2 re2 mk2 mr2 mw2) := hD
  refine W.eq (g2 := F0 m 525 ls []) rfl ?_
  refine lv_aload_n hx hb d_La_law_525 rfl (lv_at hl 4 rfl) ?_
  refine fy_callV3 (As := []) (rest := []) (H := H) (lw_Y cI cW yd rg wr cr fw wt wl se qu wa pa N' C' L' nf' sp2 rw2 sq2 rx2 G2 V2 F2 row2 rowq2 f02 g02 pf2 wn02 tu02 st02 wq2 oq2 fo2 ++ [(ao, .inl (cJ, 1, .inr (.inl ou)))]) [] ⟨hx, hb, hml, hown, hts⟩ (c_Mo_thrownW l s D cI cZ cJ cW hG mo m1 m2 m3 m4 m5 m6 m7 m8 (nI k) N' C' L' nu2 va2 ag2 fi2 re2 mk2 mr2 mw2) (cwV 0 hts g_La_79 rfl rfl rfl (by decide +kernel) ⟨Nat.le_of_ble_eq_true rfl, Nat.le_of_ble_eq_true rfl⟩) hK hLa hAB hA (by rw [List.append_nil]; exact hP) (by rw [List.append_nil]; exact hD) hS (ci := 5) rfl rfl (q0 := 22) rfl rfl hl.1 rfl (Nat.le_of_ble_eq_true rfl) d_La_law_526 ⟨show _ ≤ 601024 by omega, show _ ≤ 7293034 by omega⟩ (fun r w1 H locs hp hP hD hS => ?_)
  rw [List.append_nil] at hP hD
  obtain ⟨rfl, rfl⟩ := hp
  have hP : va_P D vwCl (lw_Y cI cW yd rg wr cr fw wt wl se qu wa pa N' C' L' nf' sp2 rw2 sq2 rx2 G2 V2 F2 row2 rowq2 f02 g02 pf2 wn02 tu02 st02 wq2 oq2 fo2 ++ [(ao, .inl (cJ, 1, .inr (.inl ou)))] ++ lw_M cI cZ mo m1 m2 m3 m4 m5 m6 m7 m8 (nI k) N' C' L' nu2 va2 ag2 fi2 re2 mk2 mr2 mw2) H := hP
  have hD : va_D (fy_B s) (lw_Y cI cW yd rg wr cr fw wt wl se qu wa pa N' C' L' nf' sp2 rw2 sq2 rx2 G2 V2 F2 row2 rowq2 f02 g02 pf2 wn02 tu02 st02 wq2 oq2 fo2 ++ [(ao, .inl (cJ, 1, .inr (.inl ou)))] ++ lw_M cI cZ mo m1 m2 m3 m4 m5 m6 m7 m8 (nI k) N' C' L' nu2 va2 ag2 fi2 re2 mk2 mr2 mw2) := hD
  refine W.eq (g2 := F0 m 529 ls [.int (nI k)]) rfl ?_
  refine lv_iload hx hb d_La_law_529 (lv_at hl 0 rfl) ?_
  refine lv_icmp_eq hx hb d_La_law_531 (tgt := 536) (by decide) (fun _ => ?_) (fun h => absurd (rfl) h)
  refine lv_goto hx hb d_La_law_536 (tgt := 1034) (by decide) ?_
  refine lv_iinc (v := nI (4 * t + 4)) hx hb d_La_law_1034 hl (k := 1) rfl (by rw [show Int32.ofInt 4 = nI 4 from by decide]; exact nI_add _ _) (by decide) rfl (fun ls hl => ?_)
  have hl : lv_has ls 7 [(4, .int (nI (4 * t + 4))), (5, .int (nI k)), (0, .ref b), (1, .ref yd), (2, .ref mo), (3, .ref ao)] := hl
  refine lv_goto hx hb d_La_law_1037 (tgt := 23) (by decide) ?_
  have hl : lv_has ls 7 [(4, .int (nI (4 * (t + 1)))), (0, .ref b), (1, .ref yd), (2, .ref mo), (3, .ref ao)] := lv_sub hl [0, 2, 3, 4, 5] rfl
  exact fy_more (c' := 31 + (t + 1)) (s' := 2151 + 6 * (t + 1)) (by omega) (by omega) (ih _ _ _ ⟨N', C', L', val', age', nf', rf', reg', wk', sp2, rw2, sq2, rx2, pl2, G2, V2, F2, row2, rowq2, f02, g02, pf2, wn02, tu02, st02, wq2, oq2, fo2, nu2, va2, ag2, fi2, re2, mk2, mr2, mw2, nI k, ou, hI', hk2, hy2, hM2, hl, hP, hD, hS⟩)
set_option maxRecDepth 20000 in
set_option maxHeartbeats 4000000 in
theorem lb_revive {p : Program} {l : Launch} {e : Env} {s : State} {m : MethodId} {below : List Frame} {meth : Method} {c : Code} {Q : State → Prop} {D : va_G} {cI cZ cJ cW : ClassId} {b Ln : Nat} {xs : Nat → Int32} (hG : fy_G s D cI cZ cJ cW) (hX : fy_GX l s) (hN : fy_GC s) (hx : p.tables.exec = Jvm.exec) (hb : c.code = code) (hml : c.maxLocals = 7) (hown : s.vm.findClass "ForwardYardLaw" = some m.cls) (hts : ∀ w ∈ fy_T, w.before #[Value.ref b] s = true) (hXs : va_X b Ln xs s s.heap) (hbl : b < s.heap.size) (hL : Ln ≤ 2048) (yd rg wr cr fw wt wl se qu ao : Nat) (wa pa : Nat → Nat) (mo m1 m2 m3 m4 m5 m6 m7 m8 : Nat) (t : Nat) (ht : 4 * t + 4 ≤ Ln) (N : Nat) (C : Nat) (L : List Nat) (val : Nat → Int32) (age : Nat → Nat) (nf : Nat → Nat) (rf : Nat → Nat → Option Nat) (reg : Nat → Option Nat) (wk : Nat → Option Nat) (sp rw sq rx : Nat) (pl : Nat → Nat) (G V F row rowq f0 g0 : Nat → Int32) (pf : Nat → Nat → Int32) (wn0 tu0 st0 wq oq fo : Int32) (nu va ag fi re mk mr mw : Nat → Int32) (cd : Int32) (ou : Nat → Int64) (hI : fm_In t N C L age nf rf reg wk) (hk : fm_Ok L val age nf rf pl row) (hy : ya_R reg wk pl G V) (hM : fm_Mo L val age nf rf reg wk nu va ag fi re mr mw) {ls : Array Slot} {H : Heap} {locs : List Loc} (hl : lv_has ls 7 [(4, .int (nI (4 * t))), (0, .ref b), (1, .ref yd), (2, .ref mo), (3, .ref ao)]) (hP : va_P D vwCl (lw_Y cI cW yd rg wr cr fw wt wl se qu wa pa N C L nf sp rw sq rx G V F row rowq f0 g0 pf wn0 tu0 st0 wq oq fo ++ [(ao, .inl (cJ, 1, .inr (.inl ou)))] ++ lw_M cI cZ mo m1 m2 m3 m4 m5 m6 m7 m8 cd N C L nu va ag fi re mk mr mw) H) (hD : va_D (fy_B s) (lw_Y cI cW yd rg wr cr fw wt wl se qu wa pa N C L nf sp rw sq rx G V F row rowq f0 g0 pf wn0 tu0 st0 wq oq fo ++ [(ao, .inl (cJ, 1, .inr (.inl ou)))] ++ lw_M cI cZ mo m1 m2 m3 m4 m5 m6 m7 m8 cd N C L nu va ag fi re mk mr mw)) (hS : va_S (fy_B s) s.heap H locs) (ih : ∀ (ls : Array Slot) (H : Heap) (locs : List Loc), lw_Inv s D cI cZ cJ cW b yd rg wr cr fw wt wl se qu ao wa pa mo m1 m2 m3 m4 m5 m6 m7 m8 (t + 1) ls H locs → W p l e room_1 s m #[Value.ref b] below meth c H locs (31 + (t + 1)) (2151 + 6 * (t + 1)) Q (F0 m 23 ls [])) : W p l e room_1 s m #[Value.ref b] below meth c H locs (31 + t) (2151 + 6 * t) Q (F0 m 539 ls []) := by
  have hK : va_K D vwCl (fy_tys cI cZ cJ cW) s := hG.2
  have hLa := fy_La.rf s
  have hAB : ∀ q, fy_B s q → fy_B s q := fun _ h => h
  have hA : ∀ q, s.heap.size ≤ q → fy_B s q := fun _ h => h
  have ht5 : t < 512 := by omega
  obtain ⟨k, ans, N', C', L', val', age', nf', rf', reg', wk', ho, hk3, hI'⟩ := ft_revive hI ht5 (xs (4 * t + 1)) (xs (4 * t + 2))
  refine lv_aload_n hx hb d_La_law_539 rfl (lv_at hl 2 rfl) ?_
  refine lv_aload_n hx hb d_La_law_540 rfl (lv_at hl 1 rfl) ?_
  refine lv_iload hx hb d_La_law_541 (lv_at hl 0 rfl) ?_
  refine lv_iconst (v := nI 1) hx hb d_La_law_543 (by decide) ?_
  refine lv_iadd hx hb d_La_law_544 ?_
  refine fy_top (z := nI ((4 * t) + 1)) (nI_add _ _) ?_
  refine fy_sld (A := fy_B s) hx hb hXs hbl (fun h => Nat.not_le_of_lt hbl h) hS hL (by omega) d_La_law_545 ?_
  refine lv_aload_n hx hb d_La_law_546 rfl (lv_at hl 1 rfl) ?_
  refine lv_iload hx hb d_La_law_547 (lv_at hl 0 rfl) ?_
  refine lv_iconst (v := nI 2) hx hb d_La_law_549 (by decide) ?_
  refine lv_iadd hx hb d_La_law_550 ?_
  refine fy_top (z := nI ((4 * t) + 2)) (nI_add _ _) ?_
  refine fy_sld (A := fy_B s) hx hb hXs hbl (fun h => Nat.not_le_of_lt hbl h) hS hL (by omega) d_La_law_551 ?_
  refine fy_callSW3 (As := [.ref yd, .int (xs ((4 * t) + 1)), .int (xs ((4 * t) + 2))]) (rest := []) (H := H) [] ([(ao, .inl (cJ, 1, .inr (.inl ou)))] ++ lw_M cI cZ mo m1 m2 m3 m4 m5 m6 m7 m8 cd N C L nu va ag fi re mk mr mw) ⟨hx, hb, hml, hown, hts⟩ (c_La_revive l s D cI cZ cJ cW hG hX hN yd rg wr cr fw wt wl se qu wa pa t N C L val age nf rf reg wk sp rw sq rx pl G V F row rowq f0 g0 pf wn0 tu0 st0 wq oq fo hI hk hy (xs (4 * t + 1)) (xs (4 * t + 2)) k ans N' C' L' val' age' nf' rf' reg' wk' ho) List.mem_cons_self (fy_good (fy_w1 k_c_La_revive)) rfl rfl ⟨Nat.le_of_ble_eq_true rfl, Nat.le_of_ble_eq_true rfl⟩ (hts _ k_m_La_105) (hts _ k_s_La_revive) (hts _ k_ini_La) ⟨by decide, by decide, show (parseMethodDescriptor y_La_revive.desc).map (fun d => d.parameters.length) = some 3 by decide +kernel⟩ hLa hAB hA hP hD hS hl.1 rfl (Nat.le_of_ble_eq_true rfl) d_La_law_552 ⟨show _ ≤ 601024 by omega, show _ ≤ 7293034 by omega⟩ (fun r w1 H locs hp hP hD hS => ?_)
  obtain ⟨rfl, sp2, rw2, sq2, rx2, pl2, G2, V2, F2, row2, rowq2, f02, g02, pf2, wn02, tu02, st02, wq2, oq2, fo2, hk2, hy2, rfl⟩ := hp
  have hP : va_P D vwCl (lw_Y cI cW yd rg wr cr fw wt wl se qu wa pa N' C' L' nf' sp2 rw2 sq2 rx2 G2 V2 F2 row2 rowq2 f02 g02 pf2 wn02 tu02 st02 wq2 oq2 fo2 ++ [(ao, .inl (cJ, 1, .inr (.inl ou)))] ++ lw_M cI cZ mo m1 m2 m3 m4 m5 m6 m7 m8 cd N C L nu va ag fi re mk mr mw) H := hP
  have hD : va_D (fy_B s) (lw_Y cI cW yd rg wr cr fw wt wl se qu wa pa N' C' L' nf' sp2 rw2 sq2 rx2 G2 V2 F2 row2 rowq2 f02 g02 pf2 wn02 tu02 st02 wq2 oq2 fo2 ++ [(ao, .inl (cJ, 1, .inr (.inl ou)))] ++ lw_M cI cZ mo m1 m2 m3 m4 m5 m6 m7 m8 cd N C L nu va ag fi re mk mr mw) := hD
  refine W.eq (g2 := F0 m 555 ls [.int (nI k)]) rfl ?_
  refine lv_istore hx hb d_La_law_555 hl (by decide) rfl (fun ls hl => ?_)
  have hl : lv_has ls 7 [(5, .int (nI k)), (4, .int (nI (4 * t))), (0, .ref b), (1, .ref yd), (2, .ref mo), (3, .ref ao)] := hl
  refine lv_aload_n hx hb d_La_law_557 rfl (lv_at hl 4 rfl) ?_
  refine lv_aload_n hx hb d_La_law_558 rfl (lv_at hl 2 rfl) ?_
  refine lv_iload hx hb d_La_law_559 (lv_at hl 1 rfl) ?_
  refine lv_iconst (v := nI 1) hx hb d_La_law_561 (by decide) ?_
  refine lv_iadd hx hb d_La_law_562 ?_
  refine fy_top (z := nI ((4 * t) + 1)) (nI_add _ _) ?_
  refine fy_sld (A := fy_B s) hx hb hXs hbl (fun h => Nat.not_le_of_lt hbl h) hS hL (by omega) d_La_law_563 ?_
  refine lv_aload_n hx hb d_La_law_564 rfl (lv_at hl 2 rfl) ?_
  refine lv_iload hx hb d_La_law_565 (lv_at hl 1 rfl) ?_
  refine lv_iconst (v := nI 2) hx hb d_La_law_567 (by decide) ?_
  refine lv_iadd hx hb d_La_law_568 ?_
  refine fy_top (z := nI ((4 * t) + 2)) (nI_add _ _) ?_
  refine fy_sld (A := fy_B s) hx hb hXs hbl (fun h => Nat.not_le_of_lt hbl h) hS hL (by omega) d_La_law_569 ?_
  refine fy_callV3 (As := [.int (xs ((4 * t) + 1)), .int (xs ((4 * t) + 2))]) (rest := []) (H := H) (lw_Y cI cW yd rg wr cr fw wt wl se qu wa pa N' C' L' nf' sp2 rw2 sq2 rx2 G2 V2 F2 row2 rowq2 f02 g02 pf2 wn02 tu02 st02 wq2 oq2 fo2 ++ [(ao, .inl (cJ, 1, .inr (.inl ou)))]) [] ⟨hx, hb, hml, hown, hts⟩ (c_Mo_revive l s D cI cZ cJ cW hG mo m1 m2 m3 m4 m5 m6 m7 m8 cd t N C L val age nf rf reg wk nu va ag fi re mk mr mw hI hM (xs (4 * t + 1)) (xs (4 * t + 2)) k ans N' C' L' val' age' nf' rf' reg' wk' ho) (cwV 2 hts g_La_107 rfl rfl rfl (by decide +kernel) ⟨Nat.le_of_ble_eq_true rfl, Nat.le_of_ble_eq_true rfl⟩) hK hLa hAB hA (by rw [List.append_nil]; exact hP) (by rw [List.append_nil]; exact hD) hS (ci := 5) rfl rfl (q0 := 22) rfl rfl hl.1 rfl (Nat.le_of_ble_eq_true rfl) d_La_law_570 ⟨show _ ≤ 601024 by omega, show _ ≤ 7293034 by omega⟩ (fun r w1 H locs hp hP hD hS => ?_)
  rw [List.append_nil] at hP hD
  obtain ⟨b9, nu2, va2, ag2, fi2, re2, mk2, mr2, mw2, hb9, rfl, hM2, rfl⟩ := hp
  have hP : va_P D vwCl (lw_Y cI cW yd rg wr cr fw wt wl se qu wa pa N' C' L' nf' sp2 rw2 sq2 rx2 G2 V2 F2 row2 rowq2 f02 g02 pf2 wn02 tu02 st02 wq2 oq2 fo2 ++ [(ao, .inl (cJ, 1, .inr (.inl ou)))] ++ lw_M cI cZ mo m1 m2 m3 m4 m5 m6 m7 m8 (nI k) N' C' L' nu2 va2 ag2 fi2 re2 mk2 mr2 mw2) H := hP
  have hD : va_D (fy_B s) (lw_Y cI cW yd rg wr cr fw wt wl se qu wa pa N' C' L' nf' sp2 rw2 sq2 rx2 G2 V2 F2 row2 rowq2 f02 g02 pf2 wn02 tu02 st02 wq2 oq2 fo2 ++ [(ao, .inl (cJ, 1, .inr (.inl ou)))] ++ lw_M cI cZ mo m1 m2 m3 m4 m5 m6 m7 m8 (nI k) N' C' L' nu2 va2 ag2 fi2 re2 mk2 mr2 mw2) := hD
  refine W.eq (g2 := F0 m 573 ls []) rfl ?_
  refine lv_aload_n hx hb d_La_law_573 rfl (lv_at hl 4 rfl) ?_
  refine fy_callV3 (As := []) (rest := []) (H := H) (lw_Y cI cW yd rg wr cr fw wt wl se qu wa pa N' C' L' nf' sp2 rw2 sq2 rx2 G2 V2 F2 row2 rowq2 f02 g02 pf2 wn02 tu02 st02 wq2 oq2 fo2 ++ [(ao, .inl (cJ, 1, .inr (.inl ou)))]) [] ⟨hx, hb, hml, hown, hts⟩ (c_Mo_thrownW l s D cI cZ cJ cW hG mo m1 m2 m3 m4 m5 m6 m7 m8 (nI k) N' C' L' nu2 va2 ag2 fi2 re2 mk2 mr2 mw2) (cwV 0 hts g_La_79 rfl rfl rfl (by decide +kernel) ⟨Nat.le_of_ble_eq_true rfl, Nat.le_of_ble_eq_true rfl⟩) hK hLa hAB hA (by rw [List.append_nil]; exact hP) (by rw [List.append_nil]; exact hD) hS (ci := 5) rfl rfl (q0 := 22) rfl rfl hl.1 rfl (Nat.le_of_ble_eq_true rfl) d_La_law_574 ⟨show _ ≤ 601024 by omega, show _ ≤ 7293034 by omega⟩ (fun r w1 H locs hp hP hD hS => ?_)
  rw [List.append_nil] at hP hD
  obtain ⟨rfl, rfl⟩ := hp
  have hP : va_P D vwCl (lw_Y cI cW yd rg wr cr fw wt wl se qu wa pa N' C' L' nf' sp2 rw2 sq2 rx2 G2 V2 F2 row2 rowq2 f02 g02 pf2 wn02 tu02 st02 wq2 oq2 fo2 ++ [(ao, .inl (cJ, 1, .inr (.inl ou)))] ++ lw_M cI cZ mo m1 m2 m3 m4 m5 m6 m7 m8 (nI k) N' C' L' nu2 va2 ag2 fi2 re2 mk2 mr2 mw2) H := hP
  have hD : va_D (fy_B s) (lw_Y cI cW yd rg wr cr fw wt wl se qu wa pa N' C' L' nf' sp2 rw2 sq2 rx2 G2 V2 F2 row2 rowq2 f02 g02 pf2 wn02 tu02 st02 wq2 oq2 fo2 ++ [(ao, .inl (cJ, 1, .inr (.inl ou)))] ++ lw_M cI cZ mo m1 m2 m3 m4 m5 m6 m7 m8 (nI k) N' C' L' nu2 va2 ag2 fi2 re2 mk2 mr2 mw2) := hD
  refine W.eq (g2 := F0 m 577 ls [.int (nI k)]) rfl ?_
  refine lv_iload hx hb d_La_law_577 (lv_at hl 0 rfl) ?_
  refine lv_icmp_eq hx hb d_La_law_579 (tgt := 584) (by decide) (fun _ => ?_) (fun h => absurd (rfl) h)
  refine lv_goto hx hb d_La_law_584 (tgt := 1034) (by decide) ?_
  refine lv_iinc (v := nI (4 * t + 4)) hx hb d_La_law_1034 hl (k := 1) rfl (by rw [show Int32.ofInt 4 = nI 4 from by decide]; exact nI_add _ _) (by decide) rfl (fun ls hl => ?_)
  have hl : lv_has ls 7 [(4, .int (nI (4 * t + 4))), (5, .int (nI k)), (0, .ref b), (1, .ref yd), (2, .ref mo), (3, .ref ao)] := hl
  refine lv_goto hx hb d_La_law_1037 (tgt := 23) (by decide) ?_
  have hl : lv_has ls 7 [(4, .int (nI (4 * (t + 1)))), (0, .ref b), (1, .ref yd), (2, .ref mo), (3, .ref ao)] := lv_sub hl [0, 2, 3, 4, 5] rfl
  exact fy_more (c' := 31 + (t + 1)) (s' := 2151 + 6 * (t + 1)) (by omega) (by omega) (ih _ _ _ ⟨N', C', L', val', age', nf', rf', reg', wk', sp2, rw2, sq2, rx2, pl2, G2, V2, F2, row2, rowq2, f02, g02, pf2, wn02, tu02, st02, wq2, oq2, fo2, nu2, va2, ag2, fi2, re2, mk2, mr2, mw2, nI k, ou, hI', hk2, hy2, hM2, hl, hP, hD, hS⟩)
set_option maxRecDepth 20000 in
set_option maxHeartbeats 4000000 in
theorem lb_watched {p : Program} {l : Launch} {e : Env} {s : State} {m : MethodId} {below : List Frame} {meth : Method} {c : Code} {Q : State → Prop} {D : va_G} {cI cZ cJ cW : ClassId} {b Ln : Nat} {xs : Nat → Int32} (hG : fy_G s D cI cZ cJ cW) (hX : fy_GX l s) (hN : fy_GC s) (hx : p.tables.exec = Jvm.exec) (hb : c.code = code) (hml : c.maxLocals = 7) (hown : s.vm.findClass "ForwardYardLaw" = some m.cls) (hts : ∀ w ∈ fy_T, w.before #[Value.ref b] s = true) (hXs : va_X b Ln xs s s.heap) (hbl : b < s.heap.size) (hL : Ln ≤ 2048) (yd rg wr cr fw wt wl se qu ao : Nat) (wa pa : Nat → Nat) (mo m1 m2 m3 m4 m5 m6 m7 m8 : Nat) (t : Nat) (ht : 4 * t + 4 ≤ Ln) (N : Nat) (C : Nat) (L : List Nat) (val : Nat → Int32) (age : Nat → Nat) (nf : Nat → Nat) (rf : Nat → Nat → Option Nat) (reg : Nat → Option Nat) (wk : Nat → Option Nat) (sp rw sq rx : Nat) (pl : Nat → Nat) (G V F row rowq f0 g0 : Nat → Int32) (pf : Nat → Nat → Int32) (wn0 tu0 st0 wq oq fo : Int32) (nu va ag fi re mk mr mw : Nat → Int32) (cd : Int32) (ou : Nat → Int64) (hI : fm_In t N C L age nf rf reg wk) (hk : fm_Ok L val age nf rf pl row) (hy : ya_R reg wk pl G V) (hM : fm_Mo L val age nf rf reg wk nu va ag fi re mr mw) {ls : Array Slot} {H : Heap} {locs : List Loc} (hl : lv_has ls 7 [(4, .int (nI (4 * t))), (0, .ref b), (1, .ref yd), (2, .ref mo), (3, .ref ao)]) (hP : va_P D vwCl (lw_Y cI cW yd rg wr cr fw wt wl se qu wa pa N C L nf sp rw sq rx G V F row rowq f0 g0 pf wn0 tu0 st0 wq oq fo ++ [(ao, .inl (cJ, 1, .inr (.inl ou)))] ++ lw_M cI cZ mo m1 m2 m3 m4 m5 m6 m7 m8 cd N C L nu va ag fi re mk mr mw) H) (hD : va_D (fy_B s) (lw_Y cI cW yd rg wr cr fw wt wl se qu wa pa N C L nf sp rw sq rx G V F row rowq f0 g0 pf wn0 tu0 st0 wq oq fo ++ [(ao, .inl (cJ, 1, .inr (.inl ou)))] ++ lw_M cI cZ mo m1 m2 m3 m4 m5 m6 m7 m8 cd N C L nu va ag fi re mk mr mw)) (hS : va_S (fy_B s) s.heap H locs) (ih : ∀ (ls : Array Slot) (H : Heap) (locs : List Loc), lw_Inv s D cI cZ cJ cW b yd rg wr cr fw wt wl se qu ao wa pa mo m1 m2 m3 m4 m5 m6 m7 m8 (t + 1) ls H locs → W p l e room_1 s m #[Value.ref b] below meth c H locs (31 + (t + 1)) (2151 + 6 * (t + 1)) Q (F0 m 23 ls [])) : W p l e room_1 s m #[Value.ref b] below meth c H locs (31 + t) (2151 + 6 * t) Q (F0 m 587 ls []) := by
  have hK : va_K D vwCl (fy_tys cI cZ cJ cW) s := hG.2
  have hLa := fy_La.rf s
  have hAB : ∀ q, fy_B s q → fy_B s q := fun _ h => h
  have hA : ∀ q, s.heap.size ≤ q → fy_B s q := fun _ h => h
  have ht5 : t < 512 := by omega
  obtain ⟨k, ans, N', C', L', val', age', nf', rf', reg', wk', ho, hk3, hI'⟩ := ft_watched hI ht5 (xs (4 * t + 1))
  refine lv_aload_n hx hb d_La_law_587 rfl (lv_at hl 2 rfl) ?_
  refine lv_aload_n hx hb d_La_law_588 rfl (lv_at hl 1 rfl) ?_
  refine lv_iload hx hb d_La_law_589 (lv_at hl 0 rfl) ?_
  refine lv_iconst (v := nI 1) hx hb d_La_law_591 (by decide) ?_
  refine lv_iadd hx hb d_La_law_592 ?_
  refine fy_top (z := nI ((4 * t) + 1)) (nI_add _ _) ?_
  refine fy_sld (A := fy_B s) hx hb hXs hbl (fun h => Nat.not_le_of_lt hbl h) hS hL (by omega) d_La_law_593 ?_
  refine lv_aload_n hx hb d_La_law_594 rfl (lv_at hl 4 rfl) ?_
  refine fy_callSW3 (As := [.ref yd, .int (xs ((4 * t) + 1)), .ref ao]) (rest := []) (H := H) [] (lw_M cI cZ mo m1 m2 m3 m4 m5 m6 m7 m8 cd N C L nu va ag fi re mk mr mw) ⟨hx, hb, hml, hown, hts⟩ (c_La_watched l s D cI cZ cJ cW hG hX hN yd rg wr cr fw wt wl se qu wa pa ao t N C L val age nf rf reg wk sp rw sq rx pl G V F row rowq f0 g0 pf wn0 tu0 st0 wq oq fo ou hI hk hy (xs (4 * t + 1)) k ans N' C' L' val' age' nf' rf' reg' wk' ho) List.mem_cons_self (fy_good (fy_w1 k_c_La_watched)) rfl rfl ⟨Nat.le_of_ble_eq_true rfl, Nat.le_of_ble_eq_true rfl⟩ (hts _ k_m_La_108) (hts _ k_s_La_watched) (hts _ k_ini_La) ⟨by decide, by decide, show (parseMethodDescriptor y_La_watched.desc).map (fun d => d.parameters.length) = some 3 by decide +kernel⟩ hLa hAB hA hP hD hS hl.1 rfl (Nat.le_of_ble_eq_true rfl) d_La_law_595 ⟨show _ ≤ 601024 by omega, show _ ≤ 7293034 by omega⟩ (fun r w1 H locs hp hP hD hS => ?_)
  obtain ⟨rfl, sp2, rw2, sq2, rx2, pl2, G2, V2, F2, row2, rowq2, f02, g02, pf2, wn02, tu02, st02, wq2, oq2, fo2, ou2, hou, hk2, hy2, rfl⟩ := hp
  have hP : va_P D vwCl (lw_Y cI cW yd rg wr cr fw wt wl se qu wa pa N' C' L' nf' sp2 rw2 sq2 rx2 G2 V2 F2 row2 rowq2 f02 g02 pf2 wn02 tu02 st02 wq2 oq2 fo2 ++ [(ao, .inl (cJ, 1, .inr (.inl ou2)))] ++ lw_M cI cZ mo m1 m2 m3 m4 m5 m6 m7 m8 cd N C L nu va ag fi re mk mr mw) H := hP
  have hD : va_D (fy_B s) (lw_Y cI cW yd rg wr cr fw wt wl se qu wa pa N' C' L' nf' sp2 rw2 sq2 rx2 G2 V2 F2 row2 rowq2 f02 g02 pf2 wn02 tu02 st02 wq2 oq2 fo2 ++ [(ao, .inl (cJ, 1, .inr (.inl ou2)))] ++ lw_M cI cZ mo m1 m2 m3 m4 m5 m6 m7 m8 cd N C L nu va ag fi re mk mr mw) := hD
  refine W.eq (g2 := F0 m 598 ls [.int (nI k)]) rfl ?_
  refine lv_istore hx hb d_La_law_598 hl (by decide) rfl (fun ls hl => ?_)
  have hl : lv_has ls 7 [(5, .int (nI k)), (4, .int (nI (4 * t))), (0, .ref b), (1, .ref yd), (2, .ref mo), (3, .ref ao)] := hl
  refine lv_aload_n hx hb d_La_law_600 rfl (lv_at hl 4 rfl) ?_
  refine lv_aload_n hx hb d_La_law_601 rfl (lv_at hl 2 rfl) ?_
  refine lv_iload hx hb d_La_law_602 (lv_at hl 1 rfl) ?_
  refine lv_iconst (v := nI 1) hx hb d_La_law_604 (by decide) ?_
  refine lv_iadd hx hb d_La_law_605 ?_
  refine fy_top (z := nI ((4 * t) + 1)) (nI_add _ _) ?_
  refine fy_sld (A := fy_B s) hx hb hXs hbl (fun h => Nat.not_le_of_lt hbl h) hS hL (by omega) d_La_law_606 ?_
  refine fy_callV3 (As := [.int (xs ((4 * t) + 1))]) (rest := []) (H := H) (lw_Y cI cW yd rg wr cr fw wt wl se qu wa pa N' C' L' nf' sp2 rw2 sq2 rx2 G2 V2 F2 row2 rowq2 f02 g02 pf2 wn02 tu02 st02 wq2 oq2 fo2 ++ [(ao, .inl (cJ, 1, .inr (.inl ou2)))]) [] ⟨hx, hb, hml, hown, hts⟩ (c_Mo_watched l s D cI cZ cJ cW hG mo m1 m2 m3 m4 m5 m6 m7 m8 cd t N C L val age nf rf reg wk nu va ag fi re mk mr mw hI hM (xs (4 * t + 1)) k ans N' C' L' val' age' nf' rf' reg' wk' ho) (cwV 1 hts g_La_110 rfl rfl rfl (by decide +kernel) ⟨Nat.le_of_ble_eq_true rfl, Nat.le_of_ble_eq_true rfl⟩) hK hLa hAB hA (by rw [List.append_nil]; exact hP) (by rw [List.append_nil]; exact hD) hS (ci := 5) rfl rfl (q0 := 22) rfl rfl hl.1 rfl (Nat.le_of_ble_eq_true rfl) d_La_law_607 ⟨show _ ≤ 601024 by omega, show _ ≤ 7293034 by omega⟩ (fun r w1 H locs hp hP hD hS => ?_)
  rw [List.append_nil] at hP hD
  obtain ⟨b9, nu2, va2, ag2, fi2, re2, mk2, mr2, mw2, hb9, rfl, hM2, rfl⟩ := hp
  have hP : va_P D vwCl (lw_Y cI cW yd rg wr cr fw wt wl se qu wa pa N' C' L' nf' sp2 rw2 sq2 rx2 G2 V2 F2 row2 rowq2 f02 g02 pf2 wn02 tu02 st02 wq2 oq2 fo2 ++ [(ao, .inl (cJ, 1, .inr (.inl ou2)))] ++ lw_M cI cZ mo m1 m2 m3 m4 m5 m6 m7 m8 (nI k) N' C' L' nu2 va2 ag2 fi2 re2 mk2 mr2 mw2) H := hP
  have hD : va_D (fy_B s) (lw_Y cI cW yd rg wr cr fw wt wl se qu wa pa N' C' L' nf' sp2 rw2 sq2 rx2 G2 V2 F2 row2 rowq2 f02 g02 pf2 wn02 tu02 st02 wq2 oq2 fo2 ++ [(ao, .inl (cJ, 1, .inr (.inl ou2)))] ++ lw_M cI cZ mo m1 m2 m3 m4 m5 m6 m7 m8 (nI k) N' C' L' nu2 va2 ag2 fi2 re2 mk2 mr2 mw2) := hD
  refine W.eq (g2 := F0 m 610 ls [.int b9]) rfl ?_
  refine lv_istore hx hb d_La_law_610 hl (by decide) rfl (fun ls hl => ?_)
  have hl : lv_has ls 7 [(6, .int b9), (5, .int (nI k)), (4, .int (nI (4 * t))), (0, .ref b), (1, .ref yd), (2, .ref mo), (3, .ref ao)] := hl
  refine lv_aload_n hx hb d_La_law_612 rfl (lv_at hl 5 rfl) ?_
  refine fy_callV3 (As := []) (rest := []) (H := H) (lw_Y cI cW yd rg wr cr fw wt wl se qu wa pa N' C' L' nf' sp2 rw2 sq2 rx2 G2 V2 F2 row2 rowq2 f02 g02 pf2 wn02 tu02 st02 wq2 oq2 fo2 ++ [(ao, .inl (cJ, 1, .inr (.inl ou2)))]) [] ⟨hx, hb, hml, hown, hts⟩ (c_Mo_thrownW l s D cI cZ cJ cW hG mo m1 m2 m3 m4 m5 m6 m7 m8 (nI k) N' C' L' nu2 va2 ag2 fi2 re2 mk2 mr2 mw2) (cwV 0 hts g_La_79 rfl rfl rfl (by decide +kernel) ⟨Nat.le_of_ble_eq_true rfl, Nat.le_of_ble_eq_true rfl⟩) hK hLa hAB hA (by rw [List.append_nil]; exact hP) (by rw [List.append_nil]; exact hD) hS (ci := 5) rfl rfl (q0 := 22) rfl rfl hl.1 rfl (Nat.le_of_ble_eq_true rfl) d_La_law_613 ⟨show _ ≤ 601024 by omega, show _ ≤ 7293034 by omega⟩ (fun r w1 H locs hp hP hD hS => ?_)
  rw [List.append_nil] at hP hD
  obtain ⟨rfl, rfl⟩ := hp
  have hP : va_P D vwCl (lw_Y cI cW yd rg wr cr fw wt wl se qu wa pa N' C' L' nf' sp2 rw2 sq2 rx2 G2 V2 F2 row2 rowq2 f02 g02 pf2 wn02 tu02 st02 wq2 oq2 fo2 ++ [(ao, .inl (cJ, 1, .inr (.inl ou2)))] ++ lw_M cI cZ mo m1 m2 m3 m4 m5 m6 m7 m8 (nI k) N' C' L' nu2 va2 ag2 fi2 re2 mk2 mr2 mw2) H := hP
  have hD : va_D (fy_B s) (lw_Y cI cW yd rg wr cr fw wt wl se qu wa pa N' C' L' nf' sp2 rw2 sq2 rx2 G2 V2 F2 row2 rowq2 f02 g02 pf2 wn02 tu02 st02 wq2 oq2 fo2 ++ [(ao, .inl (cJ, 1, .inr (.inl ou2)))] ++ lw_M cI cZ mo m1 m2 m3 m4 m5 m6 m7 m8 (nI k) N' C' L' nu2 va2 ag2 fi2 re2 mk2 mr2 mw2) := hD
  refine W.eq (g2 := F0 m 616 ls [.int (nI k)]) rfl ?_
  refine lv_iload hx hb d_La_law_616 (lv_at hl 1 rfl) ?_
  refine lv_icmp_eq hx hb d_La_law_618 (tgt := 623) (by decide) (fun _ => ?_) (fun h => absurd (rfl) h)
  refine lv_iload hx hb d_La_law_623 (lv_at hl 1 rfl) ?_
  by_cases hk0 : k = 0
  · refine lv_if_ne hx hb d_La_law_625 (tgt := 640) (by decide) (fun h => absurd (by rw [hk0]; rfl) h) (fun _ => ?_)
    refine lv_aload_n hx hb d_La_law_628 rfl (lv_at hl 6 rfl) ?_
    refine lv_iconst (v := nI 0) hx hb d_La_law_629 (by decide) ?_
    refine fy_lald (t0 := 2) (N := 1) (k := 0) (f := ou2) (v := ou2 0) hx hb hK hP 21 rfl rfl (by omega) (by omega) rfl d_La_law_630 ?_
    refine lv_iload hx hb d_La_law_631 (lv_at hl 0 rfl) ?_
    refine lv_i2l hx hb d_La_law_633 rfl ?_
    refine fy_lcmp hx hb (by rw [hou hk0, hb9 hk0]) d_La_law_634 ?_
    refine lv_if_eq hx hb d_La_law_635 (tgt := 640) (by decide) (fun _ => ?_) (fun h => absurd (rfl) h)
    refine lv_goto hx hb d_La_law_640 (tgt := 1034) (by decide) ?_
    refine lv_iinc (v := nI (4 * t + 4)) hx hb d_La_law_1034 hl (k := 2) rfl (by rw [show Int32.ofInt 4 = nI 4 from by decide]; exact nI_add _ _) (by decide) rfl (fun ls hl => ?_)
    have hl : lv_has ls 7 [(4, .int (nI (4 * t + 4))), (6, .int b9), (5, .int (nI k)), (0, .ref b), (1, .ref yd), (2, .ref mo), (3, .ref ao)] := hl
    refine lv_goto hx hb d_La_law_1037 (tgt := 23) (by decide) ?_
    have hl : lv_has ls 7 [(4, .int (nI (4 * (t + 1)))), (0, .ref b), (1, .ref yd), (2, .ref mo), (3, .ref ao)] := lv_sub hl [0, 3, 4, 5, 6] rfl
    exact fy_more (c' := 31 + (t + 1)) (s' := 2151 + 6 * (t + 1)) (by omega) (by omega) (ih _ _ _ ⟨N', C', L', val', age', nf', rf', reg', wk', sp2, rw2, sq2, rx2, pl2, G2, V2, F2, row2, rowq2, f02, g02, pf2, wn02, tu02, st02, wq2, oq2, fo2, nu2, va2, ag2, fi2, re2, mk2, mr2, mw2, nI k, ou2, hI', hk2, hy2, hM2, hl, hP, hD, hS⟩)
  · refine lv_if_ne hx hb d_La_law_625 (tgt := 640) (by decide) (fun _ => ?_) (fun h => absurd h (nI_ne0 (by omega) (by omega)))
    refine lv_goto hx hb d_La_law_640 (tgt := 1034) (by decide) ?_
    refine lv_iinc (v := nI (4 * t + 4)) hx hb d_La_law_1034 hl (k := 2) rfl (by rw [show Int32.ofInt 4 = nI 4 from by decide]; exact nI_add _ _) (by decide) rfl (fun ls hl => ?_)
    have hl : lv_has ls 7 [(4, .int (nI (4 * t + 4))), (6, .int b9), (5, .int (nI k)), (0, .ref b), (1, .ref yd), (2, .ref mo), (3, .ref ao)] := hl
    refine lv_goto hx hb d_La_law_1037 (tgt := 23) (by decide) ?_
    have hl : lv_has ls 7 [(4, .int (nI (4 * (t + 1)))), (0, .ref b), (1, .ref yd), (2, .ref mo), (3, .ref ao)] := lv_sub hl [0, 3, 4, 5, 6] rfl
    exact fy_more (c' := 31 + (t + 1)) (s' := 2151 + 6 * (t + 1)) (by omega) (by omega) (ih _ _ _ ⟨N', C', L', val', age', nf', rf', reg', wk', sp2, rw2, sq2, rx2, pl2, G2, V2, F2, row2, rowq2, f02, g02, pf2, wn02, tu02, st02, wq2, oq2, fo2, nu2, va2, ag2, fi2, re2, mk2, mr2, mw2, nI k, ou2, hI', hk2, hy2, hM2, hl, hP, hD, hS⟩)
set_option maxRecDepth 20000 in
set_option maxHeartbeats 4000000 in
theorem lb_about {p : Program} {l : Launch} {e : Env} {s : State} {m : MethodId} {below : List Frame} {meth : Method} {c : Code} {Q : State → Prop} {D : va_G} {cI cZ cJ cW : ClassId} {b Ln : Nat} {xs : Nat → Int32} (hG : fy_G s D cI cZ cJ cW) (hX : fy_GX l s) (hN : fy_GC s) (hx : p.tables.exec = Jvm.exec) (hb : c.code = code) (hml : c.maxLocals = 7) (hown : s.vm.findClass "ForwardYardLaw" = some m.cls) (hts : ∀ w ∈ fy_T, w.before #[Value.ref b] s = true) (hXs : va_X b Ln xs s s.heap) (hbl : b < s.heap.size) (hL : Ln ≤ 2048) (yd rg wr cr fw wt wl se qu ao : Nat) (wa pa : Nat → Nat) (mo m1 m2 m3 m4 m5 m6 m7 m8 : Nat) (t : Nat) (ht : 4 * t + 4 ≤ Ln) (N : Nat) (C : Nat) (L : List Nat) (val : Nat → Int32) (age : Nat → Nat) (nf : Nat → Nat) (rf : Nat → Nat → Option Nat) (reg : Nat → Option Nat) (wk : Nat → Option Nat) (sp rw sq rx : Nat) (pl : Nat → Nat) (G V F row rowq f0 g0 : Nat → Int32) (pf : Nat → Nat → Int32) (wn0 tu0 st0 wq oq fo : Int32) (nu va ag fi re mk mr mw : Nat → Int32) (cd : Int32) (ou : Nat → Int64) (hI : fm_In t N C L age nf rf reg wk) (hk : fm_Ok L val age nf rf pl row) (hy : ya_R reg wk pl G V) (hM : fm_Mo L val age nf rf reg wk nu va ag fi re mr mw) {ls : Array Slot} {H : Heap} {locs : List Loc} (hl : lv_has ls 7 [(4, .int (nI (4 * t))), (0, .ref b), (1, .ref yd), (2, .ref mo), (3, .ref ao)]) (hP : va_P D vwCl (lw_Y cI cW yd rg wr cr fw wt wl se qu wa pa N C L nf sp rw sq rx G V F row rowq f0 g0 pf wn0 tu0 st0 wq oq fo ++ [(ao, .inl (cJ, 1, .inr (.inl ou)))] ++ lw_M cI cZ mo m1 m2 m3 m4 m5 m6 m7 m8 cd N C L nu va ag fi re mk mr mw) H) (hD : va_D (fy_B s) (lw_Y cI cW yd rg wr cr fw wt wl se qu wa pa N C L nf sp rw sq rx G V F row rowq f0 g0 pf wn0 tu0 st0 wq oq fo ++ [(ao, .inl (cJ, 1, .inr (.inl ou)))] ++ lw_M cI cZ mo m1 m2 m3 m4 m5 m6 m7 m8 cd N C L nu va ag fi re mk mr mw)) (hS : va_S (fy_B s) s.heap H locs) (ih : ∀ (ls : Array Slot) (H : Heap) (locs : List Loc), lw_Inv s D cI cZ cJ cW b yd rg wr cr fw wt wl se qu ao wa pa mo m1 m2 m3 m4 m5 m6 m7 m8 (t + 1) ls H locs → W p l e room_1 s m #[Value.ref b] below meth c H locs (31 + (t + 1)) (2151 + 6 * (t + 1)) Q (F0 m 23 ls [])) : W p l e room_1 s m #[Value.ref b] below meth c H locs (31 + t) (2151 + 6 * t) Q (F0 m 643 ls []) := by
  have hK : va_K D vwCl (fy_tys cI cZ cJ cW) s := hG.2
  have hLa := fy_La.rf s
  have hAB : ∀ q, fy_B s q → fy_B s q := fun _ h => h
  have hA : ∀ q, s.heap.size ≤ q → fy_B s q := fun _ h => h
  have ht5 : t < 512 := by omega
  obtain ⟨k, ans, N', C', L', val', age', nf', rf', reg', wk', ho, hk3, hI'⟩ := ft_about hI ht5 (xs (4 * t + 1)) (xs (4 * t + 2))
  refine lv_aload_n hx hb d_La_law_643 rfl (lv_at hl 2 rfl) ?_
  refine lv_aload_n hx hb d_La_law_644 rfl (lv_at hl 1 rfl) ?_
  refine lv_iload hx hb d_La_law_645 (lv_at hl 0 rfl) ?_
  refine lv_iconst (v := nI 1) hx hb d_La_law_647 (by decide) ?_
  refine lv_iadd hx hb d_La_law_648 ?_
  refine fy_top (z := nI ((4 * t) + 1)) (nI_add _ _) ?_
  refine fy_sld (A := fy_B s) hx hb hXs hbl (fun h => Nat.not_le_of_lt hbl h) hS hL (by omega) d_La_law_649 ?_
  refine lv_aload_n hx hb d_La_law_650 rfl (lv_at hl 1 rfl) ?_
  refine lv_iload hx hb d_La_law_651 (lv_at hl 0 rfl) ?_
  refine lv_iconst (v := nI 2) hx hb d_La_law_653 (by decide) ?_
  refine lv_iadd hx hb d_La_law_654 ?_
  refine fy_top (z := nI ((4 * t) + 2)) (nI_add _ _) ?_
  refine fy_sld (A := fy_B s) hx hb hXs hbl (fun h => Nat.not_le_of_lt hbl h) hS hL (by omega) d_La_law_655 ?_
  refine lv_aload_n hx hb d_La_law_656 rfl (lv_at hl 4 rfl) ?_
  refine fy_callSW3 (As := [.ref yd, .int (xs ((4 * t) + 1)), .int (xs ((4 * t) + 2)), .ref ao]) (rest := []) (H := H) [] (lw_M cI cZ mo m1 m2 m3 m4 m5 m6 m7 m8 cd N C L nu va ag fi re mk mr mw) ⟨hx, hb, hml, hown, hts⟩ (c_La_about l s D cI cZ cJ cW hG hX hN yd rg wr cr fw wt wl se qu wa pa ao t N C L val age nf rf reg wk sp rw sq rx pl G V F row rowq f0 g0 pf wn0 tu0 st0 wq oq fo ou hI hk hy (xs (4 * t + 1)) (xs (4 * t + 2)) k ans N' C' L' val' age' nf' rf' reg' wk' ho) List.mem_cons_self (fy_good (fy_w1 k_c_La_about)) rfl rfl ⟨Nat.le_of_ble_eq_true rfl, Nat.le_of_ble_eq_true rfl⟩ (hts _ k_m_La_111) (hts _ k_s_La_about) (hts _ k_ini_La) ⟨by decide, by decide, show (parseMethodDescriptor y_La_about.desc).map (fun d => d.parameters.length) = some 4 by decide +kernel⟩ hLa hAB hA hP hD hS hl.1 rfl (Nat.le_of_ble_eq_true rfl) d_La_law_657 ⟨show _ ≤ 601024 by omega, show _ ≤ 7293034 by omega⟩ (fun r w1 H locs hp hP hD hS => ?_)
  obtain ⟨rfl, sp2, rw2, sq2, rx2, pl2, G2, V2, F2, row2, rowq2, f02, g02, pf2, wn02, tu02, st02, wq2, oq2, fo2, ou2, hou, hk2, hy2, rfl⟩ := hp
  have hP : va_P D vwCl (lw_Y cI cW yd rg wr cr fw wt wl se qu wa pa N' C' L' nf' sp2 rw2 sq2 rx2 G2 V2 F2 row2 rowq2 f02 g02 pf2 wn02 tu02 st02 wq2 oq2 fo2 ++ [(ao, .inl (cJ, 1, .inr (.inl ou2)))] ++ lw_M cI cZ mo m1 m2 m3 m4 m5 m6 m7 m8 cd N C L nu va ag fi re mk mr mw) H := hP
  have hD : va_D (fy_B s) (lw_Y cI cW yd rg wr cr fw wt wl se qu wa pa N' C' L' nf' sp2 rw2 sq2 rx2 G2 V2 F2 row2 rowq2 f02 g02 pf2 wn02 tu02 st02 wq2 oq2 fo2 ++ [(ao, .inl (cJ, 1, .inr (.inl ou2)))] ++ lw_M cI cZ mo m1 m2 m3 m4 m5 m6 m7 m8 cd N C L nu va ag fi re mk mr mw) := hD
  refine W.eq (g2 := F0 m 660 ls [.int (nI k)]) rfl ?_
  refine lv_istore hx hb d_La_law_660 hl (by decide) rfl (fun ls hl => ?_)
  have hl : lv_has ls 7 [(5, .int (nI k)), (4, .int (nI (4 * t))), (0, .ref b), (1, .ref yd), (2, .ref mo), (3, .ref ao)] := hl
  refine lv_aload_n hx hb d_La_law_662 rfl (lv_at hl 4 rfl) ?_
  refine lv_aload_n hx hb d_La_law_663 rfl (lv_at hl 2 rfl) ?_
  refine lv_iload hx hb d_La_law_664 (lv_at hl 1 rfl) ?_
  refine lv_iconst (v := nI 1) hx hb d_La_law_666 (by decide) ?_
  refine lv_iadd hx hb d_La_law_667 ?_
  refine fy_top (z := nI ((4 * t) + 1)) (nI_add _ _) ?_
  refine fy_sld (A := fy_B s) hx hb hXs hbl (fun h => Nat.not_le_of_lt hbl h) hS hL (by omega) d_La_law_668 ?_
  refine lv_aload_n hx hb d_La_law_669 rfl (lv_at hl 2 rfl) ?_
  refine lv_iload hx hb d_La_law_670 (lv_at hl 1 rfl) ?_
  refine lv_iconst (v := nI 2) hx hb d_La_law_672 (by decide) ?_
  refine lv_iadd hx hb d_La_law_673 ?_
  refine fy_top (z := nI ((4 * t) + 2)) (nI_add _ _) ?_
  refine fy_sld (A := fy_B s) hx hb hXs hbl (fun h => Nat.not_le_of_lt hbl h) hS hL (by omega) d_La_law_674 ?_
  refine fy_callV3 (As := [.int (xs ((4 * t) + 1)), .int (xs ((4 * t) + 2))]) (rest := []) (H := H) (lw_Y cI cW yd rg wr cr fw wt wl se qu wa pa N' C' L' nf' sp2 rw2 sq2 rx2 G2 V2 F2 row2 rowq2 f02 g02 pf2 wn02 tu02 st02 wq2 oq2 fo2 ++ [(ao, .inl (cJ, 1, .inr (.inl ou2)))]) [] ⟨hx, hb, hml, hown, hts⟩ (c_Mo_about l s D cI cZ cJ cW hG mo m1 m2 m3 m4 m5 m6 m7 m8 cd t N C L val age nf rf reg wk nu va ag fi re mk mr mw hI hM (xs (4 * t + 1)) (xs (4 * t + 2)) k ans N' C' L' val' age' nf' rf' reg' wk' ho) (cwV 2 hts g_La_113 rfl rfl rfl (by decide +kernel) ⟨Nat.le_of_ble_eq_true rfl, Nat.le_of_ble_eq_true rfl⟩) hK hLa hAB hA (by rw [List.append_nil]; exact hP) (by rw [List.append_nil]; exact hD) hS (ci := 5) rfl rfl (q0 := 22) rfl rfl hl.1 rfl (Nat.le_of_ble_eq_true rfl) d_La_law_675 ⟨show _ ≤ 601024 by omega, show _ ≤ 7293034 by omega⟩ (fun r w1 H locs hp hP hD hS => ?_)
  rw [List.append_nil] at hP hD
  obtain ⟨b9, nu2, va2, ag2, fi2, re2, mk2, mr2, mw2, hb9, rfl, hM2, rfl⟩ := hp
  have hP : va_P D vwCl (lw_Y cI cW yd rg wr cr fw wt wl se qu wa pa N' C' L' nf' sp2 rw2 sq2 rx2 G2 V2 F2 row2 rowq2 f02 g02 pf2 wn02 tu02 st02 wq2 oq2 fo2 ++ [(ao, .inl (cJ, 1, .inr (.inl ou2)))] ++ lw_M cI cZ mo m1 m2 m3 m4 m5 m6 m7 m8 (nI k) N' C' L' nu2 va2 ag2 fi2 re2 mk2 mr2 mw2) H := hP
  have hD : va_D (fy_B s) (lw_Y cI cW yd rg wr cr fw wt wl se qu wa pa N' C' L' nf' sp2 rw2 sq2 rx2 G2 V2 F2 row2 rowq2 f02 g02 pf2 wn02 tu02 st02 wq2 oq2 fo2 ++ [(ao, .inl (cJ, 1, .inr (.inl ou2)))] ++ lw_M cI cZ mo m1 m2 m3 m4 m5 m6 m7 m8 (nI k) N' C' L' nu2 va2 ag2 fi2 re2 mk2 mr2 mw2) := hD
  refine W.eq (g2 := F0 m 678 ls [.int b9]) rfl ?_
  refine lv_istore hx hb d_La_law_678 hl (by decide) rfl (fun ls hl => ?_)
  have hl : lv_has ls 7 [(6, .int b9), (5, .int (nI k)), (4, .int (nI (4 * t))), (0, .ref b), (1, .ref yd), (2, .ref mo), (3, .ref ao)] := hl
  refine lv_aload_n hx hb d_La_law_680 rfl (lv_at hl 5 rfl) ?_
  refine fy_callV3 (As := []) (rest := []) (H := H) (lw_Y cI cW yd rg wr cr fw wt wl se qu wa pa N' C' L' nf' sp2 rw2 sq2 rx2 G2 V2 F2 row2 rowq2 f02 g02 pf2 wn02 tu02 st02 wq2 oq2 fo2 ++ [(ao, .inl (cJ, 1, .inr (.inl ou2)))]) [] ⟨hx, hb, hml, hown, hts⟩ (c_Mo_thrownW l s D cI cZ cJ cW hG mo m1 m2 m3 m4 m5 m6 m7 m8 (nI k) N' C' L' nu2 va2 ag2 fi2 re2 mk2 mr2 mw2) (cwV 0 hts g_La_79 rfl rfl rfl (by decide +kernel) ⟨Nat.le_of_ble_eq_true rfl, Nat.le_of_ble_eq_true rfl⟩) hK hLa hAB hA (by rw [List.append_nil]; exact hP) (by rw [List.append_nil]; exact hD) hS (ci := 5) rfl rfl (q0 := 22) rfl rfl hl.1 rfl (Nat.le_of_ble_eq_true rfl) d_La_law_681 ⟨show _ ≤ 601024 by omega, show _ ≤ 7293034 by omega⟩ (fun r w1 H locs hp hP hD hS => ?_)
  rw [List.append_nil] at hP hD
  obtain ⟨rfl, rfl⟩ := hp
  have hP : va_P D vwCl (lw_Y cI cW yd rg wr cr fw wt wl se qu wa pa N' C' L' nf' sp2 rw2 sq2 rx2 G2 V2 F2 row2 rowq2 f02 g02 pf2 wn02 tu02 st02 wq2 oq2 fo2 ++ [(ao, .inl (cJ, 1, .inr (.inl ou2)))] ++ lw_M cI cZ mo m1 m2 m3 m4 m5 m6 m7 m8 (nI k) N' C' L' nu2 va2 ag2 fi2 re2 mk2 mr2 mw2) H := hP
  have hD : va_D (fy_B s) (lw_Y cI cW yd rg wr cr fw wt wl se qu wa pa N' C' L' nf' sp2 rw2 sq2 rx2 G2 V2 F2 row2 rowq2 f02 g02 pf2 wn02 tu02 st02 wq2 oq2 fo2 ++ [(ao, .inl (cJ, 1, .inr (.inl ou2)))] ++ lw_M cI cZ mo m1 m2 m3 m4 m5 m6 m7 m8 (nI k) N' C' L' nu2 va2 ag2 fi2 re2 mk2 mr2 mw2) := hD
  refine W.eq (g2 := F0 m 684 ls [.int (nI k)]) rfl ?_
  refine lv_iload hx hb d_La_law_684 (lv_at hl 1 rfl) ?_
  refine lv_icmp_eq hx hb d_La_law_686 (tgt := 691) (by decide) (fun _ => ?_) (fun h => absurd (rfl) h)
  refine lv_iload hx hb d_La_law_691 (lv_at hl 1 rfl) ?_
  by_cases hk0 : k = 0
  · refine lv_if_ne hx hb d_La_law_693 (tgt := 708) (by decide) (fun h => absurd (by rw [hk0]; rfl) h) (fun _ => ?_)
    refine lv_aload_n hx hb d_La_law_696 rfl (lv_at hl 6 rfl) ?_
    refine lv_iconst (v := nI 0) hx hb d_La_law_697 (by decide) ?_
    refine fy_lald (t0 := 2) (N := 1) (k := 0) (f := ou2) (v := ou2 0) hx hb hK hP 21 rfl rfl (by omega) (by omega) rfl d_La_law_698 ?_
    refine lv_iload hx hb d_La_law_699 (lv_at hl 0 rfl) ?_
    refine lv_i2l hx hb d_La_law_701 rfl ?_
    refine fy_lcmp hx hb (by rw [hou hk0, hb9 hk0]) d_La_law_702 ?_
    refine lv_if_eq hx hb d_La_law_703 (tgt := 708) (by decide) (fun _ => ?_) (fun h => absurd (rfl) h)
    refine lv_goto hx hb d_La_law_708 (tgt := 1034) (by decide) ?_
    refine lv_iinc (v := nI (4 * t + 4)) hx hb d_La_law_1034 hl (k := 2) rfl (by rw [show Int32.ofInt 4 = nI 4 from by decide]; exact nI_add _ _) (by decide) rfl (fun ls hl => ?_)
    have hl : lv_has ls 7 [(4, .int (nI (4 * t + 4))), (6, .int b9), (5, .int (nI k)), (0, .ref b), (1, .ref yd), (2, .ref mo), (3, .ref ao)] := hl
    refine lv_goto hx hb d_La_law_1037 (tgt := 23) (by decide) ?_
    have hl : lv_has ls 7 [(4, .int (nI (4 * (t + 1)))), (0, .ref b), (1, .ref yd), (2, .ref mo), (3, .ref ao)] := lv_sub hl [0, 3, 4, 5, 6] rfl
    exact fy_more (c' := 31 + (t + 1)) (s' := 2151 + 6 * (t + 1)) (by omega) (by omega) (ih _ _ _ ⟨N', C', L', val', age', nf', rf', reg', wk', sp2, rw2, sq2, rx2, pl2, G2, V2, F2, row2, rowq2, f02, g02, pf2, wn02, tu02, st02, wq2, oq2, fo2, nu2, va2, ag2, fi2, re2, mk2, mr2, mw2, nI k, ou2, hI', hk2, hy2, hM2, hl, hP, hD, hS⟩)
  · refine lv_if_ne hx hb d_La_law_693 (tgt := 708) (by decide) (fun _ => ?_) (fun h => absurd h (nI_ne0 (by omega) (by omega)))
    refine lv_goto hx hb d_La_law_708 (tgt := 1034) (by decide) ?_
    refine lv_iinc (v := nI (4 * t + 4)) hx hb d_La_law_1034 hl (k := 2) rfl (by rw [show Int32.ofInt 4 = nI 4 from by decide]; exact nI_add _ _) (by decide) rfl (fun ls hl => ?_)
    have hl : lv_has ls 7 [(4, .int (nI (4 * t + 4))), (6, .int b9), (5, .int (nI k)), (0, .ref b), (1, .ref yd), (2, .ref mo), (3, .ref ao)] := hl
    refine lv_goto hx hb d_La_law_1037 (tgt := 23) (by decide) ?_
    have hl : lv_has ls 7 [(4, .int (nI (4 * (t + 1)))), (0, .ref b), (1, .ref yd), (2, .ref mo), (3, .ref ao)] := lv_sub hl [0, 3, 4, 5, 6] rfl
    exact fy_more (c' := 31 + (t + 1)) (s' := 2151 + 6 * (t + 1)) (by omega) (by omega) (ih _ _ _ ⟨N', C', L', val', age', nf', rf', reg', wk', sp2, rw2, sq2, rx2, pl2, G2, V2, F2, row2, rowq2, f02, g02, pf2, wn02, tu02, st02, wq2, oq2, fo2, nu2, va2, ag2, fi2, re2, mk2, mr2, mw2, nI k, ou2, hI', hk2, hy2, hM2, hl, hP, hD, hS⟩)
