theorem fy_lgo {t Ln : Nat} (h : 4 * t + 4 ≤ Ln) (hL : Ln ≤ 2048) : ¬ nI (Ln - 4) < nI (4 * t) := fun q => by
  have := (nI_ltI (by omega) (by omega)).mp q
  omega
theorem fy_lexit {t Ln : Nat} (h : ¬ 4 * t + 4 ≤ Ln) (hL : Ln ≤ 2048) (ht : t ≤ 512) : nI Ln - nI 4 < nI (4 * t) := by
  rw [Int32.lt_iff_toInt_lt, pk_sub_toInt (by omega) (by omega), nI_toInt (by omega)]
  omega
set_option maxRecDepth 20000 in
set_option maxHeartbeats 4000000 in
theorem lw_loop {p : Program} {l : Launch} {e : Env} {s : State} {m : MethodId} {below : List Frame} {meth : Method} {c : Code} {D : va_G} {cI cZ cJ cW : ClassId} {b Ln : Nat} {xs : Nat → Int32} (hG : fy_G s D cI cZ cJ cW) (hX : fy_GX l s) (hN : fy_GC s) (hx : p.tables.exec = Jvm.exec) (hb : c.code = code) (hml : c.maxLocals = 7) (hown : s.vm.findClass "ForwardYardLaw" = some m.cls) (hts : ∀ w ∈ fy_T, w.before #[Value.ref b] s = true) (hXs : va_X b Ln xs s s.heap) (hbl : b < s.heap.size) (hL : Ln ≤ 2048) (yd rg wr cr fw wt wl se qu ao : Nat) (wa pa : Nat → Nat) (mo m1 m2 m3 m4 m5 m6 m7 m8 : Nat) (hr : meth.sig.returnType = ret) (hlocks : meth.locks = false) : ∀ (n t : Nat) (ls : Array Slot) (H : Heap) (locs : List Loc), 600 - t < n → lw_Inv s D cI cZ cJ cW b yd rg wr cr fw wt wl se qu ao wa pa mo m1 m2 m3 m4 m5 m6 m7 m8 t ls H locs → W p l e room_1 s m #[Value.ref b] below meth c H locs (31 + t) (2151 + 6 * t) (lw_Z below #[Value.ref b] s) (F0 m 23 ls []) := by
  intro n
  induction n with
  | zero => intro t ls H locs h; exact absurd h (Nat.not_lt_zero _)
  | succ n ih =>
    intro t ls H locs hn hInv
    obtain ⟨N, C, L, val, age, nf, rf, reg, wk, sp, rw, sq, rx, pl, G, V, F, row, rowq, f0, g0, pf, wn0, tu0, st0, wq, oq, fo, nu, va, ag, fi, re, mk, mr, mw, cd, ou, hI, hk, hy, hM, hl, hP, hD, hS⟩ := hInv
    have hK : va_K D vwCl (fy_tys cI cZ cJ cW) s := hG.2
    have ht2 := hI.2.2.1
    have hl : lv_has ls 7 [(4, .int (nI (4 * t))), (0, .ref b), (1, .ref yd), (2, .ref mo), (3, .ref ao)] := hl
    have hb : c.code = code := hb
    refine lv_iload hx hb d_La_law_23 (lv_at hl 0 rfl) ?_
    refine lv_aload_n hx hb d_La_law_25 rfl (lv_at hl 1 rfl) ?_
    refine fy_slen (A := fy_B s) hx hb hXs hbl (fun h => Nat.not_le_of_lt hbl h) hS d_La_law_26 ?_
    refine lv_iconst (v := nI 4) hx hb d_La_law_27 (by decide) ?_
    refine lv_isub hx hb d_La_law_28 ?_
    by_cases hc : 4 * t + 4 ≤ Ln
    · have ht5 : t < 512 := by omega
      refine lv_icmp_gt hx hb d_La_law_29 (tgt := 1040) (by decide) (fun h => absurd h (by rw [pk_sub (by omega)]; exact fy_lgo hc hL)) (fun _ => ?_)
      refine lv_aload_n hx hb d_La_law_32 rfl (lv_at hl 1 rfl) ?_
      refine lv_iload hx hb d_La_law_33 (lv_at hl 0 rfl) ?_
      refine fy_sld (A := fy_B s) hx hb hXs hbl (fun h => Nat.not_le_of_lt hbl h) hS hL (by omega) d_La_law_35 ?_
      refine lv_bipush (v := nI 15) hx hb d_La_law_36 (by decide) ?_
      refine lv_iand hx hb d_La_law_38 ?_
      obtain ⟨j, hj, he⟩ := pk_andE (xs (4 * t)) (m := nI 15) 4 (by decide)
      refine fy_top (z := nI j) (he) ?_
      have hj : j < 16 := hj
      rcases (show j = 0 ∨ j = 1 ∨ j = 2 ∨ j = 3 ∨ j = 4 ∨ j = 5 ∨ j = 6 ∨ j = 7 ∨ j = 8 ∨ j = 9 ∨ j = 10 ∨ j = 11 ∨ j = 12 ∨ j = 13 ∨ j = 14 ∨ j = 15 by omega) with rfl | rfl | rfl | rfl | rfl | rfl | rfl | rfl | rfl | rfl | rfl | rfl | rfl | rfl | rfl | rfl
      · refine lv_tableIn hx hb (tgt := 112) d_La_law_39 (by decide) (by decide) rfl (by decide) ?_
        exact lb_make hG hX hN hx hb hml hown hts hXs hbl hL yd rg wr cr fw wt wl se qu ao wa pa mo m1 m2 m3 m4 m5 m6 m7 m8 t hc N C L val age nf rf reg wk sp rw sq rx pl G V F row rowq f0 g0 pf wn0 tu0 st0 wq oq fo nu va ag fi re mk mr mw cd ou hI hk hy hM hl hP hD hS (fun ls2 H2 locs2 h2 => ih (t + 1) ls2 H2 locs2 (by omega) h2)
      · refine lv_tableIn hx hb (tgt := 192) d_La_law_39 (by decide) (by decide) rfl (by decide) ?_
        exact lb_set hG hX hN hx hb hml hown hts hXs hbl hL yd rg wr cr fw wt wl se qu ao wa pa mo m1 m2 m3 m4 m5 m6 m7 m8 t hc N C L val age nf rf reg wk sp rw sq rx pl G V F row rowq f0 g0 pf wn0 tu0 st0 wq oq fo nu va ag fi re mk mr mw cd ou hI hk hy hM hl hP hD hS (fun ls2 H2 locs2 h2 => ih (t + 1) ls2 H2 locs2 (by omega) h2)
      · refine lv_tableIn hx hb (tgt := 252) d_La_law_39 (by decide) (by decide) rfl (by decide) ?_
        exact lb_get hG hX hN hx hb hml hown hts hXs hbl hL yd rg wr cr fw wt wl se qu ao wa pa mo m1 m2 m3 m4 m5 m6 m7 m8 t hc N C L val age nf rf reg wk sp rw sq rx pl G V F row rowq f0 g0 pf wn0 tu0 st0 wq oq fo nu va ag fi re mk mr mw cd ou hI hk hy hM hl hP hD hS (fun ls2 H2 locs2 h2 => ih (t + 1) ls2 H2 locs2 (by omega) h2)
      · refine lv_tableIn hx hb (tgt := 312) d_La_law_39 (by decide) (by decide) rfl (by decide) ?_
        exact lb_copy hG hX hN hx hb hml hown hts hXs hbl hL yd rg wr cr fw wt wl se qu ao wa pa mo m1 m2 m3 m4 m5 m6 m7 m8 t hc N C L val age nf rf reg wk sp rw sq rx pl G V F row rowq f0 g0 pf wn0 tu0 st0 wq oq fo nu va ag fi re mk mr mw cd ou hI hk hy hM hl hP hD hS (fun ls2 H2 locs2 h2 => ih (t + 1) ls2 H2 locs2 (by omega) h2)
      · refine lv_tableIn hx hb (tgt := 360) d_La_law_39 (by decide) (by decide) rfl (by decide) ?_
        exact lb_clear hG hX hN hx hb hml hown hts hXs hbl hL yd rg wr cr fw wt wl se qu ao wa pa mo m1 m2 m3 m4 m5 m6 m7 m8 t hc N C L val age nf rf reg wk sp rw sq rx pl G V F row rowq f0 g0 pf wn0 tu0 st0 wq oq fo nu va ag fi re mk mr mw cd ou hI hk hy hM hl hP hD hS (fun ls2 H2 locs2 h2 => ih (t + 1) ls2 H2 locs2 (by omega) h2)
      · refine lv_tableIn hx hb (tgt := 423) d_La_law_39 (by decide) (by decide) rfl (by decide) ?_
        exact lb_write hG hX hN hx hb hml hown hts hXs hbl hL yd rg wr cr fw wt wl se qu ao wa pa mo m1 m2 m3 m4 m5 m6 m7 m8 t hc N C L val age nf rf reg wk sp rw sq rx pl G V F row rowq f0 g0 pf wn0 tu0 st0 wq oq fo nu va ag fi re mk mr mw cd ou hI hk hy hM hl hP hD hS (fun ls2 H2 locs2 h2 => ih (t + 1) ls2 H2 locs2 (by omega) h2)
      · refine lv_tableIn hx hb (tgt := 491) d_La_law_39 (by decide) (by decide) rfl (by decide) ?_
        exact lb_watch hG hX hN hx hb hml hown hts hXs hbl hL yd rg wr cr fw wt wl se qu ao wa pa mo m1 m2 m3 m4 m5 m6 m7 m8 t hc N C L val age nf rf reg wk sp rw sq rx pl G V F row rowq f0 g0 pf wn0 tu0 st0 wq oq fo nu va ag fi re mk mr mw cd ou hI hk hy hM hl hP hD hS (fun ls2 H2 locs2 h2 => ih (t + 1) ls2 H2 locs2 (by omega) h2)
      · refine lv_tableIn hx hb (tgt := 539) d_La_law_39 (by decide) (by decide) rfl (by decide) ?_
        exact lb_revive hG hX hN hx hb hml hown hts hXs hbl hL yd rg wr cr fw wt wl se qu ao wa pa mo m1 m2 m3 m4 m5 m6 m7 m8 t hc N C L val age nf rf reg wk sp rw sq rx pl G V F row rowq f0 g0 pf wn0 tu0 st0 wq oq fo nu va ag fi re mk mr mw cd ou hI hk hy hM hl hP hD hS (fun ls2 H2 locs2 h2 => ih (t + 1) ls2 H2 locs2 (by omega) h2)
      · refine lv_tableIn hx hb (tgt := 587) d_La_law_39 (by decide) (by decide) rfl (by decide) ?_
        exact lb_watched hG hX hN hx hb hml hown hts hXs hbl hL yd rg wr cr fw wt wl se qu ao wa pa mo m1 m2 m3 m4 m5 m6 m7 m8 t hc N C L val age nf rf reg wk sp rw sq rx pl G V F row rowq f0 g0 pf wn0 tu0 st0 wq oq fo nu va ag fi re mk mr mw cd ou hI hk hy hM hl hP hD hS (fun ls2 H2 locs2 h2 => ih (t + 1) ls2 H2 locs2 (by omega) h2)
      · refine lv_tableIn hx hb (tgt := 643) d_La_law_39 (by decide) (by decide) rfl (by decide) ?_
        exact lb_about hG hX hN hx hb hml hown hts hXs hbl hL yd rg wr cr fw wt wl se qu ao wa pa mo m1 m2 m3 m4 m5 m6 m7 m8 t hc N C L val age nf rf reg wk sp rw sq rx pl G V F row rowq f0 g0 pf wn0 tu0 st0 wq oq fo nu va ag fi re mk mr mw cd ou hI hk hy hM hl hP hD hS (fun ls2 H2 locs2 h2 => ih (t + 1) ls2 H2 locs2 (by omega) h2)
      · refine lv_tableIn hx hb (tgt := 711) d_La_law_39 (by decide) (by decide) rfl (by decide) ?_
        exact lb_field hG hX hN hx hb hml hown hts hXs hbl hL yd rg wr cr fw wt wl se qu ao wa pa mo m1 m2 m3 m4 m5 m6 m7 m8 t hc N C L val age nf rf reg wk sp rw sq rx pl G V F row rowq f0 g0 pf wn0 tu0 st0 wq oq fo nu va ag fi re mk mr mw cd ou hI hk hy hM hl hP hD hS (fun ls2 H2 locs2 h2 => ih (t + 1) ls2 H2 locs2 (by omega) h2)
      · refine lv_tableIn hx hb (tgt := 779) d_La_law_39 (by decide) (by decide) rfl (by decide) ?_
        exact lb_same hG hX hN hx hb hml hown hts hXs hbl hL yd rg wr cr fw wt wl se qu ao wa pa mo m1 m2 m3 m4 m5 m6 m7 m8 t hc N C L val age nf rf reg wk sp rw sq rx pl G V F row rowq f0 g0 pf wn0 tu0 st0 wq oq fo nu va ag fi re mk mr mw cd ou hI hk hy hM hl hP hD hS (fun ls2 H2 locs2 h2 => ih (t + 1) ls2 H2 locs2 (by omega) h2)
      · refine lv_tableIn hx hb (tgt := 854) d_La_law_39 (by decide) (by decide) rfl (by decide) ?_
        exact lb_reach hG hX hN hx hb hml hown hts hXs hbl hL yd rg wr cr fw wt wl se qu ao wa pa mo m1 m2 m3 m4 m5 m6 m7 m8 t hc N C L val age nf rf reg wk sp rw sq rx pl G V F row rowq f0 g0 pf wn0 tu0 st0 wq oq fo nu va ag fi re mk mr mw cd ou hI hk hy hM hl hP hD hS (fun ls2 H2 locs2 h2 => ih (t + 1) ls2 H2 locs2 (by omega) h2)
      · refine lv_tableIn hx hb (tgt := 910) d_La_law_39 (by decide) (by decide) rfl (by decide) ?_
        exact lb_collect hG hX hN hx hb hml hown hts hXs hbl hL yd rg wr cr fw wt wl se qu ao wa pa mo m1 m2 m3 m4 m5 m6 m7 m8 t hc N C L val age nf rf reg wk sp rw sq rx pl G V F row rowq f0 g0 pf wn0 tu0 st0 wq oq fo nu va ag fi re mk mr mw cd ou hI hk hy hM hl hP hD hS (fun ls2 H2 locs2 h2 => ih (t + 1) ls2 H2 locs2 (by omega) h2)
      · refine lv_tableIn hx hb (tgt := 978) d_La_law_39 (by decide) (by decide) rfl (by decide) ?_
        exact lb_figure hG hX hN hx hb hml hown hts hXs hbl hL yd rg wr cr fw wt wl se qu ao wa pa mo m1 m2 m3 m4 m5 m6 m7 m8 t hc N C L val age nf rf reg wk sp rw sq rx pl G V F row rowq f0 g0 pf wn0 tu0 st0 wq oq fo nu va ag fi re mk mr mw cd ou hI hk hy hM hl hP hD hS (fun ls2 H2 locs2 h2 => ih (t + 1) ls2 H2 locs2 (by omega) h2)
      · refine lv_tableOut hx hb (tgt := 1034) d_La_law_39 (by decide) (by decide) ?_
        refine lv_iinc (v := nI (4 * t + 4)) hx hb d_La_law_1034 hl (k := 0) rfl (by rw [show Int32.ofInt 4 = nI 4 from by decide]; exact nI_add _ _) (by decide) rfl (fun ls hl => ?_)
        have hl : lv_has ls 7 [(4, .int (nI (4 * (t + 1)))), (0, .ref b), (1, .ref yd), (2, .ref mo), (3, .ref ao)] := hl
        refine lv_goto hx hb d_La_law_1037 (tgt := 23) (by decide) ?_
        exact fy_more (c' := 31 + (t + 1)) (s' := 2151 + 6 * (t + 1)) (by omega) (by omega) (ih (t + 1) _ _ _ (by omega) ⟨N, C, L, val, age, nf, rf, reg, wk, sp, rw, sq, rx, pl, G, V, F, row, rowq, f0, g0, pf, wn0, tu0, st0, wq, oq, fo, nu, va, ag, fi, re, mk, mr, mw, cd, ou, hI.up ht5, hk, hy, hM, hl, hP, hD, hS⟩)
    · refine lv_icmp_gt hx hb d_La_law_29 (tgt := 1040) (by decide) (fun _ => ?_) (fun h => absurd (fy_lexit hc hL (by omega)) h)
      refine lv_iconst (v := nI 1) hx hb d_La_law_1040 (by decide) ?_
      refine va_forget (fun q hq => hS.2.2 q hq) (W.widen (k := 601024) (n := 7293034) (by omega) (by omega) ?_)
      refine W.eq (g2 := F0 m 1041 ls [.int 1]) rfl ?_
      exact lw_ret hx hb hr hlocks d_La_law_1041
