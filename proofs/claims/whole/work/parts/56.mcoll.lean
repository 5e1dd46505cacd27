set_option maxRecDepth 20000 in
set_option maxHeartbeats 4000000 in
theorem c_Mo_collect_0 (l : Launch) (s0 : State) (D : va_G) (cI cZ cJ cW : ClassId) (hG : fy_G s0 D cI cZ cJ cW) (mo m1 m2 m3 m4 m5 m6 m7 m8 : Nat) (cd : Int32) (i : Nat) (N : Nat) (C : Nat) (L : List Nat) (val : Nat → Int32) (age : Nat → Nat) (nf : Nat → Nat) (rf : Nat → Nat → Option Nat) (reg : Nat → Option Nat) (wk : Nat → Option Nat) (nu va ag fi re mk mr mw : Nat → Int32) (hI : fm_In i N C L age nf rf reg wk) (hM : fm_Mo L val age nf rf reg wk nu va ag fi re mr mw) (a1 a2 : Int32) (ans : Int32) (q1 : ¬ (nI 1 ≤ a1 ∧ a1 ≤ nI 4)) : fy_Met l s0 D vwCl y_Mo_collect w_Mo_collect (fy_rm 2) 0 0 [.ref mo, .int a1, .int a2] [(mo, .inr (5, [.int cd, .int (nI N), .int (nI C), .int (nI L.length), .ref m1, .ref m2, .ref m3, .ref m4, .ref m5, .ref m6, .ref m7, .ref m8])), (m1, .inl (cI, 80, .inl nu)), (m2, .inl (cI, 80, .inl va)), (m3, .inl (cI, 80, .inl ag)), (m4, .inl (cI, 80, .inl fi)), (m5, .inl (cI, 320, .inl re)), (m6, .inl (cZ, 80, .inl mk)), (m7, .inl (cI, 8, .inl mr)), (m8, .inl (cI, 4, .inl mw))] (fun r w1 => mo_post (fun b => some (.int b)) mo m1 m2 m3 m4 m5 m6 m7 m8 cI cZ 1 ans N C L val age nf rf reg wk r w1) := by
  refine fy_st (bytes := b_Mo_collect) (maxL := 6) (ret := some .int) hG (by decide) rfl (Nat.le_of_ble_eq_true rfl) ?_
  intro p e s m below meth c A ls hx hb hr hlocks hml hown hts hK hLa hAe hAB hA hl hP hD hS
  have hl : lv_has ls 6 [(0, .ref mo), (1, .int a1), (2, .int a2)] := hl
  refine lv_aload_n hx hb d_Mo_collect_0 rfl (lv_at hl 0 rfl) ?_
  refine lv_iload_n hx hb d_Mo_collect_1 rfl (lv_at hl 1 rfl) ?_
  refine lv_iconst (v := nI 1) hx hb d_Mo_collect_2 (by decide) ?_
  refine lv_icmp_lt hx hb d_Mo_collect_3 (tgt := 11) (by decide) (fun hc => ?_) (fun hc => ?_)
  · refine lv_iconst (v := nI 1) hx hb d_Mo_collect_11 (by decide) ?_
    refine lv_goto hx hb d_Mo_collect_12 (tgt := 16) (by decide) ?_
    refine va_put (D := D) (ci := 5) (v := .int (nI 1)) (ty := .int) (C := R_Mo) (T := F_Mo) (N := 12) hx hb hts i_Mo t_Mo tk_Mo n_Mo hown hK hP hD hS 0 rfl rfl 0 (by decide) (hts _ k_f_Mo_35) (fun _ h9 => h9) rfl (by decide +kernel) rfl rfl (Nat.le_of_ble_eq_true rfl) d_Mo_collect_16 (fun H locs hP hD hS => ?_)
    have hP : va_P D vwCl [(mo, .inr (5, [.int (nI 1), .int (nI N), .int (nI C), .int (nI L.length), .ref m1, .ref m2, .ref m3, .ref m4, .ref m5, .ref m6, .ref m7, .ref m8])), (m1, .inl (cI, 80, .inl nu)), (m2, .inl (cI, 80, .inl va)), (m3, .inl (cI, 80, .inl ag)), (m4, .inl (cI, 80, .inl fi)), (m5, .inl (cI, 320, .inl re)), (m6, .inl (cZ, 80, .inl mk)), (m7, .inl (cI, 8, .inl mr)), (m8, .inl (cI, 4, .inl mw))] H := hP
    have hD : va_D A [(mo, .inr (5, [.int (nI 1), .int (nI N), .int (nI C), .int (nI L.length), .ref m1, .ref m2, .ref m3, .ref m4, .ref m5, .ref m6, .ref m7, .ref m8])), (m1, .inl (cI, 80, .inl nu)), (m2, .inl (cI, 80, .inl va)), (m3, .inl (cI, 80, .inl ag)), (m4, .inl (cI, 80, .inl fi)), (m5, .inl (cI, 320, .inl re)), (m6, .inl (cZ, 80, .inl mk)), (m7, .inl (cI, 8, .inl mr)), (m8, .inl (cI, 4, .inl mw))] := hD
    refine lv_aload_n hx hb d_Mo_collect_19 rfl (lv_at hl 0 rfl) ?_
    refine va_get (D := D) (ci := 5) (v := .int (nI 1)) (C := R_Mo) (T := F_Mo) (N := 12) hx hb hts i_Mo hown hK hP 0 rfl rfl 0 (by decide) (hts _ k_f_Mo_35) (fun _ h9 => h9) rfl d_Mo_collect_20 ?_
    refine lv_if_le hx hb d_Mo_collect_23 (tgt := 28) (by decide) (fun h => absurd h (by decide)) (fun _ => ?_)
    refine lv_iconst (v := nI 0) hx hb d_Mo_collect_26 (by decide) ?_
    exact fy_reti hx hb hr hlocks hAe (⟨nI 0, nu, va, ag, fi, re, mk, mr, mw, (fun h => absurd h (by decide)), rfl, hM, rfl⟩) (List.Perm.refl _) hP hS d_Mo_collect_27
  · refine lv_iload_n hx hb d_Mo_collect_6 rfl (lv_at hl 1 rfl) ?_
    refine lv_iconst (v := nI 4) hx hb d_Mo_collect_7 (by decide) ?_
    refine lv_icmp_le hx hb d_Mo_collect_8 (tgt := 15) (by decide) (fun h => absurd h (fun h => q1 ⟨Int32.not_lt.mp hc, h⟩)) (fun _ => ?_)
    refine lv_iconst (v := nI 1) hx hb d_Mo_collect_11 (by decide) ?_
    refine lv_goto hx hb d_Mo_collect_12 (tgt := 16) (by decide) ?_
    refine va_put (D := D) (ci := 5) (v := .int (nI 1)) (ty := .int) (C := R_Mo) (T := F_Mo) (N := 12) hx hb hts i_Mo t_Mo tk_Mo n_Mo hown hK hP hD hS 0 rfl rfl 0 (by decide) (hts _ k_f_Mo_35) (fun _ h9 => h9) rfl (by decide +kernel) rfl rfl (Nat.le_of_ble_eq_true rfl) d_Mo_collect_16 (fun H locs hP hD hS => ?_)
    have hP : va_P D vwCl [(mo, .inr (5, [.int (nI 1), .int (nI N), .int (nI C), .int (nI L.length), .ref m1, .ref m2, .ref m3, .ref m4, .ref m5, .ref m6, .ref m7, .ref m8])), (m1, .inl (cI, 80, .inl nu)), (m2, .inl (cI, 80, .inl va)), (m3, .inl (cI, 80, .inl ag)), (m4, .inl (cI, 80, .inl fi)), (m5, .inl (cI, 320, .inl re)), (m6, .inl (cZ, 80, .inl mk)), (m7, .inl (cI, 8, .inl mr)), (m8, .inl (cI, 4, .inl mw))] H := hP
    have hD : va_D A [(mo, .inr (5, [.int (nI 1), .int (nI N), .int (nI C), .int (nI L.length), .ref m1, .ref m2, .ref m3, .ref m4, .ref m5, .ref m6, .ref m7, .ref m8])), (m1, .inl (cI, 80, .inl nu)), (m2, .inl (cI, 80, .inl va)), (m3, .inl (cI, 80, .inl ag)), (m4, .inl (cI, 80, .inl fi)), (m5, .inl (cI, 320, .inl re)), (m6, .inl (cZ, 80, .inl mk)), (m7, .inl (cI, 8, .inl mr)), (m8, .inl (cI, 4, .inl mw))] := hD
    refine lv_aload_n hx hb d_Mo_collect_19 rfl (lv_at hl 0 rfl) ?_
    refine va_get (D := D) (ci := 5) (v := .int (nI 1)) (C := R_Mo) (T := F_Mo) (N := 12) hx hb hts i_Mo hown hK hP 0 rfl rfl 0 (by decide) (hts _ k_f_Mo_35) (fun _ h9 => h9) rfl d_Mo_collect_20 ?_
    refine lv_if_le hx hb d_Mo_collect_23 (tgt := 28) (by decide) (fun h => absurd h (by decide)) (fun _ => ?_)
    refine lv_iconst (v := nI 0) hx hb d_Mo_collect_26 (by decide) ?_
    exact fy_reti hx hb hr hlocks hAe (⟨nI 0, nu, va, ag, fi, re, mk, mr, mw, (fun h => absurd h (by decide)), rfl, hM, rfl⟩) (List.Perm.refl _) hP hS d_Mo_collect_27
set_option maxRecDepth 20000 in
set_option maxHeartbeats 4000000 in
theorem c_Mo_collect_1 (l : Launch) (s0 : State) (D : va_G) (cI cZ cJ cW : ClassId) (hG : fy_G s0 D cI cZ cJ cW) (mo m1 m2 m3 m4 m5 m6 m7 m8 : Nat) (cd : Int32) (i : Nat) (N : Nat) (C : Nat) (L : List Nat) (val : Nat → Int32) (age : Nat → Nat) (nf : Nat → Nat) (rf : Nat → Nat → Option Nat) (reg : Nat → Option Nat) (wk : Nat → Option Nat) (nu va ag fi re mk mr mw : Nat → Int32) (hI : fm_In i N C L age nf rf reg wk) (hM : fm_Mo L val age nf rf reg wk nu va ag fi re mr mw) (wn : Nat) (a2 : Int32) (q1 : 0 < wn) (q2 : wn ≤ 4) : fy_Met l s0 D vwCl y_Mo_collect w_Mo_collect (fy_rm 2) 0 0 [.ref mo, .int (nI wn), .int a2] [(mo, .inr (5, [.int cd, .int (nI N), .int (nI C), .int (nI L.length), .ref m1, .ref m2, .ref m3, .ref m4, .ref m5, .ref m6, .ref m7, .ref m8])), (m1, .inl (cI, 80, .inl nu)), (m2, .inl (cI, 80, .inl va)), (m3, .inl (cI, 80, .inl ag)), (m4, .inl (cI, 80, .inl fi)), (m5, .inl (cI, 320, .inl re)), (m6, .inl (cZ, 80, .inl mk)), (m7, .inl (cI, 8, .inl mr)), (m8, .inl (cI, 4, .inl mw))] (fun r w1 => mo_post (fun b => some (.int b)) mo m1 m2 m3 m4 m5 m6 m7 m8 cI cZ 0 (nI (L.length - (fm_keep L (fm_Cl nf rf (fun m => ∃ j, j < 8 ∧ reg j = some m))).length)) N (C + 1) (fm_keep L (fm_Cl nf rf (fun m => ∃ j, j < 8 ∧ reg j = some m))) val (fun n => age n + 1) nf rf reg (fun j => fm_wk (fm_keep L (fm_Cl nf rf (fun m => ∃ j, j < 8 ∧ reg j = some m))) (wk j)) r w1) := by
  refine fy_st (bytes := b_Mo_collect) (maxL := 6) (ret := some .int) hG (by decide) rfl (Nat.le_of_ble_eq_true rfl) ?_
  intro p e s m below meth c A ls hx hb hr hlocks hml hown hts hK hLa hAe hAB hA hl hP hD hS
  have hl : lv_has ls 6 [(0, .ref mo), (1, .int (nI wn)), (2, .int a2)] := hl
  have h80 := hI.len
  have hN5 := hI.1
  refine lv_aload_n hx hb d_Mo_collect_0 rfl (lv_at hl 0 rfl) ?_
  refine lv_iload_n hx hb d_Mo_collect_1 rfl (lv_at hl 1 rfl) ?_
  refine lv_iconst (v := nI 1) hx hb d_Mo_collect_2 (by decide) ?_
  refine lv_icmp_lt hx hb d_Mo_collect_3 (tgt := 11) (by decide) (fun h => absurd h (nI_lt9 q1 (by omega))) (fun _ => ?_)
  refine lv_iload_n hx hb d_Mo_collect_6 rfl (lv_at hl 1 rfl) ?_
  refine lv_iconst (v := nI 4) hx hb d_Mo_collect_7 (by decide) ?_
  refine lv_icmp_le hx hb d_Mo_collect_8 (tgt := 15) (by decide) (fun _ => ?_) (fun h => absurd ((nI_leI (by omega) (by omega)).mpr q2) h)
  refine lv_iconst (v := nI 0) hx hb d_Mo_collect_15 (by decide) ?_
  refine va_put (D := D) (ci := 5) (v := .int (nI 0)) (ty := .int) (C := R_Mo) (T := F_Mo) (N := 12) hx hb hts i_Mo t_Mo tk_Mo n_Mo hown hK hP hD hS 0 rfl rfl 0 (by decide) (hts _ k_f_Mo_35) (fun _ h9 => h9) rfl (by decide +kernel) rfl rfl (Nat.le_of_ble_eq_true rfl) d_Mo_collect_16 (fun H locs hP hD hS => ?_)
  have hP : va_P D vwCl [(mo, .inr (5, [.int (nI 0), .int (nI N), .int (nI C), .int (nI L.length), .ref m1, .ref m2, .ref m3, .ref m4, .ref m5, .ref m6, .ref m7, .ref m8])), (m1, .inl (cI, 80, .inl nu)), (m2, .inl (cI, 80, .inl va)), (m3, .inl (cI, 80, .inl ag)), (m4, .inl (cI, 80, .inl fi)), (m5, .inl (cI, 320, .inl re)), (m6, .inl (cZ, 80, .inl mk)), (m7, .inl (cI, 8, .inl mr)), (m8, .inl (cI, 4, .inl mw))] H := hP
  have hD : va_D A [(mo, .inr (5, [.int (nI 0), .int (nI N), .int (nI C), .int (nI L.length), .ref m1, .ref m2, .ref m3, .ref m4, .ref m5, .ref m6, .ref m7, .ref m8])), (m1, .inl (cI, 80, .inl nu)), (m2, .inl (cI, 80, .inl va)), (m3, .inl (cI, 80, .inl ag)), (m4, .inl (cI, 80, .inl fi)), (m5, .inl (cI, 320, .inl re)), (m6, .inl (cZ, 80, .inl mk)), (m7, .inl (cI, 8, .inl mr)), (m8, .inl (cI, 4, .inl mw))] := hD
  refine lv_aload_n hx hb d_Mo_collect_19 rfl (lv_at hl 0 rfl) ?_
  refine va_get (D := D) (ci := 5) (v := .int (nI 0)) (C := R_Mo) (T := F_Mo) (N := 12) hx hb hts i_Mo hown hK hP 0 rfl rfl 0 (by decide) (hts _ k_f_Mo_35) (fun _ h9 => h9) rfl d_Mo_collect_20 ?_
  refine lv_if_le hx hb d_Mo_collect_23 (tgt := 28) (by decide) (fun _ => ?_) (fun h => absurd (by decide) h)
  refine lv_aload_n hx hb d_Mo_collect_28 rfl (lv_at hl 0 rfl) ?_
  refine fy_callV (As := []) (rest := []) ⟨hx, hb, hml, hown, hts⟩ (c_Mo_forget l s0 D cI cZ cJ cW hG mo m1 m2 m3 m4 m5 m6 m7 m8 (nI 0) N C L mk hI.len) (cwV 0 hts g_Mo_64 rfl rfl rfl (by decide +kernel) ⟨Nat.le_of_ble_eq_true rfl, Nat.le_of_ble_eq_true rfl⟩) hK hLa hAB hA hP hD hS [0, 6] rfl rfl (ci := 5) rfl rfl (q0 := 0) rfl rfl hl.1 rfl (Nat.le_of_ble_eq_true rfl) d_Mo_collect_29 ⟨Nat.zero_le _, Nat.zero_le _⟩ (fun r w1 H locs hp hP hD hS => ?_)
  obtain ⟨rfl, mk1, hmk1, rfl⟩ := hp
  have hP : va_P D vwCl [(mo, .inr (5, [.int (nI 0), .int (nI N), .int (nI C), .int (nI L.length), .ref m1, .ref m2, .ref m3, .ref m4, .ref m5, .ref m6, .ref m7, .ref m8])), (m1, .inl (cI, 80, .inl nu)), (m2, .inl (cI, 80, .inl va)), (m3, .inl (cI, 80, .inl ag)), (m4, .inl (cI, 80, .inl fi)), (m5, .inl (cI, 320, .inl re)), (m6, .inl (cZ, 80, .inl mk1)), (m7, .inl (cI, 8, .inl mr)), (m8, .inl (cI, 4, .inl mw))] H := hP
  have hD : va_D A [(mo, .inr (5, [.int (nI 0), .int (nI N), .int (nI C), .int (nI L.length), .ref m1, .ref m2, .ref m3, .ref m4, .ref m5, .ref m6, .ref m7, .ref m8])), (m1, .inl (cI, 80, .inl nu)), (m2, .inl (cI, 80, .inl va)), (m3, .inl (cI, 80, .inl ag)), (m4, .inl (cI, 80, .inl fi)), (m5, .inl (cI, 320, .inl re)), (m6, .inl (cZ, 80, .inl mk1)), (m7, .inl (cI, 8, .inl mr)), (m8, .inl (cI, 4, .inl mw))] := hD
  refine lv_iconst (v := nI 0) hx hb d_Mo_collect_32 (by decide) ?_
  refine lv_istore_n hx hb d_Mo_collect_33 rfl hl (by decide) rfl (fun ls hl => ?_)
  have hl : lv_has ls 6 [(3, .int (nI 0)), (0, .ref mo), (1, .int (nI wn)), (2, .int a2)] := hl
  refine fy_loop (σ := Nat × List Nat × (Nat → Int32)) (fun mz zz ls H locs => match zz with | (j, X, mk1) => mz = 8 - j ∧ (j ≤ 8) ∧ (fm_M L nf rf (fun m => ∃ j, j < 8 ∧ reg j = some m) X) ∧ (∀ q, q < j → ∀ n, reg q = some n → n ∈ X) ∧ (fm_mk L X mk1) ∧ lv_has ls 6 [(3, .int (nI j)), (0, .ref mo), (1, .int (nI wn)), (2, .int a2)] ∧ va_P D vwCl [(mo, .inr (5, [.int (nI 0), .int (nI N), .int (nI C), .int (nI L.length), .ref m1, .ref m2, .ref m3, .ref m4, .ref m5, .ref m6, .ref m7, .ref m8])), (m1, .inl (cI, 80, .inl nu)), (m2, .inl (cI, 80, .inl va)), (m3, .inl (cI, 80, .inl ag)), (m4, .inl (cI, 80, .inl fi)), (m5, .inl (cI, 320, .inl re)), (m6, .inl (cZ, 80, .inl mk1)), (m7, .inl (cI, 8, .inl mr)), (m8, .inl (cI, 4, .inl mw))] H ∧ va_D A [(mo, .inr (5, [.int (nI 0), .int (nI N), .int (nI C), .int (nI L.length), .ref m1, .ref m2, .ref m3, .ref m4, .ref m5, .ref m6, .ref m7, .ref m8])), (m1, .inl (cI, 80, .inl nu)), (m2, .inl (cI, 80, .inl va)), (m3, .inl (cI, 80, .inl ag)), (m4, .inl (cI, 80, .inl fi)), (m5, .inl (cI, 320, .inl re)), (m6, .inl (cZ, 80, .inl mk1)), (m7, .inl (cI, 8, .inl mr)), (m8, .inl (cI, 4, .inl mw))] ∧ va_S A s.heap H locs) ?_ _ (0, [], mk1) ⟨rfl, Nat.zero_le _, fm_M_nil, fun q hq => absurd hq (Nat.not_lt_zero q), hmk1, hl, hP, hD, hS⟩
  rintro mz ⟨j, X, mk1⟩ ls H locs ⟨hmz, hj, hX, hXr, hmk1, hl, hP, hD, hS⟩ ih
  have hmz : mz = 8 - j := hmz
  have hj : j ≤ 8 := hj
  have hX : fm_M L nf rf (fun m => ∃ j, j < 8 ∧ reg j = some m) X := hX
  have hXr : ∀ q, q < j → ∀ n, reg q = some n → n ∈ X := hXr
  have hmk1 : fm_mk L X mk1 := hmk1
  have hl : lv_has ls 6 [(3, .int (nI j)), (0, .ref mo), (1, .int (nI wn)), (2, .int a2)] := hl
  have hP : va_P D vwCl [(mo, .inr (5, [.int (nI 0), .int (nI N), .int (nI C), .int (nI L.length), .ref m1, .ref m2, .ref m3, .ref m4, .ref m5, .ref m6, .ref m7, .ref m8])), (m1, .inl (cI, 80, .inl nu)), (m2, .inl (cI, 80, .inl va)), (m3, .inl (cI, 80, .inl ag)), (m4, .inl (cI, 80, .inl fi)), (m5, .inl (cI, 320, .inl re)), (m6, .inl (cZ, 80, .inl mk1)), (m7, .inl (cI, 8, .inl mr)), (m8, .inl (cI, 4, .inl mw))] H := hP
  have hD : va_D A [(mo, .inr (5, [.int (nI 0), .int (nI N), .int (nI C), .int (nI L.length), .ref m1, .ref m2, .ref m3, .ref m4, .ref m5, .ref m6, .ref m7, .ref m8])), (m1, .inl (cI, 80, .inl nu)), (m2, .inl (cI, 80, .inl va)), (m3, .inl (cI, 80, .inl ag)), (m4, .inl (cI, 80, .inl fi)), (m5, .inl (cI, 320, .inl re)), (m6, .inl (cZ, 80, .inl mk1)), (m7, .inl (cI, 8, .inl mr)), (m8, .inl (cI, 4, .inl mw))] := hD
  refine lv_iload_n hx hb d_Mo_collect_34 rfl (lv_at hl 0 rfl) ?_
  refine lv_bipush (v := nI 8) hx hb d_Mo_collect_35 (by decide) ?_
  refine lv_icmp_ge hx hb d_Mo_collect_37 (tgt := 56) (by decide) (fun hc => ?_) (fun hc => ?_)
  · have hc : j = 8 := by have := (nI_leI (by omega) (by omega)).mp hc; omega
    subst hc
    refine lv_aload_n hx hb d_Mo_collect_56 rfl (lv_at hl 1 rfl) ?_
    refine fy_callV (As := []) (rest := []) ⟨hx, hb, hml, hown, hts⟩ (c_Mo_spread l s0 D cI cZ cJ cW hG mo m1 m2 m3 m4 m5 m6 m7 m8 (nI 0) N C L nf rf nu fi re mk1 X (fun m => ∃ j, j < 8 ∧ reg j = some m) hM.num hI.2.2.2.1 hI.len hI.lt hI.2.2.2.2.1 (fun k n hk => ⟨(hM.1 k n hk).2.2.2.1, (hI.2.2.2.2.2.2.1 n (List.mem_of_getElem? hk)).2.2, (hM.1 k n hk).2.2.2.2⟩) (hX) (fun m hm => by obtain ⟨q, h3, h4⟩ := hm; exact hXr q h3 m h4) hmk1) (cwV 0 hts g_Mo_71 rfl rfl rfl (by decide +kernel) ⟨Nat.le_of_ble_eq_true rfl, Nat.le_of_ble_eq_true rfl⟩) hK hLa hAB hA hP hD hS [0, 1, 4, 5, 6] rfl rfl (ci := 5) rfl rfl (q0 := 0) rfl rfl hl.1 rfl (Nat.le_of_ble_eq_true rfl) d_Mo_collect_57 ⟨Nat.zero_le _, Nat.zero_le _⟩ (fun r w1 H locs hp hP hD hS => ?_)
    obtain ⟨rfl, X2, mk3, hX2, hmk3, rfl⟩ := hp
    have hP : va_P D vwCl [(mo, .inr (5, [.int (nI 0), .int (nI N), .int (nI C), .int (nI L.length), .ref m1, .ref m2, .ref m3, .ref m4, .ref m5, .ref m6, .ref m7, .ref m8])), (m1, .inl (cI, 80, .inl nu)), (m2, .inl (cI, 80, .inl va)), (m3, .inl (cI, 80, .inl ag)), (m4, .inl (cI, 80, .inl fi)), (m5, .inl (cI, 320, .inl re)), (m6, .inl (cZ, 80, .inl mk3)), (m7, .inl (cI, 8, .inl mr)), (m8, .inl (cI, 4, .inl mw))] H := hP
    have hD : va_D A [(mo, .inr (5, [.int (nI 0), .int (nI N), .int (nI C), .int (nI L.length), .ref m1, .ref m2, .ref m3, .ref m4, .ref m5, .ref m6, .ref m7, .ref m8])), (m1, .inl (cI, 80, .inl nu)), (m2, .inl (cI, 80, .inl va)), (m3, .inl (cI, 80, .inl ag)), (m4, .inl (cI, 80, .inl fi)), (m5, .inl (cI, 320, .inl re)), (m6, .inl (cZ, 80, .inl mk3)), (m7, .inl (cI, 8, .inl mr)), (m8, .inl (cI, 4, .inl mw))] := hD
    refine lv_iconst (v := nI 0) hx hb d_Mo_collect_60 (by decide) ?_
    refine lv_istore_n hx hb d_Mo_collect_61 rfl hl (by decide) rfl (fun ls hl => ?_)
    have hl : lv_has ls 6 [(3, .int (nI 0)), (0, .ref mo), (1, .int (nI wn)), (2, .int a2)] := hl
    refine lv_iconst (v := nI 0) hx hb d_Mo_collect_62 (by decide) ?_
    refine lv_istore hx hb d_Mo_collect_63 hl (by decide) rfl (fun ls hl => ?_)
    have hl : lv_has ls 6 [(4, .int (nI 0)), (3, .int (nI 0)), (0, .ref mo), (1, .int (nI wn)), (2, .int a2)] := hl
    have hmv0 : fm_mv L X2 val age nf rf 0 nu va ag fi re := ⟨fun p n hp => by simp [fm_kp] at hp, fun p n _ hp => hM.1 p n hp⟩
    have hmr := hM.2.1
    have hmw := hM.2.2
    clear hM hmk1 hXr hX
    refine fy_loop (σ := Nat × (Nat → Int32) × (Nat → Int32) × (Nat → Int32) × (Nat → Int32) × (Nat → Int32)) (fun mz2 zz ls H locs => match zz with | (k, nu, va, ag, fi, re) => mz2 = L.length - k ∧ (k ≤ L.length) ∧ (fm_mv L X2 val age nf rf k nu va ag fi re) ∧ lv_has ls 6 [(4, .int (nI k)), (3, .int (nI ((fm_kp L X2 k).length))), (0, .ref mo), (1, .int (nI wn)), (2, .int a2)] ∧ va_P D vwCl [(mo, .inr (5, [.int (nI 0), .int (nI N), .int (nI C), .int (nI L.length), .ref m1, .ref m2, .ref m3, .ref m4, .ref m5, .ref m6, .ref m7, .ref m8])), (m1, .inl (cI, 80, .inl nu)), (m2, .inl (cI, 80, .inl va)), (m3, .inl (cI, 80, .inl ag)), (m4, .inl (cI, 80, .inl fi)), (m5, .inl (cI, 320, .inl re)), (m6, .inl (cZ, 80, .inl mk3)), (m7, .inl (cI, 8, .inl mr)), (m8, .inl (cI, 4, .inl mw))] H ∧ va_D A [(mo, .inr (5, [.int (nI 0), .int (nI N), .int (nI C), .int (nI L.length), .ref m1, .ref m2, .ref m3, .ref m4, .ref m5, .ref m6, .ref m7, .ref m8])), (m1, .inl (cI, 80, .inl nu)), (m2, .inl (cI, 80, .inl va)), (m3, .inl (cI, 80, .inl ag)), (m4, .inl (cI, 80, .inl fi)), (m5, .inl (cI, 320, .inl re)), (m6, .inl (cZ, 80, .inl mk3)), (m7, .inl (cI, 8, .inl mr)), (m8, .inl (cI, 4, .inl mw))] ∧ va_S A s.heap H locs) ?_ _ (0, nu, va, ag, fi, re) ⟨rfl, Nat.zero_le _, hmv0, hl, hP, hD, hS⟩
    rintro mz2 ⟨k, nu, va, ag, fi, re⟩ ls H locs ⟨hmz2, hk, hmv, hl, hP, hD, hS⟩ ih2
    have hmz2 : mz2 = L.length - k := hmz2
    have hk : k ≤ L.length := hk
    have hmv : fm_mv L X2 val age nf rf k nu va ag fi re := hmv
    have hl : lv_has ls 6 [(4, .int (nI k)), (3, .int (nI ((fm_kp L X2 k).length))), (0, .ref mo), (1, .int (nI wn)), (2, .int a2)] := hl
    have hP : va_P D vwCl [(mo, .inr (5, [.int (nI 0), .int (nI N), .int (nI C), .int (nI L.length), .ref m1, .ref m2, .ref m3, .ref m4, .ref m5, .ref m6, .ref m7, .ref m8])), (m1, .inl (cI, 80, .inl nu)), (m2, .inl (cI, 80, .inl va)), (m3, .inl (cI, 80, .inl ag)), (m4, .inl (cI, 80, .inl fi)), (m5, .inl (cI, 320, .inl re)), (m6, .inl (cZ, 80, .inl mk3)), (m7, .inl (cI, 8, .inl mr)), (m8, .inl (cI, 4, .inl mw))] H := hP
    have hD : va_D A [(mo, .inr (5, [.int (nI 0), .int (nI N), .int (nI C), .int (nI L.length), .ref m1, .ref m2, .ref m3, .ref m4, .ref m5, .ref m6, .ref m7, .ref m8])), (m1, .inl (cI, 80, .inl nu)), (m2, .inl (cI, 80, .inl va)), (m3, .inl (cI, 80, .inl ag)), (m4, .inl (cI, 80, .inl fi)), (m5, .inl (cI, 320, .inl re)), (m6, .inl (cZ, 80, .inl mk3)), (m7, .inl (cI, 8, .inl mr)), (m8, .inl (cI, 4, .inl mw))] := hD
    refine lv_iload hx hb d_Mo_collect_65 (lv_at hl 0 rfl) ?_
    refine lv_aload_n hx hb d_Mo_collect_67 rfl (lv_at hl 2 rfl) ?_
    refine va_get (D := D) (ci := 5) (v := .int (nI L.length)) (C := R_Mo) (T := F_Mo) (N := 12) hx hb hts i_Mo hown hK hP 0 rfl rfl 3 (by decide) (hts _ k_f_Mo_39) (fun _ h9 => h9) rfl d_Mo_collect_68 ?_
    refine lv_icmp_ge hx hb d_Mo_collect_71 (tgt := 100) (by decide) (fun hc2 => ?_) (fun hc2 => ?_)
    · have hc2 : k = L.length := by have := (nI_leI (by omega) (by omega)).mp hc2; omega
      subst hc2
      have hkp : fm_kp L X2 L.length = (fm_keep L (fm_Cl nf rf (fun m => ∃ j, j < 8 ∧ reg j = some m))) := fm_kp_end hX2
      have hmv9 := hmv.1
      rw [hkp] at hl hmv9
      have hKl : (fm_keep L (fm_Cl nf rf (fun m => ∃ j, j < 8 ∧ reg j = some m))).length ≤ L.length := fm_keep_len
      refine lv_aload_n hx hb d_Mo_collect_100 rfl (lv_at hl 2 rfl) ?_
      refine va_get (D := D) (ci := 5) (v := .int (nI L.length)) (C := R_Mo) (T := F_Mo) (N := 12) hx hb hts i_Mo hown hK hP 0 rfl rfl 3 (by decide) (hts _ k_f_Mo_39) (fun _ h9 => h9) rfl d_Mo_collect_101 ?_
      refine lv_iload_n hx hb d_Mo_collect_104 rfl (lv_at hl 1 rfl) ?_
      refine lv_isub hx hb d_Mo_collect_105 ?_
      refine fy_top (z := nI (L.length - ((fm_keep L (fm_Cl nf rf (fun m => ∃ j, j < 8 ∧ reg j = some m))).length))) (pk_sub (by omega)) ?_
      refine lv_istore hx hb d_Mo_collect_106 hl (by decide) rfl (fun ls hl => ?_)
      have hl : lv_has ls 6 [(4, .int (nI (L.length - ((fm_keep L (fm_Cl nf rf (fun m => ∃ j, j < 8 ∧ reg j = some m))).length)))), (3, .int (nI ((fm_keep L (fm_Cl nf rf (fun m => ∃ j, j < 8 ∧ reg j = some m))).length))), (0, .ref mo), (1, .int (nI wn)), (2, .int a2)] := hl
      refine lv_aload_n hx hb d_Mo_collect_108 rfl (lv_at hl 2 rfl) ?_
      refine lv_iload_n hx hb d_Mo_collect_109 rfl (lv_at hl 1 rfl) ?_
      refine va_put (D := D) (ci := 5) (v := .int (nI ((fm_keep L (fm_Cl nf rf (fun m => ∃ j, j < 8 ∧ reg j = some m))).length))) (ty := .int) (C := R_Mo) (T := F_Mo) (N := 12) hx hb hts i_Mo t_Mo tk_Mo n_Mo hown hK hP hD hS 0 rfl rfl 3 (by decide) (hts _ k_f_Mo_39) (fun _ h9 => h9) rfl (by decide +kernel) rfl rfl (Nat.le_of_ble_eq_true rfl) d_Mo_collect_110 (fun H locs hP hD hS => ?_)
      have hP : va_P D vwCl [(mo, .inr (5, [.int (nI 0), .int (nI N), .int (nI C), .int (nI ((fm_keep L (fm_Cl nf rf (fun m => ∃ j, j < 8 ∧ reg j = some m))).length)), .ref m1, .ref m2, .ref m3, .ref m4, .ref m5, .ref m6, .ref m7, .ref m8])), (m1, .inl (cI, 80, .inl nu)), (m2, .inl (cI, 80, .inl va)), (m3, .inl (cI, 80, .inl ag)), (m4, .inl (cI, 80, .inl fi)), (m5, .inl (cI, 320, .inl re)), (m6, .inl (cZ, 80, .inl mk3)), (m7, .inl (cI, 8, .inl mr)), (m8, .inl (cI, 4, .inl mw))] H := hP
      have hD : va_D A [(mo, .inr (5, [.int (nI 0), .int (nI N), .int (nI C), .int (nI ((fm_keep L (fm_Cl nf rf (fun m => ∃ j, j < 8 ∧ reg j = some m))).length)), .ref m1, .ref m2, .ref m3, .ref m4, .ref m5, .ref m6, .ref m7, .ref m8])), (m1, .inl (cI, 80, .inl nu)), (m2, .inl (cI, 80, .inl va)), (m3, .inl (cI, 80, .inl ag)), (m4, .inl (cI, 80, .inl fi)), (m5, .inl (cI, 320, .inl re)), (m6, .inl (cZ, 80, .inl mk3)), (m7, .inl (cI, 8, .inl mr)), (m8, .inl (cI, 4, .inl mw))] := hD
      refine lv_iconst (v := nI 0) hx hb d_Mo_collect_113 (by decide) ?_
      refine lv_istore hx hb d_Mo_collect_114 hl (by decide) rfl (fun ls hl => ?_)
      have hl : lv_has ls 6 [(5, .int (nI 0)), (4, .int (nI (L.length - ((fm_keep L (fm_Cl nf rf (fun m => ∃ j, j < 8 ∧ reg j = some m))).length)))), (3, .int (nI ((fm_keep L (fm_Cl nf rf (fun m => ∃ j, j < 8 ∧ reg j = some m))).length))), (0, .ref mo), (1, .int (nI wn)), (2, .int a2)] := hl
      have hKn : fm_num (fm_keep L (fm_Cl nf rf (fun m => ∃ j, j < 8 ∧ reg j = some m))) nu := fun k n hk => (hmv9 k n hk).1
      have hKd : (fm_keep L (fm_Cl nf rf (fun m => ∃ j, j < 8 ∧ reg j = some m))).Nodup := fm_keep_nodup hI.2.2.2.1
      have hK5 : ∀ n ∈ (fm_keep L (fm_Cl nf rf (fun m => ∃ j, j < 8 ∧ reg j = some m))), n < 512 := fun n hn => hI.lt n (fm_mem_keep.mp hn).1
      refine fy_loop (σ := Nat × (Nat → Int32)) (fun mz3 zz ls H locs => match zz with | (u, mw2) => mz3 = 4 - u ∧ (u ≤ 4) ∧ (∀ q, q < 4 → mw2 q = if q < u then fm_o (fm_wk (fm_keep L (fm_Cl nf rf (fun m => ∃ j, j < 8 ∧ reg j = some m))) (wk q)) else fm_o (wk q)) ∧ lv_has ls 6 [(5, .int (nI u)), (4, .int (nI (L.length - (fm_keep L (fm_Cl nf rf (fun m => ∃ j, j < 8 ∧ reg j = some m))).length))), (3, .int (nI ((fm_keep L (fm_Cl nf rf (fun m => ∃ j, j < 8 ∧ reg j = some m))).length))), (0, .ref mo), (1, .int (nI wn)), (2, .int a2)] ∧ va_P D vwCl [(mo, .inr (5, [.int (nI 0), .int (nI N), .int (nI C), .int (nI ((fm_keep L (fm_Cl nf rf (fun m => ∃ j, j < 8 ∧ reg j = some m))).length)), .ref m1, .ref m2, .ref m3, .ref m4, .ref m5, .ref m6, .ref m7, .ref m8])), (m1, .inl (cI, 80, .inl nu)), (m2, .inl (cI, 80, .inl va)), (m3, .inl (cI, 80, .inl ag)), (m4, .inl (cI, 80, .inl fi)), (m5, .inl (cI, 320, .inl re)), (m6, .inl (cZ, 80, .inl mk3)), (m7, .inl (cI, 8, .inl mr)), (m8, .inl (cI, 4, .inl mw2))] H ∧ va_D A [(mo, .inr (5, [.int (nI 0), .int (nI N), .int (nI C), .int (nI ((fm_keep L (fm_Cl nf rf (fun m => ∃ j, j < 8 ∧ reg j = some m))).length)), .ref m1, .ref m2, .ref m3, .ref m4, .ref m5, .ref m6, .ref m7, .ref m8])), (m1, .inl (cI, 80, .inl nu)), (m2, .inl (cI, 80, .inl va)), (m3, .inl (cI, 80, .inl ag)), (m4, .inl (cI, 80, .inl fi)), (m5, .inl (cI, 320, .inl re)), (m6, .inl (cZ, 80, .inl mk3)), (m7, .inl (cI, 8, .inl mr)), (m8, .inl (cI, 4, .inl mw2))] ∧ va_S A s.heap H locs) ?_ _ (0, mw) ⟨rfl, Nat.zero_le _, fun q hq => by rw [if_neg (Nat.not_lt_zero q)]; exact hmw q hq, hl, hP, hD, hS⟩
      rintro mz3 ⟨u, mw2⟩ ls H locs ⟨hmz3, hu, hw9, hl, hP, hD, hS⟩ ih3
      have hmz3 : mz3 = 4 - u := hmz3
      have hu : u ≤ 4 := hu
      have hw9 : ∀ q, q < 4 → mw2 q = if q < u then fm_o (fm_wk (fm_keep L (fm_Cl nf rf (fun m => ∃ j, j < 8 ∧ reg j = some m))) (wk q)) else fm_o (wk q) := hw9
      have hl : lv_has ls 6 [(5, .int (nI u)), (4, .int (nI (L.length - (fm_keep L (fm_Cl nf rf (fun m => ∃ j, j < 8 ∧ reg j = some m))).length))), (3, .int (nI ((fm_keep L (fm_Cl nf rf (fun m => ∃ j, j < 8 ∧ reg j = some m))).length))), (0, .ref mo), (1, .int (nI wn)), (2, .int a2)] := hl
      have hP : va_P D vwCl [(mo, .inr (5, [.int (nI 0), .int (nI N), .int (nI C), .int (nI ((fm_keep L (fm_Cl nf rf (fun m => ∃ j, j < 8 ∧ reg j = some m))).length)), .ref m1, .ref m2, .ref m3, .ref m4, .ref m5, .ref m6, .ref m7, .ref m8])), (m1, .inl (cI, 80, .inl nu)), (m2, .inl (cI, 80, .inl va)), (m3, .inl (cI, 80, .inl ag)), (m4, .inl (cI, 80, .inl fi)), (m5, .inl (cI, 320, .inl re)), (m6, .inl (cZ, 80, .inl mk3)), (m7, .inl (cI, 8, .inl mr)), (m8, .inl (cI, 4, .inl mw2))] H := hP
      have hD : va_D A [(mo, .inr (5, [.int (nI 0), .int (nI N), .int (nI C), .int (nI ((fm_keep L (fm_Cl nf rf (fun m => ∃ j, j < 8 ∧ reg j = some m))).length)), .ref m1, .ref m2, .ref m3, .ref m4, .ref m5, .ref m6, .ref m7, .ref m8])), (m1, .inl (cI, 80, .inl nu)), (m2, .inl (cI, 80, .inl va)), (m3, .inl (cI, 80, .inl ag)), (m4, .inl (cI, 80, .inl fi)), (m5, .inl (cI, 320, .inl re)), (m6, .inl (cZ, 80, .inl mk3)), (m7, .inl (cI, 8, .inl mr)), (m8, .inl (cI, 4, .inl mw2))] := hD
      refine lv_iload hx hb d_Mo_collect_116 (lv_at hl 0 rfl) ?_
      refine lv_iconst (v := nI 4) hx hb d_Mo_collect_118 (by decide) ?_
      refine lv_icmp_ge hx hb d_Mo_collect_119 (tgt := 160) (by decide) (fun hc3 => ?_) (fun hc3 => ?_)
      · have hc3 : u = 4 := by have := (nI_leI (by omega) (by omega)).mp hc3; omega
        refine lv_aload_n hx hb d_Mo_collect_160 rfl (lv_at hl 3 rfl) ?_
        refine lv_dup hx hb d_Mo_collect_161 rfl ?_
        refine va_get (D := D) (ci := 5) (v := .int (nI C)) (C := R_Mo) (T := F_Mo) (N := 12) hx hb hts i_Mo hown hK hP 0 rfl rfl 2 (by decide) (hts _ k_f_Mo_81) (fun _ h9 => h9) rfl d_Mo_collect_162 ?_
        refine lv_iconst (v := nI 1) hx hb d_Mo_collect_165 (by decide) ?_
        refine lv_iadd hx hb d_Mo_collect_166 ?_
        refine fy_top (z := nI (C + 1)) (nI_add _ _) ?_
        refine va_put (D := D) (ci := 5) (v := .int (nI (C + 1))) (ty := .int) (C := R_Mo) (T := F_Mo) (N := 12) hx hb hts i_Mo t_Mo tk_Mo n_Mo hown hK hP hD hS 0 rfl rfl 2 (by decide) (hts _ k_f_Mo_81) (fun _ h9 => h9) rfl (by decide +kernel) rfl rfl (Nat.le_of_ble_eq_true rfl) d_Mo_collect_167 (fun H locs hP hD hS => ?_)
        have hP : va_P D vwCl [(mo, .inr (5, [.int (nI 0), .int (nI N), .int (nI (C + 1)), .int (nI ((fm_keep L (fm_Cl nf rf (fun m => ∃ j, j < 8 ∧ reg j = some m))).length)), .ref m1, .ref m2, .ref m3, .ref m4, .ref m5, .ref m6, .ref m7, .ref m8])), (m1, .inl (cI, 80, .inl nu)), (m2, .inl (cI, 80, .inl va)), (m3, .inl (cI, 80, .inl ag)), (m4, .inl (cI, 80, .inl fi)), (m5, .inl (cI, 320, .inl re)), (m6, .inl (cZ, 80, .inl mk3)), (m7, .inl (cI, 8, .inl mr)), (m8, .inl (cI, 4, .inl mw2))] H := hP
        have hD : va_D A [(mo, .inr (5, [.int (nI 0), .int (nI N), .int (nI (C + 1)), .int (nI ((fm_keep L (fm_Cl nf rf (fun m => ∃ j, j < 8 ∧ reg j = some m))).length)), .ref m1, .ref m2, .ref m3, .ref m4, .ref m5, .ref m6, .ref m7, .ref m8])), (m1, .inl (cI, 80, .inl nu)), (m2, .inl (cI, 80, .inl va)), (m3, .inl (cI, 80, .inl ag)), (m4, .inl (cI, 80, .inl fi)), (m5, .inl (cI, 320, .inl re)), (m6, .inl (cZ, 80, .inl mk3)), (m7, .inl (cI, 8, .inl mr)), (m8, .inl (cI, 4, .inl mw2))] := hD
        refine lv_iload hx hb d_Mo_collect_170 (lv_at hl 1 rfl) ?_
        exact fy_reti hx hb hr hlocks hAe (⟨nI (L.length - (fm_keep L (fm_Cl nf rf (fun m => ∃ j, j < 8 ∧ reg j = some m))).length), nu, va, ag, fi, re, mk3, mr, mw2, (fun _ => rfl), rfl, ⟨hmv9, hmr, fun q hq => by rw [hw9 q hq, if_pos (by omega)]⟩, rfl⟩) (List.Perm.refl _) hP hS d_Mo_collect_172
      · have hc3 : u < 4 := by have := mt (nI_leI (a := 4) (b := u) (by omega) (by omega)).mpr hc3; omega
        have hwu : mw2 u = fm_o (wk u) := by rw [hw9 u hc3, if_neg (Nat.lt_irrefl u)]
        refine lv_aload_n hx hb d_Mo_collect_122 rfl (lv_at hl 3 rfl) ?_
        refine va_get (D := D) (ci := 5) (v := .ref m8) (C := R_Mo) (T := F_Mo) (N := 12) hx hb hts i_Mo hown hK hP 0 rfl rfl 11 (by decide) (hts _ k_f_Mo_32) (fun _ h9 => h9) rfl d_Mo_collect_123 ?_
        refine lv_iload hx hb d_Mo_collect_126 (lv_at hl 0 rfl) ?_
        refine lv_aload_n hx hb d_Mo_collect_128 rfl (lv_at hl 3 rfl) ?_
        refine lv_aload_n hx hb d_Mo_collect_129 rfl (lv_at hl 3 rfl) ?_
        refine va_get (D := D) (ci := 5) (v := .ref m8) (C := R_Mo) (T := F_Mo) (N := 12) hx hb hts i_Mo hown hK hP 0 rfl rfl 11 (by decide) (hts _ k_f_Mo_32) (fun _ h9 => h9) rfl d_Mo_collect_130 ?_
        refine lv_iload hx hb d_Mo_collect_133 (lv_at hl 0 rfl) ?_
        refine fy_iald (t0 := 0) (v := fm_o (wk u)) hx hb hK hP 8 rfl rfl (by omega) (by omega) (hwu) d_Mo_collect_135 ?_
        refine fy_callV (As := [.int (fm_o (wk u))]) (rest := [.int (nI u), .ref m8]) ⟨hx, hb, hml, hown, hts⟩ (c_Mo_find l s0 D cI cZ cJ cW hG mo m1 m2 m3 m4 m5 m6 m7 m8 (nI 0) N C (fm_keep L (fm_Cl nf rf (fun m => ∃ j, j < 8 ∧ reg j = some m))) nu (wk u) hKn hKd (by omega) hK5 (fun n hn => hI.lt n (hI.inW hc3 n hn))) (cwV 1 hts g_Mo_53 rfl rfl rfl (by decide +kernel) ⟨Nat.le_of_ble_eq_true rfl, Nat.le_of_ble_eq_true rfl⟩) hK hLa hAB hA hP hD hS [0, 1] rfl rfl (ci := 5) rfl rfl (q0 := 0) rfl rfl hl.1 rfl (Nat.le_of_ble_eq_true rfl) d_Mo_collect_136 ⟨Nat.zero_le _, Nat.zero_le _⟩ (fun r w1 H locs hp hP hD hS => ?_)
        obtain ⟨a, ha, rfl, rfl⟩ := hp
        have hP : va_P D vwCl [(mo, .inr (5, [.int (nI 0), .int (nI N), .int (nI C), .int (nI ((fm_keep L (fm_Cl nf rf (fun m => ∃ j, j < 8 ∧ reg j = some m))).length)), .ref m1, .ref m2, .ref m3, .ref m4, .ref m5, .ref m6, .ref m7, .ref m8])), (m1, .inl (cI, 80, .inl nu)), (m2, .inl (cI, 80, .inl va)), (m3, .inl (cI, 80, .inl ag)), (m4, .inl (cI, 80, .inl fi)), (m5, .inl (cI, 320, .inl re)), (m6, .inl (cZ, 80, .inl mk3)), (m7, .inl (cI, 8, .inl mr)), (m8, .inl (cI, 4, .inl mw2))] H := hP
        have hD : va_D A [(mo, .inr (5, [.int (nI 0), .int (nI N), .int (nI C), .int (nI ((fm_keep L (fm_Cl nf rf (fun m => ∃ j, j < 8 ∧ reg j = some m))).length)), .ref m1, .ref m2, .ref m3, .ref m4, .ref m5, .ref m6, .ref m7, .ref m8])), (m1, .inl (cI, 80, .inl nu)), (m2, .inl (cI, 80, .inl va)), (m3, .inl (cI, 80, .inl ag)), (m4, .inl (cI, 80, .inl fi)), (m5, .inl (cI, 320, .inl re)), (m6, .inl (cZ, 80, .inl mk3)), (m7, .inl (cI, 8, .inl mr)), (m8, .inl (cI, 4, .inl mw2))] := hD
        have hnx : ∀ z, z = fm_o (fm_wk (fm_keep L (fm_Cl nf rf (fun m => ∃ j, j < 8 ∧ reg j = some m))) (wk u)) → ∀ q, q < 4 → upd mw2 u z q = if q < u + 1 then fm_o (fm_wk (fm_keep L (fm_Cl nf rf (fun m => ∃ j, j < 8 ∧ reg j = some m))) (wk q)) else fm_o (wk q) := fun z hz q hq => by by_cases e : q = u; (subst e; rw [fm_upd_self, if_pos (by omega), hz]); (rw [fm_upd_ne e, hw9 q hq]; by_cases e2 : q < u; (rw [if_pos e2, if_pos (by omega)]); (rw [if_neg e2, if_neg (by omega)]))
        cases a with
        | none =>
          have hz9 : (-1 : Int32) = fm_o (fm_wk (fm_keep L (fm_Cl nf rf (fun m => ∃ j, j < 8 ∧ reg j = some m))) (wk u)) := by cases h8 : wk u with | none => rfl | some n => (rw [h8] at ha; have h7 := fm_is_none ha n rfl; unfold fm_wk; simp only []; rw [if_neg h7]; rfl)
          refine lv_if_ge hx hb d_Mo_collect_139 (tgt := 146) (by decide) (fun h => absurd h (by decide)) (fun _ => ?_)
          refine lv_iconst (v := -1) hx hb d_Mo_collect_142 (by decide) ?_
          refine lv_goto hx hb d_Mo_collect_143 (tgt := 153) (by decide) ?_
          refine fy_iast (t0 := 0) (g := upd mw2 u (-1)) hx hb hK hP hD hS 8 rfl rfl (by omega) (by omega) (rfl) d_Mo_collect_153 (fun H locs hP hD hS => ?_)
          have hP : va_P D vwCl [(mo, .inr (5, [.int (nI 0), .int (nI N), .int (nI C), .int (nI ((fm_keep L (fm_Cl nf rf (fun m => ∃ j, j < 8 ∧ reg j = some m))).length)), .ref m1, .ref m2, .ref m3, .ref m4, .ref m5, .ref m6, .ref m7, .ref m8])), (m1, .inl (cI, 80, .inl nu)), (m2, .inl (cI, 80, .inl va)), (m3, .inl (cI, 80, .inl ag)), (m4, .inl (cI, 80, .inl fi)), (m5, .inl (cI, 320, .inl re)), (m6, .inl (cZ, 80, .inl mk3)), (m7, .inl (cI, 8, .inl mr)), (m8, .inl (cI, 4, .inl (upd mw2 u (-1))))] H := hP
          have hD : va_D A [(mo, .inr (5, [.int (nI 0), .int (nI N), .int (nI C), .int (nI ((fm_keep L (fm_Cl nf rf (fun m => ∃ j, j < 8 ∧ reg j = some m))).length)), .ref m1, .ref m2, .ref m3, .ref m4, .ref m5, .ref m6, .ref m7, .ref m8])), (m1, .inl (cI, 80, .inl nu)), (m2, .inl (cI, 80, .inl va)), (m3, .inl (cI, 80, .inl ag)), (m4, .inl (cI, 80, .inl fi)), (m5, .inl (cI, 320, .inl re)), (m6, .inl (cZ, 80, .inl mk3)), (m7, .inl (cI, 8, .inl mr)), (m8, .inl (cI, 4, .inl (upd mw2 u (-1))))] := hD
          refine lv_iinc (v := nI (u + 1)) hx hb d_Mo_collect_154 hl (k := 0) rfl (by rw [show Int32.ofInt 1 = nI 1 from by decide]; exact nI_add _ _) (by decide) rfl (fun ls hl => ?_)
          have hl : lv_has ls 6 [(5, .int (nI (u + 1))), (4, .int (nI (L.length - (fm_keep L (fm_Cl nf rf (fun m => ∃ j, j < 8 ∧ reg j = some m))).length))), (3, .int (nI ((fm_keep L (fm_Cl nf rf (fun m => ∃ j, j < 8 ∧ reg j = some m))).length))), (0, .ref mo), (1, .int (nI wn)), (2, .int a2)] := hl
          refine lv_goto hx hb d_Mo_collect_157 (tgt := 116) (by decide) ?_
          have hl : lv_has ls 6 [(5, .int (nI (u + 1))), (4, .int (nI (L.length - (fm_keep L (fm_Cl nf rf (fun m => ∃ j, j < 8 ∧ reg j = some m))).length))), (3, .int (nI ((fm_keep L (fm_Cl nf rf (fun m => ∃ j, j < 8 ∧ reg j = some m))).length))), (0, .ref mo), (1, .int (nI wn)), (2, .int a2)] := lv_sub hl [0, 1, 2, 3, 4, 5] rfl
          exact ih3 _ (u + 1, upd mw2 u (-1)) _ _ _ (by omega) ⟨rfl, hc3, hnx _ hz9, hl, hP, hD, hS⟩
        | some t =>
          obtain ⟨n, hn, ho9⟩ := fm_is_some ha
          have ht := fm_is_lt ha
          have hz9 : fm_o (wk u) = fm_o (fm_wk (fm_keep L (fm_Cl nf rf (fun m => ∃ j, j < 8 ∧ reg j = some m))) (wk u)) := by rw [ho9]; unfold fm_wk; simp only []; rw [if_pos (List.mem_of_getElem? hn)]
          refine W.eq (g2 := F0 m 139 ls [.int (nI t), .int (nI u), .ref m8]) rfl ?_
          refine lv_if_ge hx hb d_Mo_collect_139 (tgt := 146) (by decide) (fun _ => ?_) (fun h => absurd (nI_pos' (by omega)) h)
          refine lv_aload_n hx hb d_Mo_collect_146 rfl (lv_at hl 3 rfl) ?_
          refine va_get (D := D) (ci := 5) (v := .ref m8) (C := R_Mo) (T := F_Mo) (N := 12) hx hb hts i_Mo hown hK hP 0 rfl rfl 11 (by decide) (hts _ k_f_Mo_32) (fun _ h9 => h9) rfl d_Mo_collect_147 ?_
          refine lv_iload hx hb d_Mo_collect_150 (lv_at hl 0 rfl) ?_
          refine fy_iald (t0 := 0) (v := fm_o (wk u)) hx hb hK hP 8 rfl rfl (by omega) (by omega) (hwu) d_Mo_collect_152 ?_
          refine fy_iast (t0 := 0) (g := upd mw2 u (fm_o (wk u))) hx hb hK hP hD hS 8 rfl rfl (by omega) (by omega) (rfl) d_Mo_collect_153 (fun H locs hP hD hS => ?_)
          have hP : va_P D vwCl [(mo, .inr (5, [.int (nI 0), .int (nI N), .int (nI C), .int (nI ((fm_keep L (fm_Cl nf rf (fun m => ∃ j, j < 8 ∧ reg j = some m))).length)), .ref m1, .ref m2, .ref m3, .ref m4, .ref m5, .ref m6, .ref m7, .ref m8])), (m1, .inl (cI, 80, .inl nu)), (m2, .inl (cI, 80, .inl va)), (m3, .inl (cI, 80, .inl ag)), (m4, .inl (cI, 80, .inl fi)), (m5, .inl (cI, 320, .inl re)), (m6, .inl (cZ, 80, .inl mk3)), (m7, .inl (cI, 8, .inl mr)), (m8, .inl (cI, 4, .inl (upd mw2 u (fm_o (wk u)))))] H := hP
          have hD : va_D A [(mo, .inr (5, [.int (nI 0), .int (nI N), .int (nI C), .int (nI ((fm_keep L (fm_Cl nf rf (fun m => ∃ j, j < 8 ∧ reg j = some m))).length)), .ref m1, .ref m2, .ref m3, .ref m4, .ref m5, .ref m6, .ref m7, .ref m8])), (m1, .inl (cI, 80, .inl nu)), (m2, .inl (cI, 80, .inl va)), (m3, .inl (cI, 80, .inl ag)), (m4, .inl (cI, 80, .inl fi)), (m5, .inl (cI, 320, .inl re)), (m6, .inl (cZ, 80, .inl mk3)), (m7, .inl (cI, 8, .inl mr)), (m8, .inl (cI, 4, .inl (upd mw2 u (fm_o (wk u)))))] := hD
          refine lv_iinc (v := nI (u + 1)) hx hb d_Mo_collect_154 hl (k := 0) rfl (by rw [show Int32.ofInt 1 = nI 1 from by decide]; exact nI_add _ _) (by decide) rfl (fun ls hl => ?_)
          have hl : lv_has ls 6 [(5, .int (nI (u + 1))), (4, .int (nI (L.length - (fm_keep L (fm_Cl nf rf (fun m => ∃ j, j < 8 ∧ reg j = some m))).length))), (3, .int (nI ((fm_keep L (fm_Cl nf rf (fun m => ∃ j, j < 8 ∧ reg j = some m))).length))), (0, .ref mo), (1, .int (nI wn)), (2, .int a2)] := hl
          refine lv_goto hx hb d_Mo_collect_157 (tgt := 116) (by decide) ?_
          have hl : lv_has ls 6 [(5, .int (nI (u + 1))), (4, .int (nI (L.length - (fm_keep L (fm_Cl nf rf (fun m => ∃ j, j < 8 ∧ reg j = some m))).length))), (3, .int (nI ((fm_keep L (fm_Cl nf rf (fun m => ∃ j, j < 8 ∧ reg j = some m))).length))), (0, .ref mo), (1, .int (nI wn)), (2, .int a2)] := lv_sub hl [0, 1, 2, 3, 4, 5] rfl
          exact ih3 _ (u + 1, upd mw2 u (fm_o (wk u))) _ _ _ (by omega) ⟨rfl, hc3, hnx _ hz9, hl, hP, hD, hS⟩
    · have hc2 : k < L.length := by have := mt (nI_leI (a := L.length) (b := k) (by omega) (by omega)).mpr hc2; omega
      obtain ⟨n, hn⟩ : ∃ n, L[k]? = some n := ⟨L[k], List.getElem?_eq_getElem hc2⟩
      have hkl : (fm_kp L X2 k).length ≤ k := fm_kp_len
      by_cases hm : n ∈ X2
      · refine lv_aload_n hx hb d_Mo_collect_74 rfl (lv_at hl 2 rfl) ?_
        refine va_get (D := D) (ci := 5) (v := .ref m6) (C := R_Mo) (T := F_Mo) (N := 12) hx hb hts i_Mo hown hK hP 0 rfl rfl 9 (by decide) (hts _ k_f_Mo_25) (fun _ h9 => h9) rfl d_Mo_collect_75 ?_
        refine lv_iload hx hb d_Mo_collect_78 (lv_at hl 0 rfl) ?_
        refine fy_zald (t0 := 1) (v := nI 1) hx hb hK hP 6 rfl rfl (by omega) (by omega) (by rw [hmk3 k n hn, if_pos hm]; rfl) d_Mo_collect_80 ?_
        refine lv_if_eq hx hb d_Mo_collect_81 (tgt := 94) (by decide) (fun h => absurd h (by decide)) (fun _ => ?_)
        refine lv_aload_n hx hb d_Mo_collect_84 rfl (lv_at hl 2 rfl) ?_
        refine lv_iload hx hb d_Mo_collect_85 (lv_at hl 0 rfl) ?_
        refine lv_iload_n hx hb d_Mo_collect_87 rfl (lv_at hl 1 rfl) ?_
        refine fy_callV (As := [.int (nI k), .int (nI ((fm_kp L X2 k).length))]) (rest := []) ⟨hx, hb, hml, hown, hts⟩ (c_Mo_move l s0 D cI cZ cJ cW hG mo m1 m2 m3 m4 m5 m6 m7 m8 (nI 0) N C L nu va ag fi re k (fm_kp L X2 k).length (by omega) hkl) (cwV 2 hts g_Mo_77 rfl rfl rfl (by decide +kernel) ⟨Nat.le_of_ble_eq_true rfl, Nat.le_of_ble_eq_true rfl⟩) hK hLa hAB hA hP hD hS [0, 1, 2, 3, 4, 5] rfl rfl (ci := 5) rfl rfl (q0 := 0) rfl rfl hl.1 rfl (Nat.le_of_ble_eq_true rfl) d_Mo_collect_88 ⟨Nat.zero_le _, Nat.zero_le _⟩ (fun r w1 H locs hp hP hD hS => ?_)
        obtain ⟨rfl, re2, hr1, hr2, rfl⟩ := hp
        have hP : va_P D vwCl [(mo, .inr (5, [.int (nI 0), .int (nI N), .int (nI C), .int (nI L.length), .ref m1, .ref m2, .ref m3, .ref m4, .ref m5, .ref m6, .ref m7, .ref m8])), (m1, .inl (cI, 80, .inl (upd nu (fm_kp L X2 k).length (nu k)))), (m2, .inl (cI, 80, .inl (upd va (fm_kp L X2 k).length (va k)))), (m3, .inl (cI, 80, .inl (upd ag (fm_kp L X2 k).length (ag k + nI 1)))), (m4, .inl (cI, 80, .inl (upd fi (fm_kp L X2 k).length (fi k)))), (m5, .inl (cI, 320, .inl re2)), (m6, .inl (cZ, 80, .inl mk3)), (m7, .inl (cI, 8, .inl mr)), (m8, .inl (cI, 4, .inl mw))] H := hP
        have hD : va_D A [(mo, .inr (5, [.int (nI 0), .int (nI N), .int (nI C), .int (nI L.length), .ref m1, .ref m2, .ref m3, .ref m4, .ref m5, .ref m6, .ref m7, .ref m8])), (m1, .inl (cI, 80, .inl (upd nu (fm_kp L X2 k).length (nu k)))), (m2, .inl (cI, 80, .inl (upd va (fm_kp L X2 k).length (va k)))), (m3, .inl (cI, 80, .inl (upd ag (fm_kp L X2 k).length (ag k + nI 1)))), (m4, .inl (cI, 80, .inl (upd fi (fm_kp L X2 k).length (fi k)))), (m5, .inl (cI, 320, .inl re2)), (m6, .inl (cZ, 80, .inl mk3)), (m7, .inl (cI, 8, .inl mr)), (m8, .inl (cI, 4, .inl mw))] := hD
        refine lv_iinc (v := nI (((fm_kp L X2 k).length) + 1)) hx hb d_Mo_collect_91 hl (k := 1) rfl (by rw [show Int32.ofInt 1 = nI 1 from by decide]; exact nI_add _ _) (by decide) rfl (fun ls hl => ?_)
        have hl : lv_has ls 6 [(3, .int (nI (((fm_kp L X2 k).length) + 1))), (4, .int (nI k)), (0, .ref mo), (1, .int (nI wn)), (2, .int a2)] := hl
        refine lv_iinc (v := nI (k + 1)) hx hb d_Mo_collect_94 hl (k := 1) rfl (by rw [show Int32.ofInt 1 = nI 1 from by decide]; exact nI_add _ _) (by decide) rfl (fun ls hl => ?_)
        have hl : lv_has ls 6 [(4, .int (nI (k + 1))), (3, .int (nI (((fm_kp L X2 k).length) + 1))), (0, .ref mo), (1, .int (nI wn)), (2, .int a2)] := hl
        refine lv_goto hx hb d_Mo_collect_97 (tgt := 65) (by decide) ?_
        have hl : lv_has ls 6 [(4, .int (nI (k + 1))), (3, .int (nI ((fm_kp L X2 (k + 1)).length))), (0, .ref mo), (1, .int (nI wn)), (2, .int a2)] := by rw [fm_kp_y hn hm, List.length_append]; exact hl
        have hl : lv_has ls 6 [(4, .int (nI (k + 1))), (3, .int (nI ((fm_kp L X2 (k + 1)).length))), (0, .ref mo), (1, .int (nI wn)), (2, .int a2)] := lv_sub hl [0, 1, 2, 3, 4] rfl
        exact ih2 _ (k + 1, upd nu (fm_kp L X2 k).length (nu k), upd va (fm_kp L X2 k).length (va k), upd ag (fm_kp L X2 k).length (ag k + nI 1), upd fi (fm_kp L X2 k).length (fi k), re2) _ _ _ (by omega) ⟨rfl, hc2, fm_mv_y hmv hn hm rfl hr1 hr2, hl, hP, hD, hS⟩
      · refine lv_aload_n hx hb d_Mo_collect_74 rfl (lv_at hl 2 rfl) ?_
        refine va_get (D := D) (ci := 5) (v := .ref m6) (C := R_Mo) (T := F_Mo) (N := 12) hx hb hts i_Mo hown hK hP 0 rfl rfl 9 (by decide) (hts _ k_f_Mo_25) (fun _ h9 => h9) rfl d_Mo_collect_75 ?_
        refine lv_iload hx hb d_Mo_collect_78 (lv_at hl 0 rfl) ?_
        refine fy_zald (t0 := 1) (v := nI 0) hx hb hK hP 6 rfl rfl (by omega) (by omega) (by rw [hmk3 k n hn, if_neg hm]; rfl) d_Mo_collect_80 ?_
        refine lv_if_eq hx hb d_Mo_collect_81 (tgt := 94) (by decide) (fun _ => ?_) (fun h => absurd (rfl) h)
        refine lv_iinc (v := nI (k + 1)) hx hb d_Mo_collect_94 hl (k := 0) rfl (by rw [show Int32.ofInt 1 = nI 1 from by decide]; exact nI_add _ _) (by decide) rfl (fun ls hl => ?_)
        have hl : lv_has ls 6 [(4, .int (nI (k + 1))), (3, .int (nI ((fm_kp L X2 k).length))), (0, .ref mo), (1, .int (nI wn)), (2, .int a2)] := hl
        refine lv_goto hx hb d_Mo_collect_97 (tgt := 65) (by decide) ?_
        rw [← fm_kp_n hn hm] at hl
        have hl : lv_has ls 6 [(4, .int (nI (k + 1))), (3, .int (nI ((fm_kp L X2 (k + 1)).length))), (0, .ref mo), (1, .int (nI wn)), (2, .int a2)] := lv_sub hl [0, 1, 2, 3, 4] rfl
        exact ih2 _ (k + 1, nu, va, ag, fi, re) _ _ _ (by omega) ⟨rfl, hc2, fm_mv_n hmv hn hm, hl, hP, hD, hS⟩
  · have hc : j < 8 := by have := mt (nI_leI (a := 8) (b := j) (by omega) (by omega)).mpr hc; omega
    refine lv_aload_n hx hb d_Mo_collect_40 rfl (lv_at hl 1 rfl) ?_
    refine lv_aload_n hx hb d_Mo_collect_41 rfl (lv_at hl 1 rfl) ?_
    refine va_get (D := D) (ci := 5) (v := .ref m7) (C := R_Mo) (T := F_Mo) (N := 12) hx hb hts i_Mo hown hK hP 0 rfl rfl 10 (by decide) (hts _ k_f_Mo_29) (fun _ h9 => h9) rfl d_Mo_collect_42 ?_
    refine lv_iload_n hx hb d_Mo_collect_45 rfl (lv_at hl 0 rfl) ?_
    refine fy_iald (t0 := 0) (v := fm_o (reg j)) hx hb hK hP 7 rfl rfl (by omega) (by omega) (hM.2.1 j hc) d_Mo_collect_46 ?_
    refine fy_callV (As := [.int (fm_o (reg j))]) (rest := []) ⟨hx, hb, hml, hown, hts⟩ (c_Mo_begin l s0 D cI cZ cJ cW hG mo m1 m2 m3 m4 m5 m6 m7 m8 (nI 0) N C L nu (reg j) hM.num hI.2.2.2.1 hI.len hI.lt X mk1 (hI.inR hc) hmk1) (cwV 1 hts g_Mo_67 rfl rfl rfl (by decide +kernel) ⟨Nat.le_of_ble_eq_true rfl, Nat.le_of_ble_eq_true rfl⟩) hK hLa hAB hA hP hD hS [0, 1, 6] rfl rfl (ci := 5) rfl rfl (q0 := 0) rfl rfl hl.1 rfl (Nat.le_of_ble_eq_true rfl) d_Mo_collect_47 ⟨Nat.zero_le _, Nat.zero_le _⟩ (fun r w1 H locs hp hP hD hS => ?_)
    obtain ⟨rfl, mk2, hmk2, rfl⟩ := hp
    have hP : va_P D vwCl [(mo, .inr (5, [.int (nI 0), .int (nI N), .int (nI C), .int (nI L.length), .ref m1, .ref m2, .ref m3, .ref m4, .ref m5, .ref m6, .ref m7, .ref m8])), (m1, .inl (cI, 80, .inl nu)), (m2, .inl (cI, 80, .inl va)), (m3, .inl (cI, 80, .inl ag)), (m4, .inl (cI, 80, .inl fi)), (m5, .inl (cI, 320, .inl re)), (m6, .inl (cZ, 80, .inl mk2)), (m7, .inl (cI, 8, .inl mr)), (m8, .inl (cI, 4, .inl mw))] H := hP
    have hD : va_D A [(mo, .inr (5, [.int (nI 0), .int (nI N), .int (nI C), .int (nI L.length), .ref m1, .ref m2, .ref m3, .ref m4, .ref m5, .ref m6, .ref m7, .ref m8])), (m1, .inl (cI, 80, .inl nu)), (m2, .inl (cI, 80, .inl va)), (m3, .inl (cI, 80, .inl ag)), (m4, .inl (cI, 80, .inl fi)), (m5, .inl (cI, 320, .inl re)), (m6, .inl (cZ, 80, .inl mk2)), (m7, .inl (cI, 8, .inl mr)), (m8, .inl (cI, 4, .inl mw))] := hD
    refine lv_iinc (v := nI (j + 1)) hx hb d_Mo_collect_50 hl (k := 0) rfl (by rw [show Int32.ofInt 1 = nI 1 from by decide]; exact nI_add _ _) (by decide) rfl (fun ls hl => ?_)
    have hl : lv_has ls 6 [(3, .int (nI (j + 1))), (0, .ref mo), (1, .int (nI wn)), (2, .int a2)] := hl
    refine lv_goto hx hb d_Mo_collect_53 (tgt := 34) (by decide) ?_
    have hl : lv_has ls 6 [(3, .int (nI (j + 1))), (0, .ref mo), (1, .int (nI wn)), (2, .int a2)] := lv_sub hl [0, 1, 2, 3] rfl
    exact ih _ (j + 1, fm_add X (reg j), mk2) _ _ _ (by omega) ⟨rfl, hc, fm_M_add hX (fun m hm => ⟨hI.inR hc m hm, fm_Cl.base ⟨j, hc, hm⟩⟩), fun q hq n hn => fm_mem_add.mpr (by by_cases e : q = j; (subst e; exact Or.inr hn); (exact Or.inl (hXr q (by omega) n hn))), hmk2, hl, hP, hD, hS⟩
