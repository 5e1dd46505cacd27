theorem fy_lt5 {x : Int32} (h : x ≤ nI 4) : x < nI 5 := by
  rw [Int32.lt_iff_toInt_lt]; rw [Int32.le_iff_toInt_le] at h
  have h1 : (nI 4).toInt = 4 := by decide
  have h2 : (nI 5).toInt = 5 := by decide
  omega
theorem fy_lt4 {x : Int32} (h : x ≤ nI 3) : x < nI 4 := by
  rw [Int32.lt_iff_toInt_lt]; rw [Int32.le_iff_toInt_le] at h
  have h1 : (nI 3).toInt = 3 := by decide
  have h2 : (nI 4).toInt = 4 := by decide
  omega
theorem fy_out4 {x : Int32} (h : ¬ fy_ok 4 x) : x.toInt < 0 ∨ 3 < x.toInt := by
  unfold fy_ok at h
  rw [Int32.lt_iff_toInt_lt, Int32.le_iff_toInt_le] at h
  have h1 : (0 : Int32).toInt = 0 := by decide
  have h2 : (nI 4).toInt = 4 := by decide
  omega
set_option maxRecDepth 20000 in
set_option maxHeartbeats 4000000 in
theorem c_Yd_checkRegister (l : Launch) (s0 : State) (D : va_G) (cI cZ cJ cW : ClassId) (hG : fy_G s0 D cI cZ cJ cW) (k : Nat) (hk : k < 8) : fy_Met l s0 D vwCl y_Yd_checkRegister w_Yd_checkRegister (fy_rm 0) 0 0 [.int (nI k)] [] (fun r w1 => r = none ∧ w1 = []) := by
  refine fy_st (bytes := b_Yd_checkRegister) (maxL := 1) (ret := none) hG (by decide) rfl (Nat.le_of_ble_eq_true rfl) ?_
  intro p e s m below meth c A ls hx hb hr hlocks hml hown hts hK hLa hAe hAB hA hl hP hD hS
  have hl : lv_has ls 1 [(0, .int (nI k))] := hl
  refine lv_iload_n hx hb d_Yd_checkRegister_0 rfl (lv_at hl 0 rfl) ?_
  refine lv_if_lt hx hb d_Yd_checkRegister_1 (tgt := 10) (by decide) (fun h => absurd h (nI_pos (by omega))) (fun _ => ?_)
  refine lv_iload_n hx hb d_Yd_checkRegister_4 rfl (lv_at hl 0 rfl) ?_
  refine lv_bipush (v := nI 8) hx hb d_Yd_checkRegister_5 (by decide) ?_
  refine lv_icmp_lt hx hb d_Yd_checkRegister_7 (tgt := 20) (by decide) (fun _ => ?_) (fun h => absurd ((nI_ltI (by omega) (by omega)).mpr hk) h)
  exact fy_retv hx hb hr hlocks hAe (⟨rfl, rfl⟩) (List.Perm.refl _) hP hS d_Yd_checkRegister_20
set_option maxRecDepth 20000 in
set_option maxHeartbeats 4000000 in
theorem x_Yd_checkRegister (l : Launch) (s0 : State) (D : va_G) (cI cZ cJ cW : ClassId) (hG : fy_G s0 D cI cZ cJ cW) (hX : fy_GX l s0) (r : Int32) (hr : ¬ fy_ok 8 r) : fy_X l s0 D vwCl y_Yd_checkRegister w_Yd_checkRegister (fy_rx 0) [.int r] [] fy_nI := by
  refine fy_xst (bytes := b_Yd_checkRegister) (maxL := 1) (ret := none) hG (by decide) rfl (Nat.le_of_ble_eq_true rfl) ?_
  intro p e s m below meth c A ls hx hb hout hlocks hml hown hts hK hLa hAe hAB hA hl hP hD hS
  have hl : lv_has ls 1 [(0, .int r)] := hl
  refine lv_iload_n hx hb d_Yd_checkRegister_0 rfl (lv_at hl 0 rfl) ?_
  refine lv_if_lt hx hb d_Yd_checkRegister_1 (tgt := 10) (by decide) (fun hc => ?_) (fun hc => ?_)
  · exact fy_tI hG hX k_str_149 hx hb hown hLa hAB hAe hP hS (hl.1.trans hml.symm) d_Yd_checkRegister_10 d_Yd_checkRegister_13 d_Yd_checkRegister_14 d_Yd_checkRegister_16 d_Yd_checkRegister_19 hout ⟨Nat.le_of_ble_eq_true rfl, Nat.le_of_ble_eq_true rfl, Nat.le_of_ble_eq_true rfl, Nat.le_of_ble_eq_true rfl⟩ hlocks
  · refine lv_iload_n hx hb d_Yd_checkRegister_4 rfl (lv_at hl 0 rfl) ?_
    refine lv_bipush (v := nI 8) hx hb d_Yd_checkRegister_5 (by decide) ?_
    refine lv_icmp_lt hx hb d_Yd_checkRegister_7 (tgt := 20) (by decide) (fun h => absurd h (fun h => hr ⟨Int32.not_lt.mp hc, h⟩)) (fun _ => ?_)
    exact fy_tI hG hX k_str_149 hx hb hown hLa hAB hAe hP hS (hl.1.trans hml.symm) d_Yd_checkRegister_10 d_Yd_checkRegister_13 d_Yd_checkRegister_14 d_Yd_checkRegister_16 d_Yd_checkRegister_19 hout ⟨Nat.le_of_ble_eq_true rfl, Nat.le_of_ble_eq_true rfl, Nat.le_of_ble_eq_true rfl, Nat.le_of_ble_eq_true rfl⟩ hlocks
set_option maxRecDepth 20000 in
set_option maxHeartbeats 4000000 in
theorem c_Yd_checkWeakRegister (l : Launch) (s0 : State) (D : va_G) (cI cZ cJ cW : ClassId) (hG : fy_G s0 D cI cZ cJ cW) (k : Nat) (hk : k < 4) : fy_Met l s0 D vwCl y_Yd_checkWeakRegister w_Yd_checkWeakRegister (fy_rm 0) 0 0 [.int (nI k)] [] (fun r w1 => r = none ∧ w1 = []) := by
  refine fy_st (bytes := b_Yd_checkWeakRegister) (maxL := 1) (ret := none) hG (by decide) rfl (Nat.le_of_ble_eq_true rfl) ?_
  intro p e s m below meth c A ls hx hb hr hlocks hml hown hts hK hLa hAe hAB hA hl hP hD hS
  have hl : lv_has ls 1 [(0, .int (nI k))] := hl
  refine lv_iload_n hx hb d_Yd_checkWeakRegister_0 rfl (lv_at hl 0 rfl) ?_
  refine lv_if_lt hx hb d_Yd_checkWeakRegister_1 (tgt := 9) (by decide) (fun h => absurd h (nI_pos (by omega))) (fun _ => ?_)
  refine lv_iload_n hx hb d_Yd_checkWeakRegister_4 rfl (lv_at hl 0 rfl) ?_
  refine lv_iconst (v := nI 4) hx hb d_Yd_checkWeakRegister_5 (by decide) ?_
  refine lv_icmp_lt hx hb d_Yd_checkWeakRegister_6 (tgt := 19) (by decide) (fun _ => ?_) (fun h => absurd ((nI_ltI (by omega) (by omega)).mpr hk) h)
  exact fy_retv hx hb hr hlocks hAe (⟨rfl, rfl⟩) (List.Perm.refl _) hP hS d_Yd_checkWeakRegister_19
set_option maxRecDepth 20000 in
set_option maxHeartbeats 4000000 in
theorem x_Yd_checkWeakRegister (l : Launch) (s0 : State) (D : va_G) (cI cZ cJ cW : ClassId) (hG : fy_G s0 D cI cZ cJ cW) (hX : fy_GX l s0) (r : Int32) (hr : ¬ fy_ok 4 r) : fy_X l s0 D vwCl y_Yd_checkWeakRegister w_Yd_checkWeakRegister (fy_rx 0) [.int r] [] fy_nI := by
  refine fy_xst (bytes := b_Yd_checkWeakRegister) (maxL := 1) (ret := none) hG (by decide) rfl (Nat.le_of_ble_eq_true rfl) ?_
  intro p e s m below meth c A ls hx hb hout hlocks hml hown hts hK hLa hAe hAB hA hl hP hD hS
  have hl : lv_has ls 1 [(0, .int r)] := hl
  refine lv_iload_n hx hb d_Yd_checkWeakRegister_0 rfl (lv_at hl 0 rfl) ?_
  refine lv_if_lt hx hb d_Yd_checkWeakRegister_1 (tgt := 9) (by decide) (fun hc => ?_) (fun hc => ?_)
  · exact fy_tI hG hX k_str_151 hx hb hown hLa hAB hAe hP hS (hl.1.trans hml.symm) d_Yd_checkWeakRegister_9 d_Yd_checkWeakRegister_12 d_Yd_checkWeakRegister_13 d_Yd_checkWeakRegister_15 d_Yd_checkWeakRegister_18 hout ⟨Nat.le_of_ble_eq_true rfl, Nat.le_of_ble_eq_true rfl, Nat.le_of_ble_eq_true rfl, Nat.le_of_ble_eq_true rfl⟩ hlocks
  · refine lv_iload_n hx hb d_Yd_checkWeakRegister_4 rfl (lv_at hl 0 rfl) ?_
    refine lv_iconst (v := nI 4) hx hb d_Yd_checkWeakRegister_5 (by decide) ?_
    refine lv_icmp_lt hx hb d_Yd_checkWeakRegister_6 (tgt := 19) (by decide) (fun h => absurd h (fun h => hr ⟨Int32.not_lt.mp hc, h⟩)) (fun _ => ?_)
    exact fy_tI hG hX k_str_151 hx hb hown hLa hAB hAe hP hS (hl.1.trans hml.symm) d_Yd_checkWeakRegister_9 d_Yd_checkWeakRegister_12 d_Yd_checkWeakRegister_13 d_Yd_checkWeakRegister_15 d_Yd_checkWeakRegister_18 hout ⟨Nat.le_of_ble_eq_true rfl, Nat.le_of_ble_eq_true rfl, Nat.le_of_ble_eq_true rfl, Nat.le_of_ble_eq_true rfl⟩ hlocks
set_option maxRecDepth 20000 in
set_option maxHeartbeats 4000000 in
theorem c_Yd_objectOf (l : Launch) (s0 : State) (D : va_G) (cI cZ cJ cW : ClassId) (hG : fy_G s0 D cI cZ cJ cW) (yd rg wr cr wl sp sq rw : Nat) (mN cN : Nat) (G : Nat → Int32) (k a : Nat) (hk : k < 8) (ha : a < 240) (hg : G k = nI a) : fy_Met l s0 D vwCl y_Yd_objectOf w_Yd_objectOf (fy_rm 0) 0 0 [.ref yd, .int (nI k)] [(yd, .inr (0, [.ref rg, .ref wr, .ref cr, .ref wl, .ref sp, .ref sq, .int (nI mN), .int (nI cN)])), (rg, .inl (cI, 8, .inl G))] (fun r w1 => r = some (.int (nI a)) ∧ w1 = [(yd, .inr (0, [.ref rg, .ref wr, .ref cr, .ref wl, .ref sp, .ref sq, .int (nI mN), .int (nI cN)])), (rg, .inl (cI, 8, .inl G))]) := by
  refine fy_st (bytes := b_Yd_objectOf) (maxL := 3) (ret := some .int) hG (by decide) rfl (Nat.le_of_ble_eq_true rfl) ?_
  intro p e s m below meth c A ls hx hb hr hlocks hml hown hts hK hLa hAe hAB hA hl hP hD hS
  have hl : lv_has ls 3 [(0, .ref yd), (1, .int (nI k))] := hl
  refine lv_aload_n hx hb d_Yd_objectOf_0 rfl (lv_at hl 0 rfl) ?_
  refine va_get (D := D) (ci := 0) (v := .ref rg) (C := R_Yd) (T := F_Yd) (N := 8) hx hb hts i_Yd hown hK hP 0 rfl rfl 0 (by decide) (hts _ k_f_Yd_9) (fun _ h9 => h9) rfl d_Yd_objectOf_1 ?_
  refine lv_iload_n hx hb d_Yd_objectOf_4 rfl (lv_at hl 1 rfl) ?_
  refine fy_iald (t0 := 0) (v := nI a) hx hb hK hP 1 rfl rfl (by omega) (by omega) (hg) d_Yd_objectOf_5 ?_
  refine lv_istore_n hx hb d_Yd_objectOf_6 rfl hl (by decide) rfl (fun ls hl => ?_)
  have hl : lv_has ls 3 [(2, .int (nI a)), (0, .ref yd), (1, .int (nI k))] := hl
  refine lv_iload_n hx hb d_Yd_objectOf_7 rfl (lv_at hl 0 rfl) ?_
  refine lv_iconst (v := -1) hx hb d_Yd_objectOf_8 (by decide) ?_
  refine lv_icmp_ne hx hb d_Yd_objectOf_9 (tgt := 22) (by decide) (fun _ => ?_) (fun h => absurd h (fm_m1 (by omega)))
  refine lv_iload_n hx hb d_Yd_objectOf_22 rfl (lv_at hl 0 rfl) ?_
  exact fy_reti hx hb hr hlocks hAe (⟨rfl, rfl⟩) (List.Perm.refl _) hP hS d_Yd_objectOf_23
set_option maxRecDepth 20000 in
set_option maxHeartbeats 4000000 in
theorem x_Yd_objectOf (l : Launch) (s0 : State) (D : va_G) (cI cZ cJ cW : ClassId) (hG : fy_G s0 D cI cZ cJ cW) (hX : fy_GX l s0) (yd rg wr cr wl sp sq rw : Nat) (mN cN : Nat) (G : Nat → Int32) (k : Nat) (hk : k < 8) (hg : G k = -1) : fy_X l s0 D vwCl y_Yd_objectOf w_Yd_objectOf (fy_rx 0) [.ref yd, .int (nI k)] [(yd, .inr (0, [.ref rg, .ref wr, .ref cr, .ref wl, .ref sp, .ref sq, .int (nI mN), .int (nI cN)])), (rg, .inl (cI, 8, .inl G))] fy_nN := by
  refine fy_xst (bytes := b_Yd_objectOf) (maxL := 3) (ret := some .int) hG (by decide) rfl (Nat.le_of_ble_eq_true rfl) ?_
  intro p e s m below meth c A ls hx hb hout hlocks hml hown hts hK hLa hAe hAB hA hl hP hD hS
  have hl : lv_has ls 3 [(0, .ref yd), (1, .int (nI k))] := hl
  refine lv_aload_n hx hb d_Yd_objectOf_0 rfl (lv_at hl 0 rfl) ?_
  refine va_get (D := D) (ci := 0) (v := .ref rg) (C := R_Yd) (T := F_Yd) (N := 8) hx hb hts i_Yd hown hK hP 0 rfl rfl 0 (by decide) (hts _ k_f_Yd_9) (fun _ h9 => h9) rfl d_Yd_objectOf_1 ?_
  refine lv_iload_n hx hb d_Yd_objectOf_4 rfl (lv_at hl 1 rfl) ?_
  refine fy_iald (t0 := 0) (v := -1) hx hb hK hP 1 rfl rfl (by omega) (by omega) (hg) d_Yd_objectOf_5 ?_
  refine lv_istore_n hx hb d_Yd_objectOf_6 rfl hl (by decide) rfl (fun ls hl => ?_)
  have hl : lv_has ls 3 [(2, .int (-1)), (0, .ref yd), (1, .int (nI k))] := hl
  refine lv_iload_n hx hb d_Yd_objectOf_7 rfl (lv_at hl 0 rfl) ?_
  refine lv_iconst (v := -1) hx hb d_Yd_objectOf_8 (by decide) ?_
  refine lv_icmp_ne hx hb d_Yd_objectOf_9 (tgt := 22) (by decide) (fun h => absurd (rfl) h) (fun _ => ?_)
  exact fy_tN hG hX k_str_160 hx hb hown hLa hAB hAe hP hS (hl.1.trans hml.symm) d_Yd_objectOf_12 d_Yd_objectOf_15 d_Yd_objectOf_16 d_Yd_objectOf_18 d_Yd_objectOf_21 hout ⟨Nat.le_of_ble_eq_true rfl, Nat.le_of_ble_eq_true rfl, Nat.le_of_ble_eq_true rfl, Nat.le_of_ble_eq_true rfl⟩ hlocks
set_option maxRecDepth 20000 in
set_option maxHeartbeats 4000000 in
theorem c_Yd_checkField (l : Launch) (s0 : State) (D : va_G) (cI cZ cJ cW : ClassId) (hG : fy_G s0 D cI cZ cJ cW) (yd rg wr cr wl sp sq rw : Nat) (mN cN : Nat) (row : Nat → Int32) (wd ob : Int32) (a g k : Nat) (ha : a + 2 < 240) (hk : k < 8) (hg : 8 * g + k < 2 ^ 31) (hs : row (a + 2) = nI (8 * g + k)) (f : Nat) (hf : f < k) : fy_Met l s0 D vwCl y_Yd_checkField w_Yd_checkField (fy_rm 1) 0 0 [.ref yd, .int (nI a), .int (nI f)] [(yd, .inr (0, [.ref rg, .ref wr, .ref cr, .ref wl, .ref sp, .ref sq, .int (nI mN), .int (nI cN)])), (sp, .inr (4, [.ref rw, .int wd, .int ob])), (rw, .inl (cI, 240, .inl row))] (fun r w1 => r = none ∧ w1 = [(yd, .inr (0, [.ref rg, .ref wr, .ref cr, .ref wl, .ref sp, .ref sq, .int (nI mN), .int (nI cN)])), (sp, .inr (4, [.ref rw, .int wd, .int ob])), (rw, .inl (cI, 240, .inl row))]) := by
  refine fy_st (bytes := b_Yd_checkField) (maxL := 3) (ret := none) hG (by decide) rfl (Nat.le_of_ble_eq_true rfl) ?_
  intro p e s m below meth c A ls hx hb hr hlocks hml hown hts hK hLa hAe hAB hA hl hP hD hS
  have hl : lv_has ls 3 [(0, .ref yd), (1, .int (nI a)), (2, .int (nI f))] := hl
  refine lv_iload_n hx hb d_Yd_checkField_0 rfl (lv_at hl 2 rfl) ?_
  refine lv_if_lt hx hb d_Yd_checkField_1 (tgt := 16) (by decide) (fun h => absurd h (nI_pos (by omega))) (fun _ => ?_)
  refine lv_iload_n hx hb d_Yd_checkField_4 rfl (lv_at hl 2 rfl) ?_
  refine lv_aload_n hx hb d_Yd_checkField_5 rfl (lv_at hl 0 rfl) ?_
  refine va_get (D := D) (ci := 0) (v := .ref sp) (C := R_Yd) (T := F_Yd) (N := 8) hx hb hts i_Yd hown hK hP 0 rfl rfl 4 (by decide) (hts _ k_f_Yd_33) (fun _ h9 => h9) rfl d_Yd_checkField_6 ?_
  refine lv_iload_n hx hb d_Yd_checkField_9 rfl (lv_at hl 1 rfl) ?_
  refine fy_callV (As := [.int (nI a)]) (rest := [.int (nI f)]) ⟨hx, hb, hml, hown, hts⟩ (c_Sp_fieldCountOf l s0 D cI cZ cJ cW hG sp rw row wd ob a g k ha hk hg hs) (cwV 1 hts g_Yd_110 rfl rfl rfl (by decide +kernel) ⟨Nat.le_of_ble_eq_true rfl, Nat.le_of_ble_eq_true rfl⟩) hK hLa hAB hA hP hD hS [1, 2] rfl rfl (ci := 4) rfl rfl (q0 := 1) rfl rfl hl.1 rfl (Nat.le_of_ble_eq_true rfl) d_Yd_checkField_10 ⟨Nat.zero_le _, Nat.zero_le _⟩ (fun r w1 H locs hp hP hD hS => ?_)
  obtain ⟨rfl, rfl⟩ := hp
  have hP : va_P D vwCl [(yd, .inr (0, [.ref rg, .ref wr, .ref cr, .ref wl, .ref sp, .ref sq, .int (nI mN), .int (nI cN)])), (sp, .inr (4, [.ref rw, .int wd, .int ob])), (rw, .inl (cI, 240, .inl row))] H := hP
  have hD : va_D A [(yd, .inr (0, [.ref rg, .ref wr, .ref cr, .ref wl, .ref sp, .ref sq, .int (nI mN), .int (nI cN)])), (sp, .inr (4, [.ref rw, .int wd, .int ob])), (rw, .inl (cI, 240, .inl row))] := hD
  refine lv_icmp_lt hx hb d_Yd_checkField_13 (tgt := 26) (by decide) (fun _ => ?_) (fun h => absurd ((nI_ltI (by omega) (by omega)).mpr hf) h)
  exact fy_retv hx hb hr hlocks hAe (⟨rfl, rfl⟩) (List.Perm.refl _) hP hS d_Yd_checkField_26
set_option maxRecDepth 20000 in
set_option maxHeartbeats 4000000 in
theorem x_Yd_checkField (l : Launch) (s0 : State) (D : va_G) (cI cZ cJ cW : ClassId) (hG : fy_G s0 D cI cZ cJ cW) (hX : fy_GX l s0) (yd rg wr cr wl sp sq rw : Nat) (mN cN : Nat) (row : Nat → Int32) (wd ob : Int32) (a g k : Nat) (ha : a + 2 < 240) (hk : k < 8) (hg : 8 * g + k < 2 ^ 31) (hs : row (a + 2) = nI (8 * g + k)) (f : Int32) (hf : ¬ fy_ok k f) : fy_X l s0 D vwCl y_Yd_checkField w_Yd_checkField (fy_rx 0) [.ref yd, .int (nI a), .int f] [(yd, .inr (0, [.ref rg, .ref wr, .ref cr, .ref wl, .ref sp, .ref sq, .int (nI mN), .int (nI cN)])), (sp, .inr (4, [.ref rw, .int wd, .int ob])), (rw, .inl (cI, 240, .inl row))] fy_nO := by
  refine fy_xst (bytes := b_Yd_checkField) (maxL := 3) (ret := none) hG (by decide) rfl (Nat.le_of_ble_eq_true rfl) ?_
  intro p e s m below meth c A ls hx hb hout hlocks hml hown hts hK hLa hAe hAB hA hl hP hD hS
  have hl : lv_has ls 3 [(0, .ref yd), (1, .int (nI a)), (2, .int f)] := hl
  refine lv_iload_n hx hb d_Yd_checkField_0 rfl (lv_at hl 2 rfl) ?_
  refine lv_if_lt hx hb d_Yd_checkField_1 (tgt := 16) (by decide) (fun hc => ?_) (fun hc => ?_)
  · exact fy_tO hG hX k_str_155 hx hb hown hLa hAB hAe hP hS (hl.1.trans hml.symm) d_Yd_checkField_16 d_Yd_checkField_19 d_Yd_checkField_20 d_Yd_checkField_22 d_Yd_checkField_25 hout ⟨Nat.le_of_ble_eq_true rfl, Nat.le_of_ble_eq_true rfl, Nat.le_of_ble_eq_true rfl, Nat.le_of_ble_eq_true rfl⟩ hlocks
  · refine lv_iload_n hx hb d_Yd_checkField_4 rfl (lv_at hl 2 rfl) ?_
    refine lv_aload_n hx hb d_Yd_checkField_5 rfl (lv_at hl 0 rfl) ?_
    refine va_get (D := D) (ci := 0) (v := .ref sp) (C := R_Yd) (T := F_Yd) (N := 8) hx hb hts i_Yd hown hK hP 0 rfl rfl 4 (by decide) (hts _ k_f_Yd_33) (fun _ h9 => h9) rfl d_Yd_checkField_6 ?_
    refine lv_iload_n hx hb d_Yd_checkField_9 rfl (lv_at hl 1 rfl) ?_
    refine fy_callV (As := [.int (nI a)]) (rest := [.int f]) ⟨hx, hb, hml, hown, hts⟩ (c_Sp_fieldCountOf l s0 D cI cZ cJ cW hG sp rw row wd ob a g k ha hk hg hs) (cwV 1 hts g_Yd_110 rfl rfl rfl (by decide +kernel) ⟨Nat.le_of_ble_eq_true rfl, Nat.le_of_ble_eq_true rfl⟩) hK hLa hAB hA hP hD hS [1, 2] rfl rfl (ci := 4) rfl rfl (q0 := 1) rfl rfl hl.1 rfl (Nat.le_of_ble_eq_true rfl) d_Yd_checkField_10 ⟨Nat.zero_le _, Nat.zero_le _⟩ (fun r w1 H locs hp hP hD hS => ?_)
    obtain ⟨rfl, rfl⟩ := hp
    have hP : va_P D vwCl [(yd, .inr (0, [.ref rg, .ref wr, .ref cr, .ref wl, .ref sp, .ref sq, .int (nI mN), .int (nI cN)])), (sp, .inr (4, [.ref rw, .int wd, .int ob])), (rw, .inl (cI, 240, .inl row))] H := hP
    have hD : va_D A [(yd, .inr (0, [.ref rg, .ref wr, .ref cr, .ref wl, .ref sp, .ref sq, .int (nI mN), .int (nI cN)])), (sp, .inr (4, [.ref rw, .int wd, .int ob])), (rw, .inl (cI, 240, .inl row))] := hD
    refine lv_icmp_lt hx hb d_Yd_checkField_13 (tgt := 26) (by decide) (fun h => absurd h (fun h => hf ⟨Int32.not_lt.mp hc, h⟩)) (fun _ => ?_)
    exact fy_tO hG hX k_str_155 hx hb hown hLa hAB hAe hP hS (hl.1.trans hml.symm) d_Yd_checkField_16 d_Yd_checkField_19 d_Yd_checkField_20 d_Yd_checkField_22 d_Yd_checkField_25 hout ⟨Nat.le_of_ble_eq_true rfl, Nat.le_of_ble_eq_true rfl, Nat.le_of_ble_eq_true rfl, Nat.le_of_ble_eq_true rfl⟩ hlocks
set_option maxRecDepth 20000 in
set_option maxHeartbeats 4000000 in
theorem c_Yd_numberOrNothing (l : Launch) (s0 : State) (D : va_G) (cI cZ cJ cW : ClassId) (hG : fy_G s0 D cI cZ cJ cW) (yd rg wr cr wl sp sq rw : Nat) (mN cN : Nat) (row : Nat → Int32) (wd ob : Int32) (L : List Nat) (val : Nat → Int32) (age nf : Nat → Nat) (rf : Nat → Nat → Option Nat) (pl : Nat → Nat) (o : Option Nat) (hk : fm_Ok L val age nf rf pl row) (ho : ∀ n, o = some n → n ∈ L) : fy_Met l s0 D vwCl y_Yd_numberOrNothing w_Yd_numberOrNothing (fy_rm 1) 0 0 [.ref yd, .int (fm_o (o.map pl))] [(yd, .inr (0, [.ref rg, .ref wr, .ref cr, .ref wl, .ref sp, .ref sq, .int (nI mN), .int (nI cN)])), (sp, .inr (4, [.ref rw, .int wd, .int ob])), (rw, .inl (cI, 240, .inl row))] (fun r w1 => r = some (.int (fm_o o)) ∧ w1 = [(yd, .inr (0, [.ref rg, .ref wr, .ref cr, .ref wl, .ref sp, .ref sq, .int (nI mN), .int (nI cN)])), (sp, .inr (4, [.ref rw, .int wd, .int ob])), (rw, .inl (cI, 240, .inl row))]) := by
  refine fy_st (bytes := b_Yd_numberOrNothing) (maxL := 2) (ret := some .int) hG (by decide) rfl (Nat.le_of_ble_eq_true rfl) ?_
  intro p e s m below meth c A ls hx hb hr hlocks hml hown hts hK hLa hAe hAB hA hl hP hD hS
  have hl : lv_has ls 2 [(0, .ref yd), (1, .int (fm_o (o.map pl)))] := hl
  cases o with
  | none =>
    refine lv_iload_n hx hb d_Yd_numberOrNothing_0 rfl (lv_at hl 1 rfl) ?_
    refine lv_iconst (v := -1) hx hb d_Yd_numberOrNothing_1 (by decide) ?_
    refine lv_icmp_ne hx hb d_Yd_numberOrNothing_2 (tgt := 9) (by decide) (fun h => absurd (rfl) h) (fun _ => ?_)
    refine lv_iconst (v := -1) hx hb d_Yd_numberOrNothing_5 (by decide) ?_
    refine lv_goto hx hb d_Yd_numberOrNothing_6 (tgt := 17) (by decide) ?_
    exact fy_reti hx hb hr hlocks hAe (⟨rfl, rfl⟩) (List.Perm.refl _) hP hS d_Yd_numberOrNothing_17
  | some n =>
    have hn := hk.at (ho n rfl)
    have hp := hk.lt n (ho n rfl)
    have hl : lv_has ls 2 [(0, .ref yd), (1, .int (nI (pl n)))] := hl
    refine lv_iload_n hx hb d_Yd_numberOrNothing_0 rfl (lv_at hl 1 rfl) ?_
    refine lv_iconst (v := -1) hx hb d_Yd_numberOrNothing_1 (by decide) ?_
    refine lv_icmp_ne hx hb d_Yd_numberOrNothing_2 (tgt := 9) (by decide) (fun _ => ?_) (fun h => absurd h (fm_m1 (by omega)))
    refine lv_aload_n hx hb d_Yd_numberOrNothing_9 rfl (lv_at hl 0 rfl) ?_
    refine va_get (D := D) (ci := 0) (v := .ref sp) (C := R_Yd) (T := F_Yd) (N := 8) hx hb hts i_Yd hown hK hP 0 rfl rfl 4 (by decide) (hts _ k_f_Yd_33) (fun _ h9 => h9) rfl d_Yd_numberOrNothing_10 ?_
    refine lv_iload_n hx hb d_Yd_numberOrNothing_13 rfl (lv_at hl 1 rfl) ?_
    refine fy_callV (As := [.int (nI (pl n))]) (rest := []) ⟨hx, hb, hml, hown, hts⟩ (c_Sp_numberOf l s0 D cI cZ cJ cW hG sp rw row wd ob (pl n) hp) (cwV 1 hts g_Yd_104 rfl rfl rfl (by decide +kernel) ⟨Nat.le_of_ble_eq_true rfl, Nat.le_of_ble_eq_true rfl⟩) hK hLa hAB hA hP hD hS [1, 2] rfl rfl (ci := 4) rfl rfl (q0 := 1) rfl rfl hl.1 rfl (Nat.le_of_ble_eq_true rfl) d_Yd_numberOrNothing_14 ⟨Nat.zero_le _, Nat.zero_le _⟩ (fun r w1 H locs hp hP hD hS => ?_)
    obtain ⟨rfl, rfl⟩ := hp
    have hP : va_P D vwCl [(yd, .inr (0, [.ref rg, .ref wr, .ref cr, .ref wl, .ref sp, .ref sq, .int (nI mN), .int (nI cN)])), (sp, .inr (4, [.ref rw, .int wd, .int ob])), (rw, .inl (cI, 240, .inl row))] H := hP
    have hD : va_D A [(yd, .inr (0, [.ref rg, .ref wr, .ref cr, .ref wl, .ref sp, .ref sq, .int (nI mN), .int (nI cN)])), (sp, .inr (4, [.ref rw, .int wd, .int ob])), (rw, .inl (cI, 240, .inl row))] := hD
    refine fy_top (z := nI n) (hn.2.1) ?_
    exact fy_reti hx hb hr hlocks hAe (⟨rfl, rfl⟩) (List.Perm.refl _) hP hS d_Yd_numberOrNothing_17
set_option maxRecDepth 20000 in
set_option maxHeartbeats 4000000 in
theorem c_Yd_make (l : Launch) (s0 : State) (D : va_G) (cI cZ cJ cW : ClassId) (hG : fy_G s0 D cI cZ cJ cW) (yd rg wr cr wl sp sq rw : Nat) (mN cN : Nat) (G row : Nat → Int32) (wd ob k fl : Nat) (v : Int32) (hk : k < 8) (hf : fl ≤ 4) (hw : wd + 3 + fl ≤ 240) : fy_Met l s0 D vwCl y_Yd_make w_Yd_make (fy_rm 1) 0 0 [.ref yd, .int (nI k), .int (nI fl), .int v] [(yd, .inr (0, [.ref rg, .ref wr, .ref cr, .ref wl, .ref sp, .ref sq, .int (nI mN), .int (nI cN)])), (rg, .inl (cI, 8, .inl G)), (sp, .inr (4, [.ref rw, .int (nI wd), .int (nI ob)])), (rw, .inl (cI, 240, .inl row))] (fun r w1 => r = some (.int (nI mN)) ∧ w1 = [(yd, .inr (0, [.ref rg, .ref wr, .ref cr, .ref wl, .ref sp, .ref sq, .int (nI (mN + 1)), .int (nI cN)])), (rg, .inl (cI, 8, .inl (upd G k (nI wd)))), (sp, .inr (4, [.ref rw, .int (nI (wd + (3 + fl))), .int (nI (ob + 1))])), (rw, .inl (cI, 240, .inl (fm_lay row wd (nI mN) v fl)))]) := by
  refine fy_st (bytes := b_Yd_make) (maxL := 5) (ret := some .int) hG (by decide) rfl (Nat.le_of_ble_eq_true rfl) ?_
  intro p e s m below meth c A ls hx hb hr hlocks hml hown hts hK hLa hAe hAB hA hl hP hD hS
  have hl : lv_has ls 5 [(0, .ref yd), (1, .int (nI k)), (2, .int (nI fl)), (3, .int v)] := hl
  refine lv_iload_n hx hb d_Yd_make_0 rfl (lv_at hl 1 rfl) ?_
  refine fy_callS (As := [.int (nI k)]) (rest := []) ⟨hx, hb, hml, hown, hts⟩ (c_Yd_checkRegister l s0 D cI cZ cJ cW hG k hk) (va_cwS 1 hts g_Yd_46 rfl rfl rfl (by decide +kernel) ⟨Nat.le_of_ble_eq_true rfl, Nat.le_of_ble_eq_true rfl⟩) hLa hAB hA hP hD hS [] rfl rfl rfl hl.1 rfl (Nat.le_of_ble_eq_true rfl) d_Yd_make_1 ⟨Nat.zero_le _, Nat.zero_le _⟩ (fun r w1 H locs hp hP hD hS => ?_)
  obtain ⟨rfl, rfl⟩ := hp
  have hP : va_P D vwCl [(yd, .inr (0, [.ref rg, .ref wr, .ref cr, .ref wl, .ref sp, .ref sq, .int (nI mN), .int (nI cN)])), (rg, .inl (cI, 8, .inl G)), (sp, .inr (4, [.ref rw, .int (nI wd), .int (nI ob)])), (rw, .inl (cI, 240, .inl row))] H := hP
  have hD : va_D A [(yd, .inr (0, [.ref rg, .ref wr, .ref cr, .ref wl, .ref sp, .ref sq, .int (nI mN), .int (nI cN)])), (rg, .inl (cI, 8, .inl G)), (sp, .inr (4, [.ref rw, .int (nI wd), .int (nI ob)])), (rw, .inl (cI, 240, .inl row))] := hD
  refine lv_iload_n hx hb d_Yd_make_4 rfl (lv_at hl 2 rfl) ?_
  refine lv_if_lt hx hb d_Yd_make_5 (tgt := 13) (by decide) (fun h => absurd h (nI_pos (by omega))) (fun _ => ?_)
  refine lv_iload_n hx hb d_Yd_make_8 rfl (lv_at hl 2 rfl) ?_
  refine lv_iconst (v := nI 4) hx hb d_Yd_make_9 (by decide) ?_
  refine lv_icmp_le hx hb d_Yd_make_10 (tgt := 23) (by decide) (fun _ => ?_) (fun h => absurd ((nI_leI (by omega) (by omega)).mpr hf) h)
  refine lv_aload_n hx hb d_Yd_make_23 rfl (lv_at hl 0 rfl) ?_
  refine va_get (D := D) (ci := 0) (v := .ref sp) (C := R_Yd) (T := F_Yd) (N := 8) hx hb hts i_Yd hown hK hP 0 rfl rfl 4 (by decide) (hts _ k_f_Yd_33) (fun _ h9 => h9) rfl d_Yd_make_24 ?_
  refine lv_iload_n hx hb d_Yd_make_27 rfl (lv_at hl 2 rfl) ?_
  refine fy_callV (As := [.int (nI fl)]) (rest := []) ⟨hx, hb, hml, hown, hts⟩ (c_Sp_hasRoomFor l s0 D cI cZ cJ cW hG sp rw row wd fl (nI ob) (by omega) hf) (cwV 1 hts g_Yd_57 rfl rfl rfl (by decide +kernel) ⟨Nat.le_of_ble_eq_true rfl, Nat.le_of_ble_eq_true rfl⟩) hK hLa hAB hA hP hD hS [2, 3] rfl rfl (ci := 4) rfl rfl (q0 := 2) rfl rfl hl.1 rfl (Nat.le_of_ble_eq_true rfl) d_Yd_make_28 ⟨Nat.zero_le _, Nat.zero_le _⟩ (fun r w1 H locs hp hP hD hS => ?_)
  obtain ⟨rfl, rfl⟩ := hp
  have hP : va_P D vwCl [(yd, .inr (0, [.ref rg, .ref wr, .ref cr, .ref wl, .ref sp, .ref sq, .int (nI mN), .int (nI cN)])), (rg, .inl (cI, 8, .inl G)), (sp, .inr (4, [.ref rw, .int (nI wd), .int (nI ob)])), (rw, .inl (cI, 240, .inl row))] H := hP
  have hD : va_D A [(yd, .inr (0, [.ref rg, .ref wr, .ref cr, .ref wl, .ref sp, .ref sq, .int (nI mN), .int (nI cN)])), (rg, .inl (cI, 8, .inl G)), (sp, .inr (4, [.ref rw, .int (nI wd), .int (nI ob)])), (rw, .inl (cI, 240, .inl row))] := hD
  refine fy_top (z := 1) (if_pos hw) ?_
  refine lv_if_ne hx hb d_Yd_make_31 (tgt := 44) (by decide) (fun _ => ?_) (fun h => absurd h (by decide))
  refine lv_aload_n hx hb d_Yd_make_44 rfl (lv_at hl 0 rfl) ?_
  refine va_get (D := D) (ci := 0) (v := .int (nI mN)) (C := R_Yd) (T := F_Yd) (N := 8) hx hb hts i_Yd hown hK hP 0 rfl rfl 6 (by decide) (hts _ k_f_Yd_66) (fun _ h9 => h9) rfl d_Yd_make_45 ?_
  refine lv_istore hx hb d_Yd_make_48 hl (by decide) rfl (fun ls hl => ?_)
  have hl : lv_has ls 5 [(4, .int (nI mN)), (0, .ref yd), (1, .int (nI k)), (2, .int (nI fl)), (3, .int v)] := hl
  refine lv_aload_n hx hb d_Yd_make_50 rfl (lv_at hl 1 rfl) ?_
  refine va_get (D := D) (ci := 0) (v := .ref rg) (C := R_Yd) (T := F_Yd) (N := 8) hx hb hts i_Yd hown hK hP 0 rfl rfl 0 (by decide) (hts _ k_f_Yd_9) (fun _ h9 => h9) rfl d_Yd_make_51 ?_
  refine lv_iload_n hx hb d_Yd_make_54 rfl (lv_at hl 2 rfl) ?_
  refine lv_aload_n hx hb d_Yd_make_55 rfl (lv_at hl 1 rfl) ?_
  refine va_get (D := D) (ci := 0) (v := .ref sp) (C := R_Yd) (T := F_Yd) (N := 8) hx hb hts i_Yd hown hK hP 0 rfl rfl 4 (by decide) (hts _ k_f_Yd_33) (fun _ h9 => h9) rfl d_Yd_make_56 ?_
  refine lv_iload hx hb d_Yd_make_59 (lv_at hl 0 rfl) ?_
  refine lv_iload_n hx hb d_Yd_make_61 rfl (lv_at hl 3 rfl) ?_
  refine lv_iload_n hx hb d_Yd_make_62 rfl (lv_at hl 4 rfl) ?_
  refine fy_callV (As := [.int (nI mN), .int (nI fl), .int v]) (rest := [.int (nI k), .ref rg]) ⟨hx, hb, hml, hown, hts⟩ (c_Sp_layDown l s0 D cI cZ cJ cW hG sp rw row wd ob fl (nI mN) v hf hw) (cwV 3 hts g_Yd_70 rfl rfl rfl (by decide +kernel) ⟨Nat.le_of_ble_eq_true rfl, Nat.le_of_ble_eq_true rfl⟩) hK hLa hAB hA hP hD hS [2, 3] rfl rfl (ci := 4) rfl rfl (q0 := 2) rfl rfl hl.1 rfl (Nat.le_of_ble_eq_true rfl) d_Yd_make_63 ⟨Nat.zero_le _, Nat.zero_le _⟩ (fun r w1 H locs hp hP hD hS => ?_)
  obtain ⟨rfl, rfl⟩ := hp
  have hP : va_P D vwCl [(yd, .inr (0, [.ref rg, .ref wr, .ref cr, .ref wl, .ref sp, .ref sq, .int (nI mN), .int (nI cN)])), (rg, .inl (cI, 8, .inl G)), (sp, .inr (4, [.ref rw, .int (nI (wd + (3 + fl))), .int (nI (ob + 1))])), (rw, .inl (cI, 240, .inl (fm_lay row wd (nI mN) v fl)))] H := hP
  have hD : va_D A [(yd, .inr (0, [.ref rg, .ref wr, .ref cr, .ref wl, .ref sp, .ref sq, .int (nI mN), .int (nI cN)])), (rg, .inl (cI, 8, .inl G)), (sp, .inr (4, [.ref rw, .int (nI (wd + (3 + fl))), .int (nI (ob + 1))])), (rw, .inl (cI, 240, .inl (fm_lay row wd (nI mN) v fl)))] := hD
  refine fy_iast (t0 := 0) (g := upd G k (nI wd)) hx hb hK hP hD hS 1 rfl rfl (by omega) (hk) (rfl) d_Yd_make_66 (fun H locs hP hD hS => ?_)
  have hP : va_P D vwCl [(yd, .inr (0, [.ref rg, .ref wr, .ref cr, .ref wl, .ref sp, .ref sq, .int (nI mN), .int (nI cN)])), (rg, .inl (cI, 8, .inl (upd G k (nI wd)))), (sp, .inr (4, [.ref rw, .int (nI (wd + (3 + fl))), .int (nI (ob + 1))])), (rw, .inl (cI, 240, .inl (fm_lay row wd (nI mN) v fl)))] H := hP
  have hD : va_D A [(yd, .inr (0, [.ref rg, .ref wr, .ref cr, .ref wl, .ref sp, .ref sq, .int (nI mN), .int (nI cN)])), (rg, .inl (cI, 8, .inl (upd G k (nI wd)))), (sp, .inr (4, [.ref rw, .int (nI (wd + (3 + fl))), .int (nI (ob + 1))])), (rw, .inl (cI, 240, .inl (fm_lay row wd (nI mN) v fl)))] := hD
  refine lv_aload_n hx hb d_Yd_make_67 rfl (lv_at hl 1 rfl) ?_
  refine lv_dup hx hb d_Yd_make_68 rfl ?_
  refine va_get (D := D) (ci := 0) (v := .int (nI mN)) (C := R_Yd) (T := F_Yd) (N := 8) hx hb hts i_Yd hown hK hP 0 rfl rfl 6 (by decide) (hts _ k_f_Yd_66) (fun _ h9 => h9) rfl d_Yd_make_69 ?_
  refine lv_iconst (v := nI 1) hx hb d_Yd_make_72 (by decide) ?_
  refine lv_iadd hx hb d_Yd_make_73 ?_
  refine fy_top (z := nI (mN + 1)) (nI_add _ _) ?_
  refine va_put (D := D) (ci := 0) (v := .int (nI (mN + 1))) (ty := .int) (C := R_Yd) (T := F_Yd) (N := 8) hx hb hts i_Yd t_Yd tk_Yd n_Yd hown hK hP hD hS 0 rfl rfl 6 (by decide) (hts _ k_f_Yd_66) (fun _ h9 => h9) rfl (by decide +kernel) rfl rfl (Nat.le_of_ble_eq_true rfl) d_Yd_make_74 (fun H locs hP hD hS => ?_)
  have hP : va_P D vwCl [(yd, .inr (0, [.ref rg, .ref wr, .ref cr, .ref wl, .ref sp, .ref sq, .int (nI (mN + 1)), .int (nI cN)])), (rg, .inl (cI, 8, .inl (upd G k (nI wd)))), (sp, .inr (4, [.ref rw, .int (nI (wd + (3 + fl))), .int (nI (ob + 1))])), (rw, .inl (cI, 240, .inl (fm_lay row wd (nI mN) v fl)))] H := hP
  have hD : va_D A [(yd, .inr (0, [.ref rg, .ref wr, .ref cr, .ref wl, .ref sp, .ref sq, .int (nI (mN + 1)), .int (nI cN)])), (rg, .inl (cI, 8, .inl (upd G k (nI wd)))), (sp, .inr (4, [.ref rw, .int (nI (wd + (3 + fl))), .int (nI (ob + 1))])), (rw, .inl (cI, 240, .inl (fm_lay row wd (nI mN) v fl)))] := hD
  refine lv_iload hx hb d_Yd_make_77 (lv_at hl 0 rfl) ?_
  exact fy_reti hx hb hr hlocks hAe (⟨rfl, rfl⟩) (List.Perm.refl _) hP hS d_Yd_make_79
set_option maxRecDepth 20000 in
set_option maxHeartbeats 4000000 in
theorem x_Yd_make_I (l : Launch) (s0 : State) (D : va_G) (cI cZ cJ cW : ClassId) (hG : fy_G s0 D cI cZ cJ cW) (hX : fy_GX l s0) (yd rg wr cr wl sp sq rw : Nat) (mN cN : Nat) (G row : Nat → Int32) (wd ob r fl v : Int32) (hbd : ¬ fy_ok 8 r ∨ ¬ fy_ok 5 fl) : fy_X l s0 D vwCl y_Yd_make w_Yd_make (fy_rx 1) [.ref yd, .int r, .int fl, .int v] [(yd, .inr (0, [.ref rg, .ref wr, .ref cr, .ref wl, .ref sp, .ref sq, .int (nI mN), .int (nI cN)])), (rg, .inl (cI, 8, .inl G)), (sp, .inr (4, [.ref rw, .int wd, .int ob])), (rw, .inl (cI, 240, .inl row))] fy_nI := by
  refine fy_xst (bytes := b_Yd_make) (maxL := 5) (ret := some .int) hG (by decide) rfl (Nat.le_of_ble_eq_true rfl) ?_
  intro p e s m below meth c A ls hx hb hout hlocks hml hown hts hK hLa hAe hAB hA hl hP hD hS
  have hl : lv_has ls 5 [(0, .ref yd), (1, .int r), (2, .int fl), (3, .int v)] := hl
  refine lv_iload_n hx hb d_Yd_make_0 rfl (lv_at hl 1 rfl) ?_
  by_cases hr : fy_ok 8 r
  · obtain ⟨k, hk, rfl⟩ := hr.nat (by omega)
    have hf : ¬ fy_ok 5 fl := hbd.resolve_left (fun h => h hr)
    refine fy_callS (As := [.int (nI k)]) (rest := []) ⟨hx, hb, hml, hown, hts⟩ (c_Yd_checkRegister l s0 D cI cZ cJ cW hG k hk) (va_cwS 1 hts g_Yd_46 rfl rfl rfl (by decide +kernel) ⟨Nat.le_of_ble_eq_true rfl, Nat.le_of_ble_eq_true rfl⟩) hLa hAB hA hP hD hS [] rfl rfl rfl hl.1 rfl (Nat.le_of_ble_eq_true rfl) d_Yd_make_1 ⟨Nat.zero_le _, Nat.zero_le _⟩ (fun r w1 H locs hp hP hD hS => ?_)
    obtain ⟨rfl, rfl⟩ := hp
    have hP : va_P D vwCl [(yd, .inr (0, [.ref rg, .ref wr, .ref cr, .ref wl, .ref sp, .ref sq, .int (nI mN), .int (nI cN)])), (rg, .inl (cI, 8, .inl G)), (sp, .inr (4, [.ref rw, .int wd, .int ob])), (rw, .inl (cI, 240, .inl row))] H := hP
    have hD : va_D A [(yd, .inr (0, [.ref rg, .ref wr, .ref cr, .ref wl, .ref sp, .ref sq, .int (nI mN), .int (nI cN)])), (rg, .inl (cI, 8, .inl G)), (sp, .inr (4, [.ref rw, .int wd, .int ob])), (rw, .inl (cI, 240, .inl row))] := hD
    refine lv_iload_n hx hb d_Yd_make_4 rfl (lv_at hl 2 rfl) ?_
    refine lv_if_lt hx hb d_Yd_make_5 (tgt := 13) (by decide) (fun hc => ?_) (fun hc => ?_)
    · exact fy_tI hG hX k_str_52 hx hb hown hLa hAB hAe hP hS (hl.1.trans hml.symm) d_Yd_make_13 d_Yd_make_16 d_Yd_make_17 d_Yd_make_19 d_Yd_make_22 hout ⟨Nat.le_of_ble_eq_true rfl, Nat.le_of_ble_eq_true rfl, Nat.le_of_ble_eq_true rfl, Nat.le_of_ble_eq_true rfl⟩ hlocks
    · refine lv_iload_n hx hb d_Yd_make_8 rfl (lv_at hl 2 rfl) ?_
      refine lv_iconst (v := nI 4) hx hb d_Yd_make_9 (by decide) ?_
      refine lv_icmp_le hx hb d_Yd_make_10 (tgt := 23) (by decide) (fun h => absurd h (fun h => hf ⟨Int32.not_lt.mp hc, fy_lt5 h⟩)) (fun _ => ?_)
      exact fy_tI hG hX k_str_52 hx hb hown hLa hAB hAe hP hS (hl.1.trans hml.symm) d_Yd_make_13 d_Yd_make_16 d_Yd_make_17 d_Yd_make_19 d_Yd_make_22 hout ⟨Nat.le_of_ble_eq_true rfl, Nat.le_of_ble_eq_true rfl, Nat.le_of_ble_eq_true rfl, Nat.le_of_ble_eq_true rfl⟩ hlocks
  · refine fy_thS (As := [.int r]) (rest := []) ⟨hx, hb, hml, hown, hts⟩ (x_Yd_checkRegister l s0 D cI cZ cJ cW hG hX r hr) List.mem_cons_self gw_Yd_checkRegister ⟨Nat.le_of_ble_eq_true rfl, Nat.le_of_ble_eq_true rfl⟩ ⟨Nat.le_of_ble_eq_true rfl, Nat.le_of_ble_eq_true rfl⟩ (hts _ k_m_Yd_46) (hts _ k_s_Yd_checkRegister) (hts _ k_ini_Yd) ⟨by decide, by decide, show (parseMethodDescriptor y_Yd_checkRegister.desc).map (fun d => d.parameters.length) = some 1 by decide +kernel⟩ hLa hAB hA hP hD hS [] rfl rfl hl.1 rfl (Nat.le_of_ble_eq_true rfl) d_Yd_make_1 (fun q ce H locs h1 h2 h3 hP hS => ?_)
    exact fy_leave hAe hout hlocks h1 h2 h3 hP hS (Nat.le_of_ble_eq_true rfl) (Nat.le_of_ble_eq_true rfl)
set_option maxRecDepth 20000 in
set_option maxHeartbeats 4000000 in
theorem x_Yd_make_S (l : Launch) (s0 : State) (D : va_G) (cI cZ cJ cW : ClassId) (hG : fy_G s0 D cI cZ cJ cW) (hX : fy_GX l s0) (yd rg wr cr wl sp sq rw : Nat) (mN cN : Nat) (G row : Nat → Int32) (wd ob k fl : Nat) (v : Int32) (hk : k < 8) (hf : fl ≤ 4) (hwd : wd ≤ 240) (hw : ¬ wd + 3 + fl ≤ 240) : fy_X l s0 D vwCl y_Yd_make w_Yd_make (fy_rx 1) [.ref yd, .int (nI k), .int (nI fl), .int v] [(yd, .inr (0, [.ref rg, .ref wr, .ref cr, .ref wl, .ref sp, .ref sq, .int (nI mN), .int (nI cN)])), (rg, .inl (cI, 8, .inl G)), (sp, .inr (4, [.ref rw, .int (nI wd), .int (nI ob)])), (rw, .inl (cI, 240, .inl row))] fy_nS := by
  refine fy_xst (bytes := b_Yd_make) (maxL := 5) (ret := some .int) hG (by decide) rfl (Nat.le_of_ble_eq_true rfl) ?_
  intro p e s m below meth c A ls hx hb hout hlocks hml hown hts hK hLa hAe hAB hA hl hP hD hS
  have hl : lv_has ls 5 [(0, .ref yd), (1, .int (nI k)), (2, .int (nI fl)), (3, .int v)] := hl
  refine lv_iload_n hx hb d_Yd_make_0 rfl (lv_at hl 1 rfl) ?_
  refine fy_callS (As := [.int (nI k)]) (rest := []) ⟨hx, hb, hml, hown, hts⟩ (c_Yd_checkRegister l s0 D cI cZ cJ cW hG k hk) (va_cwS 1 hts g_Yd_46 rfl rfl rfl (by decide +kernel) ⟨Nat.le_of_ble_eq_true rfl, Nat.le_of_ble_eq_true rfl⟩) hLa hAB hA hP hD hS [] rfl rfl rfl hl.1 rfl (Nat.le_of_ble_eq_true rfl) d_Yd_make_1 ⟨Nat.zero_le _, Nat.zero_le _⟩ (fun r w1 H locs hp hP hD hS => ?_)
  obtain ⟨rfl, rfl⟩ := hp
  have hP : va_P D vwCl [(yd, .inr (0, [.ref rg, .ref wr, .ref cr, .ref wl, .ref sp, .ref sq, .int (nI mN), .int (nI cN)])), (rg, .inl (cI, 8, .inl G)), (sp, .inr (4, [.ref rw, .int (nI wd), .int (nI ob)])), (rw, .inl (cI, 240, .inl row))] H := hP
  have hD : va_D A [(yd, .inr (0, [.ref rg, .ref wr, .ref cr, .ref wl, .ref sp, .ref sq, .int (nI mN), .int (nI cN)])), (rg, .inl (cI, 8, .inl G)), (sp, .inr (4, [.ref rw, .int (nI wd), .int (nI ob)])), (rw, .inl (cI, 240, .inl row))] := hD
  refine lv_iload_n hx hb d_Yd_make_4 rfl (lv_at hl 2 rfl) ?_
  refine lv_if_lt hx hb d_Yd_make_5 (tgt := 13) (by decide) (fun h => absurd h (nI_pos (by omega))) (fun _ => ?_)
  refine lv_iload_n hx hb d_Yd_make_8 rfl (lv_at hl 2 rfl) ?_
  refine lv_iconst (v := nI 4) hx hb d_Yd_make_9 (by decide) ?_
  refine lv_icmp_le hx hb d_Yd_make_10 (tgt := 23) (by decide) (fun _ => ?_) (fun h => absurd ((nI_leI (by omega) (by omega)).mpr hf) h)
  refine lv_aload_n hx hb d_Yd_make_23 rfl (lv_at hl 0 rfl) ?_
  refine va_get (D := D) (ci := 0) (v := .ref sp) (C := R_Yd) (T := F_Yd) (N := 8) hx hb hts i_Yd hown hK hP 0 rfl rfl 4 (by decide) (hts _ k_f_Yd_33) (fun _ h9 => h9) rfl d_Yd_make_24 ?_
  refine lv_iload_n hx hb d_Yd_make_27 rfl (lv_at hl 2 rfl) ?_
  refine fy_callV (As := [.int (nI fl)]) (rest := []) ⟨hx, hb, hml, hown, hts⟩ (c_Sp_hasRoomFor l s0 D cI cZ cJ cW hG sp rw row wd fl (nI ob) hwd hf) (cwV 1 hts g_Yd_57 rfl rfl rfl (by decide +kernel) ⟨Nat.le_of_ble_eq_true rfl, Nat.le_of_ble_eq_true rfl⟩) hK hLa hAB hA hP hD hS [2, 3] rfl rfl (ci := 4) rfl rfl (q0 := 2) rfl rfl hl.1 rfl (Nat.le_of_ble_eq_true rfl) d_Yd_make_28 ⟨Nat.zero_le _, Nat.zero_le _⟩ (fun r w1 H locs hp hP hD hS => ?_)
  obtain ⟨rfl, rfl⟩ := hp
  have hP : va_P D vwCl [(yd, .inr (0, [.ref rg, .ref wr, .ref cr, .ref wl, .ref sp, .ref sq, .int (nI mN), .int (nI cN)])), (rg, .inl (cI, 8, .inl G)), (sp, .inr (4, [.ref rw, .int (nI wd), .int (nI ob)])), (rw, .inl (cI, 240, .inl row))] H := hP
  have hD : va_D A [(yd, .inr (0, [.ref rg, .ref wr, .ref cr, .ref wl, .ref sp, .ref sq, .int (nI mN), .int (nI cN)])), (rg, .inl (cI, 8, .inl G)), (sp, .inr (4, [.ref rw, .int (nI wd), .int (nI ob)])), (rw, .inl (cI, 240, .inl row))] := hD
  refine fy_top (z := 0) (if_neg hw) ?_
  refine lv_if_ne hx hb d_Yd_make_31 (tgt := 44) (by decide) (fun h => absurd (rfl) h) (fun _ => ?_)
  exact fy_tS hG hX k_str_63 hx hb hown hLa hAB hAe hP hS (hl.1.trans hml.symm) d_Yd_make_34 d_Yd_make_37 d_Yd_make_38 d_Yd_make_40 d_Yd_make_43 hout ⟨Nat.le_of_ble_eq_true rfl, Nat.le_of_ble_eq_true rfl, Nat.le_of_ble_eq_true rfl, Nat.le_of_ble_eq_true rfl⟩ hlocks
set_option maxRecDepth 20000 in
set_option maxHeartbeats 4000000 in
theorem x_Yd_set_I (l : Launch) (s0 : State) (D : va_G) (cI cZ cJ cW : ClassId) (hG : fy_G s0 D cI cZ cJ cW) (hX : fy_GX l s0) (yd rg wr cr wl sp sq rw : Nat) (mN cN : Nat) (G : Nat → Int32) (row : Nat → Int32) (wd ob : Int32) (r f q : Int32) (hbd : ¬ fy_ok 8 r ∨ ¬ fy_ok 8 q) : fy_X l s0 D vwCl y_Yd_set w_Yd_set (fy_rx 1) [.ref yd, .int r, .int f, .int q] [(yd, .inr (0, [.ref rg, .ref wr, .ref cr, .ref wl, .ref sp, .ref sq, .int (nI mN), .int (nI cN)])), (rg, .inl (cI, 8, .inl G)), (sp, .inr (4, [.ref rw, .int wd, .int ob])), (rw, .inl (cI, 240, .inl row))] fy_nI := by
  refine fy_xst (bytes := b_Yd_set) (maxL := 5) (ret := none) hG (by decide) rfl (Nat.le_of_ble_eq_true rfl) ?_
  intro p e s m below meth c A ls hx hb hout hlocks hml hown hts hK hLa hAe hAB hA hl hP hD hS
  have hl : lv_has ls 5 [(0, .ref yd), (1, .int r), (2, .int f), (3, .int q)] := hl
  refine lv_iload_n hx hb d_Yd_set_0 rfl (lv_at hl 1 rfl) ?_
  by_cases hr : fy_ok 8 r
  · obtain ⟨k, hk, rfl⟩ := hr.nat (by omega)
    refine fy_callS (As := [.int (nI k)]) (rest := []) ⟨hx, hb, hml, hown, hts⟩ (c_Yd_checkRegister l s0 D cI cZ cJ cW hG k hk) (va_cwS 1 hts g_Yd_46 rfl rfl rfl (by decide +kernel) ⟨Nat.le_of_ble_eq_true rfl, Nat.le_of_ble_eq_true rfl⟩) hLa hAB hA hP hD hS [] rfl rfl rfl hl.1 rfl (Nat.le_of_ble_eq_true rfl) d_Yd_set_1 ⟨Nat.zero_le _, Nat.zero_le _⟩ (fun r w1 H locs hp hP hD hS => ?_)
    obtain ⟨rfl, rfl⟩ := hp
    have hP : va_P D vwCl [(yd, .inr (0, [.ref rg, .ref wr, .ref cr, .ref wl, .ref sp, .ref sq, .int (nI mN), .int (nI cN)])), (rg, .inl (cI, 8, .inl G)), (sp, .inr (4, [.ref rw, .int wd, .int ob])), (rw, .inl (cI, 240, .inl row))] H := hP
    have hD : va_D A [(yd, .inr (0, [.ref rg, .ref wr, .ref cr, .ref wl, .ref sp, .ref sq, .int (nI mN), .int (nI cN)])), (rg, .inl (cI, 8, .inl G)), (sp, .inr (4, [.ref rw, .int wd, .int ob])), (rw, .inl (cI, 240, .inl row))] := hD
    refine lv_iload_n hx hb d_Yd_set_4 rfl (lv_at hl 3 rfl) ?_
    refine fy_thS (As := [.int q]) (rest := []) ⟨hx, hb, hml, hown, hts⟩ (x_Yd_checkRegister l s0 D cI cZ cJ cW hG hX q (hbd.resolve_left (fun h => h hr))) List.mem_cons_self gw_Yd_checkRegister ⟨Nat.le_of_ble_eq_true rfl, Nat.le_of_ble_eq_true rfl⟩ ⟨Nat.le_of_ble_eq_true rfl, Nat.le_of_ble_eq_true rfl⟩ (hts _ k_m_Yd_46) (hts _ k_s_Yd_checkRegister) (hts _ k_ini_Yd) ⟨by decide, by decide, show (parseMethodDescriptor y_Yd_checkRegister.desc).map (fun d => d.parameters.length) = some 1 by decide +kernel⟩ hLa hAB hA hP hD hS [] rfl rfl hl.1 rfl (Nat.le_of_ble_eq_true rfl) d_Yd_set_5 (fun q ce H locs h1 h2 h3 hP hS => ?_)
    exact fy_leave hAe hout hlocks h1 h2 h3 hP hS (Nat.le_of_ble_eq_true rfl) (Nat.le_of_ble_eq_true rfl)
  · refine fy_thS (As := [.int r]) (rest := []) ⟨hx, hb, hml, hown, hts⟩ (x_Yd_checkRegister l s0 D cI cZ cJ cW hG hX r hr) List.mem_cons_self gw_Yd_checkRegister ⟨Nat.le_of_ble_eq_true rfl, Nat.le_of_ble_eq_true rfl⟩ ⟨Nat.le_of_ble_eq_true rfl, Nat.le_of_ble_eq_true rfl⟩ (hts _ k_m_Yd_46) (hts _ k_s_Yd_checkRegister) (hts _ k_ini_Yd) ⟨by decide, by decide, show (parseMethodDescriptor y_Yd_checkRegister.desc).map (fun d => d.parameters.length) = some 1 by decide +kernel⟩ hLa hAB hA hP hD hS [] rfl rfl hl.1 rfl (Nat.le_of_ble_eq_true rfl) d_Yd_set_1 (fun q ce H locs h1 h2 h3 hP hS => ?_)
    exact fy_leave hAe hout hlocks h1 h2 h3 hP hS (Nat.le_of_ble_eq_true rfl) (Nat.le_of_ble_eq_true rfl)
set_option maxRecDepth 20000 in
set_option maxHeartbeats 4000000 in
theorem x_Yd_set_N (l : Launch) (s0 : State) (D : va_G) (cI cZ cJ cW : ClassId) (hG : fy_G s0 D cI cZ cJ cW) (hX : fy_GX l s0) (yd rg wr cr wl sp sq rw : Nat) (mN cN : Nat) (G : Nat → Int32) (row : Nat → Int32) (wd ob : Int32) (j q : Nat) (hj : j < 8) (hq : q < 8) (f : Int32) (hG0 : G j = -1) : fy_X l s0 D vwCl y_Yd_set w_Yd_set (fy_rx 1) [.ref yd, .int (nI j), .int f, .int (nI q)] [(yd, .inr (0, [.ref rg, .ref wr, .ref cr, .ref wl, .ref sp, .ref sq, .int (nI mN), .int (nI cN)])), (rg, .inl (cI, 8, .inl G)), (sp, .inr (4, [.ref rw, .int wd, .int ob])), (rw, .inl (cI, 240, .inl row))] fy_nN := by
  refine fy_xst (bytes := b_Yd_set) (maxL := 5) (ret := none) hG (by decide) rfl (Nat.le_of_ble_eq_true rfl) ?_
  intro p e s m below meth c A ls hx hb hout hlocks hml hown hts hK hLa hAe hAB hA hl hP hD hS
  have hl : lv_has ls 5 [(0, .ref yd), (1, .int (nI j)), (2, .int f), (3, .int (nI q))] := hl
  refine lv_iload_n hx hb d_Yd_set_0 rfl (lv_at hl 1 rfl) ?_
  refine fy_callS (As := [.int (nI j)]) (rest := []) ⟨hx, hb, hml, hown, hts⟩ (c_Yd_checkRegister l s0 D cI cZ cJ cW hG j hj) (va_cwS 1 hts g_Yd_46 rfl rfl rfl (by decide +kernel) ⟨Nat.le_of_ble_eq_true rfl, Nat.le_of_ble_eq_true rfl⟩) hLa hAB hA hP hD hS [] rfl rfl rfl hl.1 rfl (Nat.le_of_ble_eq_true rfl) d_Yd_set_1 ⟨Nat.zero_le _, Nat.zero_le _⟩ (fun r w1 H locs hp hP hD hS => ?_)
  obtain ⟨rfl, rfl⟩ := hp
  have hP : va_P D vwCl [(yd, .inr (0, [.ref rg, .ref wr, .ref cr, .ref wl, .ref sp, .ref sq, .int (nI mN), .int (nI cN)])), (rg, .inl (cI, 8, .inl G)), (sp, .inr (4, [.ref rw, .int wd, .int ob])), (rw, .inl (cI, 240, .inl row))] H := hP
  have hD : va_D A [(yd, .inr (0, [.ref rg, .ref wr, .ref cr, .ref wl, .ref sp, .ref sq, .int (nI mN), .int (nI cN)])), (rg, .inl (cI, 8, .inl G)), (sp, .inr (4, [.ref rw, .int wd, .int ob])), (rw, .inl (cI, 240, .inl row))] := hD
  refine lv_iload_n hx hb d_Yd_set_4 rfl (lv_at hl 3 rfl) ?_
  refine fy_callS (As := [.int (nI q)]) (rest := []) ⟨hx, hb, hml, hown, hts⟩ (c_Yd_checkRegister l s0 D cI cZ cJ cW hG q hq) (va_cwS 1 hts g_Yd_46 rfl rfl rfl (by decide +kernel) ⟨Nat.le_of_ble_eq_true rfl, Nat.le_of_ble_eq_true rfl⟩) hLa hAB hA hP hD hS [] rfl rfl rfl hl.1 rfl (Nat.le_of_ble_eq_true rfl) d_Yd_set_5 ⟨Nat.zero_le _, Nat.zero_le _⟩ (fun r w1 H locs hp hP hD hS => ?_)
  obtain ⟨rfl, rfl⟩ := hp
  have hP : va_P D vwCl [(yd, .inr (0, [.ref rg, .ref wr, .ref cr, .ref wl, .ref sp, .ref sq, .int (nI mN), .int (nI cN)])), (rg, .inl (cI, 8, .inl G)), (sp, .inr (4, [.ref rw, .int wd, .int ob])), (rw, .inl (cI, 240, .inl row))] H := hP
  have hD : va_D A [(yd, .inr (0, [.ref rg, .ref wr, .ref cr, .ref wl, .ref sp, .ref sq, .int (nI mN), .int (nI cN)])), (rg, .inl (cI, 8, .inl G)), (sp, .inr (4, [.ref rw, .int wd, .int ob])), (rw, .inl (cI, 240, .inl row))] := hD
  refine lv_aload_n hx hb d_Yd_set_8 rfl (lv_at hl 0 rfl) ?_
  refine lv_iload_n hx hb d_Yd_set_9 rfl (lv_at hl 1 rfl) ?_
  refine fy_thV (As := [.int (nI j)]) (rest := []) ⟨hx, hb, hml, hown, hts⟩ (x_Yd_objectOf l s0 D cI cZ cJ cW hG hX yd rg wr cr wl sp sq rw mN cN G j hj hG0) List.mem_cons_self gw_Yd_objectOf ⟨Nat.le_of_ble_eq_true rfl, Nat.le_of_ble_eq_true rfl⟩ ⟨Nat.le_of_ble_eq_true rfl, Nat.le_of_ble_eq_true rfl⟩ (hts _ k_m_Yd_74) (hts _ k_i_Yd_objectOf) (hts _ k_sel_Yd_objectOf) (hts _ k_ini_Yd) ⟨by decide, by decide, show (parseMethodDescriptor y_Yd_objectOf.desc).map (fun d => d.parameters.length) = some 1 by decide +kernel⟩ hK hLa hAB hA hP hD hS [0, 1] rfl rfl (ci := 0) rfl rfl (q0 := 0) rfl hl.1 rfl (Nat.le_of_ble_eq_true rfl) d_Yd_set_10 (fun q ce H locs h1 h2 h3 hP hS => ?_)
  exact fy_leave hAe hout hlocks h1 h2 h3 hP hS (Nat.le_of_ble_eq_true rfl) (Nat.le_of_ble_eq_true rfl)
set_option maxRecDepth 20000 in
set_option maxHeartbeats 4000000 in
theorem x_Yd_set_O (l : Launch) (s0 : State) (D : va_G) (cI cZ cJ cW : ClassId) (hG : fy_G s0 D cI cZ cJ cW) (hX : fy_GX l s0) (yd rg wr cr wl sp sq rw : Nat) (mN cN : Nat) (G : Nat → Int32) (row : Nat → Int32) (wd ob : Int32) (j q : Nat) (hj : j < 8) (hq : q < 8) (f : Int32) (a g k : Nat) (ha : a + 3 + k ≤ 240) (hk : k < 8) (hg : 8 * g + k < 2 ^ 31) (hs : row (a + 2) = nI (8 * g + k)) (hG0 : G j = nI a) (hf : ¬ fy_ok k f) : fy_X l s0 D vwCl y_Yd_set w_Yd_set (fy_rx 1) [.ref yd, .int (nI j), .int f, .int (nI q)] [(yd, .inr (0, [.ref rg, .ref wr, .ref cr, .ref wl, .ref sp, .ref sq, .int (nI mN), .int (nI cN)])), (rg, .inl (cI, 8, .inl G)), (sp, .inr (4, [.ref rw, .int wd, .int ob])), (rw, .inl (cI, 240, .inl row))] fy_nO := by
  refine fy_xst (bytes := b_Yd_set) (maxL := 5) (ret := none) hG (by decide) rfl (Nat.le_of_ble_eq_true rfl) ?_
  intro p e s m below meth c A ls hx hb hout hlocks hml hown hts hK hLa hAe hAB hA hl hP hD hS
  have hl : lv_has ls 5 [(0, .ref yd), (1, .int (nI j)), (2, .int f), (3, .int (nI q))] := hl
  refine lv_iload_n hx hb d_Yd_set_0 rfl (lv_at hl 1 rfl) ?_
  refine fy_callS (As := [.int (nI j)]) (rest := []) ⟨hx, hb, hml, hown, hts⟩ (c_Yd_checkRegister l s0 D cI cZ cJ cW hG j hj) (va_cwS 1 hts g_Yd_46 rfl rfl rfl (by decide +kernel) ⟨Nat.le_of_ble_eq_true rfl, Nat.le_of_ble_eq_true rfl⟩) hLa hAB hA hP hD hS [] rfl rfl rfl hl.1 rfl (Nat.le_of_ble_eq_true rfl) d_Yd_set_1 ⟨Nat.zero_le _, Nat.zero_le _⟩ (fun r w1 H locs hp hP hD hS => ?_)
  obtain ⟨rfl, rfl⟩ := hp
  have hP : va_P D vwCl [(yd, .inr (0, [.ref rg, .ref wr, .ref cr, .ref wl, .ref sp, .ref sq, .int (nI mN), .int (nI cN)])), (rg, .inl (cI, 8, .inl G)), (sp, .inr (4, [.ref rw, .int wd, .int ob])), (rw, .inl (cI, 240, .inl row))] H := hP
  have hD : va_D A [(yd, .inr (0, [.ref rg, .ref wr, .ref cr, .ref wl, .ref sp, .ref sq, .int (nI mN), .int (nI cN)])), (rg, .inl (cI, 8, .inl G)), (sp, .inr (4, [.ref rw, .int wd, .int ob])), (rw, .inl (cI, 240, .inl row))] := hD
  refine lv_iload_n hx hb d_Yd_set_4 rfl (lv_at hl 3 rfl) ?_
  refine fy_callS (As := [.int (nI q)]) (rest := []) ⟨hx, hb, hml, hown, hts⟩ (c_Yd_checkRegister l s0 D cI cZ cJ cW hG q hq) (va_cwS 1 hts g_Yd_46 rfl rfl rfl (by decide +kernel) ⟨Nat.le_of_ble_eq_true rfl, Nat.le_of_ble_eq_true rfl⟩) hLa hAB hA hP hD hS [] rfl rfl rfl hl.1 rfl (Nat.le_of_ble_eq_true rfl) d_Yd_set_5 ⟨Nat.zero_le _, Nat.zero_le _⟩ (fun r w1 H locs hp hP hD hS => ?_)
  obtain ⟨rfl, rfl⟩ := hp
  have hP : va_P D vwCl [(yd, .inr (0, [.ref rg, .ref wr, .ref cr, .ref wl, .ref sp, .ref sq, .int (nI mN), .int (nI cN)])), (rg, .inl (cI, 8, .inl G)), (sp, .inr (4, [.ref rw, .int wd, .int ob])), (rw, .inl (cI, 240, .inl row))] H := hP
  have hD : va_D A [(yd, .inr (0, [.ref rg, .ref wr, .ref cr, .ref wl, .ref sp, .ref sq, .int (nI mN), .int (nI cN)])), (rg, .inl (cI, 8, .inl G)), (sp, .inr (4, [.ref rw, .int wd, .int ob])), (rw, .inl (cI, 240, .inl row))] := hD
  refine lv_aload_n hx hb d_Yd_set_8 rfl (lv_at hl 0 rfl) ?_
  refine lv_iload_n hx hb d_Yd_set_9 rfl (lv_at hl 1 rfl) ?_
  refine fy_callV (As := [.int (nI j)]) (rest := []) ⟨hx, hb, hml, hown, hts⟩ (c_Yd_objectOf l s0 D cI cZ cJ cW hG yd rg wr cr wl sp sq rw mN cN G j a hj (by omega) hG0) (cwV 1 hts g_Yd_74 rfl rfl rfl (by decide +kernel) ⟨Nat.le_of_ble_eq_true rfl, Nat.le_of_ble_eq_true rfl⟩) hK hLa hAB hA hP hD hS [0, 1] rfl rfl (ci := 0) rfl rfl (q0 := 0) rfl rfl hl.1 rfl (Nat.le_of_ble_eq_true rfl) d_Yd_set_10 ⟨Nat.zero_le _, Nat.zero_le _⟩ (fun r w1 H locs hp hP hD hS => ?_)
  obtain ⟨rfl, rfl⟩ := hp
  have hP : va_P D vwCl [(yd, .inr (0, [.ref rg, .ref wr, .ref cr, .ref wl, .ref sp, .ref sq, .int (nI mN), .int (nI cN)])), (rg, .inl (cI, 8, .inl G)), (sp, .inr (4, [.ref rw, .int wd, .int ob])), (rw, .inl (cI, 240, .inl row))] H := hP
  have hD : va_D A [(yd, .inr (0, [.ref rg, .ref wr, .ref cr, .ref wl, .ref sp, .ref sq, .int (nI mN), .int (nI cN)])), (rg, .inl (cI, 8, .inl G)), (sp, .inr (4, [.ref rw, .int wd, .int ob])), (rw, .inl (cI, 240, .inl row))] := hD
  refine lv_istore hx hb d_Yd_set_13 hl (by decide) rfl (fun ls hl => ?_)
  have hl : lv_has ls 5 [(4, .int (nI a)), (0, .ref yd), (1, .int (nI j)), (2, .int f), (3, .int (nI q))] := hl
  refine lv_aload_n hx hb d_Yd_set_15 rfl (lv_at hl 1 rfl) ?_
  refine lv_iload hx hb d_Yd_set_16 (lv_at hl 0 rfl) ?_
  refine lv_iload_n hx hb d_Yd_set_18 rfl (lv_at hl 3 rfl) ?_
  refine fy_thV (As := [.int (nI a), .int f]) (rest := []) ⟨hx, hb, hml, hown, hts⟩ (x_Yd_checkField l s0 D cI cZ cJ cW hG hX yd rg wr cr wl sp sq rw mN cN row wd ob a g k (by omega) hk hg hs f hf) List.mem_cons_self gw_Yd_checkField ⟨Nat.le_of_ble_eq_true rfl, Nat.le_of_ble_eq_true rfl⟩ ⟨Nat.le_of_ble_eq_true rfl, Nat.le_of_ble_eq_true rfl⟩ (hts _ k_m_Yd_78) (hts _ k_i_Yd_checkField) (hts _ k_sel_Yd_checkField) (hts _ k_ini_Yd) ⟨by decide, by decide, show (parseMethodDescriptor y_Yd_checkField.desc).map (fun d => d.parameters.length) = some 2 by decide +kernel⟩ hK hLa hAB hA hP hD hS [0, 2, 3] rfl rfl (ci := 0) rfl rfl (q0 := 0) rfl hl.1 rfl (Nat.le_of_ble_eq_true rfl) d_Yd_set_19 (fun q ce H locs h1 h2 h3 hP hS => ?_)
  exact fy_leave hAe hout hlocks h1 h2 h3 hP hS (Nat.le_of_ble_eq_true rfl) (Nat.le_of_ble_eq_true rfl)
set_option maxRecDepth 20000 in
set_option maxHeartbeats 4000000 in
theorem c_Yd_set (l : Launch) (s0 : State) (D : va_G) (cI cZ cJ cW : ClassId) (hG : fy_G s0 D cI cZ cJ cW) (yd rg wr cr wl sp sq rw : Nat) (mN cN : Nat) (G : Nat → Int32) (row : Nat → Int32) (wd ob : Int32) (j q : Nat) (hj : j < 8) (hq : q < 8) (f : Nat) (a g k : Nat) (ha : a + 3 + k ≤ 240) (hk : k < 8) (hg : 8 * g + k < 2 ^ 31) (hs : row (a + 2) = nI (8 * g + k)) (hG0 : G j = nI a) (hf : f < k) : fy_Met l s0 D vwCl y_Yd_set w_Yd_set (fy_rm 2) 0 0 [.ref yd, .int (nI j), .int (nI f), .int (nI q)] [(yd, .inr (0, [.ref rg, .ref wr, .ref cr, .ref wl, .ref sp, .ref sq, .int (nI mN), .int (nI cN)])), (rg, .inl (cI, 8, .inl G)), (sp, .inr (4, [.ref rw, .int wd, .int ob])), (rw, .inl (cI, 240, .inl row))] (fun r w1 => r = none ∧ w1 = [(yd, .inr (0, [.ref rg, .ref wr, .ref cr, .ref wl, .ref sp, .ref sq, .int (nI mN), .int (nI cN)])), (rg, .inl (cI, 8, .inl G)), (sp, .inr (4, [.ref rw, .int wd, .int ob])), (rw, .inl (cI, 240, .inl (upd row (a + 3 + f) (G q))))]) := by
  refine fy_st (bytes := b_Yd_set) (maxL := 5) (ret := none) hG (by decide) rfl (Nat.le_of_ble_eq_true rfl) ?_
  intro p e s m below meth c A ls hx hb hr hlocks hml hown hts hK hLa hAe hAB hA hl hP hD hS
  have hl : lv_has ls 5 [(0, .ref yd), (1, .int (nI j)), (2, .int (nI f)), (3, .int (nI q))] := hl
  refine lv_iload_n hx hb d_Yd_set_0 rfl (lv_at hl 1 rfl) ?_
  refine fy_callS (As := [.int (nI j)]) (rest := []) ⟨hx, hb, hml, hown, hts⟩ (c_Yd_checkRegister l s0 D cI cZ cJ cW hG j hj) (va_cwS 1 hts g_Yd_46 rfl rfl rfl (by decide +kernel) ⟨Nat.le_of_ble_eq_true rfl, Nat.le_of_ble_eq_true rfl⟩) hLa hAB hA hP hD hS [] rfl rfl rfl hl.1 rfl (Nat.le_of_ble_eq_true rfl) d_Yd_set_1 ⟨Nat.zero_le _, Nat.zero_le _⟩ (fun r w1 H locs hp hP hD hS => ?_)
  obtain ⟨rfl, rfl⟩ := hp
  have hP : va_P D vwCl [(yd, .inr (0, [.ref rg, .ref wr, .ref cr, .ref wl, .ref sp, .ref sq, .int (nI mN), .int (nI cN)])), (rg, .inl (cI, 8, .inl G)), (sp, .inr (4, [.ref rw, .int wd, .int ob])), (rw, .inl (cI, 240, .inl row))] H := hP
  have hD : va_D A [(yd, .inr (0, [.ref rg, .ref wr, .ref cr, .ref wl, .ref sp, .ref sq, .int (nI mN), .int (nI cN)])), (rg, .inl (cI, 8, .inl G)), (sp, .inr (4, [.ref rw, .int wd, .int ob])), (rw, .inl (cI, 240, .inl row))] := hD
  refine lv_iload_n hx hb d_Yd_set_4 rfl (lv_at hl 3 rfl) ?_
  refine fy_callS (As := [.int (nI q)]) (rest := []) ⟨hx, hb, hml, hown, hts⟩ (c_Yd_checkRegister l s0 D cI cZ cJ cW hG q hq) (va_cwS 1 hts g_Yd_46 rfl rfl rfl (by decide +kernel) ⟨Nat.le_of_ble_eq_true rfl, Nat.le_of_ble_eq_true rfl⟩) hLa hAB hA hP hD hS [] rfl rfl rfl hl.1 rfl (Nat.le_of_ble_eq_true rfl) d_Yd_set_5 ⟨Nat.zero_le _, Nat.zero_le _⟩ (fun r w1 H locs hp hP hD hS => ?_)
  obtain ⟨rfl, rfl⟩ := hp
  have hP : va_P D vwCl [(yd, .inr (0, [.ref rg, .ref wr, .ref cr, .ref wl, .ref sp, .ref sq, .int (nI mN), .int (nI cN)])), (rg, .inl (cI, 8, .inl G)), (sp, .inr (4, [.ref rw, .int wd, .int ob])), (rw, .inl (cI, 240, .inl row))] H := hP
  have hD : va_D A [(yd, .inr (0, [.ref rg, .ref wr, .ref cr, .ref wl, .ref sp, .ref sq, .int (nI mN), .int (nI cN)])), (rg, .inl (cI, 8, .inl G)), (sp, .inr (4, [.ref rw, .int wd, .int ob])), (rw, .inl (cI, 240, .inl row))] := hD
  refine lv_aload_n hx hb d_Yd_set_8 rfl (lv_at hl 0 rfl) ?_
  refine lv_iload_n hx hb d_Yd_set_9 rfl (lv_at hl 1 rfl) ?_
  refine fy_callV (As := [.int (nI j)]) (rest := []) ⟨hx, hb, hml, hown, hts⟩ (c_Yd_objectOf l s0 D cI cZ cJ cW hG yd rg wr cr wl sp sq rw mN cN G j a hj (by omega) hG0) (cwV 1 hts g_Yd_74 rfl rfl rfl (by decide +kernel) ⟨Nat.le_of_ble_eq_true rfl, Nat.le_of_ble_eq_true rfl⟩) hK hLa hAB hA hP hD hS [0, 1] rfl rfl (ci := 0) rfl rfl (q0 := 0) rfl rfl hl.1 rfl (Nat.le_of_ble_eq_true rfl) d_Yd_set_10 ⟨Nat.zero_le _, Nat.zero_le _⟩ (fun r w1 H locs hp hP hD hS => ?_)
  obtain ⟨rfl, rfl⟩ := hp
  have hP : va_P D vwCl [(yd, .inr (0, [.ref rg, .ref wr, .ref cr, .ref wl, .ref sp, .ref sq, .int (nI mN), .int (nI cN)])), (rg, .inl (cI, 8, .inl G)), (sp, .inr (4, [.ref rw, .int wd, .int ob])), (rw, .inl (cI, 240, .inl row))] H := hP
  have hD : va_D A [(yd, .inr (0, [.ref rg, .ref wr, .ref cr, .ref wl, .ref sp, .ref sq, .int (nI mN), .int (nI cN)])), (rg, .inl (cI, 8, .inl G)), (sp, .inr (4, [.ref rw, .int wd, .int ob])), (rw, .inl (cI, 240, .inl row))] := hD
  refine lv_istore hx hb d_Yd_set_13 hl (by decide) rfl (fun ls hl => ?_)
  have hl : lv_has ls 5 [(4, .int (nI a)), (0, .ref yd), (1, .int (nI j)), (2, .int (nI f)), (3, .int (nI q))] := hl
  refine lv_aload_n hx hb d_Yd_set_15 rfl (lv_at hl 1 rfl) ?_
  refine lv_iload hx hb d_Yd_set_16 (lv_at hl 0 rfl) ?_
  refine lv_iload_n hx hb d_Yd_set_18 rfl (lv_at hl 3 rfl) ?_
  refine fy_callV (As := [.int (nI a), .int (nI f)]) (rest := []) ⟨hx, hb, hml, hown, hts⟩ (c_Yd_checkField l s0 D cI cZ cJ cW hG yd rg wr cr wl sp sq rw mN cN row wd ob a g k (by omega) hk hg hs f hf) (cwV 2 hts g_Yd_78 rfl rfl rfl (by decide +kernel) ⟨Nat.le_of_ble_eq_true rfl, Nat.le_of_ble_eq_true rfl⟩) hK hLa hAB hA hP hD hS [0, 2, 3] rfl rfl (ci := 0) rfl rfl (q0 := 0) rfl rfl hl.1 rfl (Nat.le_of_ble_eq_true rfl) d_Yd_set_19 ⟨Nat.zero_le _, Nat.zero_le _⟩ (fun r w1 H locs hp hP hD hS => ?_)
  obtain ⟨rfl, rfl⟩ := hp
  have hP : va_P D vwCl [(yd, .inr (0, [.ref rg, .ref wr, .ref cr, .ref wl, .ref sp, .ref sq, .int (nI mN), .int (nI cN)])), (rg, .inl (cI, 8, .inl G)), (sp, .inr (4, [.ref rw, .int wd, .int ob])), (rw, .inl (cI, 240, .inl row))] H := hP
  have hD : va_D A [(yd, .inr (0, [.ref rg, .ref wr, .ref cr, .ref wl, .ref sp, .ref sq, .int (nI mN), .int (nI cN)])), (rg, .inl (cI, 8, .inl G)), (sp, .inr (4, [.ref rw, .int wd, .int ob])), (rw, .inl (cI, 240, .inl row))] := hD
  refine lv_aload_n hx hb d_Yd_set_22 rfl (lv_at hl 1 rfl) ?_
  refine va_get (D := D) (ci := 0) (v := .ref sp) (C := R_Yd) (T := F_Yd) (N := 8) hx hb hts i_Yd hown hK hP 0 rfl rfl 4 (by decide) (hts _ k_f_Yd_33) (fun _ h9 => h9) rfl d_Yd_set_23 ?_
  refine lv_iload hx hb d_Yd_set_26 (lv_at hl 0 rfl) ?_
  refine lv_iload_n hx hb d_Yd_set_28 rfl (lv_at hl 3 rfl) ?_
  refine lv_aload_n hx hb d_Yd_set_29 rfl (lv_at hl 1 rfl) ?_
  refine va_get (D := D) (ci := 0) (v := .ref rg) (C := R_Yd) (T := F_Yd) (N := 8) hx hb hts i_Yd hown hK hP 0 rfl rfl 0 (by decide) (hts _ k_f_Yd_9) (fun _ h9 => h9) rfl d_Yd_set_30 ?_
  refine lv_iload_n hx hb d_Yd_set_33 rfl (lv_at hl 4 rfl) ?_
  refine fy_iald (t0 := 0) (v := G q) hx hb hK hP 1 rfl rfl (by omega) (by omega) (rfl) d_Yd_set_34 ?_
  refine fy_callV (As := [.int (nI a), .int (nI f), .int (G q)]) (rest := []) ⟨hx, hb, hml, hown, hts⟩ (c_Sp_refer l s0 D cI cZ cJ cW hG sp rw row wd ob a f (G q) (by omega)) (cwV 3 hts g_Yd_82 rfl rfl rfl (by decide +kernel) ⟨Nat.le_of_ble_eq_true rfl, Nat.le_of_ble_eq_true rfl⟩) hK hLa hAB hA hP hD hS [2, 3] rfl rfl (ci := 4) rfl rfl (q0 := 2) rfl rfl hl.1 rfl (Nat.le_of_ble_eq_true rfl) d_Yd_set_35 ⟨Nat.zero_le _, Nat.zero_le _⟩ (fun r w1 H locs hp hP hD hS => ?_)
  obtain ⟨rfl, rfl⟩ := hp
  have hP : va_P D vwCl [(yd, .inr (0, [.ref rg, .ref wr, .ref cr, .ref wl, .ref sp, .ref sq, .int (nI mN), .int (nI cN)])), (rg, .inl (cI, 8, .inl G)), (sp, .inr (4, [.ref rw, .int wd, .int ob])), (rw, .inl (cI, 240, .inl (upd row (a + 3 + f) (G q))))] H := hP
  have hD : va_D A [(yd, .inr (0, [.ref rg, .ref wr, .ref cr, .ref wl, .ref sp, .ref sq, .int (nI mN), .int (nI cN)])), (rg, .inl (cI, 8, .inl G)), (sp, .inr (4, [.ref rw, .int wd, .int ob])), (rw, .inl (cI, 240, .inl (upd row (a + 3 + f) (G q))))] := hD
  exact fy_retv hx hb hr hlocks hAe (⟨rfl, rfl⟩) (List.Perm.refl _) hP hS d_Yd_set_38
set_option maxRecDepth 20000 in
set_option maxHeartbeats 4000000 in
theorem x_Yd_get_I (l : Launch) (s0 : State) (D : va_G) (cI cZ cJ cW : ClassId) (hG : fy_G s0 D cI cZ cJ cW) (hX : fy_GX l s0) (yd rg wr cr wl sp sq rw : Nat) (mN cN : Nat) (G : Nat → Int32) (row : Nat → Int32) (wd ob : Int32) (r f q : Int32) (hbd : ¬ fy_ok 8 r ∨ ¬ fy_ok 8 q) : fy_X l s0 D vwCl y_Yd_get w_Yd_get (fy_rx 1) [.ref yd, .int r, .int f, .int q] [(yd, .inr (0, [.ref rg, .ref wr, .ref cr, .ref wl, .ref sp, .ref sq, .int (nI mN), .int (nI cN)])), (rg, .inl (cI, 8, .inl G)), (sp, .inr (4, [.ref rw, .int wd, .int ob])), (rw, .inl (cI, 240, .inl row))] fy_nI := by
  refine fy_xst (bytes := b_Yd_get) (maxL := 5) (ret := none) hG (by decide) rfl (Nat.le_of_ble_eq_true rfl) ?_
  intro p e s m below meth c A ls hx hb hout hlocks hml hown hts hK hLa hAe hAB hA hl hP hD hS
  have hl : lv_has ls 5 [(0, .ref yd), (1, .int r), (2, .int f), (3, .int q)] := hl
  refine lv_iload_n hx hb d_Yd_get_0 rfl (lv_at hl 1 rfl) ?_
  by_cases hr : fy_ok 8 r
  · obtain ⟨k, hk, rfl⟩ := hr.nat (by omega)
    refine fy_callS (As := [.int (nI k)]) (rest := []) ⟨hx, hb, hml, hown, hts⟩ (c_Yd_checkRegister l s0 D cI cZ cJ cW hG k hk) (va_cwS 1 hts g_Yd_46 rfl rfl rfl (by decide +kernel) ⟨Nat.le_of_ble_eq_true rfl, Nat.le_of_ble_eq_true rfl⟩) hLa hAB hA hP hD hS [] rfl rfl rfl hl.1 rfl (Nat.le_of_ble_eq_true rfl) d_Yd_get_1 ⟨Nat.zero_le _, Nat.zero_le _⟩ (fun r w1 H locs hp hP hD hS => ?_)
    obtain ⟨rfl, rfl⟩ := hp
    have hP : va_P D vwCl [(yd, .inr (0, [.ref rg, .ref wr, .ref cr, .ref wl, .ref sp, .ref sq, .int (nI mN), .int (nI cN)])), (rg, .inl (cI, 8, .inl G)), (sp, .inr (4, [.ref rw, .int wd, .int ob])), (rw, .inl (cI, 240, .inl row))] H := hP
    have hD : va_D A [(yd, .inr (0, [.ref rg, .ref wr, .ref cr, .ref wl, .ref sp, .ref sq, .int (nI mN), .int (nI cN)])), (rg, .inl (cI, 8, .inl G)), (sp, .inr (4, [.ref rw, .int wd, .int ob])), (rw, .inl (cI, 240, .inl row))] := hD
    refine lv_iload_n hx hb d_Yd_get_4 rfl (lv_at hl 3 rfl) ?_
    refine fy_thS (As := [.int q]) (rest := []) ⟨hx, hb, hml, hown, hts⟩ (x_Yd_checkRegister l s0 D cI cZ cJ cW hG hX q (hbd.resolve_left (fun h => h hr))) List.mem_cons_self gw_Yd_checkRegister ⟨Nat.le_of_ble_eq_true rfl, Nat.le_of_ble_eq_true rfl⟩ ⟨Nat.le_of_ble_eq_true rfl, Nat.le_of_ble_eq_true rfl⟩ (hts _ k_m_Yd_46) (hts _ k_s_Yd_checkRegister) (hts _ k_ini_Yd) ⟨by decide, by decide, show (parseMethodDescriptor y_Yd_checkRegister.desc).map (fun d => d.parameters.length) = some 1 by decide +kernel⟩ hLa hAB hA hP hD hS [] rfl rfl hl.1 rfl (Nat.le_of_ble_eq_true rfl) d_Yd_get_5 (fun q ce H locs h1 h2 h3 hP hS => ?_)
    exact fy_leave hAe hout hlocks h1 h2 h3 hP hS (Nat.le_of_ble_eq_true rfl) (Nat.le_of_ble_eq_true rfl)
  · refine fy_thS (As := [.int r]) (rest := []) ⟨hx, hb, hml, hown, hts⟩ (x_Yd_checkRegister l s0 D cI cZ cJ cW hG hX r hr) List.mem_cons_self gw_Yd_checkRegister ⟨Nat.le_of_ble_eq_true rfl, Nat.le_of_ble_eq_true rfl⟩ ⟨Nat.le_of_ble_eq_true rfl, Nat.le_of_ble_eq_true rfl⟩ (hts _ k_m_Yd_46) (hts _ k_s_Yd_checkRegister) (hts _ k_ini_Yd) ⟨by decide, by decide, show (parseMethodDescriptor y_Yd_checkRegister.desc).map (fun d => d.parameters.length) = some 1 by decide +kernel⟩ hLa hAB hA hP hD hS [] rfl rfl hl.1 rfl (Nat.le_of_ble_eq_true rfl) d_Yd_get_1 (fun q ce H locs h1 h2 h3 hP hS => ?_)
    exact fy_leave hAe hout hlocks h1 h2 h3 hP hS (Nat.le_of_ble_eq_true rfl) (Nat.le_of_ble_eq_true rfl)
set_option maxRecDepth 20000 in
set_option maxHeartbeats 4000000 in
theorem x_Yd_get_N (l : Launch) (s0 : State) (D : va_G) (cI cZ cJ cW : ClassId) (hG : fy_G s0 D cI cZ cJ cW) (hX : fy_GX l s0) (yd rg wr cr wl sp sq rw : Nat) (mN cN : Nat) (G : Nat → Int32) (row : Nat → Int32) (wd ob : Int32) (j q : Nat) (hj : j < 8) (hq : q < 8) (f : Int32) (hG0 : G j = -1) : fy_X l s0 D vwCl y_Yd_get w_Yd_get (fy_rx 1) [.ref yd, .int (nI j), .int f, .int (nI q)] [(yd, .inr (0, [.ref rg, .ref wr, .ref cr, .ref wl, .ref sp, .ref sq, .int (nI mN), .int (nI cN)])), (rg, .inl (cI, 8, .inl G)), (sp, .inr (4, [.ref rw, .int wd, .int ob])), (rw, .inl (cI, 240, .inl row))] fy_nN := by
  refine fy_xst (bytes := b_Yd_get) (maxL := 5) (ret := none) hG (by decide) rfl (Nat.le_of_ble_eq_true rfl) ?_
  intro p e s m below meth c A ls hx hb hout hlocks hml hown hts hK hLa hAe hAB hA hl hP hD hS
  have hl : lv_has ls 5 [(0, .ref yd), (1, .int (nI j)), (2, .int f), (3, .int (nI q))] := hl
  refine lv_iload_n hx hb d_Yd_get_0 rfl (lv_at hl 1 rfl) ?_
  refine fy_callS (As := [.int (nI j)]) (rest := []) ⟨hx, hb, hml, hown, hts⟩ (c_Yd_checkRegister l s0 D cI cZ cJ cW hG j hj) (va_cwS 1 hts g_Yd_46 rfl rfl rfl (by decide +kernel) ⟨Nat.le_of_ble_eq_true rfl, Nat.le_of_ble_eq_true rfl⟩) hLa hAB hA hP hD hS [] rfl rfl rfl hl.1 rfl (Nat.le_of_ble_eq_true rfl) d_Yd_get_1 ⟨Nat.zero_le _, Nat.zero_le _⟩ (fun r w1 H locs hp hP hD hS => ?_)
  obtain ⟨rfl, rfl⟩ := hp
  have hP : va_P D vwCl [(yd, .inr (0, [.ref rg, .ref wr, .ref cr, .ref wl, .ref sp, .ref sq, .int (nI mN), .int (nI cN)])), (rg, .inl (cI, 8, .inl G)), (sp, .inr (4, [.ref rw, .int wd, .int ob])), (rw, .inl (cI, 240, .inl row))] H := hP
  have hD : va_D A [(yd, .inr (0, [.ref rg, .ref wr, .ref cr, .ref wl, .ref sp, .ref sq, .int (nI mN), .int (nI cN)])), (rg, .inl (cI, 8, .inl G)), (sp, .inr (4, [.ref rw, .int wd, .int ob])), (rw, .inl (cI, 240, .inl row))] := hD
  refine lv_iload_n hx hb d_Yd_get_4 rfl (lv_at hl 3 rfl) ?_
  refine fy_callS (As := [.int (nI q)]) (rest := []) ⟨hx, hb, hml, hown, hts⟩ (c_Yd_checkRegister l s0 D cI cZ cJ cW hG q hq) (va_cwS 1 hts g_Yd_46 rfl rfl rfl (by decide +kernel) ⟨Nat.le_of_ble_eq_true rfl, Nat.le_of_ble_eq_true rfl⟩) hLa hAB hA hP hD hS [] rfl rfl rfl hl.1 rfl (Nat.le_of_ble_eq_true rfl) d_Yd_get_5 ⟨Nat.zero_le _, Nat.zero_le _⟩ (fun r w1 H locs hp hP hD hS => ?_)
  obtain ⟨rfl, rfl⟩ := hp
  have hP : va_P D vwCl [(yd, .inr (0, [.ref rg, .ref wr, .ref cr, .ref wl, .ref sp, .ref sq, .int (nI mN), .int (nI cN)])), (rg, .inl (cI, 8, .inl G)), (sp, .inr (4, [.ref rw, .int wd, .int ob])), (rw, .inl (cI, 240, .inl row))] H := hP
  have hD : va_D A [(yd, .inr (0, [.ref rg, .ref wr, .ref cr, .ref wl, .ref sp, .ref sq, .int (nI mN), .int (nI cN)])), (rg, .inl (cI, 8, .inl G)), (sp, .inr (4, [.ref rw, .int wd, .int ob])), (rw, .inl (cI, 240, .inl row))] := hD
  refine lv_aload_n hx hb d_Yd_get_8 rfl (lv_at hl 0 rfl) ?_
  refine lv_iload_n hx hb d_Yd_get_9 rfl (lv_at hl 1 rfl) ?_
  refine fy_thV (As := [.int (nI j)]) (rest := []) ⟨hx, hb, hml, hown, hts⟩ (x_Yd_objectOf l s0 D cI cZ cJ cW hG hX yd rg wr cr wl sp sq rw mN cN G j hj hG0) List.mem_cons_self gw_Yd_objectOf ⟨Nat.le_of_ble_eq_true rfl, Nat.le_of_ble_eq_true rfl⟩ ⟨Nat.le_of_ble_eq_true rfl, Nat.le_of_ble_eq_true rfl⟩ (hts _ k_m_Yd_74) (hts _ k_i_Yd_objectOf) (hts _ k_sel_Yd_objectOf) (hts _ k_ini_Yd) ⟨by decide, by decide, show (parseMethodDescriptor y_Yd_objectOf.desc).map (fun d => d.parameters.length) = some 1 by decide +kernel⟩ hK hLa hAB hA hP hD hS [0, 1] rfl rfl (ci := 0) rfl rfl (q0 := 0) rfl hl.1 rfl (Nat.le_of_ble_eq_true rfl) d_Yd_get_10 (fun q ce H locs h1 h2 h3 hP hS => ?_)
  exact fy_leave hAe hout hlocks h1 h2 h3 hP hS (Nat.le_of_ble_eq_true rfl) (Nat.le_of_ble_eq_true rfl)
set_option maxRecDepth 20000 in
set_option maxHeartbeats 4000000 in
theorem x_Yd_get_O (l : Launch) (s0 : State) (D : va_G) (cI cZ cJ cW : ClassId) (hG : fy_G s0 D cI cZ cJ cW) (hX : fy_GX l s0) (yd rg wr cr wl sp sq rw : Nat) (mN cN : Nat) (G : Nat → Int32) (row : Nat → Int32) (wd ob : Int32) (j q : Nat) (hj : j < 8) (hq : q < 8) (f : Int32) (a g k : Nat) (ha : a + 3 + k ≤ 240) (hk : k < 8) (hg : 8 * g + k < 2 ^ 31) (hs : row (a + 2) = nI (8 * g + k)) (hG0 : G j = nI a) (hf : ¬ fy_ok k f) : fy_X l s0 D vwCl y_Yd_get w_Yd_get (fy_rx 1) [.ref yd, .int (nI j), .int f, .int (nI q)] [(yd, .inr (0, [.ref rg, .ref wr, .ref cr, .ref wl, .ref sp, .ref sq, .int (nI mN), .int (nI cN)])), (rg, .inl (cI, 8, .inl G)), (sp, .inr (4, [.ref rw, .int wd, .int ob])), (rw, .inl (cI, 240, .inl row))] fy_nO := by
  refine fy_xst (bytes := b_Yd_get) (maxL := 5) (ret := none) hG (by decide) rfl (Nat.le_of_ble_eq_true rfl) ?_
  intro p e s m below meth c A ls hx hb hout hlocks hml hown hts hK hLa hAe hAB hA hl hP hD hS
  have hl : lv_has ls 5 [(0, .ref yd), (1, .int (nI j)), (2, .int f), (3, .int (nI q))] := hl
  refine lv_iload_n hx hb d_Yd_get_0 rfl (lv_at hl 1 rfl) ?_
  refine fy_callS (As := [.int (nI j)]) (rest := []) ⟨hx, hb, hml, hown, hts⟩ (c_Yd_checkRegister l s0 D cI cZ cJ cW hG j hj) (va_cwS 1 hts g_Yd_46 rfl rfl rfl (by decide +kernel) ⟨Nat.le_of_ble_eq_true rfl, Nat.le_of_ble_eq_true rfl⟩) hLa hAB hA hP hD hS [] rfl rfl rfl hl.1 rfl (Nat.le_of_ble_eq_true rfl) d_Yd_get_1 ⟨Nat.zero_le _, Nat.zero_le _⟩ (fun r w1 H locs hp hP hD hS => ?_)
  obtain ⟨rfl, rfl⟩ := hp
  have hP : va_P D vwCl [(yd, .inr (0, [.ref rg, .ref wr, .ref cr, .ref wl, .ref sp, .ref sq, .int (nI mN), .int (nI cN)])), (rg, .inl (cI, 8, .inl G)), (sp, .inr (4, [.ref rw, .int wd, .int ob])), (rw, .inl (cI, 240, .inl row))] H := hP
  have hD : va_D A [(yd, .inr (0, [.ref rg, .ref wr, .ref cr, .ref wl, .ref sp, .ref sq, .int (nI mN), .int (nI cN)])), (rg, .inl (cI, 8, .inl G)), (sp, .inr (4, [.ref rw, .int wd, .int ob])), (rw, .inl (cI, 240, .inl row))] := hD
  refine lv_iload_n hx hb d_Yd_get_4 rfl (lv_at hl 3 rfl) ?_
  refine fy_callS (As := [.int (nI q)]) (rest := []) ⟨hx, hb, hml, hown, hts⟩ (c_Yd_checkRegister l s0 D cI cZ cJ cW hG q hq) (va_cwS 1 hts g_Yd_46 rfl rfl rfl (by decide +kernel) ⟨Nat.le_of_ble_eq_true rfl, Nat.le_of_ble_eq_true rfl⟩) hLa hAB hA hP hD hS [] rfl rfl rfl hl.1 rfl (Nat.le_of_ble_eq_true rfl) d_Yd_get_5 ⟨Nat.zero_le _, Nat.zero_le _⟩ (fun r w1 H locs hp hP hD hS => ?_)
  obtain ⟨rfl, rfl⟩ := hp
  have hP : va_P D vwCl [(yd, .inr (0, [.ref rg, .ref wr, .ref cr, .ref wl, .ref sp, .ref sq, .int (nI mN), .int (nI cN)])), (rg, .inl (cI, 8, .inl G)), (sp, .inr (4, [.ref rw, .int wd, .int ob])), (rw, .inl (cI, 240, .inl row))] H := hP
  have hD : va_D A [(yd, .inr (0, [.ref rg, .ref wr, .ref cr, .ref wl, .ref sp, .ref sq, .int (nI mN), .int (nI cN)])), (rg, .inl (cI, 8, .inl G)), (sp, .inr (4, [.ref rw, .int wd, .int ob])), (rw, .inl (cI, 240, .inl row))] := hD
  refine lv_aload_n hx hb d_Yd_get_8 rfl (lv_at hl 0 rfl) ?_
  refine lv_iload_n hx hb d_Yd_get_9 rfl (lv_at hl 1 rfl) ?_
  refine fy_callV (As := [.int (nI j)]) (rest := []) ⟨hx, hb, hml, hown, hts⟩ (c_Yd_objectOf l s0 D cI cZ cJ cW hG yd rg wr cr wl sp sq rw mN cN G j a hj (by omega) hG0) (cwV 1 hts g_Yd_74 rfl rfl rfl (by decide +kernel) ⟨Nat.le_of_ble_eq_true rfl, Nat.le_of_ble_eq_true rfl⟩) hK hLa hAB hA hP hD hS [0, 1] rfl rfl (ci := 0) rfl rfl (q0 := 0) rfl rfl hl.1 rfl (Nat.le_of_ble_eq_true rfl) d_Yd_get_10 ⟨Nat.zero_le _, Nat.zero_le _⟩ (fun r w1 H locs hp hP hD hS => ?_)
  obtain ⟨rfl, rfl⟩ := hp
  have hP : va_P D vwCl [(yd, .inr (0, [.ref rg, .ref wr, .ref cr, .ref wl, .ref sp, .ref sq, .int (nI mN), .int (nI cN)])), (rg, .inl (cI, 8, .inl G)), (sp, .inr (4, [.ref rw, .int wd, .int ob])), (rw, .inl (cI, 240, .inl row))] H := hP
  have hD : va_D A [(yd, .inr (0, [.ref rg, .ref wr, .ref cr, .ref wl, .ref sp, .ref sq, .int (nI mN), .int (nI cN)])), (rg, .inl (cI, 8, .inl G)), (sp, .inr (4, [.ref rw, .int wd, .int ob])), (rw, .inl (cI, 240, .inl row))] := hD
  refine lv_istore hx hb d_Yd_get_13 hl (by decide) rfl (fun ls hl => ?_)
  have hl : lv_has ls 5 [(4, .int (nI a)), (0, .ref yd), (1, .int (nI j)), (2, .int f), (3, .int (nI q))] := hl
  refine lv_aload_n hx hb d_Yd_get_15 rfl (lv_at hl 1 rfl) ?_
  refine lv_iload hx hb d_Yd_get_16 (lv_at hl 0 rfl) ?_
  refine lv_iload_n hx hb d_Yd_get_18 rfl (lv_at hl 3 rfl) ?_
  refine fy_thV (As := [.int (nI a), .int f]) (rest := []) ⟨hx, hb, hml, hown, hts⟩ (x_Yd_checkField l s0 D cI cZ cJ cW hG hX yd rg wr cr wl sp sq rw mN cN row wd ob a g k (by omega) hk hg hs f hf) List.mem_cons_self gw_Yd_checkField ⟨Nat.le_of_ble_eq_true rfl, Nat.le_of_ble_eq_true rfl⟩ ⟨Nat.le_of_ble_eq_true rfl, Nat.le_of_ble_eq_true rfl⟩ (hts _ k_m_Yd_78) (hts _ k_i_Yd_checkField) (hts _ k_sel_Yd_checkField) (hts _ k_ini_Yd) ⟨by decide, by decide, show (parseMethodDescriptor y_Yd_checkField.desc).map (fun d => d.parameters.length) = some 2 by decide +kernel⟩ hK hLa hAB hA hP hD hS [0, 2, 3] rfl rfl (ci := 0) rfl rfl (q0 := 0) rfl hl.1 rfl (Nat.le_of_ble_eq_true rfl) d_Yd_get_19 (fun q ce H locs h1 h2 h3 hP hS => ?_)
  exact fy_leave hAe hout hlocks h1 h2 h3 hP hS (Nat.le_of_ble_eq_true rfl) (Nat.le_of_ble_eq_true rfl)
set_option maxRecDepth 20000 in
set_option maxHeartbeats 4000000 in
theorem c_Yd_get (l : Launch) (s0 : State) (D : va_G) (cI cZ cJ cW : ClassId) (hG : fy_G s0 D cI cZ cJ cW) (yd rg wr cr wl sp sq rw : Nat) (mN cN : Nat) (G : Nat → Int32) (row : Nat → Int32) (wd ob : Int32) (j q : Nat) (hj : j < 8) (hq : q < 8) (f : Nat) (a g k : Nat) (ha : a + 3 + k ≤ 240) (hk : k < 8) (hg : 8 * g + k < 2 ^ 31) (hs : row (a + 2) = nI (8 * g + k)) (hG0 : G j = nI a) (hf : f < k) : fy_Met l s0 D vwCl y_Yd_get w_Yd_get (fy_rm 2) 0 0 [.ref yd, .int (nI j), .int (nI f), .int (nI q)] [(yd, .inr (0, [.ref rg, .ref wr, .ref cr, .ref wl, .ref sp, .ref sq, .int (nI mN), .int (nI cN)])), (rg, .inl (cI, 8, .inl G)), (sp, .inr (4, [.ref rw, .int wd, .int ob])), (rw, .inl (cI, 240, .inl row))] (fun r w1 => r = none ∧ w1 = [(yd, .inr (0, [.ref rg, .ref wr, .ref cr, .ref wl, .ref sp, .ref sq, .int (nI mN), .int (nI cN)])), (rg, .inl (cI, 8, .inl (upd G q (row (a + 3 + f))))), (sp, .inr (4, [.ref rw, .int wd, .int ob])), (rw, .inl (cI, 240, .inl row))]) := by
  refine fy_st (bytes := b_Yd_get) (maxL := 5) (ret := none) hG (by decide) rfl (Nat.le_of_ble_eq_true rfl) ?_
  intro p e s m below meth c A ls hx hb hr hlocks hml hown hts hK hLa hAe hAB hA hl hP hD hS
  have hl : lv_has ls 5 [(0, .ref yd), (1, .int (nI j)), (2, .int (nI f)), (3, .int (nI q))] := hl
  refine lv_iload_n hx hb d_Yd_get_0 rfl (lv_at hl 1 rfl) ?_
  refine fy_callS (As := [.int (nI j)]) (rest := []) ⟨hx, hb, hml, hown, hts⟩ (c_Yd_checkRegister l s0 D cI cZ cJ cW hG j hj) (va_cwS 1 hts g_Yd_46 rfl rfl rfl (by decide +kernel) ⟨Nat.le_of_ble_eq_true rfl, Nat.le_of_ble_eq_true rfl⟩) hLa hAB hA hP hD hS [] rfl rfl rfl hl.1 rfl (Nat.le_of_ble_eq_true rfl) d_Yd_get_1 ⟨Nat.zero_le _, Nat.zero_le _⟩ (fun r w1 H locs hp hP hD hS => ?_)
  obtain ⟨rfl, rfl⟩ := hp
  have hP : va_P D vwCl [(yd, .inr (0, [.ref rg, .ref wr, .ref cr, .ref wl, .ref sp, .ref sq, .int (nI mN), .int (nI cN)])), (rg, .inl (cI, 8, .inl G)), (sp, .inr (4, [.ref rw, .int wd, .int ob])), (rw, .inl (cI, 240, .inl row))] H := hP
  have hD : va_D A [(yd, .inr (0, [.ref rg, .ref wr, .ref cr, .ref wl, .ref sp, .ref sq, .int (nI mN), .int (nI cN)])), (rg, .inl (cI, 8, .inl G)), (sp, .inr (4, [.ref rw, .int wd, .int ob])), (rw, .inl (cI, 240, .inl row))] := hD
  refine lv_iload_n hx hb d_Yd_get_4 rfl (lv_at hl 3 rfl) ?_
  refine fy_callS (As := [.int (nI q)]) (rest := []) ⟨hx, hb, hml, hown, hts⟩ (c_Yd_checkRegister l s0 D cI cZ cJ cW hG q hq) (va_cwS 1 hts g_Yd_46 rfl rfl rfl (by decide +kernel) ⟨Nat.le_of_ble_eq_true rfl, Nat.le_of_ble_eq_true rfl⟩) hLa hAB hA hP hD hS [] rfl rfl rfl hl.1 rfl (Nat.le_of_ble_eq_true rfl) d_Yd_get_5 ⟨Nat.zero_le _, Nat.zero_le _⟩ (fun r w1 H locs hp hP hD hS => ?_)
  obtain ⟨rfl, rfl⟩ := hp
  have hP : va_P D vwCl [(yd, .inr (0, [.ref rg, .ref wr, .ref cr, .ref wl, .ref sp, .ref sq, .int (nI mN), .int (nI cN)])), (rg, .inl (cI, 8, .inl G)), (sp, .inr (4, [.ref rw, .int wd, .int ob])), (rw, .inl (cI, 240, .inl row))] H := hP
  have hD : va_D A [(yd, .inr (0, [.ref rg, .ref wr, .ref cr, .ref wl, .ref sp, .ref sq, .int (nI mN), .int (nI cN)])), (rg, .inl (cI, 8, .inl G)), (sp, .inr (4, [.ref rw, .int wd, .int ob])), (rw, .inl (cI, 240, .inl row))] := hD
  refine lv_aload_n hx hb d_Yd_get_8 rfl (lv_at hl 0 rfl) ?_
  refine lv_iload_n hx hb d_Yd_get_9 rfl (lv_at hl 1 rfl) ?_
  refine fy_callV (As := [.int (nI j)]) (rest := []) ⟨hx, hb, hml, hown, hts⟩ (c_Yd_objectOf l s0 D cI cZ cJ cW hG yd rg wr cr wl sp sq rw mN cN G j a hj (by omega) hG0) (cwV 1 hts g_Yd_74 rfl rfl rfl (by decide +kernel) ⟨Nat.le_of_ble_eq_true rfl, Nat.le_of_ble_eq_true rfl⟩) hK hLa hAB hA hP hD hS [0, 1] rfl rfl (ci := 0) rfl rfl (q0 := 0) rfl rfl hl.1 rfl (Nat.le_of_ble_eq_true rfl) d_Yd_get_10 ⟨Nat.zero_le _, Nat.zero_le _⟩ (fun r w1 H locs hp hP hD hS => ?_)
  obtain ⟨rfl, rfl⟩ := hp
  have hP : va_P D vwCl [(yd, .inr (0, [.ref rg, .ref wr, .ref cr, .ref wl, .ref sp, .ref sq, .int (nI mN), .int (nI cN)])), (rg, .inl (cI, 8, .inl G)), (sp, .inr (4, [.ref rw, .int wd, .int ob])), (rw, .inl (cI, 240, .inl row))] H := hP
  have hD : va_D A [(yd, .inr (0, [.ref rg, .ref wr, .ref cr, .ref wl, .ref sp, .ref sq, .int (nI mN), .int (nI cN)])), (rg, .inl (cI, 8, .inl G)), (sp, .inr (4, [.ref rw, .int wd, .int ob])), (rw, .inl (cI, 240, .inl row))] := hD
  refine lv_istore hx hb d_Yd_get_13 hl (by decide) rfl (fun ls hl => ?_)
  have hl : lv_has ls 5 [(4, .int (nI a)), (0, .ref yd), (1, .int (nI j)), (2, .int (nI f)), (3, .int (nI q))] := hl
  refine lv_aload_n hx hb d_Yd_get_15 rfl (lv_at hl 1 rfl) ?_
  refine lv_iload hx hb d_Yd_get_16 (lv_at hl 0 rfl) ?_
  refine lv_iload_n hx hb d_Yd_get_18 rfl (lv_at hl 3 rfl) ?_
  refine fy_callV (As := [.int (nI a), .int (nI f)]) (rest := []) ⟨hx, hb, hml, hown, hts⟩ (c_Yd_checkField l s0 D cI cZ cJ cW hG yd rg wr cr wl sp sq rw mN cN row wd ob a g k (by omega) hk hg hs f hf) (cwV 2 hts g_Yd_78 rfl rfl rfl (by decide +kernel) ⟨Nat.le_of_ble_eq_true rfl, Nat.le_of_ble_eq_true rfl⟩) hK hLa hAB hA hP hD hS [0, 2, 3] rfl rfl (ci := 0) rfl rfl (q0 := 0) rfl rfl hl.1 rfl (Nat.le_of_ble_eq_true rfl) d_Yd_get_19 ⟨Nat.zero_le _, Nat.zero_le _⟩ (fun r w1 H locs hp hP hD hS => ?_)
  obtain ⟨rfl, rfl⟩ := hp
  have hP : va_P D vwCl [(yd, .inr (0, [.ref rg, .ref wr, .ref cr, .ref wl, .ref sp, .ref sq, .int (nI mN), .int (nI cN)])), (rg, .inl (cI, 8, .inl G)), (sp, .inr (4, [.ref rw, .int wd, .int ob])), (rw, .inl (cI, 240, .inl row))] H := hP
  have hD : va_D A [(yd, .inr (0, [.ref rg, .ref wr, .ref cr, .ref wl, .ref sp, .ref sq, .int (nI mN), .int (nI cN)])), (rg, .inl (cI, 8, .inl G)), (sp, .inr (4, [.ref rw, .int wd, .int ob])), (rw, .inl (cI, 240, .inl row))] := hD
  refine lv_aload_n hx hb d_Yd_get_22 rfl (lv_at hl 1 rfl) ?_
  refine va_get (D := D) (ci := 0) (v := .ref rg) (C := R_Yd) (T := F_Yd) (N := 8) hx hb hts i_Yd hown hK hP 0 rfl rfl 0 (by decide) (hts _ k_f_Yd_9) (fun _ h9 => h9) rfl d_Yd_get_23 ?_
  refine lv_iload_n hx hb d_Yd_get_26 rfl (lv_at hl 4 rfl) ?_
  refine lv_aload_n hx hb d_Yd_get_27 rfl (lv_at hl 1 rfl) ?_
  refine va_get (D := D) (ci := 0) (v := .ref sp) (C := R_Yd) (T := F_Yd) (N := 8) hx hb hts i_Yd hown hK hP 0 rfl rfl 4 (by decide) (hts _ k_f_Yd_33) (fun _ h9 => h9) rfl d_Yd_get_28 ?_
  refine lv_iload hx hb d_Yd_get_31 (lv_at hl 0 rfl) ?_
  refine lv_iload_n hx hb d_Yd_get_33 rfl (lv_at hl 3 rfl) ?_
  refine fy_callV (As := [.int (nI a), .int (nI f)]) (rest := [.int (nI q), .ref rg]) ⟨hx, hb, hml, hown, hts⟩ (c_Sp_referent l s0 D cI cZ cJ cW hG sp rw row wd ob a f (by omega)) (cwV 2 hts g_Yd_86 rfl rfl rfl (by decide +kernel) ⟨Nat.le_of_ble_eq_true rfl, Nat.le_of_ble_eq_true rfl⟩) hK hLa hAB hA hP hD hS [2, 3] rfl rfl (ci := 4) rfl rfl (q0 := 2) rfl rfl hl.1 rfl (Nat.le_of_ble_eq_true rfl) d_Yd_get_34 ⟨Nat.zero_le _, Nat.zero_le _⟩ (fun r w1 H locs hp hP hD hS => ?_)
  obtain ⟨rfl, rfl⟩ := hp
  have hP : va_P D vwCl [(yd, .inr (0, [.ref rg, .ref wr, .ref cr, .ref wl, .ref sp, .ref sq, .int (nI mN), .int (nI cN)])), (rg, .inl (cI, 8, .inl G)), (sp, .inr (4, [.ref rw, .int wd, .int ob])), (rw, .inl (cI, 240, .inl row))] H := hP
  have hD : va_D A [(yd, .inr (0, [.ref rg, .ref wr, .ref cr, .ref wl, .ref sp, .ref sq, .int (nI mN), .int (nI cN)])), (rg, .inl (cI, 8, .inl G)), (sp, .inr (4, [.ref rw, .int wd, .int ob])), (rw, .inl (cI, 240, .inl row))] := hD
  refine fy_iast (t0 := 0) (g := upd G q (row (a + 3 + f))) hx hb hK hP hD hS 1 rfl rfl (by omega) (by omega) (rfl) d_Yd_get_37 (fun H locs hP hD hS => ?_)
  have hP : va_P D vwCl [(yd, .inr (0, [.ref rg, .ref wr, .ref cr, .ref wl, .ref sp, .ref sq, .int (nI mN), .int (nI cN)])), (rg, .inl (cI, 8, .inl (upd G q (row (a + 3 + f))))), (sp, .inr (4, [.ref rw, .int wd, .int ob])), (rw, .inl (cI, 240, .inl row))] H := hP
  have hD : va_D A [(yd, .inr (0, [.ref rg, .ref wr, .ref cr, .ref wl, .ref sp, .ref sq, .int (nI mN), .int (nI cN)])), (rg, .inl (cI, 8, .inl (upd G q (row (a + 3 + f))))), (sp, .inr (4, [.ref rw, .int wd, .int ob])), (rw, .inl (cI, 240, .inl row))] := hD
  exact fy_retv hx hb hr hlocks hAe (⟨rfl, rfl⟩) (List.Perm.refl _) hP hS d_Yd_get_38
set_option maxRecDepth 20000 in
set_option maxHeartbeats 4000000 in
theorem x_Yd_copy_I (l : Launch) (s0 : State) (D : va_G) (cI cZ cJ cW : ClassId) (hG : fy_G s0 D cI cZ cJ cW) (hX : fy_GX l s0) (yd rg wr cr wl sp sq rw : Nat) (mN cN : Nat) (G V : Nat → Int32) (r q : Int32) (hbd : ¬ fy_ok 8 r ∨ ¬ fy_ok 8 q) : fy_X l s0 D vwCl y_Yd_copy w_Yd_copy (fy_rx 1) [.ref yd, .int r, .int q] [(yd, .inr (0, [.ref rg, .ref wr, .ref cr, .ref wl, .ref sp, .ref sq, .int (nI mN), .int (nI cN)])), (rg, .inl (cI, 8, .inl G))] fy_nI := by
  refine fy_xst (bytes := b_Yd_copy) (maxL := 3) (ret := none) hG (by decide) rfl (Nat.le_of_ble_eq_true rfl) ?_
  intro p e s m below meth c A ls hx hb hout hlocks hml hown hts hK hLa hAe hAB hA hl hP hD hS
  have hl : lv_has ls 3 [(0, .ref yd), (1, .int r), (2, .int q)] := hl
  refine lv_iload_n hx hb d_Yd_copy_0 rfl (lv_at hl 1 rfl) ?_
  by_cases hr : fy_ok 8 r
  · obtain ⟨k, hk, rfl⟩ := hr.nat (by omega)
    refine fy_callS (As := [.int (nI k)]) (rest := []) ⟨hx, hb, hml, hown, hts⟩ (c_Yd_checkRegister l s0 D cI cZ cJ cW hG k hk) (va_cwS 1 hts g_Yd_46 rfl rfl rfl (by decide +kernel) ⟨Nat.le_of_ble_eq_true rfl, Nat.le_of_ble_eq_true rfl⟩) hLa hAB hA hP hD hS [] rfl rfl rfl hl.1 rfl (Nat.le_of_ble_eq_true rfl) d_Yd_copy_1 ⟨Nat.zero_le _, Nat.zero_le _⟩ (fun r w1 H locs hp hP hD hS => ?_)
    obtain ⟨rfl, rfl⟩ := hp
    have hP : va_P D vwCl [(yd, .inr (0, [.ref rg, .ref wr, .ref cr, .ref wl, .ref sp, .ref sq, .int (nI mN), .int (nI cN)])), (rg, .inl (cI, 8, .inl G))] H := hP
    have hD : va_D A [(yd, .inr (0, [.ref rg, .ref wr, .ref cr, .ref wl, .ref sp, .ref sq, .int (nI mN), .int (nI cN)])), (rg, .inl (cI, 8, .inl G))] := hD
    refine lv_iload_n hx hb d_Yd_copy_4 rfl (lv_at hl 2 rfl) ?_
    refine fy_thS (As := [.int q]) (rest := []) ⟨hx, hb, hml, hown, hts⟩ (x_Yd_checkRegister l s0 D cI cZ cJ cW hG hX q (hbd.resolve_left (fun h => h hr))) List.mem_cons_self gw_Yd_checkRegister ⟨Nat.le_of_ble_eq_true rfl, Nat.le_of_ble_eq_true rfl⟩ ⟨Nat.le_of_ble_eq_true rfl, Nat.le_of_ble_eq_true rfl⟩ (hts _ k_m_Yd_46) (hts _ k_s_Yd_checkRegister) (hts _ k_ini_Yd) ⟨by decide, by decide, show (parseMethodDescriptor y_Yd_checkRegister.desc).map (fun d => d.parameters.length) = some 1 by decide +kernel⟩ hLa hAB hA hP hD hS [] rfl rfl hl.1 rfl (Nat.le_of_ble_eq_true rfl) d_Yd_copy_5 (fun q ce H locs h1 h2 h3 hP hS => ?_)
    exact fy_leave hAe hout hlocks h1 h2 h3 hP hS (Nat.le_of_ble_eq_true rfl) (Nat.le_of_ble_eq_true rfl)
  · refine fy_thS (As := [.int r]) (rest := []) ⟨hx, hb, hml, hown, hts⟩ (x_Yd_checkRegister l s0 D cI cZ cJ cW hG hX r hr) List.mem_cons_self gw_Yd_checkRegister ⟨Nat.le_of_ble_eq_true rfl, Nat.le_of_ble_eq_true rfl⟩ ⟨Nat.le_of_ble_eq_true rfl, Nat.le_of_ble_eq_true rfl⟩ (hts _ k_m_Yd_46) (hts _ k_s_Yd_checkRegister) (hts _ k_ini_Yd) ⟨by decide, by decide, show (parseMethodDescriptor y_Yd_checkRegister.desc).map (fun d => d.parameters.length) = some 1 by decide +kernel⟩ hLa hAB hA hP hD hS [] rfl rfl hl.1 rfl (Nat.le_of_ble_eq_true rfl) d_Yd_copy_1 (fun q ce H locs h1 h2 h3 hP hS => ?_)
    exact fy_leave hAe hout hlocks h1 h2 h3 hP hS (Nat.le_of_ble_eq_true rfl) (Nat.le_of_ble_eq_true rfl)
set_option maxRecDepth 20000 in
set_option maxHeartbeats 4000000 in
theorem c_Yd_copy (l : Launch) (s0 : State) (D : va_G) (cI cZ cJ cW : ClassId) (hG : fy_G s0 D cI cZ cJ cW) (yd rg wr cr wl sp sq rw : Nat) (mN cN : Nat) (G V : Nat → Int32) (k q : Nat) (hk : k < 8) (hq : q < 8) : fy_Met l s0 D vwCl y_Yd_copy w_Yd_copy (fy_rm 1) 0 0 [.ref yd, .int (nI k), .int (nI q)] [(yd, .inr (0, [.ref rg, .ref wr, .ref cr, .ref wl, .ref sp, .ref sq, .int (nI mN), .int (nI cN)])), (rg, .inl (cI, 8, .inl G))] (fun r w1 => r = none ∧ w1 = [(yd, .inr (0, [.ref rg, .ref wr, .ref cr, .ref wl, .ref sp, .ref sq, .int (nI mN), .int (nI cN)])), (rg, .inl (cI, 8, .inl (upd G q (G k))))]) := by
  refine fy_st (bytes := b_Yd_copy) (maxL := 3) (ret := none) hG (by decide) rfl (Nat.le_of_ble_eq_true rfl) ?_
  intro p e s m below meth c A ls hx hb hr hlocks hml hown hts hK hLa hAe hAB hA hl hP hD hS
  have hl : lv_has ls 3 [(0, .ref yd), (1, .int (nI k)), (2, .int (nI q))] := hl
  refine lv_iload_n hx hb d_Yd_copy_0 rfl (lv_at hl 1 rfl) ?_
  refine fy_callS (As := [.int (nI k)]) (rest := []) ⟨hx, hb, hml, hown, hts⟩ (c_Yd_checkRegister l s0 D cI cZ cJ cW hG k hk) (va_cwS 1 hts g_Yd_46 rfl rfl rfl (by decide +kernel) ⟨Nat.le_of_ble_eq_true rfl, Nat.le_of_ble_eq_true rfl⟩) hLa hAB hA hP hD hS [] rfl rfl rfl hl.1 rfl (Nat.le_of_ble_eq_true rfl) d_Yd_copy_1 ⟨Nat.zero_le _, Nat.zero_le _⟩ (fun r w1 H locs hp hP hD hS => ?_)
  obtain ⟨rfl, rfl⟩ := hp
  have hP : va_P D vwCl [(yd, .inr (0, [.ref rg, .ref wr, .ref cr, .ref wl, .ref sp, .ref sq, .int (nI mN), .int (nI cN)])), (rg, .inl (cI, 8, .inl G))] H := hP
  have hD : va_D A [(yd, .inr (0, [.ref rg, .ref wr, .ref cr, .ref wl, .ref sp, .ref sq, .int (nI mN), .int (nI cN)])), (rg, .inl (cI, 8, .inl G))] := hD
  refine lv_iload_n hx hb d_Yd_copy_4 rfl (lv_at hl 2 rfl) ?_
  refine fy_callS (As := [.int (nI q)]) (rest := []) ⟨hx, hb, hml, hown, hts⟩ (c_Yd_checkRegister l s0 D cI cZ cJ cW hG q hq) (va_cwS 1 hts g_Yd_46 rfl rfl rfl (by decide +kernel) ⟨Nat.le_of_ble_eq_true rfl, Nat.le_of_ble_eq_true rfl⟩) hLa hAB hA hP hD hS [] rfl rfl rfl hl.1 rfl (Nat.le_of_ble_eq_true rfl) d_Yd_copy_5 ⟨Nat.zero_le _, Nat.zero_le _⟩ (fun r w1 H locs hp hP hD hS => ?_)
  obtain ⟨rfl, rfl⟩ := hp
  have hP : va_P D vwCl [(yd, .inr (0, [.ref rg, .ref wr, .ref cr, .ref wl, .ref sp, .ref sq, .int (nI mN), .int (nI cN)])), (rg, .inl (cI, 8, .inl G))] H := hP
  have hD : va_D A [(yd, .inr (0, [.ref rg, .ref wr, .ref cr, .ref wl, .ref sp, .ref sq, .int (nI mN), .int (nI cN)])), (rg, .inl (cI, 8, .inl G))] := hD
  refine lv_aload_n hx hb d_Yd_copy_8 rfl (lv_at hl 0 rfl) ?_
  refine va_get (D := D) (ci := 0) (v := .ref rg) (C := R_Yd) (T := F_Yd) (N := 8) hx hb hts i_Yd hown hK hP 0 rfl rfl 0 (by decide) (hts _ k_f_Yd_9) (fun _ h9 => h9) rfl d_Yd_copy_9 ?_
  refine lv_iload_n hx hb d_Yd_copy_12 rfl (lv_at hl 2 rfl) ?_
  refine lv_aload_n hx hb d_Yd_copy_13 rfl (lv_at hl 0 rfl) ?_
  refine va_get (D := D) (ci := 0) (v := .ref rg) (C := R_Yd) (T := F_Yd) (N := 8) hx hb hts i_Yd hown hK hP 0 rfl rfl 0 (by decide) (hts _ k_f_Yd_9) (fun _ h9 => h9) rfl d_Yd_copy_14 ?_
  refine lv_iload_n hx hb d_Yd_copy_17 rfl (lv_at hl 1 rfl) ?_
  refine fy_iald (t0 := 0) (v := G k) hx hb hK hP 1 rfl rfl (by omega) (by omega) (rfl) d_Yd_copy_18 ?_
  refine fy_iast (t0 := 0) (g := upd G q (G k)) hx hb hK hP hD hS 1 rfl rfl (by omega) (by omega) (rfl) d_Yd_copy_19 (fun H locs hP hD hS => ?_)
  have hP : va_P D vwCl [(yd, .inr (0, [.ref rg, .ref wr, .ref cr, .ref wl, .ref sp, .ref sq, .int (nI mN), .int (nI cN)])), (rg, .inl (cI, 8, .inl (upd G q (G k))))] H := hP
  have hD : va_D A [(yd, .inr (0, [.ref rg, .ref wr, .ref cr, .ref wl, .ref sp, .ref sq, .int (nI mN), .int (nI cN)])), (rg, .inl (cI, 8, .inl (upd G q (G k))))] := hD
  exact fy_retv hx hb hr hlocks hAe (⟨rfl, rfl⟩) (List.Perm.refl _) hP hS d_Yd_copy_20
set_option maxRecDepth 20000 in
set_option maxHeartbeats 4000000 in
theorem x_Yd_watch_I (l : Launch) (s0 : State) (D : va_G) (cI cZ cJ cW : ClassId) (hG : fy_G s0 D cI cZ cJ cW) (hX : fy_GX l s0) (yd rg wr cr wl sp sq rw : Nat) (mN cN : Nat) (G V : Nat → Int32) (r q : Int32) (hbd : ¬ fy_ok 4 r ∨ ¬ fy_ok 8 q) : fy_X l s0 D vwCl y_Yd_watch w_Yd_watch (fy_rx 1) [.ref yd, .int r, .int q] [(yd, .inr (0, [.ref rg, .ref wr, .ref cr, .ref wl, .ref sp, .ref sq, .int (nI mN), .int (nI cN)])), (rg, .inl (cI, 8, .inl G)), (wr, .inl (cI, 4, .inl V))] fy_nI := by
  refine fy_xst (bytes := b_Yd_watch) (maxL := 3) (ret := none) hG (by decide) rfl (Nat.le_of_ble_eq_true rfl) ?_
  intro p e s m below meth c A ls hx hb hout hlocks hml hown hts hK hLa hAe hAB hA hl hP hD hS
  have hl : lv_has ls 3 [(0, .ref yd), (1, .int r), (2, .int q)] := hl
  refine lv_iload_n hx hb d_Yd_watch_0 rfl (lv_at hl 1 rfl) ?_
  by_cases hr : fy_ok 4 r
  · obtain ⟨k, hk, rfl⟩ := hr.nat (by omega)
    refine fy_callS (As := [.int (nI k)]) (rest := []) ⟨hx, hb, hml, hown, hts⟩ (c_Yd_checkWeakRegister l s0 D cI cZ cJ cW hG k hk) (va_cwS 1 hts g_Yd_96 rfl rfl rfl (by decide +kernel) ⟨Nat.le_of_ble_eq_true rfl, Nat.le_of_ble_eq_true rfl⟩) hLa hAB hA hP hD hS [] rfl rfl rfl hl.1 rfl (Nat.le_of_ble_eq_true rfl) d_Yd_watch_1 ⟨Nat.zero_le _, Nat.zero_le _⟩ (fun r w1 H locs hp hP hD hS => ?_)
    obtain ⟨rfl, rfl⟩ := hp
    have hP : va_P D vwCl [(yd, .inr (0, [.ref rg, .ref wr, .ref cr, .ref wl, .ref sp, .ref sq, .int (nI mN), .int (nI cN)])), (rg, .inl (cI, 8, .inl G)), (wr, .inl (cI, 4, .inl V))] H := hP
    have hD : va_D A [(yd, .inr (0, [.ref rg, .ref wr, .ref cr, .ref wl, .ref sp, .ref sq, .int (nI mN), .int (nI cN)])), (rg, .inl (cI, 8, .inl G)), (wr, .inl (cI, 4, .inl V))] := hD
    refine lv_iload_n hx hb d_Yd_watch_4 rfl (lv_at hl 2 rfl) ?_
    refine fy_thS (As := [.int q]) (rest := []) ⟨hx, hb, hml, hown, hts⟩ (x_Yd_checkRegister l s0 D cI cZ cJ cW hG hX q (hbd.resolve_left (fun h => h hr))) List.mem_cons_self gw_Yd_checkRegister ⟨Nat.le_of_ble_eq_true rfl, Nat.le_of_ble_eq_true rfl⟩ ⟨Nat.le_of_ble_eq_true rfl, Nat.le_of_ble_eq_true rfl⟩ (hts _ k_m_Yd_46) (hts _ k_s_Yd_checkRegister) (hts _ k_ini_Yd) ⟨by decide, by decide, show (parseMethodDescriptor y_Yd_checkRegister.desc).map (fun d => d.parameters.length) = some 1 by decide +kernel⟩ hLa hAB hA hP hD hS [] rfl rfl hl.1 rfl (Nat.le_of_ble_eq_true rfl) d_Yd_watch_5 (fun q ce H locs h1 h2 h3 hP hS => ?_)
    exact fy_leave hAe hout hlocks h1 h2 h3 hP hS (Nat.le_of_ble_eq_true rfl) (Nat.le_of_ble_eq_true rfl)
  · refine fy_thS (As := [.int r]) (rest := []) ⟨hx, hb, hml, hown, hts⟩ (x_Yd_checkWeakRegister l s0 D cI cZ cJ cW hG hX r hr) List.mem_cons_self gw_Yd_checkWeakRegister ⟨Nat.le_of_ble_eq_true rfl, Nat.le_of_ble_eq_true rfl⟩ ⟨Nat.le_of_ble_eq_true rfl, Nat.le_of_ble_eq_true rfl⟩ (hts _ k_m_Yd_96) (hts _ k_s_Yd_checkWeakRegister) (hts _ k_ini_Yd) ⟨by decide, by decide, show (parseMethodDescriptor y_Yd_checkWeakRegister.desc).map (fun d => d.parameters.length) = some 1 by decide +kernel⟩ hLa hAB hA hP hD hS [] rfl rfl hl.1 rfl (Nat.le_of_ble_eq_true rfl) d_Yd_watch_1 (fun q ce H locs h1 h2 h3 hP hS => ?_)
    exact fy_leave hAe hout hlocks h1 h2 h3 hP hS (Nat.le_of_ble_eq_true rfl) (Nat.le_of_ble_eq_true rfl)
set_option maxRecDepth 20000 in
set_option maxHeartbeats 4000000 in
theorem c_Yd_watch (l : Launch) (s0 : State) (D : va_G) (cI cZ cJ cW : ClassId) (hG : fy_G s0 D cI cZ cJ cW) (yd rg wr cr wl sp sq rw : Nat) (mN cN : Nat) (G V : Nat → Int32) (k q : Nat) (hk : k < 4) (hq : q < 8) : fy_Met l s0 D vwCl y_Yd_watch w_Yd_watch (fy_rm 1) 0 0 [.ref yd, .int (nI k), .int (nI q)] [(yd, .inr (0, [.ref rg, .ref wr, .ref cr, .ref wl, .ref sp, .ref sq, .int (nI mN), .int (nI cN)])), (rg, .inl (cI, 8, .inl G)), (wr, .inl (cI, 4, .inl V))] (fun r w1 => r = none ∧ w1 = [(yd, .inr (0, [.ref rg, .ref wr, .ref cr, .ref wl, .ref sp, .ref sq, .int (nI mN), .int (nI cN)])), (rg, .inl (cI, 8, .inl G)), (wr, .inl (cI, 4, .inl (upd V k (G q))))]) := by
  refine fy_st (bytes := b_Yd_watch) (maxL := 3) (ret := none) hG (by decide) rfl (Nat.le_of_ble_eq_true rfl) ?_
  intro p e s m below meth c A ls hx hb hr hlocks hml hown hts hK hLa hAe hAB hA hl hP hD hS
  have hl : lv_has ls 3 [(0, .ref yd), (1, .int (nI k)), (2, .int (nI q))] := hl
  refine lv_iload_n hx hb d_Yd_watch_0 rfl (lv_at hl 1 rfl) ?_
  refine fy_callS (As := [.int (nI k)]) (rest := []) ⟨hx, hb, hml, hown, hts⟩ (c_Yd_checkWeakRegister l s0 D cI cZ cJ cW hG k hk) (va_cwS 1 hts g_Yd_96 rfl rfl rfl (by decide +kernel) ⟨Nat.le_of_ble_eq_true rfl, Nat.le_of_ble_eq_true rfl⟩) hLa hAB hA hP hD hS [] rfl rfl rfl hl.1 rfl (Nat.le_of_ble_eq_true rfl) d_Yd_watch_1 ⟨Nat.zero_le _, Nat.zero_le _⟩ (fun r w1 H locs hp hP hD hS => ?_)
  obtain ⟨rfl, rfl⟩ := hp
  have hP : va_P D vwCl [(yd, .inr (0, [.ref rg, .ref wr, .ref cr, .ref wl, .ref sp, .ref sq, .int (nI mN), .int (nI cN)])), (rg, .inl (cI, 8, .inl G)), (wr, .inl (cI, 4, .inl V))] H := hP
  have hD : va_D A [(yd, .inr (0, [.ref rg, .ref wr, .ref cr, .ref wl, .ref sp, .ref sq, .int (nI mN), .int (nI cN)])), (rg, .inl (cI, 8, .inl G)), (wr, .inl (cI, 4, .inl V))] := hD
  refine lv_iload_n hx hb d_Yd_watch_4 rfl (lv_at hl 2 rfl) ?_
  refine fy_callS (As := [.int (nI q)]) (rest := []) ⟨hx, hb, hml, hown, hts⟩ (c_Yd_checkRegister l s0 D cI cZ cJ cW hG q hq) (va_cwS 1 hts g_Yd_46 rfl rfl rfl (by decide +kernel) ⟨Nat.le_of_ble_eq_true rfl, Nat.le_of_ble_eq_true rfl⟩) hLa hAB hA hP hD hS [] rfl rfl rfl hl.1 rfl (Nat.le_of_ble_eq_true rfl) d_Yd_watch_5 ⟨Nat.zero_le _, Nat.zero_le _⟩ (fun r w1 H locs hp hP hD hS => ?_)
  obtain ⟨rfl, rfl⟩ := hp
  have hP : va_P D vwCl [(yd, .inr (0, [.ref rg, .ref wr, .ref cr, .ref wl, .ref sp, .ref sq, .int (nI mN), .int (nI cN)])), (rg, .inl (cI, 8, .inl G)), (wr, .inl (cI, 4, .inl V))] H := hP
  have hD : va_D A [(yd, .inr (0, [.ref rg, .ref wr, .ref cr, .ref wl, .ref sp, .ref sq, .int (nI mN), .int (nI cN)])), (rg, .inl (cI, 8, .inl G)), (wr, .inl (cI, 4, .inl V))] := hD
  refine lv_aload_n hx hb d_Yd_watch_8 rfl (lv_at hl 0 rfl) ?_
  refine va_get (D := D) (ci := 0) (v := .ref wr) (C := R_Yd) (T := F_Yd) (N := 8) hx hb hts i_Yd hown hK hP 0 rfl rfl 1 (by decide) (hts _ k_f_Yd_13) (fun _ h9 => h9) rfl d_Yd_watch_9 ?_
  refine lv_iload_n hx hb d_Yd_watch_12 rfl (lv_at hl 1 rfl) ?_
  refine lv_aload_n hx hb d_Yd_watch_13 rfl (lv_at hl 0 rfl) ?_
  refine va_get (D := D) (ci := 0) (v := .ref rg) (C := R_Yd) (T := F_Yd) (N := 8) hx hb hts i_Yd hown hK hP 0 rfl rfl 0 (by decide) (hts _ k_f_Yd_9) (fun _ h9 => h9) rfl d_Yd_watch_14 ?_
  refine lv_iload_n hx hb d_Yd_watch_17 rfl (lv_at hl 2 rfl) ?_
  refine fy_iald (t0 := 0) (v := G q) hx hb hK hP 1 rfl rfl (by omega) (by omega) (rfl) d_Yd_watch_18 ?_
  refine fy_iast (t0 := 0) (g := upd V k (G q)) hx hb hK hP hD hS 2 rfl rfl (by omega) (by omega) (rfl) d_Yd_watch_19 (fun H locs hP hD hS => ?_)
  have hP : va_P D vwCl [(yd, .inr (0, [.ref rg, .ref wr, .ref cr, .ref wl, .ref sp, .ref sq, .int (nI mN), .int (nI cN)])), (rg, .inl (cI, 8, .inl G)), (wr, .inl (cI, 4, .inl (upd V k (G q))))] H := hP
  have hD : va_D A [(yd, .inr (0, [.ref rg, .ref wr, .ref cr, .ref wl, .ref sp, .ref sq, .int (nI mN), .int (nI cN)])), (rg, .inl (cI, 8, .inl G)), (wr, .inl (cI, 4, .inl (upd V k (G q))))] := hD
  exact fy_retv hx hb hr hlocks hAe (⟨rfl, rfl⟩) (List.Perm.refl _) hP hS d_Yd_watch_20
set_option maxRecDepth 20000 in
set_option maxHeartbeats 4000000 in
theorem x_Yd_revive_I (l : Launch) (s0 : State) (D : va_G) (cI cZ cJ cW : ClassId) (hG : fy_G s0 D cI cZ cJ cW) (hX : fy_GX l s0) (yd rg wr cr wl sp sq rw : Nat) (mN cN : Nat) (G V : Nat → Int32) (r q : Int32) (hbd : ¬ fy_ok 4 r ∨ ¬ fy_ok 8 q) : fy_X l s0 D vwCl y_Yd_revive w_Yd_revive (fy_rx 1) [.ref yd, .int r, .int q] [(yd, .inr (0, [.ref rg, .ref wr, .ref cr, .ref wl, .ref sp, .ref sq, .int (nI mN), .int (nI cN)])), (rg, .inl (cI, 8, .inl G)), (wr, .inl (cI, 4, .inl V))] fy_nI := by
  refine fy_xst (bytes := b_Yd_revive) (maxL := 3) (ret := none) hG (by decide) rfl (Nat.le_of_ble_eq_true rfl) ?_
  intro p e s m below meth c A ls hx hb hout hlocks hml hown hts hK hLa hAe hAB hA hl hP hD hS
  have hl : lv_has ls 3 [(0, .ref yd), (1, .int r), (2, .int q)] := hl
  refine lv_iload_n hx hb d_Yd_revive_0 rfl (lv_at hl 1 rfl) ?_
  by_cases hr : fy_ok 4 r
  · obtain ⟨k, hk, rfl⟩ := hr.nat (by omega)
    refine fy_callS (As := [.int (nI k)]) (rest := []) ⟨hx, hb, hml, hown, hts⟩ (c_Yd_checkWeakRegister l s0 D cI cZ cJ cW hG k hk) (va_cwS 1 hts g_Yd_96 rfl rfl rfl (by decide +kernel) ⟨Nat.le_of_ble_eq_true rfl, Nat.le_of_ble_eq_true rfl⟩) hLa hAB hA hP hD hS [] rfl rfl rfl hl.1 rfl (Nat.le_of_ble_eq_true rfl) d_Yd_revive_1 ⟨Nat.zero_le _, Nat.zero_le _⟩ (fun r w1 H locs hp hP hD hS => ?_)
    obtain ⟨rfl, rfl⟩ := hp
    have hP : va_P D vwCl [(yd, .inr (0, [.ref rg, .ref wr, .ref cr, .ref wl, .ref sp, .ref sq, .int (nI mN), .int (nI cN)])), (rg, .inl (cI, 8, .inl G)), (wr, .inl (cI, 4, .inl V))] H := hP
    have hD : va_D A [(yd, .inr (0, [.ref rg, .ref wr, .ref cr, .ref wl, .ref sp, .ref sq, .int (nI mN), .int (nI cN)])), (rg, .inl (cI, 8, .inl G)), (wr, .inl (cI, 4, .inl V))] := hD
    refine lv_iload_n hx hb d_Yd_revive_4 rfl (lv_at hl 2 rfl) ?_
    refine fy_thS (As := [.int q]) (rest := []) ⟨hx, hb, hml, hown, hts⟩ (x_Yd_checkRegister l s0 D cI cZ cJ cW hG hX q (hbd.resolve_left (fun h => h hr))) List.mem_cons_self gw_Yd_checkRegister ⟨Nat.le_of_ble_eq_true rfl, Nat.le_of_ble_eq_true rfl⟩ ⟨Nat.le_of_ble_eq_true rfl, Nat.le_of_ble_eq_true rfl⟩ (hts _ k_m_Yd_46) (hts _ k_s_Yd_checkRegister) (hts _ k_ini_Yd) ⟨by decide, by decide, show (parseMethodDescriptor y_Yd_checkRegister.desc).map (fun d => d.parameters.length) = some 1 by decide +kernel⟩ hLa hAB hA hP hD hS [] rfl rfl hl.1 rfl (Nat.le_of_ble_eq_true rfl) d_Yd_revive_5 (fun q ce H locs h1 h2 h3 hP hS => ?_)
    exact fy_leave hAe hout hlocks h1 h2 h3 hP hS (Nat.le_of_ble_eq_true rfl) (Nat.le_of_ble_eq_true rfl)
  · refine fy_thS (As := [.int r]) (rest := []) ⟨hx, hb, hml, hown, hts⟩ (x_Yd_checkWeakRegister l s0 D cI cZ cJ cW hG hX r hr) List.mem_cons_self gw_Yd_checkWeakRegister ⟨Nat.le_of_ble_eq_true rfl, Nat.le_of_ble_eq_true rfl⟩ ⟨Nat.le_of_ble_eq_true rfl, Nat.le_of_ble_eq_true rfl⟩ (hts _ k_m_Yd_96) (hts _ k_s_Yd_checkWeakRegister) (hts _ k_ini_Yd) ⟨by decide, by decide, show (parseMethodDescriptor y_Yd_checkWeakRegister.desc).map (fun d => d.parameters.length) = some 1 by decide +kernel⟩ hLa hAB hA hP hD hS [] rfl rfl hl.1 rfl (Nat.le_of_ble_eq_true rfl) d_Yd_revive_1 (fun q ce H locs h1 h2 h3 hP hS => ?_)
    exact fy_leave hAe hout hlocks h1 h2 h3 hP hS (Nat.le_of_ble_eq_true rfl) (Nat.le_of_ble_eq_true rfl)
set_option maxRecDepth 20000 in
set_option maxHeartbeats 4000000 in
theorem c_Yd_revive (l : Launch) (s0 : State) (D : va_G) (cI cZ cJ cW : ClassId) (hG : fy_G s0 D cI cZ cJ cW) (yd rg wr cr wl sp sq rw : Nat) (mN cN : Nat) (G V : Nat → Int32) (k q : Nat) (hk : k < 4) (hq : q < 8) : fy_Met l s0 D vwCl y_Yd_revive w_Yd_revive (fy_rm 1) 0 0 [.ref yd, .int (nI k), .int (nI q)] [(yd, .inr (0, [.ref rg, .ref wr, .ref cr, .ref wl, .ref sp, .ref sq, .int (nI mN), .int (nI cN)])), (rg, .inl (cI, 8, .inl G)), (wr, .inl (cI, 4, .inl V))] (fun r w1 => r = none ∧ w1 = [(yd, .inr (0, [.ref rg, .ref wr, .ref cr, .ref wl, .ref sp, .ref sq, .int (nI mN), .int (nI cN)])), (rg, .inl (cI, 8, .inl (upd G q (V k)))), (wr, .inl (cI, 4, .inl V))]) := by
  refine fy_st (bytes := b_Yd_revive) (maxL := 3) (ret := none) hG (by decide) rfl (Nat.le_of_ble_eq_true rfl) ?_
  intro p e s m below meth c A ls hx hb hr hlocks hml hown hts hK hLa hAe hAB hA hl hP hD hS
  have hl : lv_has ls 3 [(0, .ref yd), (1, .int (nI k)), (2, .int (nI q))] := hl
  refine lv_iload_n hx hb d_Yd_revive_0 rfl (lv_at hl 1 rfl) ?_
  refine fy_callS (As := [.int (nI k)]) (rest := []) ⟨hx, hb, hml, hown, hts⟩ (c_Yd_checkWeakRegister l s0 D cI cZ cJ cW hG k hk) (va_cwS 1 hts g_Yd_96 rfl rfl rfl (by decide +kernel) ⟨Nat.le_of_ble_eq_true rfl, Nat.le_of_ble_eq_true rfl⟩) hLa hAB hA hP hD hS [] rfl rfl rfl hl.1 rfl (Nat.le_of_ble_eq_true rfl) d_Yd_revive_1 ⟨Nat.zero_le _, Nat.zero_le _⟩ (fun r w1 H locs hp hP hD hS => ?_)
  obtain ⟨rfl, rfl⟩ := hp
  have hP : va_P D vwCl [(yd, .inr (0, [.ref rg, .ref wr, .ref cr, .ref wl, .ref sp, .ref sq, .int (nI mN), .int (nI cN)])), (rg, .inl (cI, 8, .inl G)), (wr, .inl (cI, 4, .inl V))] H := hP
  have hD : va_D A [(yd, .inr (0, [.ref rg, .ref wr, .ref cr, .ref wl, .ref sp, .ref sq, .int (nI mN), .int (nI cN)])), (rg, .inl (cI, 8, .inl G)), (wr, .inl (cI, 4, .inl V))] := hD
  refine lv_iload_n hx hb d_Yd_revive_4 rfl (lv_at hl 2 rfl) ?_
  refine fy_callS (As := [.int (nI q)]) (rest := []) ⟨hx, hb, hml, hown, hts⟩ (c_Yd_checkRegister l s0 D cI cZ cJ cW hG q hq) (va_cwS 1 hts g_Yd_46 rfl rfl rfl (by decide +kernel) ⟨Nat.le_of_ble_eq_true rfl, Nat.le_of_ble_eq_true rfl⟩) hLa hAB hA hP hD hS [] rfl rfl rfl hl.1 rfl (Nat.le_of_ble_eq_true rfl) d_Yd_revive_5 ⟨Nat.zero_le _, Nat.zero_le _⟩ (fun r w1 H locs hp hP hD hS => ?_)
  obtain ⟨rfl, rfl⟩ := hp
  have hP : va_P D vwCl [(yd, .inr (0, [.ref rg, .ref wr, .ref cr, .ref wl, .ref sp, .ref sq, .int (nI mN), .int (nI cN)])), (rg, .inl (cI, 8, .inl G)), (wr, .inl (cI, 4, .inl V))] H := hP
  have hD : va_D A [(yd, .inr (0, [.ref rg, .ref wr, .ref cr, .ref wl, .ref sp, .ref sq, .int (nI mN), .int (nI cN)])), (rg, .inl (cI, 8, .inl G)), (wr, .inl (cI, 4, .inl V))] := hD
  refine lv_aload_n hx hb d_Yd_revive_8 rfl (lv_at hl 0 rfl) ?_
  refine va_get (D := D) (ci := 0) (v := .ref rg) (C := R_Yd) (T := F_Yd) (N := 8) hx hb hts i_Yd hown hK hP 0 rfl rfl 0 (by decide) (hts _ k_f_Yd_9) (fun _ h9 => h9) rfl d_Yd_revive_9 ?_
  refine lv_iload_n hx hb d_Yd_revive_12 rfl (lv_at hl 2 rfl) ?_
  refine lv_aload_n hx hb d_Yd_revive_13 rfl (lv_at hl 0 rfl) ?_
  refine va_get (D := D) (ci := 0) (v := .ref wr) (C := R_Yd) (T := F_Yd) (N := 8) hx hb hts i_Yd hown hK hP 0 rfl rfl 1 (by decide) (hts _ k_f_Yd_13) (fun _ h9 => h9) rfl d_Yd_revive_14 ?_
  refine lv_iload_n hx hb d_Yd_revive_17 rfl (lv_at hl 1 rfl) ?_
  refine fy_iald (t0 := 0) (v := V k) hx hb hK hP 2 rfl rfl (by omega) (by omega) (rfl) d_Yd_revive_18 ?_
  refine fy_iast (t0 := 0) (g := upd G q (V k)) hx hb hK hP hD hS 1 rfl rfl (by omega) (by omega) (rfl) d_Yd_revive_19 (fun H locs hP hD hS => ?_)
  have hP : va_P D vwCl [(yd, .inr (0, [.ref rg, .ref wr, .ref cr, .ref wl, .ref sp, .ref sq, .int (nI mN), .int (nI cN)])), (rg, .inl (cI, 8, .inl (upd G q (V k)))), (wr, .inl (cI, 4, .inl V))] H := hP
  have hD : va_D A [(yd, .inr (0, [.ref rg, .ref wr, .ref cr, .ref wl, .ref sp, .ref sq, .int (nI mN), .int (nI cN)])), (rg, .inl (cI, 8, .inl (upd G q (V k)))), (wr, .inl (cI, 4, .inl V))] := hD
  exact fy_retv hx hb hr hlocks hAe (⟨rfl, rfl⟩) (List.Perm.refl _) hP hS d_Yd_revive_20
set_option maxRecDepth 20000 in
set_option maxHeartbeats 4000000 in
theorem x_Yd_same_I (l : Launch) (s0 : State) (D : va_G) (cI cZ cJ cW : ClassId) (hG : fy_G s0 D cI cZ cJ cW) (hX : fy_GX l s0) (yd rg wr cr wl sp sq rw : Nat) (mN cN : Nat) (G V : Nat → Int32) (r q : Int32) (hbd : ¬ fy_ok 8 r ∨ ¬ fy_ok 8 q) : fy_X l s0 D vwCl y_Yd_same w_Yd_same (fy_rx 1) [.ref yd, .int r, .int q] [(yd, .inr (0, [.ref rg, .ref wr, .ref cr, .ref wl, .ref sp, .ref sq, .int (nI mN), .int (nI cN)])), (rg, .inl (cI, 8, .inl G))] fy_nI := by
  refine fy_xst (bytes := b_Yd_same) (maxL := 3) (ret := some .boolean) hG (by decide) rfl (Nat.le_of_ble_eq_true rfl) ?_
  intro p e s m below meth c A ls hx hb hout hlocks hml hown hts hK hLa hAe hAB hA hl hP hD hS
  have hl : lv_has ls 3 [(0, .ref yd), (1, .int r), (2, .int q)] := hl
  refine lv_iload_n hx hb d_Yd_same_0 rfl (lv_at hl 1 rfl) ?_
  by_cases hr : fy_ok 8 r
  · obtain ⟨k, hk, rfl⟩ := hr.nat (by omega)
    refine fy_callS (As := [.int (nI k)]) (rest := []) ⟨hx, hb, hml, hown, hts⟩ (c_Yd_checkRegister l s0 D cI cZ cJ cW hG k hk) (va_cwS 1 hts g_Yd_46 rfl rfl rfl (by decide +kernel) ⟨Nat.le_of_ble_eq_true rfl, Nat.le_of_ble_eq_true rfl⟩) hLa hAB hA hP hD hS [] rfl rfl rfl hl.1 rfl (Nat.le_of_ble_eq_true rfl) d_Yd_same_1 ⟨Nat.zero_le _, Nat.zero_le _⟩ (fun r w1 H locs hp hP hD hS => ?_)
    obtain ⟨rfl, rfl⟩ := hp
    have hP : va_P D vwCl [(yd, .inr (0, [.ref rg, .ref wr, .ref cr, .ref wl, .ref sp, .ref sq, .int (nI mN), .int (nI cN)])), (rg, .inl (cI, 8, .inl G))] H := hP
    have hD : va_D A [(yd, .inr (0, [.ref rg, .ref wr, .ref cr, .ref wl, .ref sp, .ref sq, .int (nI mN), .int (nI cN)])), (rg, .inl (cI, 8, .inl G))] := hD
    refine lv_iload_n hx hb d_Yd_same_4 rfl (lv_at hl 2 rfl) ?_
    refine fy_thS (As := [.int q]) (rest := []) ⟨hx, hb, hml, hown, hts⟩ (x_Yd_checkRegister l s0 D cI cZ cJ cW hG hX q (hbd.resolve_left (fun h => h hr))) List.mem_cons_self gw_Yd_checkRegister ⟨Nat.le_of_ble_eq_true rfl, Nat.le_of_ble_eq_true rfl⟩ ⟨Nat.le_of_ble_eq_true rfl, Nat.le_of_ble_eq_true rfl⟩ (hts _ k_m_Yd_46) (hts _ k_s_Yd_checkRegister) (hts _ k_ini_Yd) ⟨by decide, by decide, show (parseMethodDescriptor y_Yd_checkRegister.desc).map (fun d => d.parameters.length) = some 1 by decide +kernel⟩ hLa hAB hA hP hD hS [] rfl rfl hl.1 rfl (Nat.le_of_ble_eq_true rfl) d_Yd_same_5 (fun q ce H locs h1 h2 h3 hP hS => ?_)
    exact fy_leave hAe hout hlocks h1 h2 h3 hP hS (Nat.le_of_ble_eq_true rfl) (Nat.le_of_ble_eq_true rfl)
  · refine fy_thS (As := [.int r]) (rest := []) ⟨hx, hb, hml, hown, hts⟩ (x_Yd_checkRegister l s0 D cI cZ cJ cW hG hX r hr) List.mem_cons_self gw_Yd_checkRegister ⟨Nat.le_of_ble_eq_true rfl, Nat.le_of_ble_eq_true rfl⟩ ⟨Nat.le_of_ble_eq_true rfl, Nat.le_of_ble_eq_true rfl⟩ (hts _ k_m_Yd_46) (hts _ k_s_Yd_checkRegister) (hts _ k_ini_Yd) ⟨by decide, by decide, show (parseMethodDescriptor y_Yd_checkRegister.desc).map (fun d => d.parameters.length) = some 1 by decide +kernel⟩ hLa hAB hA hP hD hS [] rfl rfl hl.1 rfl (Nat.le_of_ble_eq_true rfl) d_Yd_same_1 (fun q ce H locs h1 h2 h3 hP hS => ?_)
    exact fy_leave hAe hout hlocks h1 h2 h3 hP hS (Nat.le_of_ble_eq_true rfl) (Nat.le_of_ble_eq_true rfl)
set_option maxRecDepth 20000 in
set_option maxHeartbeats 4000000 in
theorem c_Yd_same (l : Launch) (s0 : State) (D : va_G) (cI cZ cJ cW : ClassId) (hG : fy_G s0 D cI cZ cJ cW) (yd rg wr cr wl sp sq rw : Nat) (mN cN : Nat) (G V : Nat → Int32) (k q : Nat) (hk : k < 8) (hq : q < 8) : fy_Met l s0 D vwCl y_Yd_same w_Yd_same (fy_rm 1) 0 0 [.ref yd, .int (nI k), .int (nI q)] [(yd, .inr (0, [.ref rg, .ref wr, .ref cr, .ref wl, .ref sp, .ref sq, .int (nI mN), .int (nI cN)])), (rg, .inl (cI, 8, .inl G))] (fun r w1 => r = some (.int (if G k = G q then 1 else 0)) ∧ w1 = [(yd, .inr (0, [.ref rg, .ref wr, .ref cr, .ref wl, .ref sp, .ref sq, .int (nI mN), .int (nI cN)])), (rg, .inl (cI, 8, .inl G))]) := by
  refine fy_st (bytes := b_Yd_same) (maxL := 3) (ret := some .boolean) hG (by decide) rfl (Nat.le_of_ble_eq_true rfl) ?_
  intro p e s m below meth c A ls hx hb hr hlocks hml hown hts hK hLa hAe hAB hA hl hP hD hS
  have hl : lv_has ls 3 [(0, .ref yd), (1, .int (nI k)), (2, .int (nI q))] := hl
  refine lv_iload_n hx hb d_Yd_same_0 rfl (lv_at hl 1 rfl) ?_
  refine fy_callS (As := [.int (nI k)]) (rest := []) ⟨hx, hb, hml, hown, hts⟩ (c_Yd_checkRegister l s0 D cI cZ cJ cW hG k hk) (va_cwS 1 hts g_Yd_46 rfl rfl rfl (by decide +kernel) ⟨Nat.le_of_ble_eq_true rfl, Nat.le_of_ble_eq_true rfl⟩) hLa hAB hA hP hD hS [] rfl rfl rfl hl.1 rfl (Nat.le_of_ble_eq_true rfl) d_Yd_same_1 ⟨Nat.zero_le _, Nat.zero_le _⟩ (fun r w1 H locs hp hP hD hS => ?_)
  obtain ⟨rfl, rfl⟩ := hp
  have hP : va_P D vwCl [(yd, .inr (0, [.ref rg, .ref wr, .ref cr, .ref wl, .ref sp, .ref sq, .int (nI mN), .int (nI cN)])), (rg, .inl (cI, 8, .inl G))] H := hP
  have hD : va_D A [(yd, .inr (0, [.ref rg, .ref wr, .ref cr, .ref wl, .ref sp, .ref sq, .int (nI mN), .int (nI cN)])), (rg, .inl (cI, 8, .inl G))] := hD
  refine lv_iload_n hx hb d_Yd_same_4 rfl (lv_at hl 2 rfl) ?_
  refine fy_callS (As := [.int (nI q)]) (rest := []) ⟨hx, hb, hml, hown, hts⟩ (c_Yd_checkRegister l s0 D cI cZ cJ cW hG q hq) (va_cwS 1 hts g_Yd_46 rfl rfl rfl (by decide +kernel) ⟨Nat.le_of_ble_eq_true rfl, Nat.le_of_ble_eq_true rfl⟩) hLa hAB hA hP hD hS [] rfl rfl rfl hl.1 rfl (Nat.le_of_ble_eq_true rfl) d_Yd_same_5 ⟨Nat.zero_le _, Nat.zero_le _⟩ (fun r w1 H locs hp hP hD hS => ?_)
  obtain ⟨rfl, rfl⟩ := hp
  have hP : va_P D vwCl [(yd, .inr (0, [.ref rg, .ref wr, .ref cr, .ref wl, .ref sp, .ref sq, .int (nI mN), .int (nI cN)])), (rg, .inl (cI, 8, .inl G))] H := hP
  have hD : va_D A [(yd, .inr (0, [.ref rg, .ref wr, .ref cr, .ref wl, .ref sp, .ref sq, .int (nI mN), .int (nI cN)])), (rg, .inl (cI, 8, .inl G))] := hD
  refine lv_aload_n hx hb d_Yd_same_8 rfl (lv_at hl 0 rfl) ?_
  refine va_get (D := D) (ci := 0) (v := .ref rg) (C := R_Yd) (T := F_Yd) (N := 8) hx hb hts i_Yd hown hK hP 0 rfl rfl 0 (by decide) (hts _ k_f_Yd_9) (fun _ h9 => h9) rfl d_Yd_same_9 ?_
  refine lv_iload_n hx hb d_Yd_same_12 rfl (lv_at hl 1 rfl) ?_
  refine fy_iald (t0 := 0) (v := G k) hx hb hK hP 1 rfl rfl (by omega) (by omega) (rfl) d_Yd_same_13 ?_
  refine lv_aload_n hx hb d_Yd_same_14 rfl (lv_at hl 0 rfl) ?_
  refine va_get (D := D) (ci := 0) (v := .ref rg) (C := R_Yd) (T := F_Yd) (N := 8) hx hb hts i_Yd hown hK hP 0 rfl rfl 0 (by decide) (hts _ k_f_Yd_9) (fun _ h9 => h9) rfl d_Yd_same_15 ?_
  refine lv_iload_n hx hb d_Yd_same_18 rfl (lv_at hl 2 rfl) ?_
  refine fy_iald (t0 := 0) (v := G q) hx hb hK hP 1 rfl rfl (by omega) (by omega) (rfl) d_Yd_same_19 ?_
  refine lv_icmp_ne hx hb d_Yd_same_20 (tgt := 27) (by decide) (fun hc => ?_) (fun hc => ?_)
  · refine lv_iconst (v := nI 0) hx hb d_Yd_same_27 (by decide) ?_
    refine fy_top (z := if G k = G q then 1 else 0) (by rw [if_neg hc]; rfl) ?_
    exact fy_retz hx hb hr hlocks hAe (by rw [if_neg hc]; exact Or.inl rfl) (⟨rfl, rfl⟩) (List.Perm.refl _) hP hS d_Yd_same_28
  · refine lv_iconst (v := nI 1) hx hb d_Yd_same_23 (by decide) ?_
    refine lv_goto hx hb d_Yd_same_24 (tgt := 28) (by decide) ?_
    refine fy_top (z := if G k = G q then 1 else 0) (by rw [if_pos hc]; rfl) ?_
    exact fy_retz hx hb hr hlocks hAe (by rw [if_pos hc]; exact Or.inr rfl) (⟨rfl, rfl⟩) (List.Perm.refl _) hP hS d_Yd_same_28
set_option maxRecDepth 20000 in
set_option maxHeartbeats 4000000 in
theorem x_Yd_clear_I (l : Launch) (s0 : State) (D : va_G) (cI cZ cJ cW : ClassId) (hG : fy_G s0 D cI cZ cJ cW) (hX : fy_GX l s0) (yd rg wr cr wl sp sq rw : Nat) (mN cN : Nat) (G : Nat → Int32) (r : Int32) (hr : ¬ fy_ok 8 r) : fy_X l s0 D vwCl y_Yd_clear w_Yd_clear (fy_rx 1) [.ref yd, .int r] [(yd, .inr (0, [.ref rg, .ref wr, .ref cr, .ref wl, .ref sp, .ref sq, .int (nI mN), .int (nI cN)])), (rg, .inl (cI, 8, .inl G))] fy_nI := by
  refine fy_xst (bytes := b_Yd_clear) (maxL := 3) (ret := some .boolean) hG (by decide) rfl (Nat.le_of_ble_eq_true rfl) ?_
  intro p e s m below meth c A ls hx hb hout hlocks hml hown hts hK hLa hAe hAB hA hl hP hD hS
  have hl : lv_has ls 3 [(0, .ref yd), (1, .int r)] := hl
  refine lv_iload_n hx hb d_Yd_clear_0 rfl (lv_at hl 1 rfl) ?_
  refine fy_thS (As := [.int r]) (rest := []) ⟨hx, hb, hml, hown, hts⟩ (x_Yd_checkRegister l s0 D cI cZ cJ cW hG hX r hr) List.mem_cons_self gw_Yd_checkRegister ⟨Nat.le_of_ble_eq_true rfl, Nat.le_of_ble_eq_true rfl⟩ ⟨Nat.le_of_ble_eq_true rfl, Nat.le_of_ble_eq_true rfl⟩ (hts _ k_m_Yd_46) (hts _ k_s_Yd_checkRegister) (hts _ k_ini_Yd) ⟨by decide, by decide, show (parseMethodDescriptor y_Yd_checkRegister.desc).map (fun d => d.parameters.length) = some 1 by decide +kernel⟩ hLa hAB hA hP hD hS [] rfl rfl hl.1 rfl (Nat.le_of_ble_eq_true rfl) d_Yd_clear_1 (fun q ce H locs h1 h2 h3 hP hS => ?_)
  exact fy_leave hAe hout hlocks h1 h2 h3 hP hS (Nat.le_of_ble_eq_true rfl) (Nat.le_of_ble_eq_true rfl)
set_option maxRecDepth 20000 in
set_option maxHeartbeats 4000000 in
theorem c_Yd_clear (l : Launch) (s0 : State) (D : va_G) (cI cZ cJ cW : ClassId) (hG : fy_G s0 D cI cZ cJ cW) (yd rg wr cr wl sp sq rw : Nat) (mN cN : Nat) (G : Nat → Int32) (k : Nat) (hk : k < 8) : fy_Met l s0 D vwCl y_Yd_clear w_Yd_clear (fy_rm 1) 0 0 [.ref yd, .int (nI k)] [(yd, .inr (0, [.ref rg, .ref wr, .ref cr, .ref wl, .ref sp, .ref sq, .int (nI mN), .int (nI cN)])), (rg, .inl (cI, 8, .inl G))] (fun r w1 => r = some (.int (if G k = -1 then 0 else 1)) ∧ w1 = [(yd, .inr (0, [.ref rg, .ref wr, .ref cr, .ref wl, .ref sp, .ref sq, .int (nI mN), .int (nI cN)])), (rg, .inl (cI, 8, .inl (upd G k (-1))))]) := by
  refine fy_st (bytes := b_Yd_clear) (maxL := 3) (ret := some .boolean) hG (by decide) rfl (Nat.le_of_ble_eq_true rfl) ?_
  intro p e s m below meth c A ls hx hb hr hlocks hml hown hts hK hLa hAe hAB hA hl hP hD hS
  have hl : lv_has ls 3 [(0, .ref yd), (1, .int (nI k))] := hl
  refine lv_iload_n hx hb d_Yd_clear_0 rfl (lv_at hl 1 rfl) ?_
  refine fy_callS (As := [.int (nI k)]) (rest := []) ⟨hx, hb, hml, hown, hts⟩ (c_Yd_checkRegister l s0 D cI cZ cJ cW hG k hk) (va_cwS 1 hts g_Yd_46 rfl rfl rfl (by decide +kernel) ⟨Nat.le_of_ble_eq_true rfl, Nat.le_of_ble_eq_true rfl⟩) hLa hAB hA hP hD hS [] rfl rfl rfl hl.1 rfl (Nat.le_of_ble_eq_true rfl) d_Yd_clear_1 ⟨Nat.zero_le _, Nat.zero_le _⟩ (fun r w1 H locs hp hP hD hS => ?_)
  obtain ⟨rfl, rfl⟩ := hp
  have hP : va_P D vwCl [(yd, .inr (0, [.ref rg, .ref wr, .ref cr, .ref wl, .ref sp, .ref sq, .int (nI mN), .int (nI cN)])), (rg, .inl (cI, 8, .inl G))] H := hP
  have hD : va_D A [(yd, .inr (0, [.ref rg, .ref wr, .ref cr, .ref wl, .ref sp, .ref sq, .int (nI mN), .int (nI cN)])), (rg, .inl (cI, 8, .inl G))] := hD
  refine lv_aload_n hx hb d_Yd_clear_4 rfl (lv_at hl 0 rfl) ?_
  refine va_get (D := D) (ci := 0) (v := .ref rg) (C := R_Yd) (T := F_Yd) (N := 8) hx hb hts i_Yd hown hK hP 0 rfl rfl 0 (by decide) (hts _ k_f_Yd_9) (fun _ h9 => h9) rfl d_Yd_clear_5 ?_
  refine lv_iload_n hx hb d_Yd_clear_8 rfl (lv_at hl 1 rfl) ?_
  refine fy_iald (t0 := 0) (v := G k) hx hb hK hP 1 rfl rfl (by omega) (by omega) (rfl) d_Yd_clear_9 ?_
  refine lv_iconst (v := -1) hx hb d_Yd_clear_10 (by decide) ?_
  refine lv_icmp_eq hx hb d_Yd_clear_11 (tgt := 18) (by decide) (fun hc => ?_) (fun hc => ?_)
  · refine lv_iconst (v := nI 0) hx hb d_Yd_clear_18 (by decide) ?_
    refine fy_top (z := if G k = -1 then 0 else 1) (by rw [if_pos hc]; rfl) ?_
    refine lv_istore_n hx hb d_Yd_clear_19 rfl hl (by decide) rfl (fun ls hl => ?_)
    have hl : lv_has ls 3 [(2, .int (if G k = -1 then 0 else 1)), (0, .ref yd), (1, .int (nI k))] := hl
    refine lv_aload_n hx hb d_Yd_clear_20 rfl (lv_at hl 1 rfl) ?_
    refine va_get (D := D) (ci := 0) (v := .ref rg) (C := R_Yd) (T := F_Yd) (N := 8) hx hb hts i_Yd hown hK hP 0 rfl rfl 0 (by decide) (hts _ k_f_Yd_9) (fun _ h9 => h9) rfl d_Yd_clear_21 ?_
    refine lv_iload_n hx hb d_Yd_clear_24 rfl (lv_at hl 2 rfl) ?_
    refine lv_iconst (v := -1) hx hb d_Yd_clear_25 (by decide) ?_
    refine fy_iast (t0 := 0) (g := upd G k (-1)) hx hb hK hP hD hS 1 rfl rfl (by omega) (by omega) (rfl) d_Yd_clear_26 (fun H locs hP hD hS => ?_)
    have hP : va_P D vwCl [(yd, .inr (0, [.ref rg, .ref wr, .ref cr, .ref wl, .ref sp, .ref sq, .int (nI mN), .int (nI cN)])), (rg, .inl (cI, 8, .inl (upd G k (-1))))] H := hP
    have hD : va_D A [(yd, .inr (0, [.ref rg, .ref wr, .ref cr, .ref wl, .ref sp, .ref sq, .int (nI mN), .int (nI cN)])), (rg, .inl (cI, 8, .inl (upd G k (-1))))] := hD
    refine lv_iload_n hx hb d_Yd_clear_27 rfl (lv_at hl 0 rfl) ?_
    exact fy_retz hx hb hr hlocks hAe (by rw [if_pos hc]; first | exact Or.inl rfl | exact Or.inr rfl) (⟨rfl, rfl⟩) (List.Perm.refl _) hP hS d_Yd_clear_28
  · refine lv_iconst (v := nI 1) hx hb d_Yd_clear_14 (by decide) ?_
    refine lv_goto hx hb d_Yd_clear_15 (tgt := 19) (by decide) ?_
    refine fy_top (z := if G k = -1 then 0 else 1) (by rw [if_neg hc]; rfl) ?_
    refine lv_istore_n hx hb d_Yd_clear_19 rfl hl (by decide) rfl (fun ls hl => ?_)
    have hl : lv_has ls 3 [(2, .int (if G k = -1 then 0 else 1)), (0, .ref yd), (1, .int (nI k))] := hl
    refine lv_aload_n hx hb d_Yd_clear_20 rfl (lv_at hl 1 rfl) ?_
    refine va_get (D := D) (ci := 0) (v := .ref rg) (C := R_Yd) (T := F_Yd) (N := 8) hx hb hts i_Yd hown hK hP 0 rfl rfl 0 (by decide) (hts _ k_f_Yd_9) (fun _ h9 => h9) rfl d_Yd_clear_21 ?_
    refine lv_iload_n hx hb d_Yd_clear_24 rfl (lv_at hl 2 rfl) ?_
    refine lv_iconst (v := -1) hx hb d_Yd_clear_25 (by decide) ?_
    refine fy_iast (t0 := 0) (g := upd G k (-1)) hx hb hK hP hD hS 1 rfl rfl (by omega) (by omega) (rfl) d_Yd_clear_26 (fun H locs hP hD hS => ?_)
    have hP : va_P D vwCl [(yd, .inr (0, [.ref rg, .ref wr, .ref cr, .ref wl, .ref sp, .ref sq, .int (nI mN), .int (nI cN)])), (rg, .inl (cI, 8, .inl (upd G k (-1))))] H := hP
    have hD : va_D A [(yd, .inr (0, [.ref rg, .ref wr, .ref cr, .ref wl, .ref sp, .ref sq, .int (nI mN), .int (nI cN)])), (rg, .inl (cI, 8, .inl (upd G k (-1))))] := hD
    refine lv_iload_n hx hb d_Yd_clear_27 rfl (lv_at hl 0 rfl) ?_
    exact fy_retz hx hb hr hlocks hAe (by rw [if_neg hc]; first | exact Or.inl rfl | exact Or.inr rfl) (⟨rfl, rfl⟩) (List.Perm.refl _) hP hS d_Yd_clear_28
set_option maxRecDepth 20000 in
set_option maxHeartbeats 4000000 in
theorem x_Yd_watched_I (l : Launch) (s0 : State) (D : va_G) (cI cZ cJ cW : ClassId) (hG : fy_G s0 D cI cZ cJ cW) (hX : fy_GX l s0) (yd rg wr cr wl sp sq rw : Nat) (mN cN : Nat) (V : Nat → Int32) (row : Nat → Int32) (wd ob : Int32) (r : Int32) (hr : ¬ fy_ok 4 r) : fy_X l s0 D vwCl y_Yd_watched w_Yd_watched (fy_rx 1) [.ref yd, .int r] [(yd, .inr (0, [.ref rg, .ref wr, .ref cr, .ref wl, .ref sp, .ref sq, .int (nI mN), .int (nI cN)])), (wr, .inl (cI, 4, .inl V)), (sp, .inr (4, [.ref rw, .int wd, .int ob])), (rw, .inl (cI, 240, .inl row))] fy_nI := by
  refine fy_xst (bytes := b_Yd_watched) (maxL := 2) (ret := some .int) hG (by decide) rfl (Nat.le_of_ble_eq_true rfl) ?_
  intro p e s m below meth c A ls hx hb hout hlocks hml hown hts hK hLa hAe hAB hA hl hP hD hS
  have hl : lv_has ls 2 [(0, .ref yd), (1, .int r)] := hl
  refine lv_iload_n hx hb d_Yd_watched_0 rfl (lv_at hl 1 rfl) ?_
  refine fy_thS (As := [.int r]) (rest := []) ⟨hx, hb, hml, hown, hts⟩ (x_Yd_checkWeakRegister l s0 D cI cZ cJ cW hG hX r hr) List.mem_cons_self gw_Yd_checkWeakRegister ⟨Nat.le_of_ble_eq_true rfl, Nat.le_of_ble_eq_true rfl⟩ ⟨Nat.le_of_ble_eq_true rfl, Nat.le_of_ble_eq_true rfl⟩ (hts _ k_m_Yd_96) (hts _ k_s_Yd_checkWeakRegister) (hts _ k_ini_Yd) ⟨by decide, by decide, show (parseMethodDescriptor y_Yd_checkWeakRegister.desc).map (fun d => d.parameters.length) = some 1 by decide +kernel⟩ hLa hAB hA hP hD hS [] rfl rfl hl.1 rfl (Nat.le_of_ble_eq_true rfl) d_Yd_watched_1 (fun q ce H locs h1 h2 h3 hP hS => ?_)
  exact fy_leave hAe hout hlocks h1 h2 h3 hP hS (Nat.le_of_ble_eq_true rfl) (Nat.le_of_ble_eq_true rfl)
set_option maxRecDepth 20000 in
set_option maxHeartbeats 4000000 in
theorem c_Yd_watched (l : Launch) (s0 : State) (D : va_G) (cI cZ cJ cW : ClassId) (hG : fy_G s0 D cI cZ cJ cW) (yd rg wr cr wl sp sq rw : Nat) (mN cN : Nat) (V : Nat → Int32) (row : Nat → Int32) (wd ob : Int32) (L : List Nat) (val : Nat → Int32) (age nf : Nat → Nat) (rf : Nat → Nat → Option Nat) (pl : Nat → Nat) (hk0 : fm_Ok L val age nf rf pl row) (o : Option Nat) (ho : ∀ n, o = some n → n ∈ L) (k : Nat) (hk : k < 4) (hV : V k = fm_o (o.map pl)) : fy_Met l s0 D vwCl y_Yd_watched w_Yd_watched (fy_rm 2) 0 0 [.ref yd, .int (nI k)] [(yd, .inr (0, [.ref rg, .ref wr, .ref cr, .ref wl, .ref sp, .ref sq, .int (nI mN), .int (nI cN)])), (wr, .inl (cI, 4, .inl V)), (sp, .inr (4, [.ref rw, .int wd, .int ob])), (rw, .inl (cI, 240, .inl row))] (fun r w1 => r = some (.int (fm_o o)) ∧ w1 = [(yd, .inr (0, [.ref rg, .ref wr, .ref cr, .ref wl, .ref sp, .ref sq, .int (nI mN), .int (nI cN)])), (wr, .inl (cI, 4, .inl V)), (sp, .inr (4, [.ref rw, .int wd, .int ob])), (rw, .inl (cI, 240, .inl row))]) := by
  refine fy_st (bytes := b_Yd_watched) (maxL := 2) (ret := some .int) hG (by decide) rfl (Nat.le_of_ble_eq_true rfl) ?_
  intro p e s m below meth c A ls hx hb hr hlocks hml hown hts hK hLa hAe hAB hA hl hP hD hS
  have hl : lv_has ls 2 [(0, .ref yd), (1, .int (nI k))] := hl
  refine lv_iload_n hx hb d_Yd_watched_0 rfl (lv_at hl 1 rfl) ?_
  refine fy_callS (As := [.int (nI k)]) (rest := []) ⟨hx, hb, hml, hown, hts⟩ (c_Yd_checkWeakRegister l s0 D cI cZ cJ cW hG k hk) (va_cwS 1 hts g_Yd_96 rfl rfl rfl (by decide +kernel) ⟨Nat.le_of_ble_eq_true rfl, Nat.le_of_ble_eq_true rfl⟩) hLa hAB hA hP hD hS [] rfl rfl rfl hl.1 rfl (Nat.le_of_ble_eq_true rfl) d_Yd_watched_1 ⟨Nat.zero_le _, Nat.zero_le _⟩ (fun r w1 H locs hp hP hD hS => ?_)
  obtain ⟨rfl, rfl⟩ := hp
  have hP : va_P D vwCl [(yd, .inr (0, [.ref rg, .ref wr, .ref cr, .ref wl, .ref sp, .ref sq, .int (nI mN), .int (nI cN)])), (wr, .inl (cI, 4, .inl V)), (sp, .inr (4, [.ref rw, .int wd, .int ob])), (rw, .inl (cI, 240, .inl row))] H := hP
  have hD : va_D A [(yd, .inr (0, [.ref rg, .ref wr, .ref cr, .ref wl, .ref sp, .ref sq, .int (nI mN), .int (nI cN)])), (wr, .inl (cI, 4, .inl V)), (sp, .inr (4, [.ref rw, .int wd, .int ob])), (rw, .inl (cI, 240, .inl row))] := hD
  refine lv_aload_n hx hb d_Yd_watched_4 rfl (lv_at hl 0 rfl) ?_
  refine lv_aload_n hx hb d_Yd_watched_5 rfl (lv_at hl 0 rfl) ?_
  refine va_get (D := D) (ci := 0) (v := .ref wr) (C := R_Yd) (T := F_Yd) (N := 8) hx hb hts i_Yd hown hK hP 0 rfl rfl 1 (by decide) (hts _ k_f_Yd_13) (fun _ h9 => h9) rfl d_Yd_watched_6 ?_
  refine lv_iload_n hx hb d_Yd_watched_9 rfl (lv_at hl 1 rfl) ?_
  refine fy_iald (t0 := 0) (v := fm_o (o.map pl)) hx hb hK hP 1 rfl rfl (by omega) (by omega) (hV) d_Yd_watched_10 ?_
  refine fy_callV (As := [.int (fm_o (o.map pl))]) (rest := []) ⟨hx, hb, hml, hown, hts⟩ (c_Yd_numberOrNothing l s0 D cI cZ cJ cW hG yd rg wr cr wl sp sq rw mN cN row wd ob L val age nf rf pl o hk0 ho) (cwV 1 hts g_Yd_99 rfl rfl rfl (by decide +kernel) ⟨Nat.le_of_ble_eq_true rfl, Nat.le_of_ble_eq_true rfl⟩) hK hLa hAB hA hP hD hS [0, 2, 3] rfl rfl (ci := 0) rfl rfl (q0 := 0) rfl rfl hl.1 rfl (Nat.le_of_ble_eq_true rfl) d_Yd_watched_11 ⟨Nat.zero_le _, Nat.zero_le _⟩ (fun r w1 H locs hp hP hD hS => ?_)
  obtain ⟨rfl, rfl⟩ := hp
  have hP : va_P D vwCl [(yd, .inr (0, [.ref rg, .ref wr, .ref cr, .ref wl, .ref sp, .ref sq, .int (nI mN), .int (nI cN)])), (wr, .inl (cI, 4, .inl V)), (sp, .inr (4, [.ref rw, .int wd, .int ob])), (rw, .inl (cI, 240, .inl row))] H := hP
  have hD : va_D A [(yd, .inr (0, [.ref rg, .ref wr, .ref cr, .ref wl, .ref sp, .ref sq, .int (nI mN), .int (nI cN)])), (wr, .inl (cI, 4, .inl V)), (sp, .inr (4, [.ref rw, .int wd, .int ob])), (rw, .inl (cI, 240, .inl row))] := hD
  exact fy_reti hx hb hr hlocks hAe (⟨rfl, rfl⟩) (List.Perm.refl _) hP hS d_Yd_watched_14
set_option maxRecDepth 20000 in
set_option maxHeartbeats 4000000 in
theorem x_Yd_reach_I (l : Launch) (s0 : State) (D : va_G) (cI cZ cJ cW : ClassId) (hG : fy_G s0 D cI cZ cJ cW) (hX : fy_GX l s0) (yd rg wr cr wl sp sq rw : Nat) (mN cN : Nat) (se qu : Nat) (G f0 g0 : Nat → Int32) (fo : Int32) (row : Nat → Int32) (wd ob : Int32) (r : Int32) (hr : ¬ fy_ok 8 r) : fy_X l s0 D vwCl y_Yd_reach w_Yd_reach (fy_rx 1) [.ref yd, .int r] [(yd, .inr (0, [.ref rg, .ref wr, .ref cr, .ref wl, .ref sp, .ref sq, .int (nI mN), .int (nI cN)])), (rg, .inl (cI, 8, .inl G)), (wl, .inr (2, [.ref se, .ref qu, .int fo])), (se, .inl (cI, 240, .inl f0)), (qu, .inl (cI, 80, .inl g0)), (sp, .inr (4, [.ref rw, .int wd, .int ob])), (rw, .inl (cI, 240, .inl row))] fy_nI := by
  refine fy_xst (bytes := b_Yd_reach) (maxL := 2) (ret := some .int) hG (by decide) rfl (Nat.le_of_ble_eq_true rfl) ?_
  intro p e s m below meth c A ls hx hb hout hlocks hml hown hts hK hLa hAe hAB hA hl hP hD hS
  have hl : lv_has ls 2 [(0, .ref yd), (1, .int r)] := hl
  refine lv_iload_n hx hb d_Yd_reach_0 rfl (lv_at hl 1 rfl) ?_
  refine fy_thS (As := [.int r]) (rest := []) ⟨hx, hb, hml, hown, hts⟩ (x_Yd_checkRegister l s0 D cI cZ cJ cW hG hX r hr) List.mem_cons_self gw_Yd_checkRegister ⟨Nat.le_of_ble_eq_true rfl, Nat.le_of_ble_eq_true rfl⟩ ⟨Nat.le_of_ble_eq_true rfl, Nat.le_of_ble_eq_true rfl⟩ (hts _ k_m_Yd_46) (hts _ k_s_Yd_checkRegister) (hts _ k_ini_Yd) ⟨by decide, by decide, show (parseMethodDescriptor y_Yd_checkRegister.desc).map (fun d => d.parameters.length) = some 1 by decide +kernel⟩ hLa hAB hA hP hD hS [] rfl rfl hl.1 rfl (Nat.le_of_ble_eq_true rfl) d_Yd_reach_1 (fun q ce H locs h1 h2 h3 hP hS => ?_)
  exact fy_leave hAe hout hlocks h1 h2 h3 hP hS (Nat.le_of_ble_eq_true rfl) (Nat.le_of_ble_eq_true rfl)
set_option maxRecDepth 20000 in
set_option maxHeartbeats 4000000 in
theorem c_Yd_reach (l : Launch) (s0 : State) (D : va_G) (cI cZ cJ cW : ClassId) (hG : fy_G s0 D cI cZ cJ cW) (yd rg wr cr wl sp sq rw : Nat) (mN cN : Nat) (se qu : Nat) (G f0 g0 : Nat → Int32) (fo : Int32) (row : Nat → Int32) (wd ob : Int32) (L : List Nat) (val : Nat → Int32) (age nf : Nat → Nat) (rf : Nat → Nat → Option Nat) (pl : Nat → Nat) (hk0 : fm_Ok L val age nf rf pl row) (o : Option Nat) (ho : ∀ n, o = some n → n ∈ L) (k : Nat) (hk : k < 8) (hg : G k = fm_o (o.map pl)) : fy_Met l s0 D vwCl y_Yd_reach w_Yd_reach (fy_rm 2) 0 0 [.ref yd, .int (nI k)] [(yd, .inr (0, [.ref rg, .ref wr, .ref cr, .ref wl, .ref sp, .ref sq, .int (nI mN), .int (nI cN)])), (rg, .inl (cI, 8, .inl G)), (wl, .inr (2, [.ref se, .ref qu, .int fo])), (se, .inl (cI, 240, .inl f0)), (qu, .inl (cI, 80, .inl g0)), (sp, .inr (4, [.ref rw, .int wd, .int ob])), (rw, .inl (cI, 240, .inl row))] (fun r w1 => r = some (.int (nI (fm_keep L (fm_Cl nf rf (fun m => o = some m))).length)) ∧ ∃ (f2 g2 : Nat → Int32) (fo2 : Int32), w1 = [(yd, .inr (0, [.ref rg, .ref wr, .ref cr, .ref wl, .ref sp, .ref sq, .int (nI mN), .int (nI cN)])), (rg, .inl (cI, 8, .inl G)), (wl, .inr (2, [.ref se, .ref qu, .int fo2])), (se, .inl (cI, 240, .inl f2)), (qu, .inl (cI, 80, .inl g2)), (sp, .inr (4, [.ref rw, .int wd, .int ob])), (rw, .inl (cI, 240, .inl row))]) := by
  refine fy_st (bytes := b_Yd_reach) (maxL := 2) (ret := some .int) hG (by decide) rfl (Nat.le_of_ble_eq_true rfl) ?_
  intro p e s m below meth c A ls hx hb hr hlocks hml hown hts hK hLa hAe hAB hA hl hP hD hS
  have hl : lv_has ls 2 [(0, .ref yd), (1, .int (nI k))] := hl
  refine lv_iload_n hx hb d_Yd_reach_0 rfl (lv_at hl 1 rfl) ?_
  refine fy_callS (As := [.int (nI k)]) (rest := []) ⟨hx, hb, hml, hown, hts⟩ (c_Yd_checkRegister l s0 D cI cZ cJ cW hG k hk) (va_cwS 1 hts g_Yd_46 rfl rfl rfl (by decide +kernel) ⟨Nat.le_of_ble_eq_true rfl, Nat.le_of_ble_eq_true rfl⟩) hLa hAB hA hP hD hS [] rfl rfl rfl hl.1 rfl (Nat.le_of_ble_eq_true rfl) d_Yd_reach_1 ⟨Nat.zero_le _, Nat.zero_le _⟩ (fun r w1 H locs hp hP hD hS => ?_)
  obtain ⟨rfl, rfl⟩ := hp
  have hP : va_P D vwCl [(yd, .inr (0, [.ref rg, .ref wr, .ref cr, .ref wl, .ref sp, .ref sq, .int (nI mN), .int (nI cN)])), (rg, .inl (cI, 8, .inl G)), (wl, .inr (2, [.ref se, .ref qu, .int fo])), (se, .inl (cI, 240, .inl f0)), (qu, .inl (cI, 80, .inl g0)), (sp, .inr (4, [.ref rw, .int wd, .int ob])), (rw, .inl (cI, 240, .inl row))] H := hP
  have hD : va_D A [(yd, .inr (0, [.ref rg, .ref wr, .ref cr, .ref wl, .ref sp, .ref sq, .int (nI mN), .int (nI cN)])), (rg, .inl (cI, 8, .inl G)), (wl, .inr (2, [.ref se, .ref qu, .int fo])), (se, .inl (cI, 240, .inl f0)), (qu, .inl (cI, 80, .inl g0)), (sp, .inr (4, [.ref rw, .int wd, .int ob])), (rw, .inl (cI, 240, .inl row))] := hD
  refine lv_aload_n hx hb d_Yd_reach_4 rfl (lv_at hl 0 rfl) ?_
  refine va_get (D := D) (ci := 0) (v := .ref wl) (C := R_Yd) (T := F_Yd) (N := 8) hx hb hts i_Yd hown hK hP 0 rfl rfl 3 (by decide) (hts _ k_f_Yd_26) (fun _ h9 => h9) rfl d_Yd_reach_5 ?_
  refine lv_aload_n hx hb d_Yd_reach_8 rfl (lv_at hl 0 rfl) ?_
  refine va_get (D := D) (ci := 0) (v := .ref sp) (C := R_Yd) (T := F_Yd) (N := 8) hx hb hts i_Yd hown hK hP 0 rfl rfl 4 (by decide) (hts _ k_f_Yd_33) (fun _ h9 => h9) rfl d_Yd_reach_9 ?_
  refine lv_aload_n hx hb d_Yd_reach_12 rfl (lv_at hl 0 rfl) ?_
  refine va_get (D := D) (ci := 0) (v := .ref rg) (C := R_Yd) (T := F_Yd) (N := 8) hx hb hts i_Yd hown hK hP 0 rfl rfl 0 (by decide) (hts _ k_f_Yd_9) (fun _ h9 => h9) rfl d_Yd_reach_13 ?_
  refine lv_iload_n hx hb d_Yd_reach_16 rfl (lv_at hl 1 rfl) ?_
  refine fy_iald (t0 := 0) (v := fm_o (o.map pl)) hx hb hK hP 1 rfl rfl (by omega) (by omega) (hg) d_Yd_reach_17 ?_
  refine fy_callV (As := [.ref sp, .int (fm_o (o.map pl))]) (rest := []) ⟨hx, hb, hml, hown, hts⟩ (c_Wa_countFrom l s0 D cI cZ cJ cW hG wl se qu sp rw f0 g0 fo wd ob L val age nf rf pl row o hk0 ho) (cwV 2 hts g_Yd_113 rfl rfl rfl (by decide +kernel) ⟨Nat.le_of_ble_eq_true rfl, Nat.le_of_ble_eq_true rfl⟩) hK hLa hAB hA hP hD hS [2, 3, 4, 5, 6] rfl rfl (ci := 2) rfl rfl (q0 := 2) rfl rfl hl.1 rfl (Nat.le_of_ble_eq_true rfl) d_Yd_reach_18 ⟨Nat.zero_le _, Nat.zero_le _⟩ (fun r w1 H locs hp hP hD hS => ?_)
  obtain ⟨rfl, f2, g2, fo2, rfl⟩ := hp
  have hP : va_P D vwCl [(yd, .inr (0, [.ref rg, .ref wr, .ref cr, .ref wl, .ref sp, .ref sq, .int (nI mN), .int (nI cN)])), (rg, .inl (cI, 8, .inl G)), (wl, .inr (2, [.ref se, .ref qu, .int fo2])), (se, .inl (cI, 240, .inl f2)), (qu, .inl (cI, 80, .inl g2)), (sp, .inr (4, [.ref rw, .int wd, .int ob])), (rw, .inl (cI, 240, .inl row))] H := hP
  have hD : va_D A [(yd, .inr (0, [.ref rg, .ref wr, .ref cr, .ref wl, .ref sp, .ref sq, .int (nI mN), .int (nI cN)])), (rg, .inl (cI, 8, .inl G)), (wl, .inr (2, [.ref se, .ref qu, .int fo2])), (se, .inl (cI, 240, .inl f2)), (qu, .inl (cI, 80, .inl g2)), (sp, .inr (4, [.ref rw, .int wd, .int ob])), (rw, .inl (cI, 240, .inl row))] := hD
  exact fy_reti hx hb hr hlocks hAe (⟨rfl, f2, g2, fo2, rfl⟩) (List.Perm.refl _) hP hS d_Yd_reach_21
set_option maxRecDepth 20000 in
set_option maxHeartbeats 4000000 in
theorem x_Yd_field_I (l : Launch) (s0 : State) (D : va_G) (cI cZ cJ cW : ClassId) (hG : fy_G s0 D cI cZ cJ cW) (hX : fy_GX l s0) (yd rg wr cr wl sp sq rw : Nat) (mN cN : Nat) (G : Nat → Int32) (row : Nat → Int32) (wd ob : Int32) (r f : Int32) (hr : ¬ fy_ok 8 r) : fy_X l s0 D vwCl y_Yd_field w_Yd_field (fy_rx 1) [.ref yd, .int r, .int f] [(yd, .inr (0, [.ref rg, .ref wr, .ref cr, .ref wl, .ref sp, .ref sq, .int (nI mN), .int (nI cN)])), (rg, .inl (cI, 8, .inl G)), (sp, .inr (4, [.ref rw, .int wd, .int ob])), (rw, .inl (cI, 240, .inl row))] fy_nI := by
  refine fy_xst (bytes := b_Yd_field) (maxL := 4) (ret := some .int) hG (by decide) rfl (Nat.le_of_ble_eq_true rfl) ?_
  intro p e s m below meth c A ls hx hb hout hlocks hml hown hts hK hLa hAe hAB hA hl hP hD hS
  have hl : lv_has ls 4 [(0, .ref yd), (1, .int r), (2, .int f)] := hl
  refine lv_iload_n hx hb d_Yd_field_0 rfl (lv_at hl 1 rfl) ?_
  refine fy_thS (As := [.int r]) (rest := []) ⟨hx, hb, hml, hown, hts⟩ (x_Yd_checkRegister l s0 D cI cZ cJ cW hG hX r hr) List.mem_cons_self gw_Yd_checkRegister ⟨Nat.le_of_ble_eq_true rfl, Nat.le_of_ble_eq_true rfl⟩ ⟨Nat.le_of_ble_eq_true rfl, Nat.le_of_ble_eq_true rfl⟩ (hts _ k_m_Yd_46) (hts _ k_s_Yd_checkRegister) (hts _ k_ini_Yd) ⟨by decide, by decide, show (parseMethodDescriptor y_Yd_checkRegister.desc).map (fun d => d.parameters.length) = some 1 by decide +kernel⟩ hLa hAB hA hP hD hS [] rfl rfl hl.1 rfl (Nat.le_of_ble_eq_true rfl) d_Yd_field_1 (fun q ce H locs h1 h2 h3 hP hS => ?_)
  exact fy_leave hAe hout hlocks h1 h2 h3 hP hS (Nat.le_of_ble_eq_true rfl) (Nat.le_of_ble_eq_true rfl)
set_option maxRecDepth 20000 in
set_option maxHeartbeats 4000000 in
theorem x_Yd_field_N (l : Launch) (s0 : State) (D : va_G) (cI cZ cJ cW : ClassId) (hG : fy_G s0 D cI cZ cJ cW) (hX : fy_GX l s0) (yd rg wr cr wl sp sq rw : Nat) (mN cN : Nat) (G : Nat → Int32) (row : Nat → Int32) (wd ob : Int32) (j : Nat) (hj : j < 8) (f : Int32) (hG0 : G j = -1) : fy_X l s0 D vwCl y_Yd_field w_Yd_field (fy_rx 1) [.ref yd, .int (nI j), .int f] [(yd, .inr (0, [.ref rg, .ref wr, .ref cr, .ref wl, .ref sp, .ref sq, .int (nI mN), .int (nI cN)])), (rg, .inl (cI, 8, .inl G)), (sp, .inr (4, [.ref rw, .int wd, .int ob])), (rw, .inl (cI, 240, .inl row))] fy_nN := by
  refine fy_xst (bytes := b_Yd_field) (maxL := 4) (ret := some .int) hG (by decide) rfl (Nat.le_of_ble_eq_true rfl) ?_
  intro p e s m below meth c A ls hx hb hout hlocks hml hown hts hK hLa hAe hAB hA hl hP hD hS
  have hl : lv_has ls 4 [(0, .ref yd), (1, .int (nI j)), (2, .int f)] := hl
  refine lv_iload_n hx hb d_Yd_field_0 rfl (lv_at hl 1 rfl) ?_
  refine fy_callS (As := [.int (nI j)]) (rest := []) ⟨hx, hb, hml, hown, hts⟩ (c_Yd_checkRegister l s0 D cI cZ cJ cW hG j hj) (va_cwS 1 hts g_Yd_46 rfl rfl rfl (by decide +kernel) ⟨Nat.le_of_ble_eq_true rfl, Nat.le_of_ble_eq_true rfl⟩) hLa hAB hA hP hD hS [] rfl rfl rfl hl.1 rfl (Nat.le_of_ble_eq_true rfl) d_Yd_field_1 ⟨Nat.zero_le _, Nat.zero_le _⟩ (fun r w1 H locs hp hP hD hS => ?_)
  obtain ⟨rfl, rfl⟩ := hp
  have hP : va_P D vwCl [(yd, .inr (0, [.ref rg, .ref wr, .ref cr, .ref wl, .ref sp, .ref sq, .int (nI mN), .int (nI cN)])), (rg, .inl (cI, 8, .inl G)), (sp, .inr (4, [.ref rw, .int wd, .int ob])), (rw, .inl (cI, 240, .inl row))] H := hP
  have hD : va_D A [(yd, .inr (0, [.ref rg, .ref wr, .ref cr, .ref wl, .ref sp, .ref sq, .int (nI mN), .int (nI cN)])), (rg, .inl (cI, 8, .inl G)), (sp, .inr (4, [.ref rw, .int wd, .int ob])), (rw, .inl (cI, 240, .inl row))] := hD
  refine lv_aload_n hx hb d_Yd_field_4 rfl (lv_at hl 0 rfl) ?_
  refine lv_iload_n hx hb d_Yd_field_5 rfl (lv_at hl 1 rfl) ?_
  refine fy_thV (As := [.int (nI j)]) (rest := []) ⟨hx, hb, hml, hown, hts⟩ (x_Yd_objectOf l s0 D cI cZ cJ cW hG hX yd rg wr cr wl sp sq rw mN cN G j hj hG0) List.mem_cons_self gw_Yd_objectOf ⟨Nat.le_of_ble_eq_true rfl, Nat.le_of_ble_eq_true rfl⟩ ⟨Nat.le_of_ble_eq_true rfl, Nat.le_of_ble_eq_true rfl⟩ (hts _ k_m_Yd_74) (hts _ k_i_Yd_objectOf) (hts _ k_sel_Yd_objectOf) (hts _ k_ini_Yd) ⟨by decide, by decide, show (parseMethodDescriptor y_Yd_objectOf.desc).map (fun d => d.parameters.length) = some 1 by decide +kernel⟩ hK hLa hAB hA hP hD hS [0, 1] rfl rfl (ci := 0) rfl rfl (q0 := 0) rfl hl.1 rfl (Nat.le_of_ble_eq_true rfl) d_Yd_field_6 (fun q ce H locs h1 h2 h3 hP hS => ?_)
  exact fy_leave hAe hout hlocks h1 h2 h3 hP hS (Nat.le_of_ble_eq_true rfl) (Nat.le_of_ble_eq_true rfl)
set_option maxRecDepth 20000 in
set_option maxHeartbeats 4000000 in
theorem x_Yd_field_O (l : Launch) (s0 : State) (D : va_G) (cI cZ cJ cW : ClassId) (hG : fy_G s0 D cI cZ cJ cW) (hX : fy_GX l s0) (yd rg wr cr wl sp sq rw : Nat) (mN cN : Nat) (G : Nat → Int32) (row : Nat → Int32) (wd ob : Int32) (j : Nat) (hj : j < 8) (f : Int32) (a g k : Nat) (ha : a + 3 + k ≤ 240) (hk : k < 8) (hg : 8 * g + k < 2 ^ 31) (hs : row (a + 2) = nI (8 * g + k)) (hG0 : G j = nI a) (hf : ¬ fy_ok k f) : fy_X l s0 D vwCl y_Yd_field w_Yd_field (fy_rx 1) [.ref yd, .int (nI j), .int f] [(yd, .inr (0, [.ref rg, .ref wr, .ref cr, .ref wl, .ref sp, .ref sq, .int (nI mN), .int (nI cN)])), (rg, .inl (cI, 8, .inl G)), (sp, .inr (4, [.ref rw, .int wd, .int ob])), (rw, .inl (cI, 240, .inl row))] fy_nO := by
  refine fy_xst (bytes := b_Yd_field) (maxL := 4) (ret := some .int) hG (by decide) rfl (Nat.le_of_ble_eq_true rfl) ?_
  intro p e s m below meth c A ls hx hb hout hlocks hml hown hts hK hLa hAe hAB hA hl hP hD hS
  have hl : lv_has ls 4 [(0, .ref yd), (1, .int (nI j)), (2, .int f)] := hl
  refine lv_iload_n hx hb d_Yd_field_0 rfl (lv_at hl 1 rfl) ?_
  refine fy_callS (As := [.int (nI j)]) (rest := []) ⟨hx, hb, hml, hown, hts⟩ (c_Yd_checkRegister l s0 D cI cZ cJ cW hG j hj) (va_cwS 1 hts g_Yd_46 rfl rfl rfl (by decide +kernel) ⟨Nat.le_of_ble_eq_true rfl, Nat.le_of_ble_eq_true rfl⟩) hLa hAB hA hP hD hS [] rfl rfl rfl hl.1 rfl (Nat.le_of_ble_eq_true rfl) d_Yd_field_1 ⟨Nat.zero_le _, Nat.zero_le _⟩ (fun r w1 H locs hp hP hD hS => ?_)
  obtain ⟨rfl, rfl⟩ := hp
  have hP : va_P D vwCl [(yd, .inr (0, [.ref rg, .ref wr, .ref cr, .ref wl, .ref sp, .ref sq, .int (nI mN), .int (nI cN)])), (rg, .inl (cI, 8, .inl G)), (sp, .inr (4, [.ref rw, .int wd, .int ob])), (rw, .inl (cI, 240, .inl row))] H := hP
  have hD : va_D A [(yd, .inr (0, [.ref rg, .ref wr, .ref cr, .ref wl, .ref sp, .ref sq, .int (nI mN), .int (nI cN)])), (rg, .inl (cI, 8, .inl G)), (sp, .inr (4, [.ref rw, .int wd, .int ob])), (rw, .inl (cI, 240, .inl row))] := hD
  refine lv_aload_n hx hb d_Yd_field_4 rfl (lv_at hl 0 rfl) ?_
  refine lv_iload_n hx hb d_Yd_field_5 rfl (lv_at hl 1 rfl) ?_
  refine fy_callV (As := [.int (nI j)]) (rest := []) ⟨hx, hb, hml, hown, hts⟩ (c_Yd_objectOf l s0 D cI cZ cJ cW hG yd rg wr cr wl sp sq rw mN cN G j a hj (by omega) hG0) (cwV 1 hts g_Yd_74 rfl rfl rfl (by decide +kernel) ⟨Nat.le_of_ble_eq_true rfl, Nat.le_of_ble_eq_true rfl⟩) hK hLa hAB hA hP hD hS [0, 1] rfl rfl (ci := 0) rfl rfl (q0 := 0) rfl rfl hl.1 rfl (Nat.le_of_ble_eq_true rfl) d_Yd_field_6 ⟨Nat.zero_le _, Nat.zero_le _⟩ (fun r w1 H locs hp hP hD hS => ?_)
  obtain ⟨rfl, rfl⟩ := hp
  have hP : va_P D vwCl [(yd, .inr (0, [.ref rg, .ref wr, .ref cr, .ref wl, .ref sp, .ref sq, .int (nI mN), .int (nI cN)])), (rg, .inl (cI, 8, .inl G)), (sp, .inr (4, [.ref rw, .int wd, .int ob])), (rw, .inl (cI, 240, .inl row))] H := hP
  have hD : va_D A [(yd, .inr (0, [.ref rg, .ref wr, .ref cr, .ref wl, .ref sp, .ref sq, .int (nI mN), .int (nI cN)])), (rg, .inl (cI, 8, .inl G)), (sp, .inr (4, [.ref rw, .int wd, .int ob])), (rw, .inl (cI, 240, .inl row))] := hD
  refine lv_istore_n hx hb d_Yd_field_9 rfl hl (by decide) rfl (fun ls hl => ?_)
  have hl : lv_has ls 4 [(3, .int (nI a)), (0, .ref yd), (1, .int (nI j)), (2, .int f)] := hl
  refine lv_aload_n hx hb d_Yd_field_10 rfl (lv_at hl 1 rfl) ?_
  refine lv_iload_n hx hb d_Yd_field_11 rfl (lv_at hl 0 rfl) ?_
  refine lv_iload_n hx hb d_Yd_field_12 rfl (lv_at hl 3 rfl) ?_
  refine fy_thV (As := [.int (nI a), .int f]) (rest := []) ⟨hx, hb, hml, hown, hts⟩ (x_Yd_checkField l s0 D cI cZ cJ cW hG hX yd rg wr cr wl sp sq rw mN cN row wd ob a g k (by omega) hk hg hs f hf) List.mem_cons_self gw_Yd_checkField ⟨Nat.le_of_ble_eq_true rfl, Nat.le_of_ble_eq_true rfl⟩ ⟨Nat.le_of_ble_eq_true rfl, Nat.le_of_ble_eq_true rfl⟩ (hts _ k_m_Yd_78) (hts _ k_i_Yd_checkField) (hts _ k_sel_Yd_checkField) (hts _ k_ini_Yd) ⟨by decide, by decide, show (parseMethodDescriptor y_Yd_checkField.desc).map (fun d => d.parameters.length) = some 2 by decide +kernel⟩ hK hLa hAB hA hP hD hS [0, 2, 3] rfl rfl (ci := 0) rfl rfl (q0 := 0) rfl hl.1 rfl (Nat.le_of_ble_eq_true rfl) d_Yd_field_13 (fun q ce H locs h1 h2 h3 hP hS => ?_)
  exact fy_leave hAe hout hlocks h1 h2 h3 hP hS (Nat.le_of_ble_eq_true rfl) (Nat.le_of_ble_eq_true rfl)
set_option maxRecDepth 20000 in
set_option maxHeartbeats 4000000 in
theorem c_Yd_field (l : Launch) (s0 : State) (D : va_G) (cI cZ cJ cW : ClassId) (hG : fy_G s0 D cI cZ cJ cW) (yd rg wr cr wl sp sq rw : Nat) (mN cN : Nat) (G : Nat → Int32) (row : Nat → Int32) (wd ob : Int32) (j : Nat) (hj : j < 8) (f : Nat) (a g k : Nat) (ha : a + 3 + k ≤ 240) (hk : k < 8) (hg : 8 * g + k < 2 ^ 31) (hs : row (a + 2) = nI (8 * g + k)) (hG0 : G j = nI a) (hf : f < k) (L : List Nat) (val : Nat → Int32) (age nf : Nat → Nat) (rf : Nat → Nat → Option Nat) (pl : Nat → Nat) (hk0 : fm_Ok L val age nf rf pl row) (o : Option Nat) (ho : ∀ n, o = some n → n ∈ L) (hro : row (a + 3 + f) = fm_o (o.map pl)) : fy_Met l s0 D vwCl y_Yd_field w_Yd_field (fy_rm 2) 0 0 [.ref yd, .int (nI j), .int (nI f)] [(yd, .inr (0, [.ref rg, .ref wr, .ref cr, .ref wl, .ref sp, .ref sq, .int (nI mN), .int (nI cN)])), (rg, .inl (cI, 8, .inl G)), (sp, .inr (4, [.ref rw, .int wd, .int ob])), (rw, .inl (cI, 240, .inl row))] (fun r w1 => r = some (.int (fm_o o)) ∧ w1 = [(yd, .inr (0, [.ref rg, .ref wr, .ref cr, .ref wl, .ref sp, .ref sq, .int (nI mN), .int (nI cN)])), (rg, .inl (cI, 8, .inl G)), (sp, .inr (4, [.ref rw, .int wd, .int ob])), (rw, .inl (cI, 240, .inl row))]) := by
  refine fy_st (bytes := b_Yd_field) (maxL := 4) (ret := some .int) hG (by decide) rfl (Nat.le_of_ble_eq_true rfl) ?_
  intro p e s m below meth c A ls hx hb hr hlocks hml hown hts hK hLa hAe hAB hA hl hP hD hS
  have hl : lv_has ls 4 [(0, .ref yd), (1, .int (nI j)), (2, .int (nI f))] := hl
  refine lv_iload_n hx hb d_Yd_field_0 rfl (lv_at hl 1 rfl) ?_
  refine fy_callS (As := [.int (nI j)]) (rest := []) ⟨hx, hb, hml, hown, hts⟩ (c_Yd_checkRegister l s0 D cI cZ cJ cW hG j hj) (va_cwS 1 hts g_Yd_46 rfl rfl rfl (by decide +kernel) ⟨Nat.le_of_ble_eq_true rfl, Nat.le_of_ble_eq_true rfl⟩) hLa hAB hA hP hD hS [] rfl rfl rfl hl.1 rfl (Nat.le_of_ble_eq_true rfl) d_Yd_field_1 ⟨Nat.zero_le _, Nat.zero_le _⟩ (fun r w1 H locs hp hP hD hS => ?_)
  obtain ⟨rfl, rfl⟩ := hp
  have hP : va_P D vwCl [(yd, .inr (0, [.ref rg, .ref wr, .ref cr, .ref wl, .ref sp, .ref sq, .int (nI mN), .int (nI cN)])), (rg, .inl (cI, 8, .inl G)), (sp, .inr (4, [.ref rw, .int wd, .int ob])), (rw, .inl (cI, 240, .inl row))] H := hP
  have hD : va_D A [(yd, .inr (0, [.ref rg, .ref wr, .ref cr, .ref wl, .ref sp, .ref sq, .int (nI mN), .int (nI cN)])), (rg, .inl (cI, 8, .inl G)), (sp, .inr (4, [.ref rw, .int wd, .int ob])), (rw, .inl (cI, 240, .inl row))] := hD
  refine lv_aload_n hx hb d_Yd_field_4 rfl (lv_at hl 0 rfl) ?_
  refine lv_iload_n hx hb d_Yd_field_5 rfl (lv_at hl 1 rfl) ?_
  refine fy_callV (As := [.int (nI j)]) (rest := []) ⟨hx, hb, hml, hown, hts⟩ (c_Yd_objectOf l s0 D cI cZ cJ cW hG yd rg wr cr wl sp sq rw mN cN G j a hj (by omega) hG0) (cwV 1 hts g_Yd_74 rfl rfl rfl (by decide +kernel) ⟨Nat.le_of_ble_eq_true rfl, Nat.le_of_ble_eq_true rfl⟩) hK hLa hAB hA hP hD hS [0, 1] rfl rfl (ci := 0) rfl rfl (q0 := 0) rfl rfl hl.1 rfl (Nat.le_of_ble_eq_true rfl) d_Yd_field_6 ⟨Nat.zero_le _, Nat.zero_le _⟩ (fun r w1 H locs hp hP hD hS => ?_)
  obtain ⟨rfl, rfl⟩ := hp
  have hP : va_P D vwCl [(yd, .inr (0, [.ref rg, .ref wr, .ref cr, .ref wl, .ref sp, .ref sq, .int (nI mN), .int (nI cN)])), (rg, .inl (cI, 8, .inl G)), (sp, .inr (4, [.ref rw, .int wd, .int ob])), (rw, .inl (cI, 240, .inl row))] H := hP
  have hD : va_D A [(yd, .inr (0, [.ref rg, .ref wr, .ref cr, .ref wl, .ref sp, .ref sq, .int (nI mN), .int (nI cN)])), (rg, .inl (cI, 8, .inl G)), (sp, .inr (4, [.ref rw, .int wd, .int ob])), (rw, .inl (cI, 240, .inl row))] := hD
  refine lv_istore_n hx hb d_Yd_field_9 rfl hl (by decide) rfl (fun ls hl => ?_)
  have hl : lv_has ls 4 [(3, .int (nI a)), (0, .ref yd), (1, .int (nI j)), (2, .int (nI f))] := hl
  refine lv_aload_n hx hb d_Yd_field_10 rfl (lv_at hl 1 rfl) ?_
  refine lv_iload_n hx hb d_Yd_field_11 rfl (lv_at hl 0 rfl) ?_
  refine lv_iload_n hx hb d_Yd_field_12 rfl (lv_at hl 3 rfl) ?_
  refine fy_callV (As := [.int (nI a), .int (nI f)]) (rest := []) ⟨hx, hb, hml, hown, hts⟩ (c_Yd_checkField l s0 D cI cZ cJ cW hG yd rg wr cr wl sp sq rw mN cN row wd ob a g k (by omega) hk hg hs f hf) (cwV 2 hts g_Yd_78 rfl rfl rfl (by decide +kernel) ⟨Nat.le_of_ble_eq_true rfl, Nat.le_of_ble_eq_true rfl⟩) hK hLa hAB hA hP hD hS [0, 2, 3] rfl rfl (ci := 0) rfl rfl (q0 := 0) rfl rfl hl.1 rfl (Nat.le_of_ble_eq_true rfl) d_Yd_field_13 ⟨Nat.zero_le _, Nat.zero_le _⟩ (fun r w1 H locs hp hP hD hS => ?_)
  obtain ⟨rfl, rfl⟩ := hp
  have hP : va_P D vwCl [(yd, .inr (0, [.ref rg, .ref wr, .ref cr, .ref wl, .ref sp, .ref sq, .int (nI mN), .int (nI cN)])), (rg, .inl (cI, 8, .inl G)), (sp, .inr (4, [.ref rw, .int wd, .int ob])), (rw, .inl (cI, 240, .inl row))] H := hP
  have hD : va_D A [(yd, .inr (0, [.ref rg, .ref wr, .ref cr, .ref wl, .ref sp, .ref sq, .int (nI mN), .int (nI cN)])), (rg, .inl (cI, 8, .inl G)), (sp, .inr (4, [.ref rw, .int wd, .int ob])), (rw, .inl (cI, 240, .inl row))] := hD
  refine lv_aload_n hx hb d_Yd_field_16 rfl (lv_at hl 1 rfl) ?_
  refine lv_aload_n hx hb d_Yd_field_17 rfl (lv_at hl 1 rfl) ?_
  refine va_get (D := D) (ci := 0) (v := .ref sp) (C := R_Yd) (T := F_Yd) (N := 8) hx hb hts i_Yd hown hK hP 0 rfl rfl 4 (by decide) (hts _ k_f_Yd_33) (fun _ h9 => h9) rfl d_Yd_field_18 ?_
  refine lv_iload_n hx hb d_Yd_field_21 rfl (lv_at hl 0 rfl) ?_
  refine lv_iload_n hx hb d_Yd_field_22 rfl (lv_at hl 3 rfl) ?_
  refine fy_callV (As := [.int (nI a), .int (nI f)]) (rest := [.ref yd]) ⟨hx, hb, hml, hown, hts⟩ (c_Sp_referent l s0 D cI cZ cJ cW hG sp rw row wd ob a f (by omega)) (cwV 2 hts g_Yd_86 rfl rfl rfl (by decide +kernel) ⟨Nat.le_of_ble_eq_true rfl, Nat.le_of_ble_eq_true rfl⟩) hK hLa hAB hA hP hD hS [2, 3] rfl rfl (ci := 4) rfl rfl (q0 := 2) rfl rfl hl.1 rfl (Nat.le_of_ble_eq_true rfl) d_Yd_field_23 ⟨Nat.zero_le _, Nat.zero_le _⟩ (fun r w1 H locs hp hP hD hS => ?_)
  obtain ⟨rfl, rfl⟩ := hp
  have hP : va_P D vwCl [(yd, .inr (0, [.ref rg, .ref wr, .ref cr, .ref wl, .ref sp, .ref sq, .int (nI mN), .int (nI cN)])), (rg, .inl (cI, 8, .inl G)), (sp, .inr (4, [.ref rw, .int wd, .int ob])), (rw, .inl (cI, 240, .inl row))] H := hP
  have hD : va_D A [(yd, .inr (0, [.ref rg, .ref wr, .ref cr, .ref wl, .ref sp, .ref sq, .int (nI mN), .int (nI cN)])), (rg, .inl (cI, 8, .inl G)), (sp, .inr (4, [.ref rw, .int wd, .int ob])), (rw, .inl (cI, 240, .inl row))] := hD
  refine fy_top (z := fm_o (o.map pl)) (hro) ?_
  refine fy_callV (As := [.int (fm_o (o.map pl))]) (rest := []) ⟨hx, hb, hml, hown, hts⟩ (c_Yd_numberOrNothing l s0 D cI cZ cJ cW hG yd rg wr cr wl sp sq rw mN cN row wd ob L val age nf rf pl o hk0 ho) (cwV 1 hts g_Yd_99 rfl rfl rfl (by decide +kernel) ⟨Nat.le_of_ble_eq_true rfl, Nat.le_of_ble_eq_true rfl⟩) hK hLa hAB hA hP hD hS [0, 2, 3] rfl rfl (ci := 0) rfl rfl (q0 := 0) rfl rfl hl.1 rfl (Nat.le_of_ble_eq_true rfl) d_Yd_field_26 ⟨Nat.zero_le _, Nat.zero_le _⟩ (fun r w1 H locs hp hP hD hS => ?_)
  obtain ⟨rfl, rfl⟩ := hp
  have hP : va_P D vwCl [(yd, .inr (0, [.ref rg, .ref wr, .ref cr, .ref wl, .ref sp, .ref sq, .int (nI mN), .int (nI cN)])), (rg, .inl (cI, 8, .inl G)), (sp, .inr (4, [.ref rw, .int wd, .int ob])), (rw, .inl (cI, 240, .inl row))] H := hP
  have hD : va_D A [(yd, .inr (0, [.ref rg, .ref wr, .ref cr, .ref wl, .ref sp, .ref sq, .int (nI mN), .int (nI cN)])), (rg, .inl (cI, 8, .inl G)), (sp, .inr (4, [.ref rw, .int wd, .int ob])), (rw, .inl (cI, 240, .inl row))] := hD
  exact fy_reti hx hb hr hlocks hAe (⟨rfl, rfl⟩) (List.Perm.refl _) hP hS d_Yd_field_29
set_option maxRecDepth 20000 in
set_option maxHeartbeats 4000000 in
theorem x_Yd_write_I (l : Launch) (s0 : State) (D : va_G) (cI cZ cJ cW : ClassId) (hG : fy_G s0 D cI cZ cJ cW) (hX : fy_GX l s0) (yd rg wr cr wl sp sq rw : Nat) (mN cN : Nat) (G : Nat → Int32) (row : Nat → Int32) (wd ob : Int32) (r v : Int32) (hr : ¬ fy_ok 8 r) : fy_X l s0 D vwCl y_Yd_write w_Yd_write (fy_rx 1) [.ref yd, .int r, .int v] [(yd, .inr (0, [.ref rg, .ref wr, .ref cr, .ref wl, .ref sp, .ref sq, .int (nI mN), .int (nI cN)])), (rg, .inl (cI, 8, .inl G)), (sp, .inr (4, [.ref rw, .int wd, .int ob])), (rw, .inl (cI, 240, .inl row))] fy_nI := by
  refine fy_xst (bytes := b_Yd_write) (maxL := 5) (ret := some .int) hG (by decide) rfl (Nat.le_of_ble_eq_true rfl) ?_
  intro p e s m below meth c A ls hx hb hout hlocks hml hown hts hK hLa hAe hAB hA hl hP hD hS
  have hl : lv_has ls 5 [(0, .ref yd), (1, .int r), (2, .int v)] := hl
  refine lv_iload_n hx hb d_Yd_write_0 rfl (lv_at hl 1 rfl) ?_
  refine fy_thS (As := [.int r]) (rest := []) ⟨hx, hb, hml, hown, hts⟩ (x_Yd_checkRegister l s0 D cI cZ cJ cW hG hX r hr) List.mem_cons_self gw_Yd_checkRegister ⟨Nat.le_of_ble_eq_true rfl, Nat.le_of_ble_eq_true rfl⟩ ⟨Nat.le_of_ble_eq_true rfl, Nat.le_of_ble_eq_true rfl⟩ (hts _ k_m_Yd_46) (hts _ k_s_Yd_checkRegister) (hts _ k_ini_Yd) ⟨by decide, by decide, show (parseMethodDescriptor y_Yd_checkRegister.desc).map (fun d => d.parameters.length) = some 1 by decide +kernel⟩ hLa hAB hA hP hD hS [] rfl rfl hl.1 rfl (Nat.le_of_ble_eq_true rfl) d_Yd_write_1 (fun q ce H locs h1 h2 h3 hP hS => ?_)
  exact fy_leave hAe hout hlocks h1 h2 h3 hP hS (Nat.le_of_ble_eq_true rfl) (Nat.le_of_ble_eq_true rfl)
set_option maxRecDepth 20000 in
set_option maxHeartbeats 4000000 in
theorem x_Yd_write_N (l : Launch) (s0 : State) (D : va_G) (cI cZ cJ cW : ClassId) (hG : fy_G s0 D cI cZ cJ cW) (hX : fy_GX l s0) (yd rg wr cr wl sp sq rw : Nat) (mN cN : Nat) (G : Nat → Int32) (row : Nat → Int32) (wd ob : Int32) (j : Nat) (hj : j < 8) (v : Int32) (hG0 : G j = -1) : fy_X l s0 D vwCl y_Yd_write w_Yd_write (fy_rx 1) [.ref yd, .int (nI j), .int v] [(yd, .inr (0, [.ref rg, .ref wr, .ref cr, .ref wl, .ref sp, .ref sq, .int (nI mN), .int (nI cN)])), (rg, .inl (cI, 8, .inl G)), (sp, .inr (4, [.ref rw, .int wd, .int ob])), (rw, .inl (cI, 240, .inl row))] fy_nN := by
  refine fy_xst (bytes := b_Yd_write) (maxL := 5) (ret := some .int) hG (by decide) rfl (Nat.le_of_ble_eq_true rfl) ?_
  intro p e s m below meth c A ls hx hb hout hlocks hml hown hts hK hLa hAe hAB hA hl hP hD hS
  have hl : lv_has ls 5 [(0, .ref yd), (1, .int (nI j)), (2, .int v)] := hl
  refine lv_iload_n hx hb d_Yd_write_0 rfl (lv_at hl 1 rfl) ?_
  refine fy_callS (As := [.int (nI j)]) (rest := []) ⟨hx, hb, hml, hown, hts⟩ (c_Yd_checkRegister l s0 D cI cZ cJ cW hG j hj) (va_cwS 1 hts g_Yd_46 rfl rfl rfl (by decide +kernel) ⟨Nat.le_of_ble_eq_true rfl, Nat.le_of_ble_eq_true rfl⟩) hLa hAB hA hP hD hS [] rfl rfl rfl hl.1 rfl (Nat.le_of_ble_eq_true rfl) d_Yd_write_1 ⟨Nat.zero_le _, Nat.zero_le _⟩ (fun r w1 H locs hp hP hD hS => ?_)
  obtain ⟨rfl, rfl⟩ := hp
  have hP : va_P D vwCl [(yd, .inr (0, [.ref rg, .ref wr, .ref cr, .ref wl, .ref sp, .ref sq, .int (nI mN), .int (nI cN)])), (rg, .inl (cI, 8, .inl G)), (sp, .inr (4, [.ref rw, .int wd, .int ob])), (rw, .inl (cI, 240, .inl row))] H := hP
  have hD : va_D A [(yd, .inr (0, [.ref rg, .ref wr, .ref cr, .ref wl, .ref sp, .ref sq, .int (nI mN), .int (nI cN)])), (rg, .inl (cI, 8, .inl G)), (sp, .inr (4, [.ref rw, .int wd, .int ob])), (rw, .inl (cI, 240, .inl row))] := hD
  refine lv_aload_n hx hb d_Yd_write_4 rfl (lv_at hl 0 rfl) ?_
  refine lv_iload_n hx hb d_Yd_write_5 rfl (lv_at hl 1 rfl) ?_
  refine fy_thV (As := [.int (nI j)]) (rest := []) ⟨hx, hb, hml, hown, hts⟩ (x_Yd_objectOf l s0 D cI cZ cJ cW hG hX yd rg wr cr wl sp sq rw mN cN G j hj hG0) List.mem_cons_self gw_Yd_objectOf ⟨Nat.le_of_ble_eq_true rfl, Nat.le_of_ble_eq_true rfl⟩ ⟨Nat.le_of_ble_eq_true rfl, Nat.le_of_ble_eq_true rfl⟩ (hts _ k_m_Yd_74) (hts _ k_i_Yd_objectOf) (hts _ k_sel_Yd_objectOf) (hts _ k_ini_Yd) ⟨by decide, by decide, show (parseMethodDescriptor y_Yd_objectOf.desc).map (fun d => d.parameters.length) = some 1 by decide +kernel⟩ hK hLa hAB hA hP hD hS [0, 1] rfl rfl (ci := 0) rfl rfl (q0 := 0) rfl hl.1 rfl (Nat.le_of_ble_eq_true rfl) d_Yd_write_6 (fun q ce H locs h1 h2 h3 hP hS => ?_)
  exact fy_leave hAe hout hlocks h1 h2 h3 hP hS (Nat.le_of_ble_eq_true rfl) (Nat.le_of_ble_eq_true rfl)
set_option maxRecDepth 20000 in
set_option maxHeartbeats 4000000 in
theorem c_Yd_write (l : Launch) (s0 : State) (D : va_G) (cI cZ cJ cW : ClassId) (hG : fy_G s0 D cI cZ cJ cW) (yd rg wr cr wl sp sq rw : Nat) (mN cN : Nat) (G : Nat → Int32) (row : Nat → Int32) (wd ob : Int32) (j : Nat) (hj : j < 8) (v : Int32) (a : Nat) (ha : a + 3 ≤ 240) (hG0 : G j = nI a) : fy_Met l s0 D vwCl y_Yd_write w_Yd_write (fy_rm 1) 0 0 [.ref yd, .int (nI j), .int v] [(yd, .inr (0, [.ref rg, .ref wr, .ref cr, .ref wl, .ref sp, .ref sq, .int (nI mN), .int (nI cN)])), (rg, .inl (cI, 8, .inl G)), (sp, .inr (4, [.ref rw, .int wd, .int ob])), (rw, .inl (cI, 240, .inl row))] (fun r w1 => r = some (.int (row (a + 1))) ∧ w1 = [(yd, .inr (0, [.ref rg, .ref wr, .ref cr, .ref wl, .ref sp, .ref sq, .int (nI mN), .int (nI cN)])), (rg, .inl (cI, 8, .inl G)), (sp, .inr (4, [.ref rw, .int wd, .int ob])), (rw, .inl (cI, 240, .inl (upd row (a + 1) v)))]) := by
  refine fy_st (bytes := b_Yd_write) (maxL := 5) (ret := some .int) hG (by decide) rfl (Nat.le_of_ble_eq_true rfl) ?_
  intro p e s m below meth c A ls hx hb hr hlocks hml hown hts hK hLa hAe hAB hA hl hP hD hS
  have hl : lv_has ls 5 [(0, .ref yd), (1, .int (nI j)), (2, .int v)] := hl
  refine lv_iload_n hx hb d_Yd_write_0 rfl (lv_at hl 1 rfl) ?_
  refine fy_callS (As := [.int (nI j)]) (rest := []) ⟨hx, hb, hml, hown, hts⟩ (c_Yd_checkRegister l s0 D cI cZ cJ cW hG j hj) (va_cwS 1 hts g_Yd_46 rfl rfl rfl (by decide +kernel) ⟨Nat.le_of_ble_eq_true rfl, Nat.le_of_ble_eq_true rfl⟩) hLa hAB hA hP hD hS [] rfl rfl rfl hl.1 rfl (Nat.le_of_ble_eq_true rfl) d_Yd_write_1 ⟨Nat.zero_le _, Nat.zero_le _⟩ (fun r w1 H locs hp hP hD hS => ?_)
  obtain ⟨rfl, rfl⟩ := hp
  have hP : va_P D vwCl [(yd, .inr (0, [.ref rg, .ref wr, .ref cr, .ref wl, .ref sp, .ref sq, .int (nI mN), .int (nI cN)])), (rg, .inl (cI, 8, .inl G)), (sp, .inr (4, [.ref rw, .int wd, .int ob])), (rw, .inl (cI, 240, .inl row))] H := hP
  have hD : va_D A [(yd, .inr (0, [.ref rg, .ref wr, .ref cr, .ref wl, .ref sp, .ref sq, .int (nI mN), .int (nI cN)])), (rg, .inl (cI, 8, .inl G)), (sp, .inr (4, [.ref rw, .int wd, .int ob])), (rw, .inl (cI, 240, .inl row))] := hD
  refine lv_aload_n hx hb d_Yd_write_4 rfl (lv_at hl 0 rfl) ?_
  refine lv_iload_n hx hb d_Yd_write_5 rfl (lv_at hl 1 rfl) ?_
  refine fy_callV (As := [.int (nI j)]) (rest := []) ⟨hx, hb, hml, hown, hts⟩ (c_Yd_objectOf l s0 D cI cZ cJ cW hG yd rg wr cr wl sp sq rw mN cN G j a hj (by omega) hG0) (cwV 1 hts g_Yd_74 rfl rfl rfl (by decide +kernel) ⟨Nat.le_of_ble_eq_true rfl, Nat.le_of_ble_eq_true rfl⟩) hK hLa hAB hA hP hD hS [0, 1] rfl rfl (ci := 0) rfl rfl (q0 := 0) rfl rfl hl.1 rfl (Nat.le_of_ble_eq_true rfl) d_Yd_write_6 ⟨Nat.zero_le _, Nat.zero_le _⟩ (fun r w1 H locs hp hP hD hS => ?_)
  obtain ⟨rfl, rfl⟩ := hp
  have hP : va_P D vwCl [(yd, .inr (0, [.ref rg, .ref wr, .ref cr, .ref wl, .ref sp, .ref sq, .int (nI mN), .int (nI cN)])), (rg, .inl (cI, 8, .inl G)), (sp, .inr (4, [.ref rw, .int wd, .int ob])), (rw, .inl (cI, 240, .inl row))] H := hP
  have hD : va_D A [(yd, .inr (0, [.ref rg, .ref wr, .ref cr, .ref wl, .ref sp, .ref sq, .int (nI mN), .int (nI cN)])), (rg, .inl (cI, 8, .inl G)), (sp, .inr (4, [.ref rw, .int wd, .int ob])), (rw, .inl (cI, 240, .inl row))] := hD
  refine lv_istore_n hx hb d_Yd_write_9 rfl hl (by decide) rfl (fun ls hl => ?_)
  have hl : lv_has ls 5 [(3, .int (nI a)), (0, .ref yd), (1, .int (nI j)), (2, .int v)] := hl
  refine lv_aload_n hx hb d_Yd_write_10 rfl (lv_at hl 1 rfl) ?_
  refine va_get (D := D) (ci := 0) (v := .ref sp) (C := R_Yd) (T := F_Yd) (N := 8) hx hb hts i_Yd hown hK hP 0 rfl rfl 4 (by decide) (hts _ k_f_Yd_33) (fun _ h9 => h9) rfl d_Yd_write_11 ?_
  refine lv_iload_n hx hb d_Yd_write_14 rfl (lv_at hl 0 rfl) ?_
  refine fy_callV (As := [.int (nI a)]) (rest := []) ⟨hx, hb, hml, hown, hts⟩ (c_Sp_valueOf l s0 D cI cZ cJ cW hG sp rw row wd ob a (by omega)) (cwV 1 hts g_Yd_90 rfl rfl rfl (by decide +kernel) ⟨Nat.le_of_ble_eq_true rfl, Nat.le_of_ble_eq_true rfl⟩) hK hLa hAB hA hP hD hS [2, 3] rfl rfl (ci := 4) rfl rfl (q0 := 2) rfl rfl hl.1 rfl (Nat.le_of_ble_eq_true rfl) d_Yd_write_15 ⟨Nat.zero_le _, Nat.zero_le _⟩ (fun r w1 H locs hp hP hD hS => ?_)
  obtain ⟨rfl, rfl⟩ := hp
  have hP : va_P D vwCl [(yd, .inr (0, [.ref rg, .ref wr, .ref cr, .ref wl, .ref sp, .ref sq, .int (nI mN), .int (nI cN)])), (rg, .inl (cI, 8, .inl G)), (sp, .inr (4, [.ref rw, .int wd, .int ob])), (rw, .inl (cI, 240, .inl row))] H := hP
  have hD : va_D A [(yd, .inr (0, [.ref rg, .ref wr, .ref cr, .ref wl, .ref sp, .ref sq, .int (nI mN), .int (nI cN)])), (rg, .inl (cI, 8, .inl G)), (sp, .inr (4, [.ref rw, .int wd, .int ob])), (rw, .inl (cI, 240, .inl row))] := hD
  refine lv_istore hx hb d_Yd_write_18 hl (by decide) rfl (fun ls hl => ?_)
  have hl : lv_has ls 5 [(4, .int (row (a + 1))), (3, .int (nI a)), (0, .ref yd), (1, .int (nI j)), (2, .int v)] := hl
  refine lv_aload_n hx hb d_Yd_write_20 rfl (lv_at hl 2 rfl) ?_
  refine va_get (D := D) (ci := 0) (v := .ref sp) (C := R_Yd) (T := F_Yd) (N := 8) hx hb hts i_Yd hown hK hP 0 rfl rfl 4 (by decide) (hts _ k_f_Yd_33) (fun _ h9 => h9) rfl d_Yd_write_21 ?_
  refine lv_iload_n hx hb d_Yd_write_24 rfl (lv_at hl 1 rfl) ?_
  refine lv_iload_n hx hb d_Yd_write_25 rfl (lv_at hl 4 rfl) ?_
  refine fy_callV (As := [.int (nI a), .int v]) (rest := []) ⟨hx, hb, hml, hown, hts⟩ (c_Sp_putValue l s0 D cI cZ cJ cW hG sp rw row wd ob a v (by omega)) (cwV 2 hts g_Yd_93 rfl rfl rfl (by decide +kernel) ⟨Nat.le_of_ble_eq_true rfl, Nat.le_of_ble_eq_true rfl⟩) hK hLa hAB hA hP hD hS [2, 3] rfl rfl (ci := 4) rfl rfl (q0 := 2) rfl rfl hl.1 rfl (Nat.le_of_ble_eq_true rfl) d_Yd_write_26 ⟨Nat.zero_le _, Nat.zero_le _⟩ (fun r w1 H locs hp hP hD hS => ?_)
  obtain ⟨rfl, rfl⟩ := hp
  have hP : va_P D vwCl [(yd, .inr (0, [.ref rg, .ref wr, .ref cr, .ref wl, .ref sp, .ref sq, .int (nI mN), .int (nI cN)])), (rg, .inl (cI, 8, .inl G)), (sp, .inr (4, [.ref rw, .int wd, .int ob])), (rw, .inl (cI, 240, .inl (upd row (a + 1) v)))] H := hP
  have hD : va_D A [(yd, .inr (0, [.ref rg, .ref wr, .ref cr, .ref wl, .ref sp, .ref sq, .int (nI mN), .int (nI cN)])), (rg, .inl (cI, 8, .inl G)), (sp, .inr (4, [.ref rw, .int wd, .int ob])), (rw, .inl (cI, 240, .inl (upd row (a + 1) v)))] := hD
  refine lv_iload hx hb d_Yd_write_29 (lv_at hl 0 rfl) ?_
  exact fy_reti hx hb hr hlocks hAe (⟨rfl, rfl⟩) (List.Perm.refl _) hP hS d_Yd_write_31
set_option maxRecDepth 20000 in
set_option maxHeartbeats 4000000 in
theorem x_Yd_about_I (l : Launch) (s0 : State) (D : va_G) (cI cZ cJ cW : ClassId) (hG : fy_G s0 D cI cZ cJ cW) (hX : fy_GX l s0) (yd rg wr cr wl sp sq rw : Nat) (mN cN : Nat) (G : Nat → Int32) (row : Nat → Int32) (wd ob : Int32) (r x : Int32) (hbd : ¬ fy_ok 8 r ∨ ¬ fy_ok 4 x) : fy_X l s0 D vwCl y_Yd_about w_Yd_about (fy_rx 1) [.ref yd, .int r, .int x] [(yd, .inr (0, [.ref rg, .ref wr, .ref cr, .ref wl, .ref sp, .ref sq, .int (nI mN), .int (nI cN)])), (rg, .inl (cI, 8, .inl G)), (sp, .inr (4, [.ref rw, .int wd, .int ob])), (rw, .inl (cI, 240, .inl row))] fy_nI := by
  refine fy_xst (bytes := b_Yd_about) (maxL := 4) (ret := some .int) hG (by decide) rfl (Nat.le_of_ble_eq_true rfl) ?_
  intro p e s m below meth c A ls hx hb hout hlocks hml hown hts hK hLa hAe hAB hA hl hP hD hS
  have hl : lv_has ls 4 [(0, .ref yd), (1, .int r), (2, .int x)] := hl
  refine lv_iload_n hx hb d_Yd_about_0 rfl (lv_at hl 1 rfl) ?_
  by_cases hr : fy_ok 8 r
  · obtain ⟨k, hk, rfl⟩ := hr.nat (by omega)
    have hf : ¬ fy_ok 4 x := hbd.resolve_left (fun h => h hr)
    refine fy_callS (As := [.int (nI k)]) (rest := []) ⟨hx, hb, hml, hown, hts⟩ (c_Yd_checkRegister l s0 D cI cZ cJ cW hG k hk) (va_cwS 1 hts g_Yd_46 rfl rfl rfl (by decide +kernel) ⟨Nat.le_of_ble_eq_true rfl, Nat.le_of_ble_eq_true rfl⟩) hLa hAB hA hP hD hS [] rfl rfl rfl hl.1 rfl (Nat.le_of_ble_eq_true rfl) d_Yd_about_1 ⟨Nat.zero_le _, Nat.zero_le _⟩ (fun r w1 H locs hp hP hD hS => ?_)
    obtain ⟨rfl, rfl⟩ := hp
    have hP : va_P D vwCl [(yd, .inr (0, [.ref rg, .ref wr, .ref cr, .ref wl, .ref sp, .ref sq, .int (nI mN), .int (nI cN)])), (rg, .inl (cI, 8, .inl G)), (sp, .inr (4, [.ref rw, .int wd, .int ob])), (rw, .inl (cI, 240, .inl row))] H := hP
    have hD : va_D A [(yd, .inr (0, [.ref rg, .ref wr, .ref cr, .ref wl, .ref sp, .ref sq, .int (nI mN), .int (nI cN)])), (rg, .inl (cI, 8, .inl G)), (sp, .inr (4, [.ref rw, .int wd, .int ob])), (rw, .inl (cI, 240, .inl row))] := hD
    refine lv_iload_n hx hb d_Yd_about_4 rfl (lv_at hl 2 rfl) ?_
    refine lv_if_lt hx hb d_Yd_about_5 (tgt := 13) (by decide) (fun hc => ?_) (fun hc => ?_)
    · exact fy_tI hG hX k_str_102 hx hb hown hLa hAB hAe hP hS (hl.1.trans hml.symm) d_Yd_about_13 d_Yd_about_16 d_Yd_about_17 d_Yd_about_19 d_Yd_about_22 hout ⟨Nat.le_of_ble_eq_true rfl, Nat.le_of_ble_eq_true rfl, Nat.le_of_ble_eq_true rfl, Nat.le_of_ble_eq_true rfl⟩ hlocks
    · refine lv_iload_n hx hb d_Yd_about_8 rfl (lv_at hl 2 rfl) ?_
      refine lv_iconst (v := nI 3) hx hb d_Yd_about_9 (by decide) ?_
      refine lv_icmp_le hx hb d_Yd_about_10 (tgt := 23) (by decide) (fun h => absurd h (fun h => hf ⟨Int32.not_lt.mp hc, fy_lt4 h⟩)) (fun _ => ?_)
      exact fy_tI hG hX k_str_102 hx hb hown hLa hAB hAe hP hS (hl.1.trans hml.symm) d_Yd_about_13 d_Yd_about_16 d_Yd_about_17 d_Yd_about_19 d_Yd_about_22 hout ⟨Nat.le_of_ble_eq_true rfl, Nat.le_of_ble_eq_true rfl, Nat.le_of_ble_eq_true rfl, Nat.le_of_ble_eq_true rfl⟩ hlocks
  · refine fy_thS (As := [.int r]) (rest := []) ⟨hx, hb, hml, hown, hts⟩ (x_Yd_checkRegister l s0 D cI cZ cJ cW hG hX r hr) List.mem_cons_self gw_Yd_checkRegister ⟨Nat.le_of_ble_eq_true rfl, Nat.le_of_ble_eq_true rfl⟩ ⟨Nat.le_of_ble_eq_true rfl, Nat.le_of_ble_eq_true rfl⟩ (hts _ k_m_Yd_46) (hts _ k_s_Yd_checkRegister) (hts _ k_ini_Yd) ⟨by decide, by decide, show (parseMethodDescriptor y_Yd_checkRegister.desc).map (fun d => d.parameters.length) = some 1 by decide +kernel⟩ hLa hAB hA hP hD hS [] rfl rfl hl.1 rfl (Nat.le_of_ble_eq_true rfl) d_Yd_about_1 (fun q ce H locs h1 h2 h3 hP hS => ?_)
    exact fy_leave hAe hout hlocks h1 h2 h3 hP hS (Nat.le_of_ble_eq_true rfl) (Nat.le_of_ble_eq_true rfl)
set_option maxRecDepth 20000 in
set_option maxHeartbeats 4000000 in
theorem x_Yd_about_N (l : Launch) (s0 : State) (D : va_G) (cI cZ cJ cW : ClassId) (hG : fy_G s0 D cI cZ cJ cW) (hX : fy_GX l s0) (yd rg wr cr wl sp sq rw : Nat) (mN cN : Nat) (G : Nat → Int32) (row : Nat → Int32) (wd ob : Int32) (j : Nat) (hj : j < 8) (x : Nat) (hx4 : x < 4) (hG0 : G j = -1) : fy_X l s0 D vwCl y_Yd_about w_Yd_about (fy_rx 1) [.ref yd, .int (nI j), .int (nI x)] [(yd, .inr (0, [.ref rg, .ref wr, .ref cr, .ref wl, .ref sp, .ref sq, .int (nI mN), .int (nI cN)])), (rg, .inl (cI, 8, .inl G)), (sp, .inr (4, [.ref rw, .int wd, .int ob])), (rw, .inl (cI, 240, .inl row))] fy_nN := by
  refine fy_xst (bytes := b_Yd_about) (maxL := 4) (ret := some .int) hG (by decide) rfl (Nat.le_of_ble_eq_true rfl) ?_
  intro p e s m below meth c A ls hx hb hout hlocks hml hown hts hK hLa hAe hAB hA hl hP hD hS
  have hl : lv_has ls 4 [(0, .ref yd), (1, .int (nI j)), (2, .int (nI x))] := hl
  refine lv_iload_n hx hb d_Yd_about_0 rfl (lv_at hl 1 rfl) ?_
  refine fy_callS (As := [.int (nI j)]) (rest := []) ⟨hx, hb, hml, hown, hts⟩ (c_Yd_checkRegister l s0 D cI cZ cJ cW hG j hj) (va_cwS 1 hts g_Yd_46 rfl rfl rfl (by decide +kernel) ⟨Nat.le_of_ble_eq_true rfl, Nat.le_of_ble_eq_true rfl⟩) hLa hAB hA hP hD hS [] rfl rfl rfl hl.1 rfl (Nat.le_of_ble_eq_true rfl) d_Yd_about_1 ⟨Nat.zero_le _, Nat.zero_le _⟩ (fun r w1 H locs hp hP hD hS => ?_)
  obtain ⟨rfl, rfl⟩ := hp
  have hP : va_P D vwCl [(yd, .inr (0, [.ref rg, .ref wr, .ref cr, .ref wl, .ref sp, .ref sq, .int (nI mN), .int (nI cN)])), (rg, .inl (cI, 8, .inl G)), (sp, .inr (4, [.ref rw, .int wd, .int ob])), (rw, .inl (cI, 240, .inl row))] H := hP
  have hD : va_D A [(yd, .inr (0, [.ref rg, .ref wr, .ref cr, .ref wl, .ref sp, .ref sq, .int (nI mN), .int (nI cN)])), (rg, .inl (cI, 8, .inl G)), (sp, .inr (4, [.ref rw, .int wd, .int ob])), (rw, .inl (cI, 240, .inl row))] := hD
  refine lv_iload_n hx hb d_Yd_about_4 rfl (lv_at hl 2 rfl) ?_
  refine lv_if_lt hx hb d_Yd_about_5 (tgt := 13) (by decide) (fun h => absurd h (nI_pos (by omega))) (fun _ => ?_)
  refine lv_iload_n hx hb d_Yd_about_8 rfl (lv_at hl 2 rfl) ?_
  refine lv_iconst (v := nI 3) hx hb d_Yd_about_9 (by decide) ?_
  refine lv_icmp_le hx hb d_Yd_about_10 (tgt := 23) (by decide) (fun _ => ?_) (fun h => absurd ((nI_leI (by omega) (by omega)).mpr (by omega)) h)
  refine lv_aload_n hx hb d_Yd_about_23 rfl (lv_at hl 0 rfl) ?_
  refine lv_iload_n hx hb d_Yd_about_24 rfl (lv_at hl 1 rfl) ?_
  refine fy_thV (As := [.int (nI j)]) (rest := []) ⟨hx, hb, hml, hown, hts⟩ (x_Yd_objectOf l s0 D cI cZ cJ cW hG hX yd rg wr cr wl sp sq rw mN cN G j hj hG0) List.mem_cons_self gw_Yd_objectOf ⟨Nat.le_of_ble_eq_true rfl, Nat.le_of_ble_eq_true rfl⟩ ⟨Nat.le_of_ble_eq_true rfl, Nat.le_of_ble_eq_true rfl⟩ (hts _ k_m_Yd_74) (hts _ k_i_Yd_objectOf) (hts _ k_sel_Yd_objectOf) (hts _ k_ini_Yd) ⟨by decide, by decide, show (parseMethodDescriptor y_Yd_objectOf.desc).map (fun d => d.parameters.length) = some 1 by decide +kernel⟩ hK hLa hAB hA hP hD hS [0, 1] rfl rfl (ci := 0) rfl rfl (q0 := 0) rfl hl.1 rfl (Nat.le_of_ble_eq_true rfl) d_Yd_about_25 (fun q ce H locs h1 h2 h3 hP hS => ?_)
  exact fy_leave hAe hout hlocks h1 h2 h3 hP hS (Nat.le_of_ble_eq_true rfl) (Nat.le_of_ble_eq_true rfl)
set_option maxRecDepth 20000 in
set_option maxHeartbeats 4000000 in
theorem c_Yd_about0 (l : Launch) (s0 : State) (D : va_G) (cI cZ cJ cW : ClassId) (hG : fy_G s0 D cI cZ cJ cW) (yd rg wr cr wl sp sq rw : Nat) (mN cN : Nat) (G : Nat → Int32) (row : Nat → Int32) (wd ob : Int32) (j : Nat) (hj : j < 8) (a g k : Nat) (ha : a + 3 + k ≤ 240) (hk : k < 8) (hg : 8 * g + k < 2 ^ 31) (hs : row (a + 2) = nI (8 * g + k)) (hG0 : G j = nI a) : fy_Met l s0 D vwCl y_Yd_about w_Yd_about (fy_rm 1) 0 0 [.ref yd, .int (nI j), .int (nI 0)] [(yd, .inr (0, [.ref rg, .ref wr, .ref cr, .ref wl, .ref sp, .ref sq, .int (nI mN), .int (nI cN)])), (rg, .inl (cI, 8, .inl G)), (sp, .inr (4, [.ref rw, .int wd, .int ob])), (rw, .inl (cI, 240, .inl row))] (fun r w1 => r = some (.int (row a)) ∧ w1 = [(yd, .inr (0, [.ref rg, .ref wr, .ref cr, .ref wl, .ref sp, .ref sq, .int (nI mN), .int (nI cN)])), (rg, .inl (cI, 8, .inl G)), (sp, .inr (4, [.ref rw, .int wd, .int ob])), (rw, .inl (cI, 240, .inl row))]) := by
  refine fy_st (bytes := b_Yd_about) (maxL := 4) (ret := some .int) hG (by decide) rfl (Nat.le_of_ble_eq_true rfl) ?_
  intro p e s m below meth c A ls hx hb hr hlocks hml hown hts hK hLa hAe hAB hA hl hP hD hS
  have hl : lv_has ls 4 [(0, .ref yd), (1, .int (nI j)), (2, .int (nI 0))] := hl
  refine lv_iload_n hx hb d_Yd_about_0 rfl (lv_at hl 1 rfl) ?_
  refine fy_callS (As := [.int (nI j)]) (rest := []) ⟨hx, hb, hml, hown, hts⟩ (c_Yd_checkRegister l s0 D cI cZ cJ cW hG j hj) (va_cwS 1 hts g_Yd_46 rfl rfl rfl (by decide +kernel) ⟨Nat.le_of_ble_eq_true rfl, Nat.le_of_ble_eq_true rfl⟩) hLa hAB hA hP hD hS [] rfl rfl rfl hl.1 rfl (Nat.le_of_ble_eq_true rfl) d_Yd_about_1 ⟨Nat.zero_le _, Nat.zero_le _⟩ (fun r w1 H locs hp hP hD hS => ?_)
  obtain ⟨rfl, rfl⟩ := hp
  have hP : va_P D vwCl [(yd, .inr (0, [.ref rg, .ref wr, .ref cr, .ref wl, .ref sp, .ref sq, .int (nI mN), .int (nI cN)])), (rg, .inl (cI, 8, .inl G)), (sp, .inr (4, [.ref rw, .int wd, .int ob])), (rw, .inl (cI, 240, .inl row))] H := hP
  have hD : va_D A [(yd, .inr (0, [.ref rg, .ref wr, .ref cr, .ref wl, .ref sp, .ref sq, .int (nI mN), .int (nI cN)])), (rg, .inl (cI, 8, .inl G)), (sp, .inr (4, [.ref rw, .int wd, .int ob])), (rw, .inl (cI, 240, .inl row))] := hD
  refine lv_iload_n hx hb d_Yd_about_4 rfl (lv_at hl 2 rfl) ?_
  refine lv_if_lt hx hb d_Yd_about_5 (tgt := 13) (by decide) (fun h => absurd h (by decide)) (fun _ => ?_)
  refine lv_iload_n hx hb d_Yd_about_8 rfl (lv_at hl 2 rfl) ?_
  refine lv_iconst (v := nI 3) hx hb d_Yd_about_9 (by decide) ?_
  refine lv_icmp_le hx hb d_Yd_about_10 (tgt := 23) (by decide) (fun _ => ?_) (fun h => absurd (by decide) h)
  refine lv_aload_n hx hb d_Yd_about_23 rfl (lv_at hl 0 rfl) ?_
  refine lv_iload_n hx hb d_Yd_about_24 rfl (lv_at hl 1 rfl) ?_
  refine fy_callV (As := [.int (nI j)]) (rest := []) ⟨hx, hb, hml, hown, hts⟩ (c_Yd_objectOf l s0 D cI cZ cJ cW hG yd rg wr cr wl sp sq rw mN cN G j a hj (by omega) hG0) (cwV 1 hts g_Yd_74 rfl rfl rfl (by decide +kernel) ⟨Nat.le_of_ble_eq_true rfl, Nat.le_of_ble_eq_true rfl⟩) hK hLa hAB hA hP hD hS [0, 1] rfl rfl (ci := 0) rfl rfl (q0 := 0) rfl rfl hl.1 rfl (Nat.le_of_ble_eq_true rfl) d_Yd_about_25 ⟨Nat.zero_le _, Nat.zero_le _⟩ (fun r w1 H locs hp hP hD hS => ?_)
  obtain ⟨rfl, rfl⟩ := hp
  have hP : va_P D vwCl [(yd, .inr (0, [.ref rg, .ref wr, .ref cr, .ref wl, .ref sp, .ref sq, .int (nI mN), .int (nI cN)])), (rg, .inl (cI, 8, .inl G)), (sp, .inr (4, [.ref rw, .int wd, .int ob])), (rw, .inl (cI, 240, .inl row))] H := hP
  have hD : va_D A [(yd, .inr (0, [.ref rg, .ref wr, .ref cr, .ref wl, .ref sp, .ref sq, .int (nI mN), .int (nI cN)])), (rg, .inl (cI, 8, .inl G)), (sp, .inr (4, [.ref rw, .int wd, .int ob])), (rw, .inl (cI, 240, .inl row))] := hD
  refine lv_istore_n hx hb d_Yd_about_28 rfl hl (by decide) rfl (fun ls hl => ?_)
  have hl : lv_has ls 4 [(3, .int (nI a)), (0, .ref yd), (1, .int (nI j)), (2, .int (nI 0))] := hl
  refine lv_iload_n hx hb d_Yd_about_29 rfl (lv_at hl 3 rfl) ?_
  refine lv_tableIn hx hb (tgt := 56) d_Yd_about_30 (by decide) (by decide) rfl (by decide) ?_
  refine lv_aload_n hx hb d_Yd_about_56 rfl (lv_at hl 1 rfl) ?_
  refine va_get (D := D) (ci := 0) (v := .ref sp) (C := R_Yd) (T := F_Yd) (N := 8) hx hb hts i_Yd hown hK hP 0 rfl rfl 4 (by decide) (hts _ k_f_Yd_33) (fun _ h9 => h9) rfl d_Yd_about_57 ?_
  refine lv_iload_n hx hb d_Yd_about_60 rfl (lv_at hl 0 rfl) ?_
  refine fy_callV (As := [.int (nI a)]) (rest := []) ⟨hx, hb, hml, hown, hts⟩ (c_Sp_numberOf l s0 D cI cZ cJ cW hG sp rw row wd ob a (by omega)) (cwV 1 hts g_Yd_104 rfl rfl rfl (by decide +kernel) ⟨Nat.le_of_ble_eq_true rfl, Nat.le_of_ble_eq_true rfl⟩) hK hLa hAB hA hP hD hS [2, 3] rfl rfl (ci := 4) rfl rfl (q0 := 2) rfl rfl hl.1 rfl (Nat.le_of_ble_eq_true rfl) d_Yd_about_61 ⟨Nat.zero_le _, Nat.zero_le _⟩ (fun r w1 H locs hp hP hD hS => ?_)
  obtain ⟨rfl, rfl⟩ := hp
  have hP : va_P D vwCl [(yd, .inr (0, [.ref rg, .ref wr, .ref cr, .ref wl, .ref sp, .ref sq, .int (nI mN), .int (nI cN)])), (rg, .inl (cI, 8, .inl G)), (sp, .inr (4, [.ref rw, .int wd, .int ob])), (rw, .inl (cI, 240, .inl row))] H := hP
  have hD : va_D A [(yd, .inr (0, [.ref rg, .ref wr, .ref cr, .ref wl, .ref sp, .ref sq, .int (nI mN), .int (nI cN)])), (rg, .inl (cI, 8, .inl G)), (sp, .inr (4, [.ref rw, .int wd, .int ob])), (rw, .inl (cI, 240, .inl row))] := hD
  exact fy_reti hx hb hr hlocks hAe (⟨rfl, rfl⟩) (List.Perm.refl _) hP hS d_Yd_about_64
set_option maxRecDepth 20000 in
set_option maxHeartbeats 4000000 in
theorem c_Yd_about1 (l : Launch) (s0 : State) (D : va_G) (cI cZ cJ cW : ClassId) (hG : fy_G s0 D cI cZ cJ cW) (yd rg wr cr wl sp sq rw : Nat) (mN cN : Nat) (G : Nat → Int32) (row : Nat → Int32) (wd ob : Int32) (j : Nat) (hj : j < 8) (a g k : Nat) (ha : a + 3 + k ≤ 240) (hk : k < 8) (hg : 8 * g + k < 2 ^ 31) (hs : row (a + 2) = nI (8 * g + k)) (hG0 : G j = nI a) : fy_Met l s0 D vwCl y_Yd_about w_Yd_about (fy_rm 1) 0 0 [.ref yd, .int (nI j), .int (nI 1)] [(yd, .inr (0, [.ref rg, .ref wr, .ref cr, .ref wl, .ref sp, .ref sq, .int (nI mN), .int (nI cN)])), (rg, .inl (cI, 8, .inl G)), (sp, .inr (4, [.ref rw, .int wd, .int ob])), (rw, .inl (cI, 240, .inl row))] (fun r w1 => r = some (.int (row (a + 1))) ∧ w1 = [(yd, .inr (0, [.ref rg, .ref wr, .ref cr, .ref wl, .ref sp, .ref sq, .int (nI mN), .int (nI cN)])), (rg, .inl (cI, 8, .inl G)), (sp, .inr (4, [.ref rw, .int wd, .int ob])), (rw, .inl (cI, 240, .inl row))]) := by
  refine fy_st (bytes := b_Yd_about) (maxL := 4) (ret := some .int) hG (by decide) rfl (Nat.le_of_ble_eq_true rfl) ?_
  intro p e s m below meth c A ls hx hb hr hlocks hml hown hts hK hLa hAe hAB hA hl hP hD hS
  have hl : lv_has ls 4 [(0, .ref yd), (1, .int (nI j)), (2, .int (nI 1))] := hl
  refine lv_iload_n hx hb d_Yd_about_0 rfl (lv_at hl 1 rfl) ?_
  refine fy_callS (As := [.int (nI j)]) (rest := []) ⟨hx, hb, hml, hown, hts⟩ (c_Yd_checkRegister l s0 D cI cZ cJ cW hG j hj) (va_cwS 1 hts g_Yd_46 rfl rfl rfl (by decide +kernel) ⟨Nat.le_of_ble_eq_true rfl, Nat.le_of_ble_eq_true rfl⟩) hLa hAB hA hP hD hS [] rfl rfl rfl hl.1 rfl (Nat.le_of_ble_eq_true rfl) d_Yd_about_1 ⟨Nat.zero_le _, Nat.zero_le _⟩ (fun r w1 H locs hp hP hD hS => ?_)
  obtain ⟨rfl, rfl⟩ := hp
  have hP : va_P D vwCl [(yd, .inr (0, [.ref rg, .ref wr, .ref cr, .ref wl, .ref sp, .ref sq, .int (nI mN), .int (nI cN)])), (rg, .inl (cI, 8, .inl G)), (sp, .inr (4, [.ref rw, .int wd, .int ob])), (rw, .inl (cI, 240, .inl row))] H := hP
  have hD : va_D A [(yd, .inr (0, [.ref rg, .ref wr, .ref cr, .ref wl, .ref sp, .ref sq, .int (nI mN), .int (nI cN)])), (rg, .inl (cI, 8, .inl G)), (sp, .inr (4, [.ref rw, .int wd, .int ob])), (rw, .inl (cI, 240, .inl row))] := hD
  refine lv_iload_n hx hb d_Yd_about_4 rfl (lv_at hl 2 rfl) ?_
  refine lv_if_lt hx hb d_Yd_about_5 (tgt := 13) (by decide) (fun h => absurd h (by decide)) (fun _ => ?_)
  refine lv_iload_n hx hb d_Yd_about_8 rfl (lv_at hl 2 rfl) ?_
  refine lv_iconst (v := nI 3) hx hb d_Yd_about_9 (by decide) ?_
  refine lv_icmp_le hx hb d_Yd_about_10 (tgt := 23) (by decide) (fun _ => ?_) (fun h => absurd (by decide) h)
  refine lv_aload_n hx hb d_Yd_about_23 rfl (lv_at hl 0 rfl) ?_
  refine lv_iload_n hx hb d_Yd_about_24 rfl (lv_at hl 1 rfl) ?_
  refine fy_callV (As := [.int (nI j)]) (rest := []) ⟨hx, hb, hml, hown, hts⟩ (c_Yd_objectOf l s0 D cI cZ cJ cW hG yd rg wr cr wl sp sq rw mN cN G j a hj (by omega) hG0) (cwV 1 hts g_Yd_74 rfl rfl rfl (by decide +kernel) ⟨Nat.le_of_ble_eq_true rfl, Nat.le_of_ble_eq_true rfl⟩) hK hLa hAB hA hP hD hS [0, 1] rfl rfl (ci := 0) rfl rfl (q0 := 0) rfl rfl hl.1 rfl (Nat.le_of_ble_eq_true rfl) d_Yd_about_25 ⟨Nat.zero_le _, Nat.zero_le _⟩ (fun r w1 H locs hp hP hD hS => ?_)
  obtain ⟨rfl, rfl⟩ := hp
  have hP : va_P D vwCl [(yd, .inr (0, [.ref rg, .ref wr, .ref cr, .ref wl, .ref sp, .ref sq, .int (nI mN), .int (nI cN)])), (rg, .inl (cI, 8, .inl G)), (sp, .inr (4, [.ref rw, .int wd, .int ob])), (rw, .inl (cI, 240, .inl row))] H := hP
  have hD : va_D A [(yd, .inr (0, [.ref rg, .ref wr, .ref cr, .ref wl, .ref sp, .ref sq, .int (nI mN), .int (nI cN)])), (rg, .inl (cI, 8, .inl G)), (sp, .inr (4, [.ref rw, .int wd, .int ob])), (rw, .inl (cI, 240, .inl row))] := hD
  refine lv_istore_n hx hb d_Yd_about_28 rfl hl (by decide) rfl (fun ls hl => ?_)
  have hl : lv_has ls 4 [(3, .int (nI a)), (0, .ref yd), (1, .int (nI j)), (2, .int (nI 1))] := hl
  refine lv_iload_n hx hb d_Yd_about_29 rfl (lv_at hl 3 rfl) ?_
  refine lv_tableIn hx hb (tgt := 65) d_Yd_about_30 (by decide) (by decide) rfl (by decide) ?_
  refine lv_aload_n hx hb d_Yd_about_65 rfl (lv_at hl 1 rfl) ?_
  refine va_get (D := D) (ci := 0) (v := .ref sp) (C := R_Yd) (T := F_Yd) (N := 8) hx hb hts i_Yd hown hK hP 0 rfl rfl 4 (by decide) (hts _ k_f_Yd_33) (fun _ h9 => h9) rfl d_Yd_about_66 ?_
  refine lv_iload_n hx hb d_Yd_about_69 rfl (lv_at hl 0 rfl) ?_
  refine fy_callV (As := [.int (nI a)]) (rest := []) ⟨hx, hb, hml, hown, hts⟩ (c_Sp_valueOf l s0 D cI cZ cJ cW hG sp rw row wd ob a (by omega)) (cwV 1 hts g_Yd_90 rfl rfl rfl (by decide +kernel) ⟨Nat.le_of_ble_eq_true rfl, Nat.le_of_ble_eq_true rfl⟩) hK hLa hAB hA hP hD hS [2, 3] rfl rfl (ci := 4) rfl rfl (q0 := 2) rfl rfl hl.1 rfl (Nat.le_of_ble_eq_true rfl) d_Yd_about_70 ⟨Nat.zero_le _, Nat.zero_le _⟩ (fun r w1 H locs hp hP hD hS => ?_)
  obtain ⟨rfl, rfl⟩ := hp
  have hP : va_P D vwCl [(yd, .inr (0, [.ref rg, .ref wr, .ref cr, .ref wl, .ref sp, .ref sq, .int (nI mN), .int (nI cN)])), (rg, .inl (cI, 8, .inl G)), (sp, .inr (4, [.ref rw, .int wd, .int ob])), (rw, .inl (cI, 240, .inl row))] H := hP
  have hD : va_D A [(yd, .inr (0, [.ref rg, .ref wr, .ref cr, .ref wl, .ref sp, .ref sq, .int (nI mN), .int (nI cN)])), (rg, .inl (cI, 8, .inl G)), (sp, .inr (4, [.ref rw, .int wd, .int ob])), (rw, .inl (cI, 240, .inl row))] := hD
  exact fy_reti hx hb hr hlocks hAe (⟨rfl, rfl⟩) (List.Perm.refl _) hP hS d_Yd_about_73
set_option maxRecDepth 20000 in
set_option maxHeartbeats 4000000 in
theorem c_Yd_about2 (l : Launch) (s0 : State) (D : va_G) (cI cZ cJ cW : ClassId) (hG : fy_G s0 D cI cZ cJ cW) (yd rg wr cr wl sp sq rw : Nat) (mN cN : Nat) (G : Nat → Int32) (row : Nat → Int32) (wd ob : Int32) (j : Nat) (hj : j < 8) (a g k : Nat) (ha : a + 3 + k ≤ 240) (hk : k < 8) (hg : 8 * g + k < 2 ^ 31) (hs : row (a + 2) = nI (8 * g + k)) (hG0 : G j = nI a) : fy_Met l s0 D vwCl y_Yd_about w_Yd_about (fy_rm 1) 0 0 [.ref yd, .int (nI j), .int (nI 2)] [(yd, .inr (0, [.ref rg, .ref wr, .ref cr, .ref wl, .ref sp, .ref sq, .int (nI mN), .int (nI cN)])), (rg, .inl (cI, 8, .inl G)), (sp, .inr (4, [.ref rw, .int wd, .int ob])), (rw, .inl (cI, 240, .inl row))] (fun r w1 => r = some (.int (nI g)) ∧ w1 = [(yd, .inr (0, [.ref rg, .ref wr, .ref cr, .ref wl, .ref sp, .ref sq, .int (nI mN), .int (nI cN)])), (rg, .inl (cI, 8, .inl G)), (sp, .inr (4, [.ref rw, .int wd, .int ob])), (rw, .inl (cI, 240, .inl row))]) := by
  refine fy_st (bytes := b_Yd_about) (maxL := 4) (ret := some .int) hG (by decide) rfl (Nat.le_of_ble_eq_true rfl) ?_
  intro p e s m below meth c A ls hx hb hr hlocks hml hown hts hK hLa hAe hAB hA hl hP hD hS
  have hl : lv_has ls 4 [(0, .ref yd), (1, .int (nI j)), (2, .int (nI 2))] := hl
  refine lv_iload_n hx hb d_Yd_about_0 rfl (lv_at hl 1 rfl) ?_
  refine fy_callS (As := [.int (nI j)]) (rest := []) ⟨hx, hb, hml, hown, hts⟩ (c_Yd_checkRegister l s0 D cI cZ cJ cW hG j hj) (va_cwS 1 hts g_Yd_46 rfl rfl rfl (by decide +kernel) ⟨Nat.le_of_ble_eq_true rfl, Nat.le_of_ble_eq_true rfl⟩) hLa hAB hA hP hD hS [] rfl rfl rfl hl.1 rfl (Nat.le_of_ble_eq_true rfl) d_Yd_about_1 ⟨Nat.zero_le _, Nat.zero_le _⟩ (fun r w1 H locs hp hP hD hS => ?_)
  obtain ⟨rfl, rfl⟩ := hp
  have hP : va_P D vwCl [(yd, .inr (0, [.ref rg, .ref wr, .ref cr, .ref wl, .ref sp, .ref sq, .int (nI mN), .int (nI cN)])), (rg, .inl (cI, 8, .inl G)), (sp, .inr (4, [.ref rw, .int wd, .int ob])), (rw, .inl (cI, 240, .inl row))] H := hP
  have hD : va_D A [(yd, .inr (0, [.ref rg, .ref wr, .ref cr, .ref wl, .ref sp, .ref sq, .int (nI mN), .int (nI cN)])), (rg, .inl (cI, 8, .inl G)), (sp, .inr (4, [.ref rw, .int wd, .int ob])), (rw, .inl (cI, 240, .inl row))] := hD
  refine lv_iload_n hx hb d_Yd_about_4 rfl (lv_at hl 2 rfl) ?_
  refine lv_if_lt hx hb d_Yd_about_5 (tgt := 13) (by decide) (fun h => absurd h (by decide)) (fun _ => ?_)
  refine lv_iload_n hx hb d_Yd_about_8 rfl (lv_at hl 2 rfl) ?_
  refine lv_iconst (v := nI 3) hx hb d_Yd_about_9 (by decide) ?_
  refine lv_icmp_le hx hb d_Yd_about_10 (tgt := 23) (by decide) (fun _ => ?_) (fun h => absurd (by decide) h)
  refine lv_aload_n hx hb d_Yd_about_23 rfl (lv_at hl 0 rfl) ?_
  refine lv_iload_n hx hb d_Yd_about_24 rfl (lv_at hl 1 rfl) ?_
  refine fy_callV (As := [.int (nI j)]) (rest := []) ⟨hx, hb, hml, hown, hts⟩ (c_Yd_objectOf l s0 D cI cZ cJ cW hG yd rg wr cr wl sp sq rw mN cN G j a hj (by omega) hG0) (cwV 1 hts g_Yd_74 rfl rfl rfl (by decide +kernel) ⟨Nat.le_of_ble_eq_true rfl, Nat.le_of_ble_eq_true rfl⟩) hK hLa hAB hA hP hD hS [0, 1] rfl rfl (ci := 0) rfl rfl (q0 := 0) rfl rfl hl.1 rfl (Nat.le_of_ble_eq_true rfl) d_Yd_about_25 ⟨Nat.zero_le _, Nat.zero_le _⟩ (fun r w1 H locs hp hP hD hS => ?_)
  obtain ⟨rfl, rfl⟩ := hp
  have hP : va_P D vwCl [(yd, .inr (0, [.ref rg, .ref wr, .ref cr, .ref wl, .ref sp, .ref sq, .int (nI mN), .int (nI cN)])), (rg, .inl (cI, 8, .inl G)), (sp, .inr (4, [.ref rw, .int wd, .int ob])), (rw, .inl (cI, 240, .inl row))] H := hP
  have hD : va_D A [(yd, .inr (0, [.ref rg, .ref wr, .ref cr, .ref wl, .ref sp, .ref sq, .int (nI mN), .int (nI cN)])), (rg, .inl (cI, 8, .inl G)), (sp, .inr (4, [.ref rw, .int wd, .int ob])), (rw, .inl (cI, 240, .inl row))] := hD
  refine lv_istore_n hx hb d_Yd_about_28 rfl hl (by decide) rfl (fun ls hl => ?_)
  have hl : lv_has ls 4 [(3, .int (nI a)), (0, .ref yd), (1, .int (nI j)), (2, .int (nI 2))] := hl
  refine lv_iload_n hx hb d_Yd_about_29 rfl (lv_at hl 3 rfl) ?_
  refine lv_tableIn hx hb (tgt := 74) d_Yd_about_30 (by decide) (by decide) rfl (by decide) ?_
  refine lv_aload_n hx hb d_Yd_about_74 rfl (lv_at hl 1 rfl) ?_
  refine va_get (D := D) (ci := 0) (v := .ref sp) (C := R_Yd) (T := F_Yd) (N := 8) hx hb hts i_Yd hown hK hP 0 rfl rfl 4 (by decide) (hts _ k_f_Yd_33) (fun _ h9 => h9) rfl d_Yd_about_75 ?_
  refine lv_iload_n hx hb d_Yd_about_78 rfl (lv_at hl 0 rfl) ?_
  refine fy_callV (As := [.int (nI a)]) (rest := []) ⟨hx, hb, hml, hown, hts⟩ (c_Sp_ageOf l s0 D cI cZ cJ cW hG sp rw row wd ob a g k (by omega) hk hg hs) (cwV 1 hts g_Yd_107 rfl rfl rfl (by decide +kernel) ⟨Nat.le_of_ble_eq_true rfl, Nat.le_of_ble_eq_true rfl⟩) hK hLa hAB hA hP hD hS [2, 3] rfl rfl (ci := 4) rfl rfl (q0 := 2) rfl rfl hl.1 rfl (Nat.le_of_ble_eq_true rfl) d_Yd_about_79 ⟨Nat.zero_le _, Nat.zero_le _⟩ (fun r w1 H locs hp hP hD hS => ?_)
  obtain ⟨rfl, rfl⟩ := hp
  have hP : va_P D vwCl [(yd, .inr (0, [.ref rg, .ref wr, .ref cr, .ref wl, .ref sp, .ref sq, .int (nI mN), .int (nI cN)])), (rg, .inl (cI, 8, .inl G)), (sp, .inr (4, [.ref rw, .int wd, .int ob])), (rw, .inl (cI, 240, .inl row))] H := hP
  have hD : va_D A [(yd, .inr (0, [.ref rg, .ref wr, .ref cr, .ref wl, .ref sp, .ref sq, .int (nI mN), .int (nI cN)])), (rg, .inl (cI, 8, .inl G)), (sp, .inr (4, [.ref rw, .int wd, .int ob])), (rw, .inl (cI, 240, .inl row))] := hD
  exact fy_reti hx hb hr hlocks hAe (⟨rfl, rfl⟩) (List.Perm.refl _) hP hS d_Yd_about_82
set_option maxRecDepth 20000 in
set_option maxHeartbeats 4000000 in
theorem c_Yd_about3 (l : Launch) (s0 : State) (D : va_G) (cI cZ cJ cW : ClassId) (hG : fy_G s0 D cI cZ cJ cW) (yd rg wr cr wl sp sq rw : Nat) (mN cN : Nat) (G : Nat → Int32) (row : Nat → Int32) (wd ob : Int32) (j : Nat) (hj : j < 8) (a g k : Nat) (ha : a + 3 + k ≤ 240) (hk : k < 8) (hg : 8 * g + k < 2 ^ 31) (hs : row (a + 2) = nI (8 * g + k)) (hG0 : G j = nI a) : fy_Met l s0 D vwCl y_Yd_about w_Yd_about (fy_rm 1) 0 0 [.ref yd, .int (nI j), .int (nI 3)] [(yd, .inr (0, [.ref rg, .ref wr, .ref cr, .ref wl, .ref sp, .ref sq, .int (nI mN), .int (nI cN)])), (rg, .inl (cI, 8, .inl G)), (sp, .inr (4, [.ref rw, .int wd, .int ob])), (rw, .inl (cI, 240, .inl row))] (fun r w1 => r = some (.int (nI k)) ∧ w1 = [(yd, .inr (0, [.ref rg, .ref wr, .ref cr, .ref wl, .ref sp, .ref sq, .int (nI mN), .int (nI cN)])), (rg, .inl (cI, 8, .inl G)), (sp, .inr (4, [.ref rw, .int wd, .int ob])), (rw, .inl (cI, 240, .inl row))]) := by
  refine fy_st (bytes := b_Yd_about) (maxL := 4) (ret := some .int) hG (by decide) rfl (Nat.le_of_ble_eq_true rfl) ?_
  intro p e s m below meth c A ls hx hb hr hlocks hml hown hts hK hLa hAe hAB hA hl hP hD hS
  have hl : lv_has ls 4 [(0, .ref yd), (1, .int (nI j)), (2, .int (nI 3))] := hl
  refine lv_iload_n hx hb d_Yd_about_0 rfl (lv_at hl 1 rfl) ?_
  refine fy_callS (As := [.int (nI j)]) (rest := []) ⟨hx, hb, hml, hown, hts⟩ (c_Yd_checkRegister l s0 D cI cZ cJ cW hG j hj) (va_cwS 1 hts g_Yd_46 rfl rfl rfl (by decide +kernel) ⟨Nat.le_of_ble_eq_true rfl, Nat.le_of_ble_eq_true rfl⟩) hLa hAB hA hP hD hS [] rfl rfl rfl hl.1 rfl (Nat.le_of_ble_eq_true rfl) d_Yd_about_1 ⟨Nat.zero_le _, Nat.zero_le _⟩ (fun r w1 H locs hp hP hD hS => ?_)
  obtain ⟨rfl, rfl⟩ := hp
  have hP : va_P D vwCl [(yd, .inr (0, [.ref rg, .ref wr, .ref cr, .ref wl, .ref sp, .ref sq, .int (nI mN), .int (nI cN)])), (rg, .inl (cI, 8, .inl G)), (sp, .inr (4, [.ref rw, .int wd, .int ob])), (rw, .inl (cI, 240, .inl row))] H := hP
  have hD : va_D A [(yd, .inr (0, [.ref rg, .ref wr, .ref cr, .ref wl, .ref sp, .ref sq, .int (nI mN), .int (nI cN)])), (rg, .inl (cI, 8, .inl G)), (sp, .inr (4, [.ref rw, .int wd, .int ob])), (rw, .inl (cI, 240, .inl row))] := hD
  refine lv_iload_n hx hb d_Yd_about_4 rfl (lv_at hl 2 rfl) ?_
  refine lv_if_lt hx hb d_Yd_about_5 (tgt := 13) (by decide) (fun h => absurd h (by decide)) (fun _ => ?_)
  refine lv_iload_n hx hb d_Yd_about_8 rfl (lv_at hl 2 rfl) ?_
  refine lv_iconst (v := nI 3) hx hb d_Yd_about_9 (by decide) ?_
  refine lv_icmp_le hx hb d_Yd_about_10 (tgt := 23) (by decide) (fun _ => ?_) (fun h => absurd (by decide) h)
  refine lv_aload_n hx hb d_Yd_about_23 rfl (lv_at hl 0 rfl) ?_
  refine lv_iload_n hx hb d_Yd_about_24 rfl (lv_at hl 1 rfl) ?_
  refine fy_callV (As := [.int (nI j)]) (rest := []) ⟨hx, hb, hml, hown, hts⟩ (c_Yd_objectOf l s0 D cI cZ cJ cW hG yd rg wr cr wl sp sq rw mN cN G j a hj (by omega) hG0) (cwV 1 hts g_Yd_74 rfl rfl rfl (by decide +kernel) ⟨Nat.le_of_ble_eq_true rfl, Nat.le_of_ble_eq_true rfl⟩) hK hLa hAB hA hP hD hS [0, 1] rfl rfl (ci := 0) rfl rfl (q0 := 0) rfl rfl hl.1 rfl (Nat.le_of_ble_eq_true rfl) d_Yd_about_25 ⟨Nat.zero_le _, Nat.zero_le _⟩ (fun r w1 H locs hp hP hD hS => ?_)
  obtain ⟨rfl, rfl⟩ := hp
  have hP : va_P D vwCl [(yd, .inr (0, [.ref rg, .ref wr, .ref cr, .ref wl, .ref sp, .ref sq, .int (nI mN), .int (nI cN)])), (rg, .inl (cI, 8, .inl G)), (sp, .inr (4, [.ref rw, .int wd, .int ob])), (rw, .inl (cI, 240, .inl row))] H := hP
  have hD : va_D A [(yd, .inr (0, [.ref rg, .ref wr, .ref cr, .ref wl, .ref sp, .ref sq, .int (nI mN), .int (nI cN)])), (rg, .inl (cI, 8, .inl G)), (sp, .inr (4, [.ref rw, .int wd, .int ob])), (rw, .inl (cI, 240, .inl row))] := hD
  refine lv_istore_n hx hb d_Yd_about_28 rfl hl (by decide) rfl (fun ls hl => ?_)
  have hl : lv_has ls 4 [(3, .int (nI a)), (0, .ref yd), (1, .int (nI j)), (2, .int (nI 3))] := hl
  refine lv_iload_n hx hb d_Yd_about_29 rfl (lv_at hl 3 rfl) ?_
  refine lv_tableOut hx hb (tgt := 83) d_Yd_about_30 (by decide) (by decide) ?_
  refine lv_aload_n hx hb d_Yd_about_83 rfl (lv_at hl 1 rfl) ?_
  refine va_get (D := D) (ci := 0) (v := .ref sp) (C := R_Yd) (T := F_Yd) (N := 8) hx hb hts i_Yd hown hK hP 0 rfl rfl 4 (by decide) (hts _ k_f_Yd_33) (fun _ h9 => h9) rfl d_Yd_about_84 ?_
  refine lv_iload_n hx hb d_Yd_about_87 rfl (lv_at hl 0 rfl) ?_
  refine fy_callV (As := [.int (nI a)]) (rest := []) ⟨hx, hb, hml, hown, hts⟩ (c_Sp_fieldCountOf l s0 D cI cZ cJ cW hG sp rw row wd ob a g k (by omega) hk hg hs) (cwV 1 hts g_Yd_110 rfl rfl rfl (by decide +kernel) ⟨Nat.le_of_ble_eq_true rfl, Nat.le_of_ble_eq_true rfl⟩) hK hLa hAB hA hP hD hS [2, 3] rfl rfl (ci := 4) rfl rfl (q0 := 2) rfl rfl hl.1 rfl (Nat.le_of_ble_eq_true rfl) d_Yd_about_88 ⟨Nat.zero_le _, Nat.zero_le _⟩ (fun r w1 H locs hp hP hD hS => ?_)
  obtain ⟨rfl, rfl⟩ := hp
  have hP : va_P D vwCl [(yd, .inr (0, [.ref rg, .ref wr, .ref cr, .ref wl, .ref sp, .ref sq, .int (nI mN), .int (nI cN)])), (rg, .inl (cI, 8, .inl G)), (sp, .inr (4, [.ref rw, .int wd, .int ob])), (rw, .inl (cI, 240, .inl row))] H := hP
  have hD : va_D A [(yd, .inr (0, [.ref rg, .ref wr, .ref cr, .ref wl, .ref sp, .ref sq, .int (nI mN), .int (nI cN)])), (rg, .inl (cI, 8, .inl G)), (sp, .inr (4, [.ref rw, .int wd, .int ob])), (rw, .inl (cI, 240, .inl row))] := hD
  exact fy_reti hx hb hr hlocks hAe (⟨rfl, rfl⟩) (List.Perm.refl _) hP hS d_Yd_about_91
set_option maxRecDepth 20000 in
set_option maxHeartbeats 4000000 in
theorem x_Yd_figure_I (l : Launch) (s0 : State) (D : va_G) (cI cZ cJ cW : ClassId) (hG : fy_G s0 D cI cZ cJ cW) (hX : fy_GX l s0) (yd rg wr cr wl sp sq rw : Nat) (mN cN : Nat) (row : Nat → Int32) (wd ob : Int32) (x : Int32) (hx0 : ¬ fy_ok 4 x) : fy_X l s0 D vwCl y_Yd_figure w_Yd_figure (fy_rx 1) [.ref yd, .int x] [(yd, .inr (0, [.ref rg, .ref wr, .ref cr, .ref wl, .ref sp, .ref sq, .int (nI mN), .int (nI cN)])), (sp, .inr (4, [.ref rw, .int wd, .int ob])), (rw, .inl (cI, 240, .inl row))] fy_nI := by
  refine fy_xst (bytes := b_Yd_figure) (maxL := 2) (ret := some .int) hG (by decide) rfl (Nat.le_of_ble_eq_true rfl) ?_
  intro p e s m below meth c A ls hx hb hout hlocks hml hown hts hK hLa hAe hAB hA hl hP hD hS
  have hl : lv_has ls 2 [(0, .ref yd), (1, .int x)] := hl
  refine lv_iload_n hx hb d_Yd_figure_0 rfl (lv_at hl 1 rfl) ?_
  refine lv_tableOut hx hb (tgt := 58) d_Yd_figure_1 (fy_out4 hx0) (by decide) ?_
  exact fy_tI hG hX k_str_147 hx hb hown hLa hAB hAe hP hS (hl.1.trans hml.symm) d_Yd_figure_58 d_Yd_figure_61 d_Yd_figure_62 d_Yd_figure_64 d_Yd_figure_67 hout ⟨Nat.le_of_ble_eq_true rfl, Nat.le_of_ble_eq_true rfl, Nat.le_of_ble_eq_true rfl, Nat.le_of_ble_eq_true rfl⟩ hlocks
set_option maxRecDepth 20000 in
set_option maxHeartbeats 4000000 in
theorem c_Yd_figure0 (l : Launch) (s0 : State) (D : va_G) (cI cZ cJ cW : ClassId) (hG : fy_G s0 D cI cZ cJ cW) (yd rg wr cr wl sp sq rw : Nat) (mN cN : Nat) (row : Nat → Int32) (wd ob : Int32) : fy_Met l s0 D vwCl y_Yd_figure w_Yd_figure (fy_rm 1) 0 0 [.ref yd, .int (nI 0)] [(yd, .inr (0, [.ref rg, .ref wr, .ref cr, .ref wl, .ref sp, .ref sq, .int (nI mN), .int (nI cN)])), (sp, .inr (4, [.ref rw, .int wd, .int ob])), (rw, .inl (cI, 240, .inl row))] (fun r w1 => r = some (.int (wd)) ∧ w1 = [(yd, .inr (0, [.ref rg, .ref wr, .ref cr, .ref wl, .ref sp, .ref sq, .int (nI mN), .int (nI cN)])), (sp, .inr (4, [.ref rw, .int wd, .int ob])), (rw, .inl (cI, 240, .inl row))]) := by
  refine fy_st (bytes := b_Yd_figure) (maxL := 2) (ret := some .int) hG (by decide) rfl (Nat.le_of_ble_eq_true rfl) ?_
  intro p e s m below meth c A ls hx hb hr hlocks hml hown hts hK hLa hAe hAB hA hl hP hD hS
  have hl : lv_has ls 2 [(0, .ref yd), (1, .int (nI 0))] := hl
  refine lv_iload_n hx hb d_Yd_figure_0 rfl (lv_at hl 1 rfl) ?_
  refine lv_tableIn hx hb (tgt := 32) d_Yd_figure_1 (by decide) (by decide) rfl (by decide) ?_
  refine lv_aload_n hx hb d_Yd_figure_32 rfl (lv_at hl 0 rfl) ?_
  refine va_get (D := D) (ci := 0) (v := .ref sp) (C := R_Yd) (T := F_Yd) (N := 8) hx hb hts i_Yd hown hK hP 0 rfl rfl 4 (by decide) (hts _ k_f_Yd_33) (fun _ h9 => h9) rfl d_Yd_figure_33 ?_
  refine fy_callV (As := []) (rest := []) ⟨hx, hb, hml, hown, hts⟩ (c_Sp_words l s0 D cI cZ cJ cW hG sp rw row wd ob) (cwV 0 hts g_Yd_144 rfl rfl rfl (by decide +kernel) ⟨Nat.le_of_ble_eq_true rfl, Nat.le_of_ble_eq_true rfl⟩) hK hLa hAB hA hP hD hS [1, 2] rfl rfl (ci := 4) rfl rfl (q0 := 1) rfl rfl hl.1 rfl (Nat.le_of_ble_eq_true rfl) d_Yd_figure_36 ⟨Nat.zero_le _, Nat.zero_le _⟩ (fun r w1 H locs hp hP hD hS => ?_)
  obtain ⟨rfl, rfl⟩ := hp
  have hP : va_P D vwCl [(yd, .inr (0, [.ref rg, .ref wr, .ref cr, .ref wl, .ref sp, .ref sq, .int (nI mN), .int (nI cN)])), (sp, .inr (4, [.ref rw, .int wd, .int ob])), (rw, .inl (cI, 240, .inl row))] H := hP
  have hD : va_D A [(yd, .inr (0, [.ref rg, .ref wr, .ref cr, .ref wl, .ref sp, .ref sq, .int (nI mN), .int (nI cN)])), (sp, .inr (4, [.ref rw, .int wd, .int ob])), (rw, .inl (cI, 240, .inl row))] := hD
  exact fy_reti hx hb hr hlocks hAe (⟨rfl, rfl⟩) (List.Perm.refl _) hP hS d_Yd_figure_39
set_option maxRecDepth 20000 in
set_option maxHeartbeats 4000000 in
theorem c_Yd_figure1 (l : Launch) (s0 : State) (D : va_G) (cI cZ cJ cW : ClassId) (hG : fy_G s0 D cI cZ cJ cW) (yd rg wr cr wl sp sq rw : Nat) (mN cN : Nat) (row : Nat → Int32) (wd ob : Int32) : fy_Met l s0 D vwCl y_Yd_figure w_Yd_figure (fy_rm 1) 0 0 [.ref yd, .int (nI 1)] [(yd, .inr (0, [.ref rg, .ref wr, .ref cr, .ref wl, .ref sp, .ref sq, .int (nI mN), .int (nI cN)])), (sp, .inr (4, [.ref rw, .int wd, .int ob])), (rw, .inl (cI, 240, .inl row))] (fun r w1 => r = some (.int (ob)) ∧ w1 = [(yd, .inr (0, [.ref rg, .ref wr, .ref cr, .ref wl, .ref sp, .ref sq, .int (nI mN), .int (nI cN)])), (sp, .inr (4, [.ref rw, .int wd, .int ob])), (rw, .inl (cI, 240, .inl row))]) := by
  refine fy_st (bytes := b_Yd_figure) (maxL := 2) (ret := some .int) hG (by decide) rfl (Nat.le_of_ble_eq_true rfl) ?_
  intro p e s m below meth c A ls hx hb hr hlocks hml hown hts hK hLa hAe hAB hA hl hP hD hS
  have hl : lv_has ls 2 [(0, .ref yd), (1, .int (nI 1))] := hl
  refine lv_iload_n hx hb d_Yd_figure_0 rfl (lv_at hl 1 rfl) ?_
  refine lv_tableIn hx hb (tgt := 40) d_Yd_figure_1 (by decide) (by decide) rfl (by decide) ?_
  refine lv_aload_n hx hb d_Yd_figure_40 rfl (lv_at hl 0 rfl) ?_
  refine va_get (D := D) (ci := 0) (v := .ref sp) (C := R_Yd) (T := F_Yd) (N := 8) hx hb hts i_Yd hown hK hP 0 rfl rfl 4 (by decide) (hts _ k_f_Yd_33) (fun _ h9 => h9) rfl d_Yd_figure_41 ?_
  refine fy_callV (As := []) (rest := []) ⟨hx, hb, hml, hown, hts⟩ (c_Sp_objects l s0 D cI cZ cJ cW hG sp rw row wd ob) (cwV 0 hts g_Yd_119 rfl rfl rfl (by decide +kernel) ⟨Nat.le_of_ble_eq_true rfl, Nat.le_of_ble_eq_true rfl⟩) hK hLa hAB hA hP hD hS [1, 2] rfl rfl (ci := 4) rfl rfl (q0 := 1) rfl rfl hl.1 rfl (Nat.le_of_ble_eq_true rfl) d_Yd_figure_44 ⟨Nat.zero_le _, Nat.zero_le _⟩ (fun r w1 H locs hp hP hD hS => ?_)
  obtain ⟨rfl, rfl⟩ := hp
  have hP : va_P D vwCl [(yd, .inr (0, [.ref rg, .ref wr, .ref cr, .ref wl, .ref sp, .ref sq, .int (nI mN), .int (nI cN)])), (sp, .inr (4, [.ref rw, .int wd, .int ob])), (rw, .inl (cI, 240, .inl row))] H := hP
  have hD : va_D A [(yd, .inr (0, [.ref rg, .ref wr, .ref cr, .ref wl, .ref sp, .ref sq, .int (nI mN), .int (nI cN)])), (sp, .inr (4, [.ref rw, .int wd, .int ob])), (rw, .inl (cI, 240, .inl row))] := hD
  exact fy_reti hx hb hr hlocks hAe (⟨rfl, rfl⟩) (List.Perm.refl _) hP hS d_Yd_figure_47
set_option maxRecDepth 20000 in
set_option maxHeartbeats 4000000 in
theorem c_Yd_figure2 (l : Launch) (s0 : State) (D : va_G) (cI cZ cJ cW : ClassId) (hG : fy_G s0 D cI cZ cJ cW) (yd rg wr cr wl sp sq rw : Nat) (mN cN : Nat) (row : Nat → Int32) (wd ob : Int32) : fy_Met l s0 D vwCl y_Yd_figure w_Yd_figure (fy_rm 1) 0 0 [.ref yd, .int (nI 2)] [(yd, .inr (0, [.ref rg, .ref wr, .ref cr, .ref wl, .ref sp, .ref sq, .int (nI mN), .int (nI cN)])), (sp, .inr (4, [.ref rw, .int wd, .int ob])), (rw, .inl (cI, 240, .inl row))] (fun r w1 => r = some (.int (nI cN)) ∧ w1 = [(yd, .inr (0, [.ref rg, .ref wr, .ref cr, .ref wl, .ref sp, .ref sq, .int (nI mN), .int (nI cN)])), (sp, .inr (4, [.ref rw, .int wd, .int ob])), (rw, .inl (cI, 240, .inl row))]) := by
  refine fy_st (bytes := b_Yd_figure) (maxL := 2) (ret := some .int) hG (by decide) rfl (Nat.le_of_ble_eq_true rfl) ?_
  intro p e s m below meth c A ls hx hb hr hlocks hml hown hts hK hLa hAe hAB hA hl hP hD hS
  have hl : lv_has ls 2 [(0, .ref yd), (1, .int (nI 2))] := hl
  refine lv_iload_n hx hb d_Yd_figure_0 rfl (lv_at hl 1 rfl) ?_
  refine lv_tableIn hx hb (tgt := 48) d_Yd_figure_1 (by decide) (by decide) rfl (by decide) ?_
  refine lv_aload_n hx hb d_Yd_figure_48 rfl (lv_at hl 0 rfl) ?_
  refine va_get (D := D) (ci := 0) (v := .int (nI cN)) (C := R_Yd) (T := F_Yd) (N := 8) hx hb hts i_Yd hown hK hP 0 rfl rfl 7 (by decide) (hts _ k_f_Yd_141) (fun _ h9 => h9) rfl d_Yd_figure_49 ?_
  exact fy_reti hx hb hr hlocks hAe (⟨rfl, rfl⟩) (List.Perm.refl _) hP hS d_Yd_figure_52
set_option maxRecDepth 20000 in
set_option maxHeartbeats 4000000 in
theorem c_Yd_figure3 (l : Launch) (s0 : State) (D : va_G) (cI cZ cJ cW : ClassId) (hG : fy_G s0 D cI cZ cJ cW) (yd rg wr cr wl sp sq rw : Nat) (mN cN : Nat) (row : Nat → Int32) (wd ob : Int32) : fy_Met l s0 D vwCl y_Yd_figure w_Yd_figure (fy_rm 1) 0 0 [.ref yd, .int (nI 3)] [(yd, .inr (0, [.ref rg, .ref wr, .ref cr, .ref wl, .ref sp, .ref sq, .int (nI mN), .int (nI cN)])), (sp, .inr (4, [.ref rw, .int wd, .int ob])), (rw, .inl (cI, 240, .inl row))] (fun r w1 => r = some (.int (nI mN)) ∧ w1 = [(yd, .inr (0, [.ref rg, .ref wr, .ref cr, .ref wl, .ref sp, .ref sq, .int (nI mN), .int (nI cN)])), (sp, .inr (4, [.ref rw, .int wd, .int ob])), (rw, .inl (cI, 240, .inl row))]) := by
  refine fy_st (bytes := b_Yd_figure) (maxL := 2) (ret := some .int) hG (by decide) rfl (Nat.le_of_ble_eq_true rfl) ?_
  intro p e s m below meth c A ls hx hb hr hlocks hml hown hts hK hLa hAe hAB hA hl hP hD hS
  have hl : lv_has ls 2 [(0, .ref yd), (1, .int (nI 3))] := hl
  refine lv_iload_n hx hb d_Yd_figure_0 rfl (lv_at hl 1 rfl) ?_
  refine lv_tableIn hx hb (tgt := 53) d_Yd_figure_1 (by decide) (by decide) rfl (by decide) ?_
  refine lv_aload_n hx hb d_Yd_figure_53 rfl (lv_at hl 0 rfl) ?_
  refine va_get (D := D) (ci := 0) (v := .int (nI mN)) (C := R_Yd) (T := F_Yd) (N := 8) hx hb hts i_Yd hown hK hP 0 rfl rfl 6 (by decide) (hts _ k_f_Yd_66) (fun _ h9 => h9) rfl d_Yd_figure_54 ?_
  exact fy_reti hx hb hr hlocks hAe (⟨rfl, rfl⟩) (List.Perm.refl _) hP hS d_Yd_figure_57
