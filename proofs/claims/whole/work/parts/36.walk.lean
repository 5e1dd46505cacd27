set_option maxRecDepth 20000 in
set_option maxHeartbeats 4000000 in
theorem c_Sp_layDown (l : Launch) (s0 : State) (D : va_G) (cI cZ cJ cW : ClassId) (hG : fy_G s0 D cI cZ cJ cW) (sp rw : Nat) (row : Nat → Int32) (w ob k : Nat) (x v : Int32) (hk : k ≤ 4) (hw : w + 3 + k ≤ 240) : fy_Met l s0 D vwCl y_Sp_layDown w_Sp_layDown (fy_rm 0) 0 0 [.ref sp, .int x, .int (nI k), .int v] [(sp, .inr (4, [.ref rw, .int (nI w), .int (nI ob)])), (rw, .inl (cI, 240, .inl row))] (fun r w1 => r = some (.int (nI w)) ∧ w1 = [(sp, .inr (4, [.ref rw, .int (nI (w + (3 + k))), .int (nI (ob + 1))])), (rw, .inl (cI, 240, .inl (fm_lay row w x v k)))]) := by
  refine fy_st (bytes := b_Sp_layDown) (maxL := 6) (ret := some .int) hG (by decide) rfl (Nat.le_of_ble_eq_true rfl) ?_
  intro p e s m below meth c A ls hx hb hr hlocks hml hown hts hK hLa hAe hAB hA hl hP hD hS
  have hl : lv_has ls 6 [(0, .ref sp), (1, .int x), (2, .int (nI k)), (3, .int v)] := hl
  refine lv_aload_n hx hb d_Sp_layDown_0 rfl (lv_at hl 0 rfl) ?_
  refine va_get (D := D) (ci := 4) (v := .int (nI w)) (C := R_Sp) (T := F_Sp) (N := 3) hx hb hts i_Sp hown hK hP 0 rfl rfl 1 (by decide) (hts _ k_f_Sp_15) (fun _ h9 => h9) rfl d_Sp_layDown_1 ?_
  refine lv_istore hx hb d_Sp_layDown_4 hl (by decide) rfl (fun ls hl => ?_)
  have hl : lv_has ls 6 [(4, .int (nI w)), (0, .ref sp), (1, .int x), (2, .int (nI k)), (3, .int v)] := hl
  refine lv_aload_n hx hb d_Sp_layDown_6 rfl (lv_at hl 1 rfl) ?_
  refine va_get (D := D) (ci := 4) (v := .ref rw) (C := R_Sp) (T := F_Sp) (N := 3) hx hb hts i_Sp hown hK hP 0 rfl rfl 0 (by decide) (hts _ k_f_Sp_11) (fun _ h9 => h9) rfl d_Sp_layDown_7 ?_
  refine lv_iload hx hb d_Sp_layDown_10 (lv_at hl 0 rfl) ?_
  refine lv_iload_n hx hb d_Sp_layDown_12 rfl (lv_at hl 2 rfl) ?_
  refine fy_iast (t0 := 0) (g := upd row w x) hx hb hK hP hD hS 1 rfl rfl (by omega) (by omega) (rfl) d_Sp_layDown_13 (fun H locs hP hD hS => ?_)
  have hP : va_P D vwCl [(sp, .inr (4, [.ref rw, .int (nI w), .int (nI ob)])), (rw, .inl (cI, 240, .inl (upd row w x)))] H := hP
  have hD : va_D A [(sp, .inr (4, [.ref rw, .int (nI w), .int (nI ob)])), (rw, .inl (cI, 240, .inl (upd row w x)))] := hD
  refine lv_aload_n hx hb d_Sp_layDown_14 rfl (lv_at hl 1 rfl) ?_
  refine va_get (D := D) (ci := 4) (v := .ref rw) (C := R_Sp) (T := F_Sp) (N := 3) hx hb hts i_Sp hown hK hP 0 rfl rfl 0 (by decide) (hts _ k_f_Sp_11) (fun _ h9 => h9) rfl d_Sp_layDown_15 ?_
  refine lv_iload hx hb d_Sp_layDown_18 (lv_at hl 0 rfl) ?_
  refine lv_iconst (v := nI 1) hx hb d_Sp_layDown_20 (by decide) ?_
  refine lv_iadd hx hb d_Sp_layDown_21 ?_
  refine fy_top (z := nI (w + 1)) (nI_add _ _) ?_
  refine lv_iload_n hx hb d_Sp_layDown_22 rfl (lv_at hl 4 rfl) ?_
  refine fy_iast (t0 := 0) (g := upd (upd row w x) (w + 1) v) hx hb hK hP hD hS 1 rfl rfl (by omega) (by omega) (rfl) d_Sp_layDown_23 (fun H locs hP hD hS => ?_)
  have hP : va_P D vwCl [(sp, .inr (4, [.ref rw, .int (nI w), .int (nI ob)])), (rw, .inl (cI, 240, .inl (upd (upd row w x) (w + 1) v)))] H := hP
  have hD : va_D A [(sp, .inr (4, [.ref rw, .int (nI w), .int (nI ob)])), (rw, .inl (cI, 240, .inl (upd (upd row w x) (w + 1) v)))] := hD
  refine lv_aload_n hx hb d_Sp_layDown_24 rfl (lv_at hl 1 rfl) ?_
  refine va_get (D := D) (ci := 4) (v := .ref rw) (C := R_Sp) (T := F_Sp) (N := 3) hx hb hts i_Sp hown hK hP 0 rfl rfl 0 (by decide) (hts _ k_f_Sp_11) (fun _ h9 => h9) rfl d_Sp_layDown_25 ?_
  refine lv_iload hx hb d_Sp_layDown_28 (lv_at hl 0 rfl) ?_
  refine lv_iconst (v := nI 2) hx hb d_Sp_layDown_30 (by decide) ?_
  refine lv_iadd hx hb d_Sp_layDown_31 ?_
  refine fy_top (z := nI (w + 2)) (nI_add _ _) ?_
  refine lv_iload_n hx hb d_Sp_layDown_32 rfl (lv_at hl 3 rfl) ?_
  refine fy_iast (t0 := 0) (g := fm_layf row w x v k 0) hx hb hK hP hD hS 1 rfl rfl (by omega) (by omega) (fm_layf_0) d_Sp_layDown_33 (fun H locs hP hD hS => ?_)
  have hP : va_P D vwCl [(sp, .inr (4, [.ref rw, .int (nI w), .int (nI ob)])), (rw, .inl (cI, 240, .inl (fm_layf row w x v k 0)))] H := hP
  have hD : va_D A [(sp, .inr (4, [.ref rw, .int (nI w), .int (nI ob)])), (rw, .inl (cI, 240, .inl (fm_layf row w x v k 0)))] := hD
  refine lv_iconst (v := nI 0) hx hb d_Sp_layDown_34 (by decide) ?_
  refine lv_istore hx hb d_Sp_layDown_35 hl (by decide) rfl (fun ls hl => ?_)
  have hl : lv_has ls 6 [(5, .int (nI 0)), (4, .int (nI w)), (0, .ref sp), (1, .int x), (2, .int (nI k)), (3, .int v)] := hl
  refine fy_loop (σ := Nat) (fun mz zz ls H locs => match zz with | f => mz = k - f ∧ (f ≤ k) ∧ lv_has ls 6 [(5, .int (nI f)), (4, .int (nI w)), (0, .ref sp), (1, .int x), (2, .int (nI k)), (3, .int v)] ∧ va_P D vwCl [(sp, .inr (4, [.ref rw, .int (nI w), .int (nI ob)])), (rw, .inl (cI, 240, .inl (fm_layf row w x v k f)))] H ∧ va_D A [(sp, .inr (4, [.ref rw, .int (nI w), .int (nI ob)])), (rw, .inl (cI, 240, .inl (fm_layf row w x v k f)))] ∧ va_S A s.heap H locs) ?_ _ 0 ⟨rfl, Nat.zero_le _, hl, hP, hD, hS⟩
  rintro mz f ls H locs ⟨hmz, hf, hl, hP, hD, hS⟩ ih
  have hmz : mz = k - f := hmz
  have hf : f ≤ k := hf
  have hl : lv_has ls 6 [(5, .int (nI f)), (4, .int (nI w)), (0, .ref sp), (1, .int x), (2, .int (nI k)), (3, .int v)] := hl
  have hP : va_P D vwCl [(sp, .inr (4, [.ref rw, .int (nI w), .int (nI ob)])), (rw, .inl (cI, 240, .inl (fm_layf row w x v k f)))] H := hP
  have hD : va_D A [(sp, .inr (4, [.ref rw, .int (nI w), .int (nI ob)])), (rw, .inl (cI, 240, .inl (fm_layf row w x v k f)))] := hD
  refine lv_iload hx hb d_Sp_layDown_37 (lv_at hl 0 rfl) ?_
  refine lv_iload_n hx hb d_Sp_layDown_39 rfl (lv_at hl 4 rfl) ?_
  refine lv_icmp_ge hx hb d_Sp_layDown_40 (tgt := 62) (by decide) (fun hc => ?_) (fun hc => ?_)
  · have hc : f = k := by have := (nI_leI (by omega) (by omega)).mp hc; omega
    subst hc
    have hl : lv_has ls 6 [(5, .int (nI f)), (4, .int (nI w)), (0, .ref sp), (1, .int x), (2, .int (nI f)), (3, .int v)] := hl
    have hP : va_P D vwCl [(sp, .inr (4, [.ref rw, .int (nI w), .int (nI ob)])), (rw, .inl (cI, 240, .inl (fm_lay row w x v f)))] H := hP
    have hD : va_D A [(sp, .inr (4, [.ref rw, .int (nI w), .int (nI ob)])), (rw, .inl (cI, 240, .inl (fm_lay row w x v f)))] := hD
    refine lv_aload_n hx hb d_Sp_layDown_62 rfl (lv_at hl 2 rfl) ?_
    refine lv_dup hx hb d_Sp_layDown_63 rfl ?_
    refine va_get (D := D) (ci := 4) (v := .int (nI w)) (C := R_Sp) (T := F_Sp) (N := 3) hx hb hts i_Sp hown hK hP 0 rfl rfl 1 (by decide) (hts _ k_f_Sp_15) (fun _ h9 => h9) rfl d_Sp_layDown_64 ?_
    refine lv_iconst (v := nI 3) hx hb d_Sp_layDown_67 (by decide) ?_
    refine lv_iload_n hx hb d_Sp_layDown_68 rfl (lv_at hl 4 rfl) ?_
    refine lv_iadd hx hb d_Sp_layDown_69 ?_
    refine fy_top (z := nI (3 + f)) (nI_add _ _) ?_
    refine lv_iadd hx hb d_Sp_layDown_70 ?_
    refine fy_top (z := nI (w + (3 + f))) (nI_add _ _) ?_
    refine va_put (D := D) (ci := 4) (v := .int (nI (w + (3 + f)))) (ty := .int) (C := R_Sp) (T := F_Sp) (N := 3) hx hb hts i_Sp t_Sp tk_Sp n_Sp hown hK hP hD hS 0 rfl rfl 1 (by decide) (hts _ k_f_Sp_15) (fun _ h9 => h9) rfl (by decide +kernel) rfl rfl (Nat.le_of_ble_eq_true rfl) d_Sp_layDown_71 (fun H locs hP hD hS => ?_)
    have hP : va_P D vwCl [(sp, .inr (4, [.ref rw, .int (nI (w + (3 + f))), .int (nI ob)])), (rw, .inl (cI, 240, .inl (fm_lay row w x v f)))] H := hP
    have hD : va_D A [(sp, .inr (4, [.ref rw, .int (nI (w + (3 + f))), .int (nI ob)])), (rw, .inl (cI, 240, .inl (fm_lay row w x v f)))] := hD
    refine lv_aload_n hx hb d_Sp_layDown_74 rfl (lv_at hl 2 rfl) ?_
    refine lv_dup hx hb d_Sp_layDown_75 rfl ?_
    refine va_get (D := D) (ci := 4) (v := .int (nI ob)) (C := R_Sp) (T := F_Sp) (N := 3) hx hb hts i_Sp hown hK hP 0 rfl rfl 2 (by decide) (hts _ k_f_Sp_19) (fun _ h9 => h9) rfl d_Sp_layDown_76 ?_
    refine lv_iconst (v := nI 1) hx hb d_Sp_layDown_79 (by decide) ?_
    refine lv_iadd hx hb d_Sp_layDown_80 ?_
    refine fy_top (z := nI (ob + 1)) (nI_add _ _) ?_
    refine va_put (D := D) (ci := 4) (v := .int (nI (ob + 1))) (ty := .int) (C := R_Sp) (T := F_Sp) (N := 3) hx hb hts i_Sp t_Sp tk_Sp n_Sp hown hK hP hD hS 0 rfl rfl 2 (by decide) (hts _ k_f_Sp_19) (fun _ h9 => h9) rfl (by decide +kernel) rfl rfl (Nat.le_of_ble_eq_true rfl) d_Sp_layDown_81 (fun H locs hP hD hS => ?_)
    have hP : va_P D vwCl [(sp, .inr (4, [.ref rw, .int (nI (w + (3 + f))), .int (nI (ob + 1))])), (rw, .inl (cI, 240, .inl (fm_lay row w x v f)))] H := hP
    have hD : va_D A [(sp, .inr (4, [.ref rw, .int (nI (w + (3 + f))), .int (nI (ob + 1))])), (rw, .inl (cI, 240, .inl (fm_lay row w x v f)))] := hD
    refine lv_iload hx hb d_Sp_layDown_84 (lv_at hl 1 rfl) ?_
    exact fy_reti hx hb hr hlocks hAe (⟨rfl, rfl⟩) (List.Perm.refl _) hP hS d_Sp_layDown_86
  · have hc : f < k := by have := mt (nI_leI (a := k) (b := f) (by omega) (by omega)).mpr hc; omega
    refine lv_aload_n hx hb d_Sp_layDown_43 rfl (lv_at hl 2 rfl) ?_
    refine va_get (D := D) (ci := 4) (v := .ref rw) (C := R_Sp) (T := F_Sp) (N := 3) hx hb hts i_Sp hown hK hP 0 rfl rfl 0 (by decide) (hts _ k_f_Sp_11) (fun _ h9 => h9) rfl d_Sp_layDown_44 ?_
    refine lv_iload hx hb d_Sp_layDown_47 (lv_at hl 1 rfl) ?_
    refine lv_iconst (v := nI 3) hx hb d_Sp_layDown_49 (by decide) ?_
    refine lv_iadd hx hb d_Sp_layDown_50 ?_
    refine fy_top (z := nI (w + 3)) (nI_add _ _) ?_
    refine lv_iload hx hb d_Sp_layDown_51 (lv_at hl 0 rfl) ?_
    refine lv_iadd hx hb d_Sp_layDown_53 ?_
    refine fy_top (z := nI ((w + 3) + f)) (nI_add _ _) ?_
    refine lv_iconst (v := -1) hx hb d_Sp_layDown_54 (by decide) ?_
    refine fy_iast (t0 := 0) (g := fm_layf row w x v k (f + 1)) hx hb hK hP hD hS 1 rfl rfl (by omega) (by omega) (fm_layf_s) d_Sp_layDown_55 (fun H locs hP hD hS => ?_)
    have hP : va_P D vwCl [(sp, .inr (4, [.ref rw, .int (nI w), .int (nI ob)])), (rw, .inl (cI, 240, .inl (fm_layf row w x v k (f + 1))))] H := hP
    have hD : va_D A [(sp, .inr (4, [.ref rw, .int (nI w), .int (nI ob)])), (rw, .inl (cI, 240, .inl (fm_layf row w x v k (f + 1))))] := hD
    refine lv_iinc (v := nI (f + 1)) hx hb d_Sp_layDown_56 hl (k := 0) rfl (by rw [show Int32.ofInt 1 = nI 1 from by decide]; exact nI_add _ _) (by decide) rfl (fun ls hl => ?_)
    have hl : lv_has ls 6 [(5, .int (nI (f + 1))), (4, .int (nI w)), (0, .ref sp), (1, .int x), (2, .int (nI k)), (3, .int v)] := hl
    refine lv_goto hx hb d_Sp_layDown_59 (tgt := 37) (by decide) ?_
    have hl : lv_has ls 6 [(5, .int (nI (f + 1))), (4, .int (nI w)), (0, .ref sp), (1, .int x), (2, .int (nI k)), (3, .int v)] := lv_sub hl [0, 1, 2, 3, 4, 5] rfl
    exact ih _ (f + 1) _ _ _ (by omega) ⟨rfl, hc, hl, hP, hD, hS⟩
set_option maxRecDepth 20000 in
set_option maxHeartbeats 4000000 in
theorem c_Sp_takeOver (l : Launch) (s0 : State) (D : va_G) (cI cZ cJ cW : ClassId) (hG : fy_G s0 D cI cZ cJ cW) (sp rw fr fw : Nat) (row rf : Nat → Int32) (w ob o g k : Nat) (wf of : Int32) (hk : k ≤ 4) (hw : w + 3 + k ≤ 240) (ho : o + 3 + k ≤ 240) (hg : 8 * g + k < 2 ^ 31) (hs : rf (o + 2) = nI (8 * g + k)) : fy_Met l s0 D vwCl y_Sp_takeOver w_Sp_takeOver (fy_rm 1) 0 0 [.ref sp, .ref fr, .int (nI o)] [(sp, .inr (4, [.ref rw, .int (nI w), .int (nI ob)])), (rw, .inl (cI, 240, .inl row)), (fr, .inr (4, [.ref fw, .int wf, .int of])), (fw, .inl (cI, 240, .inl rf))] (fun r w1 => r = some (.int (nI w)) ∧ w1 = [(sp, .inr (4, [.ref rw, .int (nI (w + (3 + k))), .int (nI (ob + 1))])), (rw, .inl (cI, 240, .inl (upd (va_cpy rf row o w (3 + k)) (w + 2) (nI (8 * g + k + 8))))), (fr, .inr (4, [.ref fw, .int wf, .int of])), (fw, .inl (cI, 240, .inl rf))]) := by
  refine fy_st (bytes := b_Sp_takeOver) (maxL := 5) (ret := some .int) hG (by decide) rfl (Nat.le_of_ble_eq_true rfl) ?_
  intro p e s m below meth c A ls hx hb hr hlocks hml hown hts hK hLa hAe hAB hA hl hP hD hS
  have hl : lv_has ls 5 [(0, .ref sp), (1, .ref fr), (2, .int (nI o))] := hl
  refine lv_aload_n hx hb d_Sp_takeOver_0 rfl (lv_at hl 0 rfl) ?_
  refine va_get (D := D) (ci := 4) (v := .int (nI w)) (C := R_Sp) (T := F_Sp) (N := 3) hx hb hts i_Sp hown hK hP 0 rfl rfl 1 (by decide) (hts _ k_f_Sp_15) (fun _ h9 => h9) rfl d_Sp_takeOver_1 ?_
  refine lv_istore_n hx hb d_Sp_takeOver_4 rfl hl (by decide) rfl (fun ls hl => ?_)
  have hl : lv_has ls 5 [(3, .int (nI w)), (0, .ref sp), (1, .ref fr), (2, .int (nI o))] := hl
  refine lv_iconst (v := nI 3) hx hb d_Sp_takeOver_5 (by decide) ?_
  refine lv_aload_n hx hb d_Sp_takeOver_6 rfl (lv_at hl 2 rfl) ?_
  refine lv_iload_n hx hb d_Sp_takeOver_7 rfl (lv_at hl 3 rfl) ?_
  refine fy_callV (As := [.int (nI o)]) (rest := [.int (nI 3)]) ⟨hx, hb, hml, hown, hts⟩ (c_Sp_fieldCountOf l s0 D cI cZ cJ cW hG fr fw rf wf of o g k (by omega) (by omega) hg hs) (cwV 1 hts g_Sp_22 rfl rfl rfl (by decide +kernel) ⟨Nat.le_of_ble_eq_true rfl, Nat.le_of_ble_eq_true rfl⟩) hK hLa hAB hA hP hD hS [2, 3] rfl rfl (ci := 4) rfl rfl (q0 := 2) rfl rfl hl.1 rfl (Nat.le_of_ble_eq_true rfl) d_Sp_takeOver_8 ⟨Nat.zero_le _, Nat.zero_le _⟩ (fun r w1 H locs hp hP hD hS => ?_)
  obtain ⟨rfl, rfl⟩ := hp
  have hP : va_P D vwCl [(sp, .inr (4, [.ref rw, .int (nI w), .int (nI ob)])), (rw, .inl (cI, 240, .inl row)), (fr, .inr (4, [.ref fw, .int wf, .int of])), (fw, .inl (cI, 240, .inl rf))] H := hP
  have hD : va_D A [(sp, .inr (4, [.ref rw, .int (nI w), .int (nI ob)])), (rw, .inl (cI, 240, .inl row)), (fr, .inr (4, [.ref fw, .int wf, .int of])), (fw, .inl (cI, 240, .inl rf))] := hD
  refine lv_iadd hx hb d_Sp_takeOver_11 ?_
  refine fy_top (z := nI (3 + k)) (nI_add _ _) ?_
  refine lv_istore hx hb d_Sp_takeOver_12 hl (by decide) rfl (fun ls hl => ?_)
  have hl : lv_has ls 5 [(4, .int (nI (3 + k))), (3, .int (nI w)), (0, .ref sp), (1, .ref fr), (2, .int (nI o))] := hl
  refine lv_aload_n hx hb d_Sp_takeOver_14 rfl (lv_at hl 3 rfl) ?_
  refine va_get (D := D) (ci := 4) (v := .ref fw) (C := R_Sp) (T := F_Sp) (N := 3) hx hb hts i_Sp hown hK hP 2 rfl rfl 0 (by decide) (hts _ k_f_Sp_11) (fun _ h9 => h9) rfl d_Sp_takeOver_15 ?_
  refine lv_iload_n hx hb d_Sp_takeOver_18 rfl (lv_at hl 4 rfl) ?_
  refine lv_aload_n hx hb d_Sp_takeOver_19 rfl (lv_at hl 2 rfl) ?_
  refine va_get (D := D) (ci := 4) (v := .ref rw) (C := R_Sp) (T := F_Sp) (N := 3) hx hb hts i_Sp hown hK hP 0 rfl rfl 0 (by decide) (hts _ k_f_Sp_11) (fun _ h9 => h9) rfl d_Sp_takeOver_20 ?_
  refine lv_iload_n hx hb d_Sp_takeOver_23 rfl (lv_at hl 1 rfl) ?_
  refine lv_iload hx hb d_Sp_takeOver_24 (lv_at hl 0 rfl) ?_
  refine fy_copy (t0 := 0) hx hb (hml.trans hl.1.symm) hown (hts _ k_ac_link) (hts _ k_ac_nat) (hts _ k_ac_stat) (hts _ k_ini_Sy) hK hP hD hS 3 1 rfl rfl rfl (by omega) (by omega) (by omega) (by omega) (Nat.le_of_ble_eq_true rfl) (Nat.le_of_ble_eq_true rfl) d_Sp_takeOver_26 (fun H locs hP hD hS => ?_)
  have hP : va_P D vwCl [(sp, .inr (4, [.ref rw, .int (nI w), .int (nI ob)])), (rw, .inl (cI, 240, .inl (va_cpy rf row o w (3 + k)))), (fr, .inr (4, [.ref fw, .int wf, .int of])), (fw, .inl (cI, 240, .inl rf))] H := hP
  have hD : va_D A [(sp, .inr (4, [.ref rw, .int (nI w), .int (nI ob)])), (rw, .inl (cI, 240, .inl (va_cpy rf row o w (3 + k)))), (fr, .inr (4, [.ref fw, .int wf, .int of])), (fw, .inl (cI, 240, .inl rf))] := hD
  refine lv_aload_n hx hb d_Sp_takeOver_29 rfl (lv_at hl 2 rfl) ?_
  refine va_get (D := D) (ci := 4) (v := .ref rw) (C := R_Sp) (T := F_Sp) (N := 3) hx hb hts i_Sp hown hK hP 0 rfl rfl 0 (by decide) (hts _ k_f_Sp_11) (fun _ h9 => h9) rfl d_Sp_takeOver_30 ?_
  refine lv_iload_n hx hb d_Sp_takeOver_33 rfl (lv_at hl 1 rfl) ?_
  refine lv_iconst (v := nI 2) hx hb d_Sp_takeOver_34 (by decide) ?_
  refine lv_iadd hx hb d_Sp_takeOver_35 ?_
  refine fy_top (z := nI (w + 2)) (nI_add _ _) ?_
  refine lv_dup2_11 hx hb d_Sp_takeOver_36 rfl rfl ?_
  refine fy_iald (t0 := 0) (v := nI (8 * g + k)) hx hb hK hP 1 rfl rfl (by omega) (by omega) (by rw [pk_cpy_in (by omega) (by omega), show o + (w + 2 - w) = o + 2 by omega]; exact hs) d_Sp_takeOver_37 ?_
  refine lv_bipush (v := nI 8) hx hb d_Sp_takeOver_38 (by decide) ?_
  refine lv_iadd hx hb d_Sp_takeOver_40 ?_
  refine fy_top (z := nI ((8 * g + k) + 8)) (nI_add _ _) ?_
  refine fy_iast (t0 := 0) (g := upd (va_cpy rf row o w (3 + k)) (w + 2) (nI ((8 * g + k) + 8))) hx hb hK hP hD hS 1 rfl rfl (by omega) (by omega) (rfl) d_Sp_takeOver_41 (fun H locs hP hD hS => ?_)
  have hP : va_P D vwCl [(sp, .inr (4, [.ref rw, .int (nI w), .int (nI ob)])), (rw, .inl (cI, 240, .inl (upd (va_cpy rf row o w (3 + k)) (w + 2) (nI ((8 * g + k) + 8))))), (fr, .inr (4, [.ref fw, .int wf, .int of])), (fw, .inl (cI, 240, .inl rf))] H := hP
  have hD : va_D A [(sp, .inr (4, [.ref rw, .int (nI w), .int (nI ob)])), (rw, .inl (cI, 240, .inl (upd (va_cpy rf row o w (3 + k)) (w + 2) (nI ((8 * g + k) + 8))))), (fr, .inr (4, [.ref fw, .int wf, .int of])), (fw, .inl (cI, 240, .inl rf))] := hD
  refine lv_aload_n hx hb d_Sp_takeOver_42 rfl (lv_at hl 2 rfl) ?_
  refine lv_dup hx hb d_Sp_takeOver_43 rfl ?_
  refine va_get (D := D) (ci := 4) (v := .int (nI w)) (C := R_Sp) (T := F_Sp) (N := 3) hx hb hts i_Sp hown hK hP 0 rfl rfl 1 (by decide) (hts _ k_f_Sp_15) (fun _ h9 => h9) rfl d_Sp_takeOver_44 ?_
  refine lv_iload hx hb d_Sp_takeOver_47 (lv_at hl 0 rfl) ?_
  refine lv_iadd hx hb d_Sp_takeOver_49 ?_
  refine fy_top (z := nI (w + (3 + k))) (nI_add _ _) ?_
  refine va_put (D := D) (ci := 4) (v := .int (nI (w + (3 + k)))) (ty := .int) (C := R_Sp) (T := F_Sp) (N := 3) hx hb hts i_Sp t_Sp tk_Sp n_Sp hown hK hP hD hS 0 rfl rfl 1 (by decide) (hts _ k_f_Sp_15) (fun _ h9 => h9) rfl (by decide +kernel) rfl rfl (Nat.le_of_ble_eq_true rfl) d_Sp_takeOver_50 (fun H locs hP hD hS => ?_)
  have hP : va_P D vwCl [(sp, .inr (4, [.ref rw, .int (nI (w + (3 + k))), .int (nI ob)])), (rw, .inl (cI, 240, .inl (upd (va_cpy rf row o w (3 + k)) (w + 2) (nI ((8 * g + k) + 8))))), (fr, .inr (4, [.ref fw, .int wf, .int of])), (fw, .inl (cI, 240, .inl rf))] H := hP
  have hD : va_D A [(sp, .inr (4, [.ref rw, .int (nI (w + (3 + k))), .int (nI ob)])), (rw, .inl (cI, 240, .inl (upd (va_cpy rf row o w (3 + k)) (w + 2) (nI ((8 * g + k) + 8))))), (fr, .inr (4, [.ref fw, .int wf, .int of])), (fw, .inl (cI, 240, .inl rf))] := hD
  refine lv_aload_n hx hb d_Sp_takeOver_53 rfl (lv_at hl 2 rfl) ?_
  refine lv_dup hx hb d_Sp_takeOver_54 rfl ?_
  refine va_get (D := D) (ci := 4) (v := .int (nI ob)) (C := R_Sp) (T := F_Sp) (N := 3) hx hb hts i_Sp hown hK hP 0 rfl rfl 2 (by decide) (hts _ k_f_Sp_19) (fun _ h9 => h9) rfl d_Sp_takeOver_55 ?_
  refine lv_iconst (v := nI 1) hx hb d_Sp_takeOver_58 (by decide) ?_
  refine lv_iadd hx hb d_Sp_takeOver_59 ?_
  refine fy_top (z := nI (ob + 1)) (nI_add _ _) ?_
  refine va_put (D := D) (ci := 4) (v := .int (nI (ob + 1))) (ty := .int) (C := R_Sp) (T := F_Sp) (N := 3) hx hb hts i_Sp t_Sp tk_Sp n_Sp hown hK hP hD hS 0 rfl rfl 2 (by decide) (hts _ k_f_Sp_19) (fun _ h9 => h9) rfl (by decide +kernel) rfl rfl (Nat.le_of_ble_eq_true rfl) d_Sp_takeOver_60 (fun H locs hP hD hS => ?_)
  have hP : va_P D vwCl [(sp, .inr (4, [.ref rw, .int (nI (w + (3 + k))), .int (nI (ob + 1))])), (rw, .inl (cI, 240, .inl (upd (va_cpy rf row o w (3 + k)) (w + 2) (nI ((8 * g + k) + 8))))), (fr, .inr (4, [.ref fw, .int wf, .int of])), (fw, .inl (cI, 240, .inl rf))] H := hP
  have hD : va_D A [(sp, .inr (4, [.ref rw, .int (nI (w + (3 + k))), .int (nI (ob + 1))])), (rw, .inl (cI, 240, .inl (upd (va_cpy rf row o w (3 + k)) (w + 2) (nI ((8 * g + k) + 8))))), (fr, .inr (4, [.ref fw, .int wf, .int of])), (fw, .inl (cI, 240, .inl rf))] := hD
  refine lv_iload_n hx hb d_Sp_takeOver_63 rfl (lv_at hl 1 rfl) ?_
  exact fy_reti hx hb hr hlocks hAe (⟨rfl, rfl⟩) (List.Perm.refl _) hP hS d_Sp_takeOver_64
set_option maxRecDepth 20000 in
set_option maxHeartbeats 4000000 in
theorem c_Wo_pileUp (l : Launch) (s0 : State) (D : va_G) (cI cZ cJ cW : ClassId) (hG : fy_G s0 D cI cZ cJ cW) (wo pi h : Nat) (f : Nat → Int32) (v : Int32) (hh : h < 80) : fy_Met l s0 D vwCl y_Wo_pileUp w_Wo_pileUp (fy_rm 0) 0 0 [.ref wo, .int v] [(wo, .inr (3, [.ref pi, .int (nI h)])), (pi, .inl (cI, 80, .inl f))] (fun r w1 => r = none ∧ w1 = [(wo, .inr (3, [.ref pi, .int (nI (h + 1))])), (pi, .inl (cI, 80, .inl (upd f h v)))]) := by
  refine fy_st (bytes := b_Wo_pileUp) (maxL := 2) (ret := none) hG (by decide) rfl (Nat.le_of_ble_eq_true rfl) ?_
  intro p e s m below meth c A ls hx hb hr hlocks hml hown hts hK hLa hAe hAB hA hl hP hD hS
  have hl : lv_has ls 2 [(0, .ref wo), (1, .int v)] := hl
  refine lv_aload_n hx hb d_Wo_pileUp_0 rfl (lv_at hl 0 rfl) ?_
  refine va_get (D := D) (ci := 3) (v := .ref pi) (C := R_Wo) (T := F_Wo) (N := 2) hx hb hts i_Wo hown hK hP 0 rfl rfl 0 (by decide) (hts _ k_f_Wo_9) (fun _ h9 => h9) rfl d_Wo_pileUp_1 ?_
  refine lv_aload_n hx hb d_Wo_pileUp_4 rfl (lv_at hl 0 rfl) ?_
  refine va_get (D := D) (ci := 3) (v := .int (nI h)) (C := R_Wo) (T := F_Wo) (N := 2) hx hb hts i_Wo hown hK hP 0 rfl rfl 1 (by decide) (hts _ k_f_Wo_15) (fun _ h9 => h9) rfl d_Wo_pileUp_5 ?_
  refine lv_iload_n hx hb d_Wo_pileUp_8 rfl (lv_at hl 1 rfl) ?_
  refine fy_iast (t0 := 0) (g := upd f h v) hx hb hK hP hD hS 1 rfl rfl (by omega) (by omega) (rfl) d_Wo_pileUp_9 (fun H locs hP hD hS => ?_)
  have hP : va_P D vwCl [(wo, .inr (3, [.ref pi, .int (nI h)])), (pi, .inl (cI, 80, .inl (upd f h v)))] H := hP
  have hD : va_D A [(wo, .inr (3, [.ref pi, .int (nI h)])), (pi, .inl (cI, 80, .inl (upd f h v)))] := hD
  refine lv_aload_n hx hb d_Wo_pileUp_10 rfl (lv_at hl 0 rfl) ?_
  refine lv_dup hx hb d_Wo_pileUp_11 rfl ?_
  refine va_get (D := D) (ci := 3) (v := .int (nI h)) (C := R_Wo) (T := F_Wo) (N := 2) hx hb hts i_Wo hown hK hP 0 rfl rfl 1 (by decide) (hts _ k_f_Wo_15) (fun _ h9 => h9) rfl d_Wo_pileUp_12 ?_
  refine lv_iconst (v := nI 1) hx hb d_Wo_pileUp_15 (by decide) ?_
  refine lv_iadd hx hb d_Wo_pileUp_16 ?_
  refine fy_top (z := nI (h + 1)) (nI_add _ _) ?_
  refine va_put (D := D) (ci := 3) (v := .int (nI (h + 1))) (ty := .int) (C := R_Wo) (T := F_Wo) (N := 2) hx hb hts i_Wo t_Wo tk_Wo n_Wo hown hK hP hD hS 0 rfl rfl 1 (by decide) (hts _ k_f_Wo_15) (fun _ h9 => h9) rfl (by decide +kernel) rfl rfl (Nat.le_of_ble_eq_true rfl) d_Wo_pileUp_17 (fun H locs hP hD hS => ?_)
  have hP : va_P D vwCl [(wo, .inr (3, [.ref pi, .int (nI (h + 1))])), (pi, .inl (cI, 80, .inl (upd f h v)))] H := hP
  have hD : va_D A [(wo, .inr (3, [.ref pi, .int (nI (h + 1))])), (pi, .inl (cI, 80, .inl (upd f h v)))] := hD
  exact fy_retv hx hb hr hlocks hAe (⟨rfl, rfl⟩) (List.Perm.refl _) hP hS d_Wo_pileUp_20
set_option maxRecDepth 20000 in
set_option maxHeartbeats 4000000 in
theorem c_Wo_takeTop0 (l : Launch) (s0 : State) (D : va_G) (cI cZ cJ cW : ClassId) (hG : fy_G s0 D cI cZ cJ cW) (wo pi : Nat) (f : Nat → Int32) : fy_Met l s0 D vwCl y_Wo_takeTop w_Wo_takeTop (fy_rm 0) 0 0 [.ref wo] [(wo, .inr (3, [.ref pi, .int (nI 0)])), (pi, .inl (cI, 80, .inl f))] (fun r w1 => r = some (.int (-1)) ∧ w1 = [(wo, .inr (3, [.ref pi, .int (nI 0)])), (pi, .inl (cI, 80, .inl f))]) := by
  refine fy_st (bytes := b_Wo_takeTop) (maxL := 1) (ret := some .int) hG (by decide) rfl (Nat.le_of_ble_eq_true rfl) ?_
  intro p e s m below meth c A ls hx hb hr hlocks hml hown hts hK hLa hAe hAB hA hl hP hD hS
  have hl : lv_has ls 1 [(0, .ref wo)] := hl
  refine lv_aload_n hx hb d_Wo_takeTop_0 rfl (lv_at hl 0 rfl) ?_
  refine va_get (D := D) (ci := 3) (v := .int (nI 0)) (C := R_Wo) (T := F_Wo) (N := 2) hx hb hts i_Wo hown hK hP 0 rfl rfl 1 (by decide) (hts _ k_f_Wo_15) (fun _ h9 => h9) rfl d_Wo_takeTop_1 ?_
  refine lv_if_ne hx hb d_Wo_takeTop_4 (tgt := 9) (by decide) (fun h => absurd (rfl) h) (fun _ => ?_)
  refine lv_iconst (v := -1) hx hb d_Wo_takeTop_7 (by decide) ?_
  exact fy_reti hx hb hr hlocks hAe (⟨rfl, rfl⟩) (List.Perm.refl _) hP hS d_Wo_takeTop_8
set_option maxRecDepth 20000 in
set_option maxHeartbeats 4000000 in
theorem c_Wo_takeTop1 (l : Launch) (s0 : State) (D : va_G) (cI cZ cJ cW : ClassId) (hG : fy_G s0 D cI cZ cJ cW) (wo pi h : Nat) (f : Nat → Int32) (hh : h < 80) : fy_Met l s0 D vwCl y_Wo_takeTop w_Wo_takeTop (fy_rm 0) 0 0 [.ref wo] [(wo, .inr (3, [.ref pi, .int (nI (h + 1))])), (pi, .inl (cI, 80, .inl f))] (fun r w1 => r = some (.int (f h)) ∧ w1 = [(wo, .inr (3, [.ref pi, .int (nI h)])), (pi, .inl (cI, 80, .inl f))]) := by
  refine fy_st (bytes := b_Wo_takeTop) (maxL := 1) (ret := some .int) hG (by decide) rfl (Nat.le_of_ble_eq_true rfl) ?_
  intro p e s m below meth c A ls hx hb hr hlocks hml hown hts hK hLa hAe hAB hA hl hP hD hS
  have hl : lv_has ls 1 [(0, .ref wo)] := hl
  refine lv_aload_n hx hb d_Wo_takeTop_0 rfl (lv_at hl 0 rfl) ?_
  refine va_get (D := D) (ci := 3) (v := .int (nI (h + 1))) (C := R_Wo) (T := F_Wo) (N := 2) hx hb hts i_Wo hown hK hP 0 rfl rfl 1 (by decide) (hts _ k_f_Wo_15) (fun _ h9 => h9) rfl d_Wo_takeTop_1 ?_
  refine lv_if_ne hx hb d_Wo_takeTop_4 (tgt := 9) (by decide) (fun _ => ?_) (fun h => absurd h (nI_ne0 (by omega) (by omega)))
  refine lv_aload_n hx hb d_Wo_takeTop_9 rfl (lv_at hl 0 rfl) ?_
  refine lv_dup hx hb d_Wo_takeTop_10 rfl ?_
  refine va_get (D := D) (ci := 3) (v := .int (nI (h + 1))) (C := R_Wo) (T := F_Wo) (N := 2) hx hb hts i_Wo hown hK hP 0 rfl rfl 1 (by decide) (hts _ k_f_Wo_15) (fun _ h9 => h9) rfl d_Wo_takeTop_11 ?_
  refine lv_iconst (v := nI 1) hx hb d_Wo_takeTop_14 (by decide) ?_
  refine lv_isub hx hb d_Wo_takeTop_15 ?_
  refine fy_top (z := nI h) (by rw [pk_sub (by omega)]; rfl) ?_
  refine va_put (D := D) (ci := 3) (v := .int (nI h)) (ty := .int) (C := R_Wo) (T := F_Wo) (N := 2) hx hb hts i_Wo t_Wo tk_Wo n_Wo hown hK hP hD hS 0 rfl rfl 1 (by decide) (hts _ k_f_Wo_15) (fun _ h9 => h9) rfl (by decide +kernel) rfl rfl (Nat.le_of_ble_eq_true rfl) d_Wo_takeTop_16 (fun H locs hP hD hS => ?_)
  have hP : va_P D vwCl [(wo, .inr (3, [.ref pi, .int (nI h)])), (pi, .inl (cI, 80, .inl f))] H := hP
  have hD : va_D A [(wo, .inr (3, [.ref pi, .int (nI h)])), (pi, .inl (cI, 80, .inl f))] := hD
  refine lv_aload_n hx hb d_Wo_takeTop_19 rfl (lv_at hl 0 rfl) ?_
  refine va_get (D := D) (ci := 3) (v := .ref pi) (C := R_Wo) (T := F_Wo) (N := 2) hx hb hts i_Wo hown hK hP 0 rfl rfl 0 (by decide) (hts _ k_f_Wo_9) (fun _ h9 => h9) rfl d_Wo_takeTop_20 ?_
  refine lv_aload_n hx hb d_Wo_takeTop_23 rfl (lv_at hl 0 rfl) ?_
  refine va_get (D := D) (ci := 3) (v := .int (nI h)) (C := R_Wo) (T := F_Wo) (N := 2) hx hb hts i_Wo hown hK hP 0 rfl rfl 1 (by decide) (hts _ k_f_Wo_15) (fun _ h9 => h9) rfl d_Wo_takeTop_24 ?_
  refine fy_iald (t0 := 0) (v := f h) hx hb hK hP 1 rfl rfl (by omega) (by omega) (rfl) d_Wo_takeTop_27 ?_
  exact fy_reti hx hb hr hlocks hAe (⟨rfl, rfl⟩) (List.Perm.refl _) hP hS d_Wo_takeTop_28
set_option maxRecDepth 20000 in
set_option maxHeartbeats 4000000 in
theorem c_Wa_find0 (l : Launch) (s0 : State) (D : va_G) (cI cZ cJ cW : ClassId) (hG : fy_G s0 D cI cZ cJ cW) (wa se qu k : Nat) (f g : Nat → Int32) : fy_Met l s0 D vwCl y_Wa_find w_Wa_find (fy_rm 0) 0 0 [.ref wa, .int (-1)] [(wa, .inr (2, [.ref se, .ref qu, .int (nI k)])), (se, .inl (cI, 240, .inl f)), (qu, .inl (cI, 80, .inl g))] (fun r w1 => r = none ∧ w1 = [(wa, .inr (2, [.ref se, .ref qu, .int (nI k)])), (se, .inl (cI, 240, .inl f)), (qu, .inl (cI, 80, .inl g))]) := by
  refine fy_st (bytes := b_Wa_find) (maxL := 2) (ret := none) hG (by decide) rfl (Nat.le_of_ble_eq_true rfl) ?_
  intro p e s m below meth c A ls hx hb hr hlocks hml hown hts hK hLa hAe hAB hA hl hP hD hS
  have hl : lv_has ls 2 [(0, .ref wa), (1, .int (-1))] := hl
  refine lv_iload_n hx hb d_Wa_find_0 rfl (lv_at hl 1 rfl) ?_
  refine lv_iconst (v := -1) hx hb d_Wa_find_1 (by decide) ?_
  refine lv_icmp_eq hx hb d_Wa_find_2 (tgt := 41) (by decide) (fun _ => ?_) (fun h => absurd (rfl) h)
  exact fy_retv hx hb hr hlocks hAe (⟨rfl, rfl⟩) (List.Perm.refl _) hP hS d_Wa_find_41
set_option maxRecDepth 20000 in
set_option maxHeartbeats 4000000 in
theorem c_Wa_find1 (l : Launch) (s0 : State) (D : va_G) (cI cZ cJ cW : ClassId) (hG : fy_G s0 D cI cZ cJ cW) (wa se qu k : Nat) (f g : Nat → Int32) (a : Nat) (ha : a < 240) (hf : f a = 1) : fy_Met l s0 D vwCl y_Wa_find w_Wa_find (fy_rm 0) 0 0 [.ref wa, .int (nI a)] [(wa, .inr (2, [.ref se, .ref qu, .int (nI k)])), (se, .inl (cI, 240, .inl f)), (qu, .inl (cI, 80, .inl g))] (fun r w1 => r = none ∧ w1 = [(wa, .inr (2, [.ref se, .ref qu, .int (nI k)])), (se, .inl (cI, 240, .inl f)), (qu, .inl (cI, 80, .inl g))]) := by
  refine fy_st (bytes := b_Wa_find) (maxL := 2) (ret := none) hG (by decide) rfl (Nat.le_of_ble_eq_true rfl) ?_
  intro p e s m below meth c A ls hx hb hr hlocks hml hown hts hK hLa hAe hAB hA hl hP hD hS
  have hl : lv_has ls 2 [(0, .ref wa), (1, .int (nI a))] := hl
  refine lv_iload_n hx hb d_Wa_find_0 rfl (lv_at hl 1 rfl) ?_
  refine lv_iconst (v := -1) hx hb d_Wa_find_1 (by decide) ?_
  refine lv_icmp_eq hx hb d_Wa_find_2 (tgt := 41) (by decide) (fun h => absurd h (fm_m1 (by omega))) (fun _ => ?_)
  refine lv_aload_n hx hb d_Wa_find_5 rfl (lv_at hl 0 rfl) ?_
  refine va_get (D := D) (ci := 2) (v := .ref se) (C := R_Wa) (T := F_Wa) (N := 3) hx hb hts i_Wa hown hK hP 0 rfl rfl 0 (by decide) (hts _ k_f_Wa_9) (fun _ h9 => h9) rfl d_Wa_find_6 ?_
  refine lv_iload_n hx hb d_Wa_find_9 rfl (lv_at hl 1 rfl) ?_
  refine fy_iald (t0 := 0) (v := 1) hx hb hK hP 1 rfl rfl (by omega) (by omega) (hf) d_Wa_find_10 ?_
  refine lv_if_ne hx hb d_Wa_find_11 (tgt := 41) (by decide) (fun _ => ?_) (fun h => absurd h (by decide))
  exact fy_retv hx hb hr hlocks hAe (⟨rfl, rfl⟩) (List.Perm.refl _) hP hS d_Wa_find_41
set_option maxRecDepth 20000 in
set_option maxHeartbeats 4000000 in
theorem c_Wa_find2 (l : Launch) (s0 : State) (D : va_G) (cI cZ cJ cW : ClassId) (hG : fy_G s0 D cI cZ cJ cW) (wa se qu k : Nat) (f g : Nat → Int32) (a : Nat) (ha : a < 240) (hf : f a = 0) (hk : k < 80) : fy_Met l s0 D vwCl y_Wa_find w_Wa_find (fy_rm 0) 0 0 [.ref wa, .int (nI a)] [(wa, .inr (2, [.ref se, .ref qu, .int (nI k)])), (se, .inl (cI, 240, .inl f)), (qu, .inl (cI, 80, .inl g))] (fun r w1 => r = none ∧ w1 = [(wa, .inr (2, [.ref se, .ref qu, .int (nI (k + 1))])), (se, .inl (cI, 240, .inl (upd f a 1))), (qu, .inl (cI, 80, .inl (upd g k (nI a))))]) := by
  refine fy_st (bytes := b_Wa_find) (maxL := 2) (ret := none) hG (by decide) rfl (Nat.le_of_ble_eq_true rfl) ?_
  intro p e s m below meth c A ls hx hb hr hlocks hml hown hts hK hLa hAe hAB hA hl hP hD hS
  have hl : lv_has ls 2 [(0, .ref wa), (1, .int (nI a))] := hl
  refine lv_iload_n hx hb d_Wa_find_0 rfl (lv_at hl 1 rfl) ?_
  refine lv_iconst (v := -1) hx hb d_Wa_find_1 (by decide) ?_
  refine lv_icmp_eq hx hb d_Wa_find_2 (tgt := 41) (by decide) (fun h => absurd h (fm_m1 (by omega))) (fun _ => ?_)
  refine lv_aload_n hx hb d_Wa_find_5 rfl (lv_at hl 0 rfl) ?_
  refine va_get (D := D) (ci := 2) (v := .ref se) (C := R_Wa) (T := F_Wa) (N := 3) hx hb hts i_Wa hown hK hP 0 rfl rfl 0 (by decide) (hts _ k_f_Wa_9) (fun _ h9 => h9) rfl d_Wa_find_6 ?_
  refine lv_iload_n hx hb d_Wa_find_9 rfl (lv_at hl 1 rfl) ?_
  refine fy_iald (t0 := 0) (v := 0) hx hb hK hP 1 rfl rfl (by omega) (by omega) (hf) d_Wa_find_10 ?_
  refine lv_if_ne hx hb d_Wa_find_11 (tgt := 41) (by decide) (fun h => absurd (rfl) h) (fun _ => ?_)
  refine lv_aload_n hx hb d_Wa_find_14 rfl (lv_at hl 0 rfl) ?_
  refine va_get (D := D) (ci := 2) (v := .ref se) (C := R_Wa) (T := F_Wa) (N := 3) hx hb hts i_Wa hown hK hP 0 rfl rfl 0 (by decide) (hts _ k_f_Wa_9) (fun _ h9 => h9) rfl d_Wa_find_15 ?_
  refine lv_iload_n hx hb d_Wa_find_18 rfl (lv_at hl 1 rfl) ?_
  refine lv_iconst (v := nI 1) hx hb d_Wa_find_19 (by decide) ?_
  refine fy_iast (t0 := 0) (g := upd f a 1) hx hb hK hP hD hS 1 rfl rfl (by omega) (by omega) (rfl) d_Wa_find_20 (fun H locs hP hD hS => ?_)
  have hP : va_P D vwCl [(wa, .inr (2, [.ref se, .ref qu, .int (nI k)])), (se, .inl (cI, 240, .inl (upd f a 1))), (qu, .inl (cI, 80, .inl g))] H := hP
  have hD : va_D A [(wa, .inr (2, [.ref se, .ref qu, .int (nI k)])), (se, .inl (cI, 240, .inl (upd f a 1))), (qu, .inl (cI, 80, .inl g))] := hD
  refine lv_aload_n hx hb d_Wa_find_21 rfl (lv_at hl 0 rfl) ?_
  refine va_get (D := D) (ci := 2) (v := .ref qu) (C := R_Wa) (T := F_Wa) (N := 3) hx hb hts i_Wa hown hK hP 0 rfl rfl 1 (by decide) (hts _ k_f_Wa_15) (fun _ h9 => h9) rfl d_Wa_find_22 ?_
  refine lv_aload_n hx hb d_Wa_find_25 rfl (lv_at hl 0 rfl) ?_
  refine va_get (D := D) (ci := 2) (v := .int (nI k)) (C := R_Wa) (T := F_Wa) (N := 3) hx hb hts i_Wa hown hK hP 0 rfl rfl 2 (by decide) (hts _ k_f_Wa_24) (fun _ h9 => h9) rfl d_Wa_find_26 ?_
  refine lv_iload_n hx hb d_Wa_find_29 rfl (lv_at hl 1 rfl) ?_
  refine fy_iast (t0 := 0) (g := upd g k (nI a)) hx hb hK hP hD hS 2 rfl rfl (by omega) (by omega) (rfl) d_Wa_find_30 (fun H locs hP hD hS => ?_)
  have hP : va_P D vwCl [(wa, .inr (2, [.ref se, .ref qu, .int (nI k)])), (se, .inl (cI, 240, .inl (upd f a 1))), (qu, .inl (cI, 80, .inl (upd g k (nI a))))] H := hP
  have hD : va_D A [(wa, .inr (2, [.ref se, .ref qu, .int (nI k)])), (se, .inl (cI, 240, .inl (upd f a 1))), (qu, .inl (cI, 80, .inl (upd g k (nI a))))] := hD
  refine lv_aload_n hx hb d_Wa_find_31 rfl (lv_at hl 0 rfl) ?_
  refine lv_dup hx hb d_Wa_find_32 rfl ?_
  refine va_get (D := D) (ci := 2) (v := .int (nI k)) (C := R_Wa) (T := F_Wa) (N := 3) hx hb hts i_Wa hown hK hP 0 rfl rfl 2 (by decide) (hts _ k_f_Wa_24) (fun _ h9 => h9) rfl d_Wa_find_33 ?_
  refine lv_iconst (v := nI 1) hx hb d_Wa_find_36 (by decide) ?_
  refine lv_iadd hx hb d_Wa_find_37 ?_
  refine fy_top (z := nI (k + 1)) (nI_add _ _) ?_
  refine va_put (D := D) (ci := 2) (v := .int (nI (k + 1))) (ty := .int) (C := R_Wa) (T := F_Wa) (N := 3) hx hb hts i_Wa t_Wa tk_Wa n_Wa hown hK hP hD hS 0 rfl rfl 2 (by decide) (hts _ k_f_Wa_24) (fun _ h9 => h9) rfl (by decide +kernel) rfl rfl (Nat.le_of_ble_eq_true rfl) d_Wa_find_38 (fun H locs hP hD hS => ?_)
  have hP : va_P D vwCl [(wa, .inr (2, [.ref se, .ref qu, .int (nI (k + 1))])), (se, .inl (cI, 240, .inl (upd f a 1))), (qu, .inl (cI, 80, .inl (upd g k (nI a))))] H := hP
  have hD : va_D A [(wa, .inr (2, [.ref se, .ref qu, .int (nI (k + 1))])), (se, .inl (cI, 240, .inl (upd f a 1))), (qu, .inl (cI, 80, .inl (upd g k (nI a))))] := hD
  exact fy_retv hx hb hr hlocks hAe (⟨rfl, rfl⟩) (List.Perm.refl _) hP hS d_Wa_find_41
set_option maxHeartbeats 4000000 in
/-- find: one more in the queue, if it isn't there -/
theorem c_Wa_find (l : Launch) (s0 : State) (D : va_G) (cI cZ cJ cW : ClassId) (hG : fy_G s0 D cI cZ cJ cW) (wa se qu : Nat) (f g : Nat → Int32) (L Q : List Nat) (pl : Nat → Nat) (o : Option Nat) (hpl : ∀ n ∈ L, pl n < 240) (hinj : ∀ a ∈ L, ∀ b ∈ L, pl a = pl b → a = b) (hQ : ∀ n ∈ Q, n ∈ L) (ho : ∀ n, o = some n → n ∈ L) (hq : ∀ n, o = some n → n ∉ Q → Q.length < 80) (hr : fm_rep pl Q f g) : fy_Met l s0 D vwCl y_Wa_find w_Wa_find (fy_rm 0) 0 0 [.ref wa, .int (fm_o (o.map pl))] [(wa, .inr (2, [.ref se, .ref qu, .int (nI Q.length)])), (se, .inl (cI, 240, .inl f)), (qu, .inl (cI, 80, .inl g))] (fun r w1 => r = none ∧ ∃ f2 g2 : Nat → Int32, fm_rep pl (fm_add Q o) f2 g2 ∧ w1 = [(wa, .inr (2, [.ref se, .ref qu, .int (nI ((fm_add Q o).length))])), (se, .inl (cI, 240, .inl f2)), (qu, .inl (cI, 80, .inl g2))]) := by
  cases o with
  | none => exact (c_Wa_find0 l s0 D cI cZ cJ cW hG wa se qu Q.length f g).weak (fun r w1 h => ⟨h.1, f, g, hr, h.2⟩)
  | some n =>
    have hn := ho n rfl
    by_cases hnQ : n ∈ Q
    · rw [fm_add_in hnQ]
      exact (c_Wa_find1 l s0 D cI cZ cJ cW hG wa se qu Q.length f g (pl n) (hpl n hn) (by rw [hr.1 _ (hpl n hn), if_pos (List.mem_map_of_mem hnQ)])).weak (fun r w1 h => ⟨h.1, f, g, hr, h.2⟩)
    · rw [fm_add_new hnQ]
      have h0 : f (pl n) = 0 := by
        rw [hr.1 _ (hpl n hn), if_neg]
        intro h
        obtain ⟨k, h1, h2⟩ := List.mem_map.mp h
        exact hnQ (hinj k (hQ k h1) n hn h2 ▸ h1)
      refine (c_Wa_find2 l s0 D cI cZ cJ cW hG wa se qu Q.length f g (pl n) (hpl n hn) h0 (hq n rfl hnQ)).weak (fun r w1 h => ⟨h.1, _, _, fm_rep_new hr, ?_⟩)
      rw [List.length_append]
      exact h.2
