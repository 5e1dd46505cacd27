set_option maxRecDepth 20000 in
set_option maxHeartbeats 4000000 in
theorem c_fill (l : Launch) (s0 : State) (D : va_G) (cI cZ cJ cW : ClassId) (hG : fy_G s0 D cI cZ cJ cW) (ra n : Nat) (f : Nat → Int32) (v : Int32) (hn : n < 2 ^ 31) : fy_Met l s0 D vwCl y_Ar_fill w_Ar_fill (fy_rm 0) 0 0 [.ref ra, .int v] [(ra, .inl (cI, n, .inl f))] (fun r w1 => r = none ∧ ∃ g : Nat → Int32, (∀ j, j < n → g j = v) ∧ w1 = [(ra, .inl (cI, n, .inl g))]) := by
  refine fy_st (bytes := b_Ar_fill) (maxL := 4) (ret := none) hG (by decide) rfl (Nat.le_of_ble_eq_true rfl) ?_
  intro p e s m below meth c A ls hx hb hr hlocks hml hown hts hK hLa hAe hAB hA hl hP hD hS
  have hl : lv_has ls 4 [(0, .ref ra), (1, .int v)] := hl
  refine lv_iconst (v := nI 0) hx hb d_Ar_fill_0 (by decide) ?_
  refine lv_istore_n hx hb d_Ar_fill_1 rfl hl (by decide) rfl (fun ls hl => ?_)
  have hl : lv_has ls 4 [(2, .int (nI 0)), (0, .ref ra), (1, .int v)] := hl
  refine lv_aload_n hx hb d_Ar_fill_2 rfl (lv_at hl 1 rfl) ?_
  refine va_alen (v := nI n) hx hb hK hP 0 0 rfl rfl rfl d_Ar_fill_3 ?_
  refine lv_istore_n hx hb d_Ar_fill_4 rfl hl (by decide) rfl (fun ls hl => ?_)
  have hl : lv_has ls 4 [(3, .int (nI n)), (2, .int (nI 0)), (0, .ref ra), (1, .int v)] := hl
  refine fy_loop (σ := Nat × (Nat → Int32)) (fun mz zz ls H locs => match zz with | (i, g) => mz = n - i ∧ (i ≤ n) ∧ (∀ j, j < i → g j = v) ∧ lv_has ls 4 [(3, .int (nI n)), (2, .int (nI i)), (0, .ref ra), (1, .int v)] ∧ va_P D vwCl [(ra, .inl (cI, n, .inl g))] H ∧ va_D A [(ra, .inl (cI, n, .inl g))] ∧ va_S A s.heap H locs) ?_ _ (0, f) ⟨rfl, Nat.zero_le _, fun j hj => absurd hj (Nat.not_lt_zero j), hl, hP, hD, hS⟩
  rintro mz ⟨i, g⟩ ls H locs ⟨hmz, hi, hg, hl, hP, hD, hS⟩ ih
  have hmz : mz = n - i := hmz
  have hi : i ≤ n := hi
  have hg : ∀ j, j < i → g j = v := hg
  have hl : lv_has ls 4 [(3, .int (nI n)), (2, .int (nI i)), (0, .ref ra), (1, .int v)] := hl
  have hP : va_P D vwCl [(ra, .inl (cI, n, .inl g))] H := hP
  have hD : va_D A [(ra, .inl (cI, n, .inl g))] := hD
  refine lv_iload_n hx hb d_Ar_fill_5 rfl (lv_at hl 1 rfl) ?_
  refine lv_iload_n hx hb d_Ar_fill_6 rfl (lv_at hl 0 rfl) ?_
  refine lv_icmp_ge hx hb d_Ar_fill_7 (tgt := 20) (by decide) (fun hc => ?_) (fun hc => ?_)
  · exact fy_retv hx hb hr hlocks hAe (⟨rfl, g, fun j hj => hg j (by have := (nI_leI (by omega) (by omega)).mp hc; omega), rfl⟩) (List.Perm.refl _) hP hS d_Ar_fill_20
  · have hc : i < n := by have := mt (nI_leI (b := i) hn (by omega)).mpr hc; omega
    refine lv_aload_n hx hb d_Ar_fill_10 rfl (lv_at hl 2 rfl) ?_
    refine lv_iload_n hx hb d_Ar_fill_11 rfl (lv_at hl 1 rfl) ?_
    refine lv_iload_n hx hb d_Ar_fill_12 rfl (lv_at hl 3 rfl) ?_
    refine fy_iast (t0 := 0) (g := upd g i v) hx hb hK hP hD hS 0 rfl rfl (by omega) (hc) (rfl) d_Ar_fill_13 (fun H locs hP hD hS => ?_)
    have hP : va_P D vwCl [(ra, .inl (cI, n, .inl (upd g i v)))] H := hP
    have hD : va_D A [(ra, .inl (cI, n, .inl (upd g i v)))] := hD
    refine lv_iinc (v := nI (i + 1)) hx hb d_Ar_fill_14 hl (k := 1) rfl (by rw [show Int32.ofInt 1 = nI 1 from by decide]; exact nI_add _ _) (by decide) rfl (fun ls hl => ?_)
    have hl : lv_has ls 4 [(2, .int (nI (i + 1))), (3, .int (nI n)), (0, .ref ra), (1, .int v)] := hl
    refine lv_goto hx hb d_Ar_fill_17 (tgt := 5) (by decide) ?_
    have hl : lv_has ls 4 [(3, .int (nI n)), (2, .int (nI (i + 1))), (0, .ref ra), (1, .int v)] := lv_sub hl [1, 0, 2, 3] rfl
    exact ih _ (i + 1, upd g i v) _ _ _ (by omega) ⟨rfl, hc, fun j hj => by by_cases q : j = i; (subst q; exact fm_upd_self); (rw [fm_upd_ne q]; exact hg j (by omega)), hl, hP, hD, hS⟩
set_option maxRecDepth 20000 in
set_option maxHeartbeats 4000000 in
theorem c_Sp_words (l : Launch) (s0 : State) (D : va_G) (cI cZ cJ cW : ClassId) (hG : fy_G s0 D cI cZ cJ cW) (sp rw : Nat) (row : Nat → Int32) (wd ob : Int32)  : fy_Met l s0 D vwCl y_Sp_words w_Sp_words (fy_rm 0) 0 0 [.ref sp] [(sp, .inr (4, [.ref rw, .int wd, .int ob])), (rw, .inl (cI, 240, .inl row))] (fun r w1 => r = some (.int wd) ∧ w1 = [(sp, .inr (4, [.ref rw, .int wd, .int ob])), (rw, .inl (cI, 240, .inl row))]) := by
  refine fy_st (bytes := b_Sp_words) (maxL := 1) (ret := some .int) hG (by decide) rfl (Nat.le_of_ble_eq_true rfl) ?_
  intro p e s m below meth c A ls hx hb hr hlocks hml hown hts hK hLa hAe hAB hA hl hP hD hS
  have hl : lv_has ls 1 [(0, .ref sp)] := hl
  refine lv_aload_n hx hb d_Sp_words_0 rfl (lv_at hl 0 rfl) ?_
  refine va_get (D := D) (ci := 4) (v := .int wd) (C := R_Sp) (T := F_Sp) (N := 3) hx hb hts i_Sp hown hK hP 0 rfl rfl 1 (by decide) (hts _ k_f_Sp_15) (fun _ h9 => h9) rfl d_Sp_words_1 ?_
  exact fy_reti hx hb hr hlocks hAe (⟨rfl, rfl⟩) (List.Perm.refl _) hP hS d_Sp_words_4
set_option maxRecDepth 20000 in
set_option maxHeartbeats 4000000 in
theorem c_Sp_objects (l : Launch) (s0 : State) (D : va_G) (cI cZ cJ cW : ClassId) (hG : fy_G s0 D cI cZ cJ cW) (sp rw : Nat) (row : Nat → Int32) (wd ob : Int32)  : fy_Met l s0 D vwCl y_Sp_objects w_Sp_objects (fy_rm 0) 0 0 [.ref sp] [(sp, .inr (4, [.ref rw, .int wd, .int ob])), (rw, .inl (cI, 240, .inl row))] (fun r w1 => r = some (.int ob) ∧ w1 = [(sp, .inr (4, [.ref rw, .int wd, .int ob])), (rw, .inl (cI, 240, .inl row))]) := by
  refine fy_st (bytes := b_Sp_objects) (maxL := 1) (ret := some .int) hG (by decide) rfl (Nat.le_of_ble_eq_true rfl) ?_
  intro p e s m below meth c A ls hx hb hr hlocks hml hown hts hK hLa hAe hAB hA hl hP hD hS
  have hl : lv_has ls 1 [(0, .ref sp)] := hl
  refine lv_aload_n hx hb d_Sp_objects_0 rfl (lv_at hl 0 rfl) ?_
  refine va_get (D := D) (ci := 4) (v := .int ob) (C := R_Sp) (T := F_Sp) (N := 3) hx hb hts i_Sp hown hK hP 0 rfl rfl 2 (by decide) (hts _ k_f_Sp_19) (fun _ h9 => h9) rfl d_Sp_objects_1 ?_
  exact fy_reti hx hb hr hlocks hAe (⟨rfl, rfl⟩) (List.Perm.refl _) hP hS d_Sp_objects_4
set_option maxRecDepth 20000 in
set_option maxHeartbeats 4000000 in
theorem c_Sp_numberOf (l : Launch) (s0 : State) (D : va_G) (cI cZ cJ cW : ClassId) (hG : fy_G s0 D cI cZ cJ cW) (sp rw : Nat) (row : Nat → Int32) (wd ob : Int32) (a : Nat) (ha : a < 240) : fy_Met l s0 D vwCl y_Sp_numberOf w_Sp_numberOf (fy_rm 0) 0 0 [.ref sp, .int (nI a)] [(sp, .inr (4, [.ref rw, .int wd, .int ob])), (rw, .inl (cI, 240, .inl row))] (fun r w1 => r = some (.int (row a)) ∧ w1 = [(sp, .inr (4, [.ref rw, .int wd, .int ob])), (rw, .inl (cI, 240, .inl row))]) := by
  refine fy_st (bytes := b_Sp_numberOf) (maxL := 2) (ret := some .int) hG (by decide) rfl (Nat.le_of_ble_eq_true rfl) ?_
  intro p e s m below meth c A ls hx hb hr hlocks hml hown hts hK hLa hAe hAB hA hl hP hD hS
  have hl : lv_has ls 2 [(0, .ref sp), (1, .int (nI a))] := hl
  refine lv_aload_n hx hb d_Sp_numberOf_0 rfl (lv_at hl 0 rfl) ?_
  refine va_get (D := D) (ci := 4) (v := .ref rw) (C := R_Sp) (T := F_Sp) (N := 3) hx hb hts i_Sp hown hK hP 0 rfl rfl 0 (by decide) (hts _ k_f_Sp_11) (fun _ h9 => h9) rfl d_Sp_numberOf_1 ?_
  refine lv_iload_n hx hb d_Sp_numberOf_4 rfl (lv_at hl 1 rfl) ?_
  refine fy_iald (t0 := 0) (v := row a) hx hb hK hP 1 rfl rfl (by omega) (by omega) (rfl) d_Sp_numberOf_5 ?_
  exact fy_reti hx hb hr hlocks hAe (⟨rfl, rfl⟩) (List.Perm.refl _) hP hS d_Sp_numberOf_6
set_option maxRecDepth 20000 in
set_option maxHeartbeats 4000000 in
theorem c_Sp_valueOf (l : Launch) (s0 : State) (D : va_G) (cI cZ cJ cW : ClassId) (hG : fy_G s0 D cI cZ cJ cW) (sp rw : Nat) (row : Nat → Int32) (wd ob : Int32) (a : Nat) (ha : a + 1 < 240) : fy_Met l s0 D vwCl y_Sp_valueOf w_Sp_valueOf (fy_rm 0) 0 0 [.ref sp, .int (nI a)] [(sp, .inr (4, [.ref rw, .int wd, .int ob])), (rw, .inl (cI, 240, .inl row))] (fun r w1 => r = some (.int (row (a + 1))) ∧ w1 = [(sp, .inr (4, [.ref rw, .int wd, .int ob])), (rw, .inl (cI, 240, .inl row))]) := by
  refine fy_st (bytes := b_Sp_valueOf) (maxL := 2) (ret := some .int) hG (by decide) rfl (Nat.le_of_ble_eq_true rfl) ?_
  intro p e s m below meth c A ls hx hb hr hlocks hml hown hts hK hLa hAe hAB hA hl hP hD hS
  have hl : lv_has ls 2 [(0, .ref sp), (1, .int (nI a))] := hl
  refine lv_aload_n hx hb d_Sp_valueOf_0 rfl (lv_at hl 0 rfl) ?_
  refine va_get (D := D) (ci := 4) (v := .ref rw) (C := R_Sp) (T := F_Sp) (N := 3) hx hb hts i_Sp hown hK hP 0 rfl rfl 0 (by decide) (hts _ k_f_Sp_11) (fun _ h9 => h9) rfl d_Sp_valueOf_1 ?_
  refine lv_iload_n hx hb d_Sp_valueOf_4 rfl (lv_at hl 1 rfl) ?_
  refine lv_iconst (v := nI 1) hx hb d_Sp_valueOf_5 (by decide) ?_
  refine lv_iadd hx hb d_Sp_valueOf_6 ?_
  refine fy_top (z := nI (a + 1)) (nI_add _ _) ?_
  refine fy_iald (t0 := 0) (v := row (a + 1)) hx hb hK hP 1 rfl rfl (by omega) (by omega) (rfl) d_Sp_valueOf_7 ?_
  exact fy_reti hx hb hr hlocks hAe (⟨rfl, rfl⟩) (List.Perm.refl _) hP hS d_Sp_valueOf_8
set_option maxRecDepth 20000 in
set_option maxHeartbeats 4000000 in
theorem c_Sp_ageOf (l : Launch) (s0 : State) (D : va_G) (cI cZ cJ cW : ClassId) (hG : fy_G s0 D cI cZ cJ cW) (sp rw : Nat) (row : Nat → Int32) (wd ob : Int32) (a g k : Nat) (ha : a + 2 < 240) (hk : k < 8) (hg : 8 * g + k < 2 ^ 31) (hs : row (a + 2) = nI (8 * g + k)) : fy_Met l s0 D vwCl y_Sp_ageOf w_Sp_ageOf (fy_rm 0) 0 0 [.ref sp, .int (nI a)] [(sp, .inr (4, [.ref rw, .int wd, .int ob])), (rw, .inl (cI, 240, .inl row))] (fun r w1 => r = some (.int (nI g)) ∧ w1 = [(sp, .inr (4, [.ref rw, .int wd, .int ob])), (rw, .inl (cI, 240, .inl row))]) := by
  refine fy_st (bytes := b_Sp_ageOf) (maxL := 2) (ret := some .int) hG (by decide) rfl (Nat.le_of_ble_eq_true rfl) ?_
  intro p e s m below meth c A ls hx hb hr hlocks hml hown hts hK hLa hAe hAB hA hl hP hD hS
  have hl : lv_has ls 2 [(0, .ref sp), (1, .int (nI a))] := hl
  refine lv_aload_n hx hb d_Sp_ageOf_0 rfl (lv_at hl 0 rfl) ?_
  refine va_get (D := D) (ci := 4) (v := .ref rw) (C := R_Sp) (T := F_Sp) (N := 3) hx hb hts i_Sp hown hK hP 0 rfl rfl 0 (by decide) (hts _ k_f_Sp_11) (fun _ h9 => h9) rfl d_Sp_ageOf_1 ?_
  refine lv_iload_n hx hb d_Sp_ageOf_4 rfl (lv_at hl 1 rfl) ?_
  refine lv_iconst (v := nI 2) hx hb d_Sp_ageOf_5 (by decide) ?_
  refine lv_iadd hx hb d_Sp_ageOf_6 ?_
  refine fy_top (z := nI (a + 2)) (nI_add _ _) ?_
  refine fy_iald (t0 := 0) (v := nI (8 * g + k)) hx hb hK hP 1 rfl rfl (by omega) (by omega) (hs) d_Sp_ageOf_7 ?_
  refine lv_iconst (v := nI 3) hx hb d_Sp_ageOf_8 (by decide) ?_
  refine lv_ishr hx hb d_Sp_ageOf_9 ?_
  refine fy_top (z := nI g) (by rw [pk_shrN hg (nI 3 &&& 31) 3 (by decide)]; exact congrArg nI (by omega)) ?_
  exact fy_reti hx hb hr hlocks hAe (⟨rfl, rfl⟩) (List.Perm.refl _) hP hS d_Sp_ageOf_10
set_option maxRecDepth 20000 in
set_option maxHeartbeats 4000000 in
theorem c_Sp_fieldCountOf (l : Launch) (s0 : State) (D : va_G) (cI cZ cJ cW : ClassId) (hG : fy_G s0 D cI cZ cJ cW) (sp rw : Nat) (row : Nat → Int32) (wd ob : Int32) (a g k : Nat) (ha : a + 2 < 240) (hk : k < 8) (hg : 8 * g + k < 2 ^ 31) (hs : row (a + 2) = nI (8 * g + k)) : fy_Met l s0 D vwCl y_Sp_fieldCountOf w_Sp_fieldCountOf (fy_rm 0) 0 0 [.ref sp, .int (nI a)] [(sp, .inr (4, [.ref rw, .int wd, .int ob])), (rw, .inl (cI, 240, .inl row))] (fun r w1 => r = some (.int (nI k)) ∧ w1 = [(sp, .inr (4, [.ref rw, .int wd, .int ob])), (rw, .inl (cI, 240, .inl row))]) := by
  refine fy_st (bytes := b_Sp_fieldCountOf) (maxL := 2) (ret := some .int) hG (by decide) rfl (Nat.le_of_ble_eq_true rfl) ?_
  intro p e s m below meth c A ls hx hb hr hlocks hml hown hts hK hLa hAe hAB hA hl hP hD hS
  have hl : lv_has ls 2 [(0, .ref sp), (1, .int (nI a))] := hl
  refine lv_aload_n hx hb d_Sp_fieldCountOf_0 rfl (lv_at hl 0 rfl) ?_
  refine va_get (D := D) (ci := 4) (v := .ref rw) (C := R_Sp) (T := F_Sp) (N := 3) hx hb hts i_Sp hown hK hP 0 rfl rfl 0 (by decide) (hts _ k_f_Sp_11) (fun _ h9 => h9) rfl d_Sp_fieldCountOf_1 ?_
  refine lv_iload_n hx hb d_Sp_fieldCountOf_4 rfl (lv_at hl 1 rfl) ?_
  refine lv_iconst (v := nI 2) hx hb d_Sp_fieldCountOf_5 (by decide) ?_
  refine lv_iadd hx hb d_Sp_fieldCountOf_6 ?_
  refine fy_top (z := nI (a + 2)) (nI_add _ _) ?_
  refine fy_iald (t0 := 0) (v := nI (8 * g + k)) hx hb hK hP 1 rfl rfl (by omega) (by omega) (hs) d_Sp_fieldCountOf_7 ?_
  refine lv_bipush (v := nI 7) hx hb d_Sp_fieldCountOf_8 (by decide) ?_
  refine lv_iand hx hb d_Sp_fieldCountOf_10 ?_
  refine fy_top (z := nI k) (by rw [pk_andN (by omega) 3 (by decide)]; exact congrArg nI (by omega)) ?_
  exact fy_reti hx hb hr hlocks hAe (⟨rfl, rfl⟩) (List.Perm.refl _) hP hS d_Sp_fieldCountOf_11
set_option maxRecDepth 20000 in
set_option maxHeartbeats 4000000 in
theorem c_Sp_referent (l : Launch) (s0 : State) (D : va_G) (cI cZ cJ cW : ClassId) (hG : fy_G s0 D cI cZ cJ cW) (sp rw : Nat) (row : Nat → Int32) (wd ob : Int32) (a f : Nat) (ha : a + 3 + f < 240) : fy_Met l s0 D vwCl y_Sp_referent w_Sp_referent (fy_rm 0) 0 0 [.ref sp, .int (nI a), .int (nI f)] [(sp, .inr (4, [.ref rw, .int wd, .int ob])), (rw, .inl (cI, 240, .inl row))] (fun r w1 => r = some (.int (row (a + 3 + f))) ∧ w1 = [(sp, .inr (4, [.ref rw, .int wd, .int ob])), (rw, .inl (cI, 240, .inl row))]) := by
  refine fy_st (bytes := b_Sp_referent) (maxL := 3) (ret := some .int) hG (by decide) rfl (Nat.le_of_ble_eq_true rfl) ?_
  intro p e s m below meth c A ls hx hb hr hlocks hml hown hts hK hLa hAe hAB hA hl hP hD hS
  have hl : lv_has ls 3 [(0, .ref sp), (1, .int (nI a)), (2, .int (nI f))] := hl
  refine lv_aload_n hx hb d_Sp_referent_0 rfl (lv_at hl 0 rfl) ?_
  refine va_get (D := D) (ci := 4) (v := .ref rw) (C := R_Sp) (T := F_Sp) (N := 3) hx hb hts i_Sp hown hK hP 0 rfl rfl 0 (by decide) (hts _ k_f_Sp_11) (fun _ h9 => h9) rfl d_Sp_referent_1 ?_
  refine lv_iload_n hx hb d_Sp_referent_4 rfl (lv_at hl 1 rfl) ?_
  refine lv_iconst (v := nI 3) hx hb d_Sp_referent_5 (by decide) ?_
  refine lv_iadd hx hb d_Sp_referent_6 ?_
  refine fy_top (z := nI (a + 3)) (nI_add _ _) ?_
  refine lv_iload_n hx hb d_Sp_referent_7 rfl (lv_at hl 2 rfl) ?_
  refine lv_iadd hx hb d_Sp_referent_8 ?_
  refine fy_top (z := nI ((a + 3) + f)) (nI_add _ _) ?_
  refine fy_iald (t0 := 0) (v := row ((a + 3) + f)) hx hb hK hP 1 rfl rfl (by omega) (by omega) (rfl) d_Sp_referent_9 ?_
  exact fy_reti hx hb hr hlocks hAe (⟨rfl, rfl⟩) (List.Perm.refl _) hP hS d_Sp_referent_10
set_option maxRecDepth 20000 in
set_option maxHeartbeats 4000000 in
theorem c_Sp_putValue (l : Launch) (s0 : State) (D : va_G) (cI cZ cJ cW : ClassId) (hG : fy_G s0 D cI cZ cJ cW) (sp rw : Nat) (row : Nat → Int32) (wd ob : Int32) (a : Nat) (v : Int32) (ha : a + 1 < 240) : fy_Met l s0 D vwCl y_Sp_putValue w_Sp_putValue (fy_rm 0) 0 0 [.ref sp, .int (nI a), .int v] [(sp, .inr (4, [.ref rw, .int wd, .int ob])), (rw, .inl (cI, 240, .inl row))] (fun r w1 => r = none ∧ w1 = [(sp, .inr (4, [.ref rw, .int wd, .int ob])), (rw, .inl (cI, 240, .inl (upd row (a + 1) v)))]) := by
  refine fy_st (bytes := b_Sp_putValue) (maxL := 3) (ret := none) hG (by decide) rfl (Nat.le_of_ble_eq_true rfl) ?_
  intro p e s m below meth c A ls hx hb hr hlocks hml hown hts hK hLa hAe hAB hA hl hP hD hS
  have hl : lv_has ls 3 [(0, .ref sp), (1, .int (nI a)), (2, .int v)] := hl
  refine lv_aload_n hx hb d_Sp_putValue_0 rfl (lv_at hl 0 rfl) ?_
  refine va_get (D := D) (ci := 4) (v := .ref rw) (C := R_Sp) (T := F_Sp) (N := 3) hx hb hts i_Sp hown hK hP 0 rfl rfl 0 (by decide) (hts _ k_f_Sp_11) (fun _ h9 => h9) rfl d_Sp_putValue_1 ?_
  refine lv_iload_n hx hb d_Sp_putValue_4 rfl (lv_at hl 1 rfl) ?_
  refine lv_iconst (v := nI 1) hx hb d_Sp_putValue_5 (by decide) ?_
  refine lv_iadd hx hb d_Sp_putValue_6 ?_
  refine fy_top (z := nI (a + 1)) (nI_add _ _) ?_
  refine lv_iload_n hx hb d_Sp_putValue_7 rfl (lv_at hl 2 rfl) ?_
  refine fy_iast (t0 := 0) (g := upd row (a + 1) v) hx hb hK hP hD hS 1 rfl rfl (by omega) (by omega) (rfl) d_Sp_putValue_8 (fun H locs hP hD hS => ?_)
  have hP : va_P D vwCl [(sp, .inr (4, [.ref rw, .int wd, .int ob])), (rw, .inl (cI, 240, .inl (upd row (a + 1) v)))] H := hP
  have hD : va_D A [(sp, .inr (4, [.ref rw, .int wd, .int ob])), (rw, .inl (cI, 240, .inl (upd row (a + 1) v)))] := hD
  exact fy_retv hx hb hr hlocks hAe (⟨rfl, rfl⟩) (List.Perm.refl _) hP hS d_Sp_putValue_9
set_option maxRecDepth 20000 in
set_option maxHeartbeats 4000000 in
theorem c_Sp_refer (l : Launch) (s0 : State) (D : va_G) (cI cZ cJ cW : ClassId) (hG : fy_G s0 D cI cZ cJ cW) (sp rw : Nat) (row : Nat → Int32) (wd ob : Int32) (a f : Nat) (v : Int32) (ha : a + 3 + f < 240) : fy_Met l s0 D vwCl y_Sp_refer w_Sp_refer (fy_rm 0) 0 0 [.ref sp, .int (nI a), .int (nI f), .int v] [(sp, .inr (4, [.ref rw, .int wd, .int ob])), (rw, .inl (cI, 240, .inl row))] (fun r w1 => r = none ∧ w1 = [(sp, .inr (4, [.ref rw, .int wd, .int ob])), (rw, .inl (cI, 240, .inl (upd row (a + 3 + f) v)))]) := by
  refine fy_st (bytes := b_Sp_refer) (maxL := 4) (ret := none) hG (by decide) rfl (Nat.le_of_ble_eq_true rfl) ?_
  intro p e s m below meth c A ls hx hb hr hlocks hml hown hts hK hLa hAe hAB hA hl hP hD hS
  have hl : lv_has ls 4 [(0, .ref sp), (1, .int (nI a)), (2, .int (nI f)), (3, .int v)] := hl
  refine lv_aload_n hx hb d_Sp_refer_0 rfl (lv_at hl 0 rfl) ?_
  refine va_get (D := D) (ci := 4) (v := .ref rw) (C := R_Sp) (T := F_Sp) (N := 3) hx hb hts i_Sp hown hK hP 0 rfl rfl 0 (by decide) (hts _ k_f_Sp_11) (fun _ h9 => h9) rfl d_Sp_refer_1 ?_
  refine lv_iload_n hx hb d_Sp_refer_4 rfl (lv_at hl 1 rfl) ?_
  refine lv_iconst (v := nI 3) hx hb d_Sp_refer_5 (by decide) ?_
  refine lv_iadd hx hb d_Sp_refer_6 ?_
  refine fy_top (z := nI (a + 3)) (nI_add _ _) ?_
  refine lv_iload_n hx hb d_Sp_refer_7 rfl (lv_at hl 2 rfl) ?_
  refine lv_iadd hx hb d_Sp_refer_8 ?_
  refine fy_top (z := nI ((a + 3) + f)) (nI_add _ _) ?_
  refine lv_iload_n hx hb d_Sp_refer_9 rfl (lv_at hl 3 rfl) ?_
  refine fy_iast (t0 := 0) (g := upd row ((a + 3) + f) v) hx hb hK hP hD hS 1 rfl rfl (by omega) (by omega) (rfl) d_Sp_refer_10 (fun H locs hP hD hS => ?_)
  have hP : va_P D vwCl [(sp, .inr (4, [.ref rw, .int wd, .int ob])), (rw, .inl (cI, 240, .inl (upd row ((a + 3) + f) v)))] H := hP
  have hD : va_D A [(sp, .inr (4, [.ref rw, .int wd, .int ob])), (rw, .inl (cI, 240, .inl (upd row ((a + 3) + f) v)))] := hD
  exact fy_retv hx hb hr hlocks hAe (⟨rfl, rfl⟩) (List.Perm.refl _) hP hS d_Sp_refer_11
set_option maxRecDepth 20000 in
set_option maxHeartbeats 4000000 in
theorem c_Sp_makeEmpty (l : Launch) (s0 : State) (D : va_G) (cI cZ cJ cW : ClassId) (hG : fy_G s0 D cI cZ cJ cW) (sp rw : Nat) (row : Nat → Int32) (wd ob : Int32)  : fy_Met l s0 D vwCl y_Sp_makeEmpty w_Sp_makeEmpty (fy_rm 0) 0 0 [.ref sp] [(sp, .inr (4, [.ref rw, .int wd, .int ob])), (rw, .inl (cI, 240, .inl row))] (fun r w1 => r = none ∧ w1 = [(sp, .inr (4, [.ref rw, .int (nI 0), .int (nI 0)])), (rw, .inl (cI, 240, .inl row))]) := by
  refine fy_st (bytes := b_Sp_makeEmpty) (maxL := 1) (ret := none) hG (by decide) rfl (Nat.le_of_ble_eq_true rfl) ?_
  intro p e s m below meth c A ls hx hb hr hlocks hml hown hts hK hLa hAe hAB hA hl hP hD hS
  have hl : lv_has ls 1 [(0, .ref sp)] := hl
  refine lv_aload_n hx hb d_Sp_makeEmpty_0 rfl (lv_at hl 0 rfl) ?_
  refine lv_iconst (v := nI 0) hx hb d_Sp_makeEmpty_1 (by decide) ?_
  refine va_put (D := D) (ci := 4) (v := .int (nI 0)) (ty := .int) (C := R_Sp) (T := F_Sp) (N := 3) hx hb hts i_Sp t_Sp tk_Sp n_Sp hown hK hP hD hS 0 rfl rfl 1 (by decide) (hts _ k_f_Sp_15) (fun _ h9 => h9) rfl (by decide +kernel) rfl rfl (Nat.le_of_ble_eq_true rfl) d_Sp_makeEmpty_2 (fun H locs hP hD hS => ?_)
  have hP : va_P D vwCl [(sp, .inr (4, [.ref rw, .int (nI 0), .int ob])), (rw, .inl (cI, 240, .inl row))] H := hP
  have hD : va_D A [(sp, .inr (4, [.ref rw, .int (nI 0), .int ob])), (rw, .inl (cI, 240, .inl row))] := hD
  refine lv_aload_n hx hb d_Sp_makeEmpty_5 rfl (lv_at hl 0 rfl) ?_
  refine lv_iconst (v := nI 0) hx hb d_Sp_makeEmpty_6 (by decide) ?_
  refine va_put (D := D) (ci := 4) (v := .int (nI 0)) (ty := .int) (C := R_Sp) (T := F_Sp) (N := 3) hx hb hts i_Sp t_Sp tk_Sp n_Sp hown hK hP hD hS 0 rfl rfl 2 (by decide) (hts _ k_f_Sp_19) (fun _ h9 => h9) rfl (by decide +kernel) rfl rfl (Nat.le_of_ble_eq_true rfl) d_Sp_makeEmpty_7 (fun H locs hP hD hS => ?_)
  have hP : va_P D vwCl [(sp, .inr (4, [.ref rw, .int (nI 0), .int (nI 0)])), (rw, .inl (cI, 240, .inl row))] H := hP
  have hD : va_D A [(sp, .inr (4, [.ref rw, .int (nI 0), .int (nI 0)])), (rw, .inl (cI, 240, .inl row))] := hD
  exact fy_retv hx hb hr hlocks hAe (⟨rfl, rfl⟩) (List.Perm.refl _) hP hS d_Sp_makeEmpty_10
set_option maxRecDepth 20000 in
set_option maxHeartbeats 4000000 in
theorem c_Sp_hasRoomFor (l : Launch) (s0 : State) (D : va_G) (cI cZ cJ cW : ClassId) (hG : fy_G s0 D cI cZ cJ cW) (sp rw : Nat) (row : Nat → Int32) (wd k : Nat) (ob : Int32) (hw : wd ≤ 240) (hk : k ≤ 4) : fy_Met l s0 D vwCl y_Sp_hasRoomFor w_Sp_hasRoomFor (fy_rm 0) 0 0 [.ref sp, .int (nI k)] [(sp, .inr (4, [.ref rw, .int (nI wd), .int ob])), (rw, .inl (cI, 240, .inl row))] (fun r w1 => r = some (.int (if wd + 3 + k ≤ 240 then 1 else 0)) ∧ w1 = [(sp, .inr (4, [.ref rw, .int (nI wd), .int ob])), (rw, .inl (cI, 240, .inl row))]) := by
  refine fy_st (bytes := b_Sp_hasRoomFor) (maxL := 2) (ret := some .boolean) hG (by decide) rfl (Nat.le_of_ble_eq_true rfl) ?_
  intro p e s m below meth c A ls hx hb hr hlocks hml hown hts hK hLa hAe hAB hA hl hP hD hS
  have hl : lv_has ls 2 [(0, .ref sp), (1, .int (nI k))] := hl
  refine lv_aload_n hx hb d_Sp_hasRoomFor_0 rfl (lv_at hl 0 rfl) ?_
  refine va_get (D := D) (ci := 4) (v := .int (nI wd)) (C := R_Sp) (T := F_Sp) (N := 3) hx hb hts i_Sp hown hK hP 0 rfl rfl 1 (by decide) (hts _ k_f_Sp_15) (fun _ h9 => h9) rfl d_Sp_hasRoomFor_1 ?_
  refine lv_iconst (v := nI 3) hx hb d_Sp_hasRoomFor_4 (by decide) ?_
  refine lv_iadd hx hb d_Sp_hasRoomFor_5 ?_
  refine fy_top (z := nI (wd + 3)) (nI_add _ _) ?_
  refine lv_iload_n hx hb d_Sp_hasRoomFor_6 rfl (lv_at hl 1 rfl) ?_
  refine lv_iadd hx hb d_Sp_hasRoomFor_7 ?_
  refine fy_top (z := nI ((wd + 3) + k)) (nI_add _ _) ?_
  refine lv_sipush (v := nI 240) hx hb d_Sp_hasRoomFor_8 (by decide) ?_
  refine lv_icmp_gt hx hb d_Sp_hasRoomFor_11 (tgt := 18) (by decide) (fun hc => ?_) (fun hc => ?_)
  · have hc : ¬ wd + 3 + k ≤ 240 := by have := (nI_ltI (by omega) (by omega)).mp hc; omega
    refine lv_iconst (v := nI 0) hx hb d_Sp_hasRoomFor_18 (by decide) ?_
    refine fy_top (z := if wd + 3 + k ≤ 240 then 1 else 0) (by rw [if_neg hc]; rfl) ?_
    exact fy_retz hx hb hr hlocks hAe (by rw [if_neg hc]; exact Or.inl rfl) (⟨rfl, rfl⟩) (List.Perm.refl _) hP hS d_Sp_hasRoomFor_19
  · have hc : wd + 3 + k ≤ 240 := by have := mt (nI_ltI (a := 240) (b := wd + 3 + k) (by omega) (by omega)).mpr hc; omega
    refine lv_iconst (v := nI 1) hx hb d_Sp_hasRoomFor_14 (by decide) ?_
    refine lv_goto hx hb d_Sp_hasRoomFor_15 (tgt := 19) (by decide) ?_
    refine fy_top (z := if wd + 3 + k ≤ 240 then 1 else 0) (by rw [if_pos hc]; rfl) ?_
    exact fy_retz hx hb hr hlocks hAe (by rw [if_pos hc]; exact Or.inr rfl) (⟨rfl, rfl⟩) (List.Perm.refl _) hP hS d_Sp_hasRoomFor_19
