set_option maxRecDepth 20000 in
set_option maxHeartbeats 4000000 in
theorem c_Cr_begin (l : Launch) (s0 : State) (D : va_G) (cI cZ cJ cW : ClassId) (hG : fy_G s0 D cI cZ cJ cW) (cr wk fw : Nat) (F : Nat → Int32) (wn tu st a b : Int32) : fy_Met l s0 D vwCl y_Cr_begin w_Cr_begin (fy_rm 1) 0 0 [.ref cr, .int a, .int b] [(cr, .inr (1, [.ref wk, .ref fw, .int wn, .int tu, .int st])), (fw, .inl (cI, 240, .inl F))] (fun r w1 => r = none ∧ ∃ F2 : Nat → Int32, (∀ p, p < 240 → F2 p = -1) ∧ w1 = [(cr, .inr (1, [.ref wk, .ref fw, .int a, .int b, .int (nI 0)])), (fw, .inl (cI, 240, .inl F2))]) := by
  refine fy_st (bytes := b_Cr_begin) (maxL := 3) (ret := none) hG (by decide) rfl (Nat.le_of_ble_eq_true rfl) ?_
  intro p e s m below meth c A ls hx hb hr hlocks hml hown hts hK hLa hAe hAB hA hl hP hD hS
  have hl : lv_has ls 3 [(0, .ref cr), (1, .int a), (2, .int b)] := hl
  refine lv_aload_n hx hb d_Cr_begin_0 rfl (lv_at hl 0 rfl) ?_
  refine lv_iload_n hx hb d_Cr_begin_1 rfl (lv_at hl 1 rfl) ?_
  refine va_put (D := D) (ci := 1) (v := .int a) (ty := .int) (C := R_Cr) (T := F_Cr) (N := 5) hx hb hts i_Cr t_Cr tk_Cr n_Cr hown hK hP hD hS 0 rfl rfl 2 (by decide) (hts _ k_f_Cr_21) (fun _ h9 => h9) rfl (by decide +kernel) rfl rfl (Nat.le_of_ble_eq_true rfl) d_Cr_begin_2 (fun H locs hP hD hS => ?_)
  have hP : va_P D vwCl [(cr, .inr (1, [.ref wk, .ref fw, .int a, .int tu, .int st])), (fw, .inl (cI, 240, .inl F))] H := hP
  have hD : va_D A [(cr, .inr (1, [.ref wk, .ref fw, .int a, .int tu, .int st])), (fw, .inl (cI, 240, .inl F))] := hD
  refine lv_aload_n hx hb d_Cr_begin_5 rfl (lv_at hl 0 rfl) ?_
  refine lv_iload_n hx hb d_Cr_begin_6 rfl (lv_at hl 2 rfl) ?_
  refine va_put (D := D) (ci := 1) (v := .int b) (ty := .int) (C := R_Cr) (T := F_Cr) (N := 5) hx hb hts i_Cr t_Cr tk_Cr n_Cr hown hK hP hD hS 0 rfl rfl 3 (by decide) (hts _ k_f_Cr_26) (fun _ h9 => h9) rfl (by decide +kernel) rfl rfl (Nat.le_of_ble_eq_true rfl) d_Cr_begin_7 (fun H locs hP hD hS => ?_)
  have hP : va_P D vwCl [(cr, .inr (1, [.ref wk, .ref fw, .int a, .int b, .int st])), (fw, .inl (cI, 240, .inl F))] H := hP
  have hD : va_D A [(cr, .inr (1, [.ref wk, .ref fw, .int a, .int b, .int st])), (fw, .inl (cI, 240, .inl F))] := hD
  refine lv_aload_n hx hb d_Cr_begin_10 rfl (lv_at hl 0 rfl) ?_
  refine lv_iconst (v := nI 0) hx hb d_Cr_begin_11 (by decide) ?_
  refine va_put (D := D) (ci := 1) (v := .int (nI 0)) (ty := .int) (C := R_Cr) (T := F_Cr) (N := 5) hx hb hts i_Cr t_Cr tk_Cr n_Cr hown hK hP hD hS 0 rfl rfl 4 (by decide) (hts _ k_f_Cr_29) (fun _ h9 => h9) rfl (by decide +kernel) rfl rfl (Nat.le_of_ble_eq_true rfl) d_Cr_begin_12 (fun H locs hP hD hS => ?_)
  have hP : va_P D vwCl [(cr, .inr (1, [.ref wk, .ref fw, .int a, .int b, .int (nI 0)])), (fw, .inl (cI, 240, .inl F))] H := hP
  have hD : va_D A [(cr, .inr (1, [.ref wk, .ref fw, .int a, .int b, .int (nI 0)])), (fw, .inl (cI, 240, .inl F))] := hD
  refine lv_aload_n hx hb d_Cr_begin_15 rfl (lv_at hl 0 rfl) ?_
  refine va_get (D := D) (ci := 1) (v := .ref fw) (C := R_Cr) (T := F_Cr) (N := 5) hx hb hts i_Cr hown hK hP 0 rfl rfl 1 (by decide) (hts _ k_f_Cr_17) (fun _ h9 => h9) rfl d_Cr_begin_16 ?_
  refine lv_iconst (v := -1) hx hb d_Cr_begin_19 (by decide) ?_
  refine fy_callS (As := [.ref fw, .int (-1)]) (rest := []) ⟨hx, hb, hml, hown, hts⟩ (c_fill l s0 D cI cZ cJ cW hG fw 240 F (-1) (by omega)) (va_cwS 2 hts g_Cr_32 rfl rfl rfl (by decide +kernel) ⟨Nat.le_of_ble_eq_true rfl, Nat.le_of_ble_eq_true rfl⟩) hLa hAB hA hP hD hS [1] rfl rfl rfl hl.1 rfl (Nat.le_of_ble_eq_true rfl) d_Cr_begin_20 ⟨Nat.zero_le _, Nat.zero_le _⟩ (fun r w1 H locs hp hP hD hS => ?_)
  obtain ⟨rfl, F2, hF2, rfl⟩ := hp
  have hP : va_P D vwCl [(cr, .inr (1, [.ref wk, .ref fw, .int a, .int b, .int (nI 0)])), (fw, .inl (cI, 240, .inl F2))] H := hP
  have hD : va_D A [(cr, .inr (1, [.ref wk, .ref fw, .int a, .int b, .int (nI 0)])), (fw, .inl (cI, 240, .inl F2))] := hD
  exact fy_retv hx hb hr hlocks hAe (⟨rfl, F2, hF2, rfl⟩) (List.Perm.refl _) hP hS d_Cr_begin_23
set_option maxRecDepth 20000 in
set_option maxHeartbeats 4000000 in
theorem c_Cr_whoseTurn (l : Launch) (s0 : State) (D : va_G) (cI cZ cJ cW : ClassId) (hG : fy_G s0 D cI cZ cJ cW) (cr wk fw wn st : Nat) (tu : Int32) (h1 : 0 < wn) (h2 : wn ≤ 4) (hst : st < 2 ^ 20) : fy_Met l s0 D vwCl y_Cr_whoseTurn w_Cr_whoseTurn (fy_rm 0) 0 0 [.ref cr] [(cr, .inr (1, [.ref wk, .ref fw, .int (nI wn), .int tu, .int (nI st)]))] (fun r w1 => ∃ t, t < wn ∧ r = some (.int (nI t)) ∧ w1 = [(cr, .inr (1, [.ref wk, .ref fw, .int (nI wn), .int tu, .int (nI (st + 1))]))]) := by
  refine fy_st (bytes := b_Cr_whoseTurn) (maxL := 3) (ret := some .int) hG (by decide) rfl (Nat.le_of_ble_eq_true rfl) ?_
  intro p e s m below meth c A ls hx hb hr hlocks hml hown hts hK hLa hAe hAB hA hl hP hD hS
  have hl : lv_has ls 3 [(0, .ref cr)] := hl
  refine lv_aload_n hx hb d_Cr_whoseTurn_0 rfl (lv_at hl 0 rfl) ?_
  refine va_get (D := D) (ci := 1) (v := .int tu) (C := R_Cr) (T := F_Cr) (N := 5) hx hb hts i_Cr hown hK hP 0 rfl rfl 3 (by decide) (hts _ k_f_Cr_26) (fun _ h9 => h9) rfl d_Cr_whoseTurn_1 ?_
  refine lv_iconst (v := nI 2) hx hb d_Cr_whoseTurn_4 (by decide) ?_
  refine lv_aload_n hx hb d_Cr_whoseTurn_5 rfl (lv_at hl 0 rfl) ?_
  refine va_get (D := D) (ci := 1) (v := .int (nI st)) (C := R_Cr) (T := F_Cr) (N := 5) hx hb hts i_Cr hown hK hP 0 rfl rfl 4 (by decide) (hts _ k_f_Cr_29) (fun _ h9 => h9) rfl d_Cr_whoseTurn_6 ?_
  refine lv_imul hx hb d_Cr_whoseTurn_9 ?_
  refine fy_top (z := nI (2 * st)) (pk_mul _ _) ?_
  refine lv_iushr (v := (tu.toUInt32 >>> ((nI (2 * st)).toUInt32 &&& Int32.toUInt32 31)).toInt32) hx hb d_Cr_whoseTurn_10 (rfl) ?_
  refine lv_iconst (v := nI 3) hx hb d_Cr_whoseTurn_11 (by decide) ?_
  obtain ⟨z, hz, ez⟩ := pk_andE (m := nI 3) (tu.toUInt32 >>> ((nI (2 * st)).toUInt32 &&& Int32.toUInt32 31)).toInt32 2 (by decide)
  refine lv_iand hx hb d_Cr_whoseTurn_12 ?_
  refine fy_top (z := nI z) (ez) ?_
  refine lv_istore_n hx hb d_Cr_whoseTurn_13 rfl hl (by decide) rfl (fun ls hl => ?_)
  have hl : lv_has ls 3 [(1, .int (nI z)), (0, .ref cr)] := hl
  refine lv_aload_n hx hb d_Cr_whoseTurn_14 rfl (lv_at hl 1 rfl) ?_
  refine va_get (D := D) (ci := 1) (v := .int (nI st)) (C := R_Cr) (T := F_Cr) (N := 5) hx hb hts i_Cr hown hK hP 0 rfl rfl 4 (by decide) (hts _ k_f_Cr_29) (fun _ h9 => h9) rfl d_Cr_whoseTurn_15 ?_
  refine lv_iload_n hx hb d_Cr_whoseTurn_18 rfl (lv_at hl 0 rfl) ?_
  refine lv_iadd hx hb d_Cr_whoseTurn_19 ?_
  refine fy_top (z := nI (st + z)) (nI_add _ _) ?_
  refine lv_aload_n hx hb d_Cr_whoseTurn_20 rfl (lv_at hl 1 rfl) ?_
  refine va_get (D := D) (ci := 1) (v := .int (nI wn)) (C := R_Cr) (T := F_Cr) (N := 5) hx hb hts i_Cr hown hK hP 0 rfl rfl 2 (by decide) (hts _ k_f_Cr_21) (fun _ h9 => h9) rfl d_Cr_whoseTurn_21 ?_
  refine lv_irem hx hb d_Cr_whoseTurn_24 (nI_ne0 (by omega) (by omega)) ?_
  refine fy_top (z := nI ((st + z) % wn)) (pk_rem (by omega) (by omega) (by omega)) ?_
  refine lv_istore_n hx hb d_Cr_whoseTurn_25 rfl hl (by decide) rfl (fun ls hl => ?_)
  have hl : lv_has ls 3 [(2, .int (nI ((st + z) % wn))), (1, .int (nI z)), (0, .ref cr)] := hl
  refine lv_aload_n hx hb d_Cr_whoseTurn_26 rfl (lv_at hl 2 rfl) ?_
  refine lv_dup hx hb d_Cr_whoseTurn_27 rfl ?_
  refine va_get (D := D) (ci := 1) (v := .int (nI st)) (C := R_Cr) (T := F_Cr) (N := 5) hx hb hts i_Cr hown hK hP 0 rfl rfl 4 (by decide) (hts _ k_f_Cr_29) (fun _ h9 => h9) rfl d_Cr_whoseTurn_28 ?_
  refine lv_iconst (v := nI 1) hx hb d_Cr_whoseTurn_31 (by decide) ?_
  refine lv_iadd hx hb d_Cr_whoseTurn_32 ?_
  refine fy_top (z := nI (st + 1)) (nI_add _ _) ?_
  refine va_put (D := D) (ci := 1) (v := .int (nI (st + 1))) (ty := .int) (C := R_Cr) (T := F_Cr) (N := 5) hx hb hts i_Cr t_Cr tk_Cr n_Cr hown hK hP hD hS 0 rfl rfl 4 (by decide) (hts _ k_f_Cr_29) (fun _ h9 => h9) rfl (by decide +kernel) rfl rfl (Nat.le_of_ble_eq_true rfl) d_Cr_whoseTurn_33 (fun H locs hP hD hS => ?_)
  have hP : va_P D vwCl [(cr, .inr (1, [.ref wk, .ref fw, .int (nI wn), .int tu, .int (nI (st + 1))]))] H := hP
  have hD : va_D A [(cr, .inr (1, [.ref wk, .ref fw, .int (nI wn), .int tu, .int (nI (st + 1))]))] := hD
  refine lv_iload_n hx hb d_Cr_whoseTurn_36 rfl (lv_at hl 0 rfl) ?_
  exact fy_reti hx hb hr hlocks hAe (⟨(st + z) % wn, Nat.mod_lt _ h1, rfl, rfl⟩) (List.Perm.refl _) hP hS d_Cr_whoseTurn_37
set_option maxRecDepth 20000 in
set_option maxHeartbeats 4000000 in
theorem c_Cr_bring0 (l : Launch) (s0 : State) (D : va_G) (cI cZ cJ cW : ClassId) (hG : fy_G s0 D cI cZ cJ cW) (cr wk fw wo pi sp rw fr fq : Nat) (wn tu st wf of : Int32) (F pf row rfr : Nat → Int32) (h w ob : Nat) : fy_Met l s0 D vwCl y_Cr_bring w_Cr_bring (fy_rm 2) 0 0 [.ref cr, .ref wo, .ref fr, .ref sp, .int (-1)] [(cr, .inr (1, [.ref wk, .ref fw, .int wn, .int tu, .int st])), (fw, .inl (cI, 240, .inl F)), (wo, .inr (3, [.ref pi, .int (nI h)])), (pi, .inl (cI, 80, .inl pf)), (sp, .inr (4, [.ref rw, .int (nI w), .int (nI ob)])), (rw, .inl (cI, 240, .inl row)), (fr, .inr (4, [.ref fq, .int wf, .int of])), (fq, .inl (cI, 240, .inl rfr))] (fun r w1 => r = some (.int (-1)) ∧ w1 = [(cr, .inr (1, [.ref wk, .ref fw, .int wn, .int tu, .int st])), (fw, .inl (cI, 240, .inl F)), (wo, .inr (3, [.ref pi, .int (nI h)])), (pi, .inl (cI, 80, .inl pf)), (sp, .inr (4, [.ref rw, .int (nI w), .int (nI ob)])), (rw, .inl (cI, 240, .inl row)), (fr, .inr (4, [.ref fq, .int wf, .int of])), (fq, .inl (cI, 240, .inl rfr))]) := by
  refine fy_st (bytes := b_Cr_bring) (maxL := 5) (ret := some .int) hG (by decide) rfl (Nat.le_of_ble_eq_true rfl) ?_
  intro p e s m below meth c A ls hx hb hr hlocks hml hown hts hK hLa hAe hAB hA hl hP hD hS
  have hl : lv_has ls 5 [(0, .ref cr), (1, .ref wo), (2, .ref fr), (3, .ref sp), (4, .int (-1))] := hl
  refine lv_iload hx hb d_Cr_bring_0 (lv_at hl 4 rfl) ?_
  refine lv_iconst (v := -1) hx hb d_Cr_bring_2 (by decide) ?_
  refine lv_icmp_ne hx hb d_Cr_bring_3 (tgt := 8) (by decide) (fun h => absurd (rfl) h) (fun _ => ?_)
  refine lv_iconst (v := -1) hx hb d_Cr_bring_6 (by decide) ?_
  exact fy_reti hx hb hr hlocks hAe (⟨rfl, rfl⟩) (List.Perm.refl _) hP hS d_Cr_bring_7
set_option maxRecDepth 20000 in
set_option maxHeartbeats 4000000 in
theorem c_Cr_bring1 (l : Launch) (s0 : State) (D : va_G) (cI cZ cJ cW : ClassId) (hG : fy_G s0 D cI cZ cJ cW) (cr wk fw wo pi sp rw fr fq : Nat) (wn tu st wf of : Int32) (F pf row rfr : Nat → Int32) (h w ob a q : Nat) (ha : a < 240) (hq : q < 2 ^ 31) (hF : F a = nI q) : fy_Met l s0 D vwCl y_Cr_bring w_Cr_bring (fy_rm 2) 0 0 [.ref cr, .ref wo, .ref fr, .ref sp, .int (nI a)] [(cr, .inr (1, [.ref wk, .ref fw, .int wn, .int tu, .int st])), (fw, .inl (cI, 240, .inl F)), (wo, .inr (3, [.ref pi, .int (nI h)])), (pi, .inl (cI, 80, .inl pf)), (sp, .inr (4, [.ref rw, .int (nI w), .int (nI ob)])), (rw, .inl (cI, 240, .inl row)), (fr, .inr (4, [.ref fq, .int wf, .int of])), (fq, .inl (cI, 240, .inl rfr))] (fun r w1 => r = some (.int (nI q)) ∧ w1 = [(cr, .inr (1, [.ref wk, .ref fw, .int wn, .int tu, .int st])), (fw, .inl (cI, 240, .inl F)), (wo, .inr (3, [.ref pi, .int (nI h)])), (pi, .inl (cI, 80, .inl pf)), (sp, .inr (4, [.ref rw, .int (nI w), .int (nI ob)])), (rw, .inl (cI, 240, .inl row)), (fr, .inr (4, [.ref fq, .int wf, .int of])), (fq, .inl (cI, 240, .inl rfr))]) := by
  refine fy_st (bytes := b_Cr_bring) (maxL := 5) (ret := some .int) hG (by decide) rfl (Nat.le_of_ble_eq_true rfl) ?_
  intro p e s m below meth c A ls hx hb hr hlocks hml hown hts hK hLa hAe hAB hA hl hP hD hS
  have hl : lv_has ls 5 [(0, .ref cr), (1, .ref wo), (2, .ref fr), (3, .ref sp), (4, .int (nI a))] := hl
  refine lv_iload hx hb d_Cr_bring_0 (lv_at hl 4 rfl) ?_
  refine lv_iconst (v := -1) hx hb d_Cr_bring_2 (by decide) ?_
  refine lv_icmp_ne hx hb d_Cr_bring_3 (tgt := 8) (by decide) (fun _ => ?_) (fun h => absurd h (fm_m1 (by omega)))
  refine lv_aload_n hx hb d_Cr_bring_8 rfl (lv_at hl 0 rfl) ?_
  refine va_get (D := D) (ci := 1) (v := .ref fw) (C := R_Cr) (T := F_Cr) (N := 5) hx hb hts i_Cr hown hK hP 0 rfl rfl 1 (by decide) (hts _ k_f_Cr_17) (fun _ h9 => h9) rfl d_Cr_bring_9 ?_
  refine lv_iload hx hb d_Cr_bring_12 (lv_at hl 4 rfl) ?_
  refine fy_iald (t0 := 0) (v := nI q) hx hb hK hP 1 rfl rfl (by omega) (by omega) (hF) d_Cr_bring_14 ?_
  refine lv_iconst (v := -1) hx hb d_Cr_bring_15 (by decide) ?_
  refine lv_icmp_ne hx hb d_Cr_bring_16 (tgt := 44) (by decide) (fun _ => ?_) (fun h => absurd h (fm_m1 hq))
  refine lv_aload_n hx hb d_Cr_bring_44 rfl (lv_at hl 0 rfl) ?_
  refine va_get (D := D) (ci := 1) (v := .ref fw) (C := R_Cr) (T := F_Cr) (N := 5) hx hb hts i_Cr hown hK hP 0 rfl rfl 1 (by decide) (hts _ k_f_Cr_17) (fun _ h9 => h9) rfl d_Cr_bring_45 ?_
  refine lv_iload hx hb d_Cr_bring_48 (lv_at hl 4 rfl) ?_
  refine fy_iald (t0 := 0) (v := nI q) hx hb hK hP 1 rfl rfl (by omega) (by omega) (hF) d_Cr_bring_50 ?_
  exact fy_reti hx hb hr hlocks hAe (⟨rfl, rfl⟩) (List.Perm.refl _) hP hS d_Cr_bring_51
set_option maxRecDepth 20000 in
set_option maxHeartbeats 4000000 in
theorem c_Cr_bring2 (l : Launch) (s0 : State) (D : va_G) (cI cZ cJ cW : ClassId) (hG : fy_G s0 D cI cZ cJ cW) (cr wk fw wo pi sp rw fr fq : Nat) (wn tu st wf of : Int32) (F pf row rfr : Nat → Int32) (h w ob a g k : Nat) (hF : F a = -1) (hh : h < 80) (hk : k ≤ 4) (hw : w + 3 + k ≤ 240) (ho : a + 3 + k ≤ 240) (hg : 8 * g + k < 2 ^ 31) (hs : rfr (a + 2) = nI (8 * g + k)) : fy_Met l s0 D vwCl y_Cr_bring w_Cr_bring (fy_rm 2) 0 0 [.ref cr, .ref wo, .ref fr, .ref sp, .int (nI a)] [(cr, .inr (1, [.ref wk, .ref fw, .int wn, .int tu, .int st])), (fw, .inl (cI, 240, .inl F)), (wo, .inr (3, [.ref pi, .int (nI h)])), (pi, .inl (cI, 80, .inl pf)), (sp, .inr (4, [.ref rw, .int (nI w), .int (nI ob)])), (rw, .inl (cI, 240, .inl row)), (fr, .inr (4, [.ref fq, .int wf, .int of])), (fq, .inl (cI, 240, .inl rfr))] (fun r w1 => r = some (.int (nI w)) ∧ w1 = [(cr, .inr (1, [.ref wk, .ref fw, .int wn, .int tu, .int st])), (fw, .inl (cI, 240, .inl (upd F a (nI w)))), (wo, .inr (3, [.ref pi, .int (nI (h + 1))])), (pi, .inl (cI, 80, .inl (upd pf h (nI w)))), (sp, .inr (4, [.ref rw, .int (nI (w + (3 + k))), .int (nI (ob + 1))])), (rw, .inl (cI, 240, .inl (upd (va_cpy rfr row a w (3 + k)) (w + 2) (nI (8 * g + k + 8))))), (fr, .inr (4, [.ref fq, .int wf, .int of])), (fq, .inl (cI, 240, .inl rfr))]) := by
  refine fy_st (bytes := b_Cr_bring) (maxL := 5) (ret := some .int) hG (by decide) rfl (Nat.le_of_ble_eq_true rfl) ?_
  intro p e s m below meth c A ls hx hb hr hlocks hml hown hts hK hLa hAe hAB hA hl hP hD hS
  have hl : lv_has ls 5 [(0, .ref cr), (1, .ref wo), (2, .ref fr), (3, .ref sp), (4, .int (nI a))] := hl
  refine lv_iload hx hb d_Cr_bring_0 (lv_at hl 4 rfl) ?_
  refine lv_iconst (v := -1) hx hb d_Cr_bring_2 (by decide) ?_
  refine lv_icmp_ne hx hb d_Cr_bring_3 (tgt := 8) (by decide) (fun _ => ?_) (fun h => absurd h (fm_m1 (by omega)))
  refine lv_aload_n hx hb d_Cr_bring_8 rfl (lv_at hl 0 rfl) ?_
  refine va_get (D := D) (ci := 1) (v := .ref fw) (C := R_Cr) (T := F_Cr) (N := 5) hx hb hts i_Cr hown hK hP 0 rfl rfl 1 (by decide) (hts _ k_f_Cr_17) (fun _ h9 => h9) rfl d_Cr_bring_9 ?_
  refine lv_iload hx hb d_Cr_bring_12 (lv_at hl 4 rfl) ?_
  refine fy_iald (t0 := 0) (v := -1) hx hb hK hP 1 rfl rfl (by omega) (by omega) (hF) d_Cr_bring_14 ?_
  refine lv_iconst (v := -1) hx hb d_Cr_bring_15 (by decide) ?_
  refine lv_icmp_ne hx hb d_Cr_bring_16 (tgt := 44) (by decide) (fun h => absurd (rfl) h) (fun _ => ?_)
  refine lv_aload_n hx hb d_Cr_bring_19 rfl (lv_at hl 0 rfl) ?_
  refine va_get (D := D) (ci := 1) (v := .ref fw) (C := R_Cr) (T := F_Cr) (N := 5) hx hb hts i_Cr hown hK hP 0 rfl rfl 1 (by decide) (hts _ k_f_Cr_17) (fun _ h9 => h9) rfl d_Cr_bring_20 ?_
  refine lv_iload hx hb d_Cr_bring_23 (lv_at hl 4 rfl) ?_
  refine lv_aload_n hx hb d_Cr_bring_25 rfl (lv_at hl 3 rfl) ?_
  refine lv_aload_n hx hb d_Cr_bring_26 rfl (lv_at hl 2 rfl) ?_
  refine lv_iload hx hb d_Cr_bring_27 (lv_at hl 4 rfl) ?_
  refine fy_callV (As := [.ref fr, .int (nI a)]) (rest := [.int (nI a), .ref fw]) ⟨hx, hb, hml, hown, hts⟩ (c_Sp_takeOver l s0 D cI cZ cJ cW hG sp rw fr fq row rfr w ob a g k wf of hk hw ho hg hs) (cwV 2 hts g_Cr_73 rfl rfl rfl (by decide +kernel) ⟨Nat.le_of_ble_eq_true rfl, Nat.le_of_ble_eq_true rfl⟩) hK hLa hAB hA hP hD hS [4, 5, 6, 7] rfl rfl (ci := 4) rfl rfl (q0 := 4) rfl rfl hl.1 rfl (Nat.le_of_ble_eq_true rfl) d_Cr_bring_29 ⟨Nat.zero_le _, Nat.zero_le _⟩ (fun r w1 H locs hp hP hD hS => ?_)
  obtain ⟨rfl, rfl⟩ := hp
  have hP : va_P D vwCl [(cr, .inr (1, [.ref wk, .ref fw, .int wn, .int tu, .int st])), (fw, .inl (cI, 240, .inl F)), (wo, .inr (3, [.ref pi, .int (nI h)])), (pi, .inl (cI, 80, .inl pf)), (sp, .inr (4, [.ref rw, .int (nI (w + (3 + k))), .int (nI (ob + 1))])), (rw, .inl (cI, 240, .inl (upd (va_cpy rfr row a w (3 + k)) (w + 2) (nI (8 * g + k + 8))))), (fr, .inr (4, [.ref fq, .int wf, .int of])), (fq, .inl (cI, 240, .inl rfr))] H := hP
  have hD : va_D A [(cr, .inr (1, [.ref wk, .ref fw, .int wn, .int tu, .int st])), (fw, .inl (cI, 240, .inl F)), (wo, .inr (3, [.ref pi, .int (nI h)])), (pi, .inl (cI, 80, .inl pf)), (sp, .inr (4, [.ref rw, .int (nI (w + (3 + k))), .int (nI (ob + 1))])), (rw, .inl (cI, 240, .inl (upd (va_cpy rfr row a w (3 + k)) (w + 2) (nI (8 * g + k + 8))))), (fr, .inr (4, [.ref fq, .int wf, .int of])), (fq, .inl (cI, 240, .inl rfr))] := hD
  refine fy_iast (t0 := 0) (g := upd F a (nI w)) hx hb hK hP hD hS 1 rfl rfl (by omega) (by omega) (rfl) d_Cr_bring_32 (fun H locs hP hD hS => ?_)
  have hP : va_P D vwCl [(cr, .inr (1, [.ref wk, .ref fw, .int wn, .int tu, .int st])), (fw, .inl (cI, 240, .inl (upd F a (nI w)))), (wo, .inr (3, [.ref pi, .int (nI h)])), (pi, .inl (cI, 80, .inl pf)), (sp, .inr (4, [.ref rw, .int (nI (w + (3 + k))), .int (nI (ob + 1))])), (rw, .inl (cI, 240, .inl (upd (va_cpy rfr row a w (3 + k)) (w + 2) (nI (8 * g + k + 8))))), (fr, .inr (4, [.ref fq, .int wf, .int of])), (fq, .inl (cI, 240, .inl rfr))] H := hP
  have hD : va_D A [(cr, .inr (1, [.ref wk, .ref fw, .int wn, .int tu, .int st])), (fw, .inl (cI, 240, .inl (upd F a (nI w)))), (wo, .inr (3, [.ref pi, .int (nI h)])), (pi, .inl (cI, 80, .inl pf)), (sp, .inr (4, [.ref rw, .int (nI (w + (3 + k))), .int (nI (ob + 1))])), (rw, .inl (cI, 240, .inl (upd (va_cpy rfr row a w (3 + k)) (w + 2) (nI (8 * g + k + 8))))), (fr, .inr (4, [.ref fq, .int wf, .int of])), (fq, .inl (cI, 240, .inl rfr))] := hD
  refine lv_aload_n hx hb d_Cr_bring_33 rfl (lv_at hl 1 rfl) ?_
  refine lv_aload_n hx hb d_Cr_bring_34 rfl (lv_at hl 0 rfl) ?_
  refine va_get (D := D) (ci := 1) (v := .ref fw) (C := R_Cr) (T := F_Cr) (N := 5) hx hb hts i_Cr hown hK hP 0 rfl rfl 1 (by decide) (hts _ k_f_Cr_17) (fun _ h9 => h9) rfl d_Cr_bring_35 ?_
  refine lv_iload hx hb d_Cr_bring_38 (lv_at hl 4 rfl) ?_
  refine fy_iald (t0 := 0) (v := nI w) hx hb hK hP 1 rfl rfl (by omega) (by omega) (fm_upd_self) d_Cr_bring_40 ?_
  refine fy_callV (As := [.int (nI w)]) (rest := []) ⟨hx, hb, hml, hown, hts⟩ (c_Wo_pileUp l s0 D cI cZ cJ cW hG wo pi h pf (nI w) hh) (cwV 1 hts g_Cr_77 rfl rfl rfl (by decide +kernel) ⟨Nat.le_of_ble_eq_true rfl, Nat.le_of_ble_eq_true rfl⟩) hK hLa hAB hA hP hD hS [2, 3] rfl rfl (ci := 3) rfl rfl (q0 := 2) rfl rfl hl.1 rfl (Nat.le_of_ble_eq_true rfl) d_Cr_bring_41 ⟨Nat.zero_le _, Nat.zero_le _⟩ (fun r w1 H locs hp hP hD hS => ?_)
  obtain ⟨rfl, rfl⟩ := hp
  have hP : va_P D vwCl [(cr, .inr (1, [.ref wk, .ref fw, .int wn, .int tu, .int st])), (fw, .inl (cI, 240, .inl (upd F a (nI w)))), (wo, .inr (3, [.ref pi, .int (nI (h + 1))])), (pi, .inl (cI, 80, .inl (upd pf h (nI w)))), (sp, .inr (4, [.ref rw, .int (nI (w + (3 + k))), .int (nI (ob + 1))])), (rw, .inl (cI, 240, .inl (upd (va_cpy rfr row a w (3 + k)) (w + 2) (nI (8 * g + k + 8))))), (fr, .inr (4, [.ref fq, .int wf, .int of])), (fq, .inl (cI, 240, .inl rfr))] H := hP
  have hD : va_D A [(cr, .inr (1, [.ref wk, .ref fw, .int wn, .int tu, .int st])), (fw, .inl (cI, 240, .inl (upd F a (nI w)))), (wo, .inr (3, [.ref pi, .int (nI (h + 1))])), (pi, .inl (cI, 80, .inl (upd pf h (nI w)))), (sp, .inr (4, [.ref rw, .int (nI (w + (3 + k))), .int (nI (ob + 1))])), (rw, .inl (cI, 240, .inl (upd (va_cpy rfr row a w (3 + k)) (w + 2) (nI (8 * g + k + 8))))), (fr, .inr (4, [.ref fq, .int wf, .int of])), (fq, .inl (cI, 240, .inl rfr))] := hD
  refine lv_aload_n hx hb d_Cr_bring_44 rfl (lv_at hl 0 rfl) ?_
  refine va_get (D := D) (ci := 1) (v := .ref fw) (C := R_Cr) (T := F_Cr) (N := 5) hx hb hts i_Cr hown hK hP 0 rfl rfl 1 (by decide) (hts _ k_f_Cr_17) (fun _ h9 => h9) rfl d_Cr_bring_45 ?_
  refine lv_iload hx hb d_Cr_bring_48 (lv_at hl 4 rfl) ?_
  refine fy_iald (t0 := 0) (v := nI w) hx hb hK hP 1 rfl rfl (by omega) (by omega) (fm_upd_self) d_Cr_bring_50 ?_
  exact fy_reti hx hb hr hlocks hAe (⟨rfl, rfl⟩) (List.Perm.refl _) hP hS d_Cr_bring_51
set_option maxHeartbeats 4000000 in
/-- bring: what o refers to is copied, if it isn't yet -/
theorem c_Cr_bring (l : Launch) (s0 : State) (D : va_G) (cI cZ cJ cW : ClassId) (hG : fy_G s0 D cI cZ cJ cW) (cr wk fw wo pi sp rw fr fq : Nat) (wn tu st wf of : Int32) (F pf row rfr : Nat → Int32) (L : List Nat) (val : Nat → Int32) (age nf : Nat → Nat) (rf : Nat → Nat → Option Nat) (pl : Nat → Nat) (Q P : List Nat) (Dn : Nat → Nat → Bool) (o : Option Nat) (hk : fm_Ok L val age nf rf pl rfr) (hQk : fm_K L val age nf rf pl Q Dn row F) (ho : ∀ n, o = some n → n ∈ L) (hPQ : ∀ x ∈ P, x ∈ Q) (hPl : P.length ≤ Q.length) (hPp : fm_P (fm_q nf Q) P pf) : fy_Met l s0 D vwCl y_Cr_bring w_Cr_bring (fy_rm 2) 0 0 [.ref cr, .ref wo, .ref fr, .ref sp, .int (fm_o (o.map pl))] [(cr, .inr (1, [.ref wk, .ref fw, .int wn, .int tu, .int st])), (fw, .inl (cI, 240, .inl F)), (wo, .inr (3, [.ref pi, .int (nI P.length)])), (pi, .inl (cI, 80, .inl pf)), (sp, .inr (4, [.ref rw, .int (nI (fm_w nf Q)), .int (nI Q.length)])), (rw, .inl (cI, 240, .inl row)), (fr, .inr (4, [.ref fq, .int wf, .int of])), (fq, .inl (cI, 240, .inl rfr))] (fun r w1 => r = some (.int (fm_o (o.map (fm_q nf (fm_add Q o))))) ∧ ∃ F2 pf2 row2 : Nat → Int32, fm_K L val age nf rf pl (fm_add Q o) Dn row2 F2 ∧ fm_P (fm_q nf (fm_add Q o)) (P ++ fm_new Q o) pf2 ∧ w1 = [(cr, .inr (1, [.ref wk, .ref fw, .int wn, .int tu, .int st])), (fw, .inl (cI, 240, .inl F2)), (wo, .inr (3, [.ref pi, .int (nI ((P ++ fm_new Q o).length))])), (pi, .inl (cI, 80, .inl pf2)), (sp, .inr (4, [.ref rw, .int (nI (fm_w nf (fm_add Q o))), .int (nI ((fm_add Q o).length))])), (rw, .inl (cI, 240, .inl row2)), (fr, .inr (4, [.ref fq, .int wf, .int of])), (fq, .inl (cI, 240, .inl rfr))]) := by
  cases o with
  | none =>
    rw [fm_add_none, show fm_new Q none = [] from rfl, List.append_nil]
    exact (c_Cr_bring0 l s0 D cI cZ cJ cW hG cr wk fw wo pi sp rw fr fq wn tu st wf of F pf row rfr P.length (fm_w nf Q) Q.length).weak (fun r w1 h => ⟨h.1, F, pf, row, hQk, hPp, h.2⟩)
  | some n =>
    have hn := ho n rfl
    obtain ⟨k1, k2, k3, k4, k5, k6, k7, k8⟩ := hk.at hn
    by_cases hnQ : n ∈ Q
    · rw [fm_add_in hnQ, show fm_new Q (some n) = [] by simp [fm_new, hnQ], List.append_nil]
      have hq := (hQk.at hk hnQ).1
      exact (c_Cr_bring1 l s0 D cI cZ cJ cW hG cr wk fw wo pi sp rw fr fq wn tu st wf of F pf row rfr P.length (fm_w nf Q) Q.length (pl n) (fm_q nf Q n) (by omega) (by omega) (by rw [hQk.2.2.2.1 n hn, if_pos hnQ])).weak (fun r w1 h => ⟨h.1, F, pf, row, hQk, hPp, h.2⟩)
    · have hnew := hQk.new hk hn hnQ
      have hw := hnew.w hk
      have e1 : fm_w nf (Q ++ [n]) = fm_w nf Q + (3 + nf n) := by rw [fm_w_app, fm_w_one, Nat.add_comm (nf n) 3]
      have hl := fm_full hQk.1 hQk.2.1 hn hnQ
      have hl2 := hk.len
      have hpp := (hPp.grow (X := [n]) hPQ).push (n := n)
      rw [fm_q_new hnQ] at hpp
      rw [fm_add_new hnQ, show fm_new Q (some n) = [n] by simp [fm_new, hnQ]]
      refine (c_Cr_bring2 l s0 D cI cZ cJ cW hG cr wk fw wo pi sp rw fr fq wn tu st wf of F pf row rfr P.length (fm_w nf Q) Q.length (pl n) (age n) (nf n) (by rw [hQk.2.2.2.1 n hn, if_neg hnQ]) (by omega) k6 (by omega) k1 (by omega) k4).weak (fun r w1 h => ⟨?_, _, _, _, hnew, hpp, ?_⟩)
      · rw [h.1]
        show _ = some (Value.int (nI (fm_q nf (Q ++ [n]) n)))
        rw [fm_q_new hnQ]
      · rw [e1, List.length_append, List.length_append]
        exact h.2
set_option maxRecDepth 20000 in
set_option maxHeartbeats 4000000 in
theorem c_Cr_bringFields (l : Launch) (s0 : State) (D : va_G) (cI cZ cJ cW : ClassId) (hG : fy_G s0 D cI cZ cJ cW) (cr wk fw wo pi sp rw fr fq : Nat) (wn tu st wf of : Int32) (F pf row rfr : Nat → Int32) (L : List Nat) (val : Nat → Int32) (age nf : Nat → Nat) (rf : Nat → Nat → Option Nat) (pl : Nat → Nat) (Q P : List Nat) (Dn : Nat → Nat → Bool) (n : Nat) (hk : fm_Ok L val age nf rf pl rfr) (hQk : fm_K L val age nf rf pl Q Dn row F) (hn : n ∈ Q) (hDn : ∀ g, Dn n g = false) (hPQ : ∀ x ∈ P, x ∈ Q) (hPl : P.length ≤ Q.length) (hPp : fm_P (fm_q nf Q) P pf) : fy_Met l s0 D vwCl y_Cr_bringFields w_Cr_bringFields (fy_rm 3) 0 0 [.ref cr, .ref wo, .ref fr, .ref sp, .int (nI (fm_q nf Q n))] [(cr, .inr (1, [.ref wk, .ref fw, .int wn, .int tu, .int st])), (fw, .inl (cI, 240, .inl F)), (wo, .inr (3, [.ref pi, .int (nI P.length)])), (pi, .inl (cI, 80, .inl pf)), (sp, .inr (4, [.ref rw, .int (nI (fm_w nf Q)), .int (nI Q.length)])), (rw, .inl (cI, 240, .inl row)), (fr, .inr (4, [.ref fq, .int wf, .int of])), (fq, .inl (cI, 240, .inl rfr))] (fun r w1 => r = none ∧ ∃ F2 pf2 row2 : Nat → Int32, fm_K L val age nf rf pl (fm_adds rf n Q (nf n)) (fun x g => Dn x g || x == n) row2 F2 ∧ fm_P (fm_q nf (fm_adds rf n Q (nf n))) (P ++ fm_aX rf n Q (nf n)) pf2 ∧ w1 = [(cr, .inr (1, [.ref wk, .ref fw, .int wn, .int tu, .int st])), (fw, .inl (cI, 240, .inl F2)), (wo, .inr (3, [.ref pi, .int (nI ((P ++ fm_aX rf n Q (nf n)).length))])), (pi, .inl (cI, 80, .inl pf2)), (sp, .inr (4, [.ref rw, .int (nI (fm_w nf (fm_adds rf n Q (nf n)))), .int (nI ((fm_adds rf n Q (nf n)).length))])), (rw, .inl (cI, 240, .inl row2)), (fr, .inr (4, [.ref fq, .int wf, .int of])), (fq, .inl (cI, 240, .inl rfr))]) := by
  refine fy_st (bytes := b_Cr_bringFields) (maxL := 6) (ret := none) hG (by decide) rfl (Nat.le_of_ble_eq_true rfl) ?_
  intro p e s m below meth c A ls hx hb hr hlocks hml hown hts hK hLa hAe hAB hA hl hP hD hS
  have hl : lv_has ls 6 [(0, .ref cr), (1, .ref wo), (2, .ref fr), (3, .ref sp), (4, .int (nI (fm_q nf Q n)))] := hl
  refine lv_iconst (v := nI 0) hx hb d_Cr_bringFields_0 (by decide) ?_
  refine lv_istore hx hb d_Cr_bringFields_1 hl (by decide) rfl (fun ls hl => ?_)
  have hl : lv_has ls 6 [(5, .int (nI 0)), (0, .ref cr), (1, .ref wo), (2, .ref fr), (3, .ref sp), (4, .int (nI (fm_q nf Q n)))] := hl
  have hnL := hQk.2.1 n hn
  have hP : va_P D vwCl [(cr, .inr (1, [.ref wk, .ref fw, .int wn, .int tu, .int st])), (fw, .inl (cI, 240, .inl F)), (wo, .inr (3, [.ref pi, .int (nI ((P ++ fm_aX rf n Q 0).length))])), (pi, .inl (cI, 80, .inl pf)), (sp, .inr (4, [.ref rw, .int (nI (fm_w nf (fm_adds rf n Q 0))), .int (nI ((fm_adds rf n Q 0).length))])), (rw, .inl (cI, 240, .inl row)), (fr, .inr (4, [.ref fq, .int wf, .int of])), (fq, .inl (cI, 240, .inl rfr))] s.heap := by rw [show fm_aX rf n Q 0 = [] from rfl, List.append_nil]; exact hP
  have hD : va_D A [(cr, .inr (1, [.ref wk, .ref fw, .int wn, .int tu, .int st])), (fw, .inl (cI, 240, .inl F)), (wo, .inr (3, [.ref pi, .int (nI ((P ++ fm_aX rf n Q 0).length))])), (pi, .inl (cI, 80, .inl pf)), (sp, .inr (4, [.ref rw, .int (nI (fm_w nf (fm_adds rf n Q 0))), .int (nI ((fm_adds rf n Q 0).length))])), (rw, .inl (cI, 240, .inl row)), (fr, .inr (4, [.ref fq, .int wf, .int of])), (fq, .inl (cI, 240, .inl rfr))] := by rw [show fm_aX rf n Q 0 = [] from rfl, List.append_nil]; exact hD
  refine fy_loop (σ := Nat × (Nat → Int32) × (Nat → Int32) × (Nat → Int32)) (fun mz zz ls H locs => match zz with | (f, F, pf, row) => mz = nf n - f ∧ (f ≤ nf n) ∧ (fm_K L val age nf rf pl (fm_adds rf n Q f) (fm_Df Dn n f) row F) ∧ (fm_P (fm_q nf (fm_adds rf n Q f)) (P ++ fm_aX rf n Q f) pf) ∧ lv_has ls 6 [(5, .int (nI f)), (0, .ref cr), (1, .ref wo), (2, .ref fr), (3, .ref sp), (4, .int (nI (fm_q nf Q n)))] ∧ va_P D vwCl [(cr, .inr (1, [.ref wk, .ref fw, .int wn, .int tu, .int st])), (fw, .inl (cI, 240, .inl F)), (wo, .inr (3, [.ref pi, .int (nI ((P ++ fm_aX rf n Q f).length))])), (pi, .inl (cI, 80, .inl pf)), (sp, .inr (4, [.ref rw, .int (nI (fm_w nf (fm_adds rf n Q f))), .int (nI ((fm_adds rf n Q f).length))])), (rw, .inl (cI, 240, .inl row)), (fr, .inr (4, [.ref fq, .int wf, .int of])), (fq, .inl (cI, 240, .inl rfr))] H ∧ va_D A [(cr, .inr (1, [.ref wk, .ref fw, .int wn, .int tu, .int st])), (fw, .inl (cI, 240, .inl F)), (wo, .inr (3, [.ref pi, .int (nI ((P ++ fm_aX rf n Q f).length))])), (pi, .inl (cI, 80, .inl pf)), (sp, .inr (4, [.ref rw, .int (nI (fm_w nf (fm_adds rf n Q f))), .int (nI ((fm_adds rf n Q f).length))])), (rw, .inl (cI, 240, .inl row)), (fr, .inr (4, [.ref fq, .int wf, .int of])), (fq, .inl (cI, 240, .inl rfr))] ∧ va_S A s.heap H locs) ?_ _ (0, F, pf, row) ⟨rfl, Nat.zero_le _, by rw [fm_Df_0]; exact hQk, by rw [show fm_aX rf n Q 0 = [] from rfl, List.append_nil]; exact hPp, hl, hP, hD, hS⟩
  rintro mz ⟨f, F, pf, row⟩ ls H locs ⟨hmz, hf, hQ2, hP2, hl, hP, hD, hS⟩ ih
  have hmz : mz = nf n - f := hmz
  have hf : f ≤ nf n := hf
  have hQ2 : fm_K L val age nf rf pl (fm_adds rf n Q f) (fm_Df Dn n f) row F := hQ2
  have hP2 : fm_P (fm_q nf (fm_adds rf n Q f)) (P ++ fm_aX rf n Q f) pf := hP2
  have hl : lv_has ls 6 [(5, .int (nI f)), (0, .ref cr), (1, .ref wo), (2, .ref fr), (3, .ref sp), (4, .int (nI (fm_q nf Q n)))] := hl
  have hP : va_P D vwCl [(cr, .inr (1, [.ref wk, .ref fw, .int wn, .int tu, .int st])), (fw, .inl (cI, 240, .inl F)), (wo, .inr (3, [.ref pi, .int (nI ((P ++ fm_aX rf n Q f).length))])), (pi, .inl (cI, 80, .inl pf)), (sp, .inr (4, [.ref rw, .int (nI (fm_w nf (fm_adds rf n Q f))), .int (nI ((fm_adds rf n Q f).length))])), (rw, .inl (cI, 240, .inl row)), (fr, .inr (4, [.ref fq, .int wf, .int of])), (fq, .inl (cI, 240, .inl rfr))] H := hP
  have hD : va_D A [(cr, .inr (1, [.ref wk, .ref fw, .int wn, .int tu, .int st])), (fw, .inl (cI, 240, .inl F)), (wo, .inr (3, [.ref pi, .int (nI ((P ++ fm_aX rf n Q f).length))])), (pi, .inl (cI, 80, .inl pf)), (sp, .inr (4, [.ref rw, .int (nI (fm_w nf (fm_adds rf n Q f))), .int (nI ((fm_adds rf n Q f).length))])), (rw, .inl (cI, 240, .inl row)), (fr, .inr (4, [.ref fq, .int wf, .int of])), (fq, .inl (cI, 240, .inl rfr))] := hD
  have hnq : n ∈ fm_adds rf n Q f := by rw [fm_aX_eq]; exact List.mem_append_left _ hn
  have hqq : fm_q nf (fm_adds rf n Q f) n = fm_q nf Q n := by rw [fm_aX_eq]; exact fm_q_app hn
  obtain ⟨a1, a2, a3, a4, a5⟩ := hQ2.at hk hnq
  rw [hqq] at a1 a2 a3
  refine lv_iload hx hb d_Cr_bringFields_3 (lv_at hl 0 rfl) ?_
  refine lv_aload_n hx hb d_Cr_bringFields_5 rfl (lv_at hl 4 rfl) ?_
  refine lv_iload hx hb d_Cr_bringFields_6 (lv_at hl 5 rfl) ?_
  refine fy_callV (As := [.int (nI (fm_q nf Q n))]) (rest := [.int (nI f)]) ⟨hx, hb, hml, hown, hts⟩ (c_Sp_fieldCountOf l s0 D cI cZ cJ cW hG sp rw row (nI (fm_w nf (fm_adds rf n Q f))) (nI (fm_adds rf n Q f).length) (fm_q nf Q n) (age n + 1) (nf n) (by omega) (by omega) (by omega) a2) (cwV 1 hts g_Cr_62 rfl rfl rfl (by decide +kernel) ⟨Nat.le_of_ble_eq_true rfl, Nat.le_of_ble_eq_true rfl⟩) hK hLa hAB hA hP hD hS [4, 5] rfl rfl (ci := 4) rfl rfl (q0 := 4) rfl rfl hl.1 rfl (Nat.le_of_ble_eq_true rfl) d_Cr_bringFields_8 ⟨Nat.zero_le _, Nat.zero_le _⟩ (fun r w1 H locs hp hP hD hS => ?_)
  obtain ⟨rfl, rfl⟩ := hp
  have hP : va_P D vwCl [(cr, .inr (1, [.ref wk, .ref fw, .int wn, .int tu, .int st])), (fw, .inl (cI, 240, .inl F)), (wo, .inr (3, [.ref pi, .int (nI ((P ++ fm_aX rf n Q f).length))])), (pi, .inl (cI, 80, .inl pf)), (sp, .inr (4, [.ref rw, .int (nI (fm_w nf (fm_adds rf n Q f))), .int (nI ((fm_adds rf n Q f).length))])), (rw, .inl (cI, 240, .inl row)), (fr, .inr (4, [.ref fq, .int wf, .int of])), (fq, .inl (cI, 240, .inl rfr))] H := hP
  have hD : va_D A [(cr, .inr (1, [.ref wk, .ref fw, .int wn, .int tu, .int st])), (fw, .inl (cI, 240, .inl F)), (wo, .inr (3, [.ref pi, .int (nI ((P ++ fm_aX rf n Q f).length))])), (pi, .inl (cI, 80, .inl pf)), (sp, .inr (4, [.ref rw, .int (nI (fm_w nf (fm_adds rf n Q f))), .int (nI ((fm_adds rf n Q f).length))])), (rw, .inl (cI, 240, .inl row)), (fr, .inr (4, [.ref fq, .int wf, .int of])), (fq, .inl (cI, 240, .inl rfr))] := hD
  refine lv_icmp_ge hx hb d_Cr_bringFields_11 (tgt := 43) (by decide) (fun hc => ?_) (fun hc => ?_)
  · have hc : f = nf n := by have := (nI_leI (by omega) (by omega)).mp hc; omega
    subst hc
    have hP : va_P D vwCl [(cr, .inr (1, [.ref wk, .ref fw, .int wn, .int tu, .int st])), (fw, .inl (cI, 240, .inl F)), (wo, .inr (3, [.ref pi, .int (nI ((P ++ fm_aX rf n Q (nf n)).length))])), (pi, .inl (cI, 80, .inl pf)), (sp, .inr (4, [.ref rw, .int (nI (fm_w nf (fm_adds rf n Q (nf n)))), .int (nI ((fm_adds rf n Q (nf n)).length))])), (rw, .inl (cI, 240, .inl row)), (fr, .inr (4, [.ref fq, .int wf, .int of])), (fq, .inl (cI, 240, .inl rfr))] H := hP
    have hD : va_D A [(cr, .inr (1, [.ref wk, .ref fw, .int wn, .int tu, .int st])), (fw, .inl (cI, 240, .inl F)), (wo, .inr (3, [.ref pi, .int (nI ((P ++ fm_aX rf n Q (nf n)).length))])), (pi, .inl (cI, 80, .inl pf)), (sp, .inr (4, [.ref rw, .int (nI (fm_w nf (fm_adds rf n Q (nf n)))), .int (nI ((fm_adds rf n Q (nf n)).length))])), (rw, .inl (cI, 240, .inl row)), (fr, .inr (4, [.ref fq, .int wf, .int of])), (fq, .inl (cI, 240, .inl rfr))] := hD
    exact fy_retv hx hb hr hlocks hAe (⟨rfl, F, pf, row, hQ2.all hnq, hP2, rfl⟩) (List.Perm.refl _) hP hS d_Cr_bringFields_43
  · have hc : f < nf n := by have := mt (nI_leI (a := nf n) (b := f) (by omega) (by omega)).mpr hc; omega
    refine lv_aload_n hx hb d_Cr_bringFields_14 rfl (lv_at hl 4 rfl) ?_
    refine lv_iload hx hb d_Cr_bringFields_15 (lv_at hl 5 rfl) ?_
    refine lv_iload hx hb d_Cr_bringFields_17 (lv_at hl 0 rfl) ?_
    refine lv_aload_n hx hb d_Cr_bringFields_19 rfl (lv_at hl 1 rfl) ?_
    refine lv_aload_n hx hb d_Cr_bringFields_20 rfl (lv_at hl 2 rfl) ?_
    refine lv_aload_n hx hb d_Cr_bringFields_21 rfl (lv_at hl 3 rfl) ?_
    refine lv_aload_n hx hb d_Cr_bringFields_22 rfl (lv_at hl 4 rfl) ?_
    refine lv_aload_n hx hb d_Cr_bringFields_23 rfl (lv_at hl 4 rfl) ?_
    refine lv_iload hx hb d_Cr_bringFields_24 (lv_at hl 5 rfl) ?_
    refine lv_iload hx hb d_Cr_bringFields_26 (lv_at hl 0 rfl) ?_
    refine fy_callV (As := [.int (nI (fm_q nf Q n)), .int (nI f)]) (rest := [.ref sp, .ref fr, .ref wo, .ref cr, .int (nI f), .int (nI (fm_q nf Q n)), .ref sp]) ⟨hx, hb, hml, hown, hts⟩ (c_Sp_referent l s0 D cI cZ cJ cW hG sp rw row (nI (fm_w nf (fm_adds rf n Q f))) (nI (fm_adds rf n Q f).length) (fm_q nf Q n) f (by omega)) (cwV 2 hts g_Cr_65 rfl rfl rfl (by decide +kernel) ⟨Nat.le_of_ble_eq_true rfl, Nat.le_of_ble_eq_true rfl⟩) hK hLa hAB hA hP hD hS [4, 5] rfl rfl (ci := 4) rfl rfl (q0 := 4) rfl rfl hl.1 rfl (Nat.le_of_ble_eq_true rfl) d_Cr_bringFields_28 ⟨Nat.zero_le _, Nat.zero_le _⟩ (fun r w1 H locs hp hP hD hS => ?_)
    obtain ⟨rfl, rfl⟩ := hp
    have hP : va_P D vwCl [(cr, .inr (1, [.ref wk, .ref fw, .int wn, .int tu, .int st])), (fw, .inl (cI, 240, .inl F)), (wo, .inr (3, [.ref pi, .int (nI ((P ++ fm_aX rf n Q f).length))])), (pi, .inl (cI, 80, .inl pf)), (sp, .inr (4, [.ref rw, .int (nI (fm_w nf (fm_adds rf n Q f))), .int (nI ((fm_adds rf n Q f).length))])), (rw, .inl (cI, 240, .inl row)), (fr, .inr (4, [.ref fq, .int wf, .int of])), (fq, .inl (cI, 240, .inl rfr))] H := hP
    have hD : va_D A [(cr, .inr (1, [.ref wk, .ref fw, .int wn, .int tu, .int st])), (fw, .inl (cI, 240, .inl F)), (wo, .inr (3, [.ref pi, .int (nI ((P ++ fm_aX rf n Q f).length))])), (pi, .inl (cI, 80, .inl pf)), (sp, .inr (4, [.ref rw, .int (nI (fm_w nf (fm_adds rf n Q f))), .int (nI ((fm_adds rf n Q f).length))])), (rw, .inl (cI, 240, .inl row)), (fr, .inr (4, [.ref fq, .int wf, .int of])), (fq, .inl (cI, 240, .inl rfr))] := hD
    refine fy_top (z := fm_o ((rf n f).map pl)) (by rw [a3 f hc]; unfold fm_tr fm_Df; simp [hDn f]) ?_
    have ho : ∀ x, rf n f = some x → x ∈ L := fun x hx => hk.2.2.2.1 n hnL f hc x hx
    have hPQ2 : ∀ x ∈ P ++ fm_aX rf n Q f, x ∈ fm_adds rf n Q f := fun x hx => by rw [fm_aX_eq]; exact (List.mem_append.mp hx).elim (fun q => List.mem_append_left _ (hPQ x q)) (fun q => List.mem_append_right _ q)
    have hPl2 : (P ++ fm_aX rf n Q f).length ≤ (fm_adds rf n Q f).length := by rw [fm_aX_eq, List.length_append, List.length_append]; omega
    refine fy_callV (As := [.ref wo, .ref fr, .ref sp, .int (fm_o ((rf n f).map pl))]) (rest := [.int (nI f), .int (nI (fm_q nf Q n)), .ref sp]) ⟨hx, hb, hml, hown, hts⟩ (c_Cr_bring l s0 D cI cZ cJ cW hG cr wk fw wo pi sp rw fr fq wn tu st wf of F pf row rfr L val age nf rf pl (fm_adds rf n Q f) (P ++ fm_aX rf n Q f) (fm_Df Dn n f) (rf n f) hk hQ2 ho hPQ2 hPl2 hP2) (cwV 4 hts g_Cr_42 rfl rfl rfl (by decide +kernel) ⟨Nat.le_of_ble_eq_true rfl, Nat.le_of_ble_eq_true rfl⟩) hK hLa hAB hA hP hD hS [0, 1, 2, 3, 4, 5, 6, 7] rfl rfl (ci := 1) rfl rfl (q0 := 0) rfl rfl hl.1 rfl (Nat.le_of_ble_eq_true rfl) d_Cr_bringFields_31 ⟨Nat.zero_le _, Nat.zero_le _⟩ (fun r w1 H locs hp hP hD hS => ?_)
    obtain ⟨rfl, F2, pf2, row2, hQ3, hP3, rfl⟩ := hp
    have hQ3 : fm_K L val age nf rf pl (fm_adds rf n Q (f + 1)) (fm_Df Dn n f) row2 F2 := hQ3
    have hP : va_P D vwCl [(cr, .inr (1, [.ref wk, .ref fw, .int wn, .int tu, .int st])), (fw, .inl (cI, 240, .inl F2)), (wo, .inr (3, [.ref pi, .int (nI ((P ++ fm_aX rf n Q f ++ fm_new (fm_adds rf n Q f) (rf n f)).length))])), (pi, .inl (cI, 80, .inl pf2)), (sp, .inr (4, [.ref rw, .int (nI (fm_w nf (fm_adds rf n Q (f + 1)))), .int (nI ((fm_adds rf n Q (f + 1)).length))])), (rw, .inl (cI, 240, .inl row2)), (fr, .inr (4, [.ref fq, .int wf, .int of])), (fq, .inl (cI, 240, .inl rfr))] H := hP
    have hD : va_D A [(cr, .inr (1, [.ref wk, .ref fw, .int wn, .int tu, .int st])), (fw, .inl (cI, 240, .inl F2)), (wo, .inr (3, [.ref pi, .int (nI ((P ++ fm_aX rf n Q f ++ fm_new (fm_adds rf n Q f) (rf n f)).length))])), (pi, .inl (cI, 80, .inl pf2)), (sp, .inr (4, [.ref rw, .int (nI (fm_w nf (fm_adds rf n Q (f + 1)))), .int (nI ((fm_adds rf n Q (f + 1)).length))])), (rw, .inl (cI, 240, .inl row2)), (fr, .inr (4, [.ref fq, .int wf, .int of])), (fq, .inl (cI, 240, .inl rfr))] := hD
    rw [List.append_assoc] at hP hD hP3
    have hP : va_P D vwCl [(cr, .inr (1, [.ref wk, .ref fw, .int wn, .int tu, .int st])), (fw, .inl (cI, 240, .inl F2)), (wo, .inr (3, [.ref pi, .int (nI ((P ++ fm_aX rf n Q (f + 1)).length))])), (pi, .inl (cI, 80, .inl pf2)), (sp, .inr (4, [.ref rw, .int (nI (fm_w nf (fm_adds rf n Q (f + 1)))), .int (nI ((fm_adds rf n Q (f + 1)).length))])), (rw, .inl (cI, 240, .inl row2)), (fr, .inr (4, [.ref fq, .int wf, .int of])), (fq, .inl (cI, 240, .inl rfr))] H := hP
    have hD : va_D A [(cr, .inr (1, [.ref wk, .ref fw, .int wn, .int tu, .int st])), (fw, .inl (cI, 240, .inl F2)), (wo, .inr (3, [.ref pi, .int (nI ((P ++ fm_aX rf n Q (f + 1)).length))])), (pi, .inl (cI, 80, .inl pf2)), (sp, .inr (4, [.ref rw, .int (nI (fm_w nf (fm_adds rf n Q (f + 1)))), .int (nI ((fm_adds rf n Q (f + 1)).length))])), (rw, .inl (cI, 240, .inl row2)), (fr, .inr (4, [.ref fq, .int wf, .int of])), (fq, .inl (cI, 240, .inl rfr))] := hD
    refine fy_callV (As := [.int (nI (fm_q nf Q n)), .int (nI f), .int (fm_o ((rf n f).map (fm_q nf (fm_adds rf n Q (f + 1)))))]) (rest := []) ⟨hx, hb, hml, hown, hts⟩ (c_Sp_refer l s0 D cI cZ cJ cW hG sp rw row2 (nI (fm_w nf (fm_adds rf n Q (f + 1)))) (nI (fm_adds rf n Q (f + 1)).length) (fm_q nf Q n) f (fm_o ((rf n f).map (fm_q nf (fm_adds rf n Q (f + 1))))) (by omega)) (cwV 3 hts g_Cr_69 rfl rfl rfl (by decide +kernel) ⟨Nat.le_of_ble_eq_true rfl, Nat.le_of_ble_eq_true rfl⟩) hK hLa hAB hA hP hD hS [4, 5] rfl rfl (ci := 4) rfl rfl (q0 := 4) rfl rfl hl.1 rfl (Nat.le_of_ble_eq_true rfl) d_Cr_bringFields_34 ⟨Nat.zero_le _, Nat.zero_le _⟩ (fun r w1 H locs hp hP hD hS => ?_)
    obtain ⟨rfl, rfl⟩ := hp
    have hP : va_P D vwCl [(cr, .inr (1, [.ref wk, .ref fw, .int wn, .int tu, .int st])), (fw, .inl (cI, 240, .inl F2)), (wo, .inr (3, [.ref pi, .int (nI ((P ++ fm_aX rf n Q (f + 1)).length))])), (pi, .inl (cI, 80, .inl pf2)), (sp, .inr (4, [.ref rw, .int (nI (fm_w nf (fm_adds rf n Q (f + 1)))), .int (nI ((fm_adds rf n Q (f + 1)).length))])), (rw, .inl (cI, 240, .inl (upd row2 (fm_q nf Q n + 3 + f) (fm_o ((rf n f).map (fm_q nf (fm_adds rf n Q (f + 1)))))))), (fr, .inr (4, [.ref fq, .int wf, .int of])), (fq, .inl (cI, 240, .inl rfr))] H := hP
    have hD : va_D A [(cr, .inr (1, [.ref wk, .ref fw, .int wn, .int tu, .int st])), (fw, .inl (cI, 240, .inl F2)), (wo, .inr (3, [.ref pi, .int (nI ((P ++ fm_aX rf n Q (f + 1)).length))])), (pi, .inl (cI, 80, .inl pf2)), (sp, .inr (4, [.ref rw, .int (nI (fm_w nf (fm_adds rf n Q (f + 1)))), .int (nI ((fm_adds rf n Q (f + 1)).length))])), (rw, .inl (cI, 240, .inl (upd row2 (fm_q nf Q n + 3 + f) (fm_o ((rf n f).map (fm_q nf (fm_adds rf n Q (f + 1)))))))), (fr, .inr (4, [.ref fq, .int wf, .int of])), (fq, .inl (cI, 240, .inl rfr))] := hD
    refine lv_iinc (v := nI (f + 1)) hx hb d_Cr_bringFields_37 hl (k := 0) rfl (by rw [show Int32.ofInt 1 = nI 1 from by decide]; exact nI_add _ _) (by decide) rfl (fun ls hl => ?_)
    have hl : lv_has ls 6 [(5, .int (nI (f + 1))), (0, .ref cr), (1, .ref wo), (2, .ref fr), (3, .ref sp), (4, .int (nI (fm_q nf Q n)))] := hl
    refine lv_goto hx hb d_Cr_bringFields_40 (tgt := 3) (by decide) ?_
    have hnq3 : n ∈ fm_adds rf n Q (f + 1) := by rw [fm_aX_eq]; exact List.mem_append_left _ hn
    have hK4 := hQ3.refer hnq3 hc (fun x hx => by rw [fm_adds, fm_mem_add]; exact Or.inr hx)
    rw [fm_Df_s, show fm_q nf (fm_adds rf n Q (f + 1)) n = fm_q nf Q n by rw [fm_aX_eq]; exact fm_q_app hn] at hK4
    have hl : lv_has ls 6 [(5, .int (nI (f + 1))), (0, .ref cr), (1, .ref wo), (2, .ref fr), (3, .ref sp), (4, .int (nI (fm_q nf Q n)))] := lv_sub hl [0, 1, 2, 3, 4, 5] rfl
    exact ih _ (f + 1, F2, pf2, _) _ _ _ (by omega) ⟨rfl, hc, hK4, hP3, hl, hP, hD, hS⟩
