set_option maxRecDepth 20000 in
set_option maxHeartbeats 4000000 in
theorem c_Wa_countFrom (l : Launch) (s0 : State) (D : va_G) (cI cZ cJ cW : ClassId) (hG : fy_G s0 D cI cZ cJ cW) (wa se qu sp rw : Nat) (f0 g0 : Nat → Int32) (fo wd ob : Int32) (L : List Nat) (val : Nat → Int32) (age nf : Nat → Nat) (rf : Nat → Nat → Option Nat) (pl : Nat → Nat) (row : Nat → Int32) (o : Option Nat) (hk : fm_Ok L val age nf rf pl row) (ho : ∀ n, o = some n → n ∈ L) : fy_Met l s0 D vwCl y_Wa_countFrom w_Wa_countFrom (fy_rm 1) 0 0 [.ref wa, .ref sp, .int (fm_o (o.map pl))] [(wa, .inr (2, [.ref se, .ref qu, .int fo])), (se, .inl (cI, 240, .inl f0)), (qu, .inl (cI, 80, .inl g0)), (sp, .inr (4, [.ref rw, .int wd, .int ob])), (rw, .inl (cI, 240, .inl row))] (fun r w1 => r = some (.int (nI (fm_keep L (fm_Cl nf rf (fun m => o = some m))).length)) ∧ ∃ (f2 g2 : Nat → Int32) (fo2 : Int32), w1 = [(wa, .inr (2, [.ref se, .ref qu, .int fo2])), (se, .inl (cI, 240, .inl f2)), (qu, .inl (cI, 80, .inl g2)), (sp, .inr (4, [.ref rw, .int wd, .int ob])), (rw, .inl (cI, 240, .inl row))]) := by
  refine fy_st (bytes := b_Wa_countFrom) (maxL := 6) (ret := some .int) hG (by decide) rfl (Nat.le_of_ble_eq_true rfl) ?_
  intro p e s m below meth c A ls hx hb hr hlocks hml hown hts hK hLa hAe hAB hA hl hP hD hS
  have hl : lv_has ls 6 [(0, .ref wa), (1, .ref sp), (2, .int (fm_o (o.map pl)))] := hl
  refine lv_aload_n hx hb d_Wa_countFrom_0 rfl (lv_at hl 0 rfl) ?_
  refine va_get (D := D) (ci := 2) (v := .ref se) (C := R_Wa) (T := F_Wa) (N := 3) hx hb hts i_Wa hown hK hP 0 rfl rfl 0 (by decide) (hts _ k_f_Wa_9) (fun _ h9 => h9) rfl d_Wa_countFrom_1 ?_
  refine lv_iconst (v := nI 0) hx hb d_Wa_countFrom_4 (by decide) ?_
  refine fy_callS (As := [.ref se, .int (nI 0)]) (rest := []) ⟨hx, hb, hml, hown, hts⟩ (c_fill l s0 D cI cZ cJ cW hG se 240 f0 (nI 0) (by omega)) (va_cwS 2 hts g_Wa_18 rfl rfl rfl (by decide +kernel) ⟨Nat.le_of_ble_eq_true rfl, Nat.le_of_ble_eq_true rfl⟩) hLa hAB hA hP hD hS [1] rfl rfl rfl hl.1 rfl (Nat.le_of_ble_eq_true rfl) d_Wa_countFrom_5 ⟨Nat.zero_le _, Nat.zero_le _⟩ (fun r w1 H locs hp hP hD hS => ?_)
  obtain ⟨rfl, f1, hf1, rfl⟩ := hp
  have hP : va_P D vwCl [(wa, .inr (2, [.ref se, .ref qu, .int fo])), (se, .inl (cI, 240, .inl f1)), (qu, .inl (cI, 80, .inl g0)), (sp, .inr (4, [.ref rw, .int wd, .int ob])), (rw, .inl (cI, 240, .inl row))] H := hP
  have hD : va_D A [(wa, .inr (2, [.ref se, .ref qu, .int fo])), (se, .inl (cI, 240, .inl f1)), (qu, .inl (cI, 80, .inl g0)), (sp, .inr (4, [.ref rw, .int wd, .int ob])), (rw, .inl (cI, 240, .inl row))] := hD
  refine lv_aload_n hx hb d_Wa_countFrom_8 rfl (lv_at hl 0 rfl) ?_
  refine lv_iconst (v := nI 0) hx hb d_Wa_countFrom_9 (by decide) ?_
  refine va_put (D := D) (ci := 2) (v := .int (nI 0)) (ty := .int) (C := R_Wa) (T := F_Wa) (N := 3) hx hb hts i_Wa t_Wa tk_Wa n_Wa hown hK hP hD hS 0 rfl rfl 2 (by decide) (hts _ k_f_Wa_24) (fun _ h9 => h9) rfl (by decide +kernel) rfl rfl (Nat.le_of_ble_eq_true rfl) d_Wa_countFrom_10 (fun H locs hP hD hS => ?_)
  have hP : va_P D vwCl [(wa, .inr (2, [.ref se, .ref qu, .int (nI 0)])), (se, .inl (cI, 240, .inl f1)), (qu, .inl (cI, 80, .inl g0)), (sp, .inr (4, [.ref rw, .int wd, .int ob])), (rw, .inl (cI, 240, .inl row))] H := hP
  have hD : va_D A [(wa, .inr (2, [.ref se, .ref qu, .int (nI 0)])), (se, .inl (cI, 240, .inl f1)), (qu, .inl (cI, 80, .inl g0)), (sp, .inr (4, [.ref rw, .int wd, .int ob])), (rw, .inl (cI, 240, .inl row))] := hD
  refine lv_aload_n hx hb d_Wa_countFrom_13 rfl (lv_at hl 0 rfl) ?_
  refine lv_iload_n hx hb d_Wa_countFrom_14 rfl (lv_at hl 2 rfl) ?_
  refine fy_callV (As := [.int (fm_o (o.map pl))]) (rest := []) ⟨hx, hb, hml, hown, hts⟩ (c_Wa_find l s0 D cI cZ cJ cW hG wa se qu f1 g0 L [] pl o hk.lt hk.inj (fun n hn => by simp at hn) ho (fun _ _ _ => by simp) (fm_rep_nil hf1)) (cwV 1 hts g_Wa_28 rfl rfl rfl (by decide +kernel) ⟨Nat.le_of_ble_eq_true rfl, Nat.le_of_ble_eq_true rfl⟩) hK hLa hAB hA hP hD hS [0, 1, 2] rfl rfl (ci := 2) rfl rfl (q0 := 0) rfl rfl hl.1 rfl (Nat.le_of_ble_eq_true rfl) d_Wa_countFrom_15 ⟨Nat.zero_le _, Nat.zero_le _⟩ (fun r w1 H locs hp hP hD hS => ?_)
  obtain ⟨rfl, f2, g2, hr2, rfl⟩ := hp
  have hP : va_P D vwCl [(wa, .inr (2, [.ref se, .ref qu, .int (nI ((fm_add [] o).length))])), (se, .inl (cI, 240, .inl f2)), (qu, .inl (cI, 80, .inl g2)), (sp, .inr (4, [.ref rw, .int wd, .int ob])), (rw, .inl (cI, 240, .inl row))] H := hP
  have hD : va_D A [(wa, .inr (2, [.ref se, .ref qu, .int (nI ((fm_add [] o).length))])), (se, .inl (cI, 240, .inl f2)), (qu, .inl (cI, 80, .inl g2)), (sp, .inr (4, [.ref rw, .int wd, .int ob])), (rw, .inl (cI, 240, .inl row))] := hD
  refine lv_iconst (v := nI 0) hx hb d_Wa_countFrom_18 (by decide) ?_
  refine lv_istore_n hx hb d_Wa_countFrom_19 rfl hl (by decide) rfl (fun ls hl => ?_)
  have hl : lv_has ls 6 [(3, .int (nI 0)), (0, .ref wa), (1, .ref sp), (2, .int (fm_o (o.map pl)))] := hl
  refine fy_loop (σ := Nat × List Nat × (Nat → Int32) × (Nat → Int32)) (fun mz zz ls H locs => match zz with | (i, Q, f, g) => mz = 80 - i ∧ (fm_B L nf rf (fun m => o = some m) i Q) ∧ (fm_rep pl Q f g) ∧ lv_has ls 6 [(3, .int (nI i)), (0, .ref wa), (1, .ref sp), (2, .int (fm_o (o.map pl)))] ∧ va_P D vwCl [(wa, .inr (2, [.ref se, .ref qu, .int (nI Q.length)])), (se, .inl (cI, 240, .inl f)), (qu, .inl (cI, 80, .inl g)), (sp, .inr (4, [.ref rw, .int wd, .int ob])), (rw, .inl (cI, 240, .inl row))] H ∧ va_D A [(wa, .inr (2, [.ref se, .ref qu, .int (nI Q.length)])), (se, .inl (cI, 240, .inl f)), (qu, .inl (cI, 80, .inl g)), (sp, .inr (4, [.ref rw, .int wd, .int ob])), (rw, .inl (cI, 240, .inl row))] ∧ va_S A s.heap H locs) ?_ _ (0, fm_add [] o, f2, g2) ⟨rfl, fm_B_start ho, hr2, hl, hP, hD, hS⟩
  rintro mz ⟨i, Q, f, g⟩ ls H locs ⟨hmz, hB, hrp, hl, hP, hD, hS⟩ ih
  have hmz : mz = 80 - i := hmz
  have hB : fm_B L nf rf (fun m => o = some m) i Q := hB
  have hrp : fm_rep pl Q f g := hrp
  have hl : lv_has ls 6 [(3, .int (nI i)), (0, .ref wa), (1, .ref sp), (2, .int (fm_o (o.map pl)))] := hl
  have hP : va_P D vwCl [(wa, .inr (2, [.ref se, .ref qu, .int (nI Q.length)])), (se, .inl (cI, 240, .inl f)), (qu, .inl (cI, 80, .inl g)), (sp, .inr (4, [.ref rw, .int wd, .int ob])), (rw, .inl (cI, 240, .inl row))] H := hP
  have hD : va_D A [(wa, .inr (2, [.ref se, .ref qu, .int (nI Q.length)])), (se, .inl (cI, 240, .inl f)), (qu, .inl (cI, 80, .inl g)), (sp, .inr (4, [.ref rw, .int wd, .int ob])), (rw, .inl (cI, 240, .inl row))] := hD
  have hlen : Q.length ≤ 80 := Nat.le_trans (fm_B_len hB) hk.len
  have hi80 : i ≤ Q.length := hB.2.2.2.1
  refine lv_iload_n hx hb d_Wa_countFrom_20 rfl (lv_at hl 0 rfl) ?_
  refine lv_aload_n hx hb d_Wa_countFrom_21 rfl (lv_at hl 1 rfl) ?_
  refine va_get (D := D) (ci := 2) (v := .int (nI Q.length)) (C := R_Wa) (T := F_Wa) (N := 3) hx hb hts i_Wa hown hK hP 0 rfl rfl 2 (by decide) (hts _ k_f_Wa_24) (fun _ h9 => h9) rfl d_Wa_countFrom_22 ?_
  refine lv_icmp_ge hx hb d_Wa_countFrom_25 (tgt := 80) (by decide) (fun hc => ?_) (fun hc => ?_)
  · have hc : Q.length ≤ i := (nI_leI (by omega) (by omega)).mp hc
    refine lv_aload_n hx hb d_Wa_countFrom_80 rfl (lv_at hl 1 rfl) ?_
    refine va_get (D := D) (ci := 2) (v := .int (nI Q.length)) (C := R_Wa) (T := F_Wa) (N := 3) hx hb hts i_Wa hown hK hP 0 rfl rfl 2 (by decide) (hts _ k_f_Wa_24) (fun _ h9 => h9) rfl d_Wa_countFrom_81 ?_
    refine fy_top (z := nI ((fm_keep L (fm_Cl nf rf (fun m => o = some m))).length)) (by rw [(fm_B_end hB hc hk.2.2.1).length_eq]) ?_
    exact fy_reti hx hb hr hlocks hAe (⟨rfl, f, g, nI Q.length, rfl⟩) (List.Perm.refl _) hP hS d_Wa_countFrom_84
  · have hc : i < Q.length := by have := mt (nI_leI (a := Q.length) (b := i) (by omega) (by omega)).mpr hc; omega
    refine lv_iload_n hx hb d_Wa_countFrom_28 rfl (lv_at hl 0 rfl) ?_
    refine lv_bipush (v := nI 80) hx hb d_Wa_countFrom_29 (by decide) ?_
    refine lv_icmp_ge hx hb d_Wa_countFrom_31 (tgt := 80) (by decide) (fun h => absurd h (nI_ge (by omega) (by omega))) (fun _ => ?_)
    obtain ⟨n, hn⟩ : ∃ n, Q[i]? = some n := ⟨Q[i], List.getElem?_eq_getElem hc⟩
    have hnL : n ∈ L := (hB.2.1 n (List.mem_of_getElem? hn)).1
    obtain ⟨k1, k2, k3, k4, k5, k6, k7, k8⟩ := hk.at hnL
    refine lv_aload_n hx hb d_Wa_countFrom_34 rfl (lv_at hl 1 rfl) ?_
    refine va_get (D := D) (ci := 2) (v := .ref qu) (C := R_Wa) (T := F_Wa) (N := 3) hx hb hts i_Wa hown hK hP 0 rfl rfl 1 (by decide) (hts _ k_f_Wa_15) (fun _ h9 => h9) rfl d_Wa_countFrom_35 ?_
    refine lv_iload_n hx hb d_Wa_countFrom_38 rfl (lv_at hl 0 rfl) ?_
    refine fy_iald (t0 := 0) (v := nI (pl n)) hx hb hK hP 2 rfl rfl (by omega) (by omega) (hrp.2 i n hn) d_Wa_countFrom_39 ?_
    refine lv_istore hx hb d_Wa_countFrom_40 hl (by decide) rfl (fun ls hl => ?_)
    have hl : lv_has ls 6 [(4, .int (nI (pl n))), (3, .int (nI i)), (0, .ref wa), (1, .ref sp), (2, .int (fm_o (o.map pl)))] := hl
    refine lv_iconst (v := nI 0) hx hb d_Wa_countFrom_42 (by decide) ?_
    refine lv_istore hx hb d_Wa_countFrom_43 hl (by decide) rfl (fun ls hl => ?_)
    have hl : lv_has ls 6 [(5, .int (nI 0)), (4, .int (nI (pl n))), (3, .int (nI i)), (0, .ref wa), (1, .ref sp), (2, .int (fm_o (o.map pl)))] := hl
    have hP : va_P D vwCl [(wa, .inr (2, [.ref se, .ref qu, .int (nI ((fm_adds rf n Q 0).length))])), (se, .inl (cI, 240, .inl f)), (qu, .inl (cI, 80, .inl g)), (sp, .inr (4, [.ref rw, .int wd, .int ob])), (rw, .inl (cI, 240, .inl row))] H := hP
    have hD : va_D A [(wa, .inr (2, [.ref se, .ref qu, .int (nI ((fm_adds rf n Q 0).length))])), (se, .inl (cI, 240, .inl f)), (qu, .inl (cI, 80, .inl g)), (sp, .inr (4, [.ref rw, .int wd, .int ob])), (rw, .inl (cI, 240, .inl row))] := hD
    refine fy_loop (σ := Nat × (Nat → Int32) × (Nat → Int32)) (fun mz2 zz ls H locs => match zz with | (k, f, g) => mz2 = nf n - k ∧ (k ≤ nf n) ∧ (fm_rep pl (fm_adds rf n Q k) f g) ∧ lv_has ls 6 [(5, .int (nI k)), (4, .int (nI (pl n))), (3, .int (nI i)), (0, .ref wa), (1, .ref sp), (2, .int (fm_o (o.map pl)))] ∧ va_P D vwCl [(wa, .inr (2, [.ref se, .ref qu, .int (nI ((fm_adds rf n Q k).length))])), (se, .inl (cI, 240, .inl f)), (qu, .inl (cI, 80, .inl g)), (sp, .inr (4, [.ref rw, .int wd, .int ob])), (rw, .inl (cI, 240, .inl row))] H ∧ va_D A [(wa, .inr (2, [.ref se, .ref qu, .int (nI ((fm_adds rf n Q k).length))])), (se, .inl (cI, 240, .inl f)), (qu, .inl (cI, 80, .inl g)), (sp, .inr (4, [.ref rw, .int wd, .int ob])), (rw, .inl (cI, 240, .inl row))] ∧ va_S A s.heap H locs) ?_ _ (0, f, g) ⟨rfl, Nat.zero_le _, hrp, hl, hP, hD, hS⟩
    rintro mz2 ⟨k, f, g⟩ ls H locs ⟨hmz2, hkk, hrp, hl, hP, hD, hS⟩ ih2
    have hmz2 : mz2 = nf n - k := hmz2
    have hkk : k ≤ nf n := hkk
    have hrp : fm_rep pl (fm_adds rf n Q k) f g := hrp
    have hl : lv_has ls 6 [(5, .int (nI k)), (4, .int (nI (pl n))), (3, .int (nI i)), (0, .ref wa), (1, .ref sp), (2, .int (fm_o (o.map pl)))] := hl
    have hP : va_P D vwCl [(wa, .inr (2, [.ref se, .ref qu, .int (nI ((fm_adds rf n Q k).length))])), (se, .inl (cI, 240, .inl f)), (qu, .inl (cI, 80, .inl g)), (sp, .inr (4, [.ref rw, .int wd, .int ob])), (rw, .inl (cI, 240, .inl row))] H := hP
    have hD : va_D A [(wa, .inr (2, [.ref se, .ref qu, .int (nI ((fm_adds rf n Q k).length))])), (se, .inl (cI, 240, .inl f)), (qu, .inl (cI, 80, .inl g)), (sp, .inr (4, [.ref rw, .int wd, .int ob])), (rw, .inl (cI, 240, .inl row))] := hD
    refine lv_iload hx hb d_Wa_countFrom_45 (lv_at hl 0 rfl) ?_
    refine lv_aload_n hx hb d_Wa_countFrom_47 rfl (lv_at hl 4 rfl) ?_
    refine lv_iload hx hb d_Wa_countFrom_48 (lv_at hl 1 rfl) ?_
    refine fy_callV (As := [.int (nI (pl n))]) (rest := [.int (nI k)]) ⟨hx, hb, hml, hown, hts⟩ (c_Sp_fieldCountOf l s0 D cI cZ cJ cW hG sp rw row wd ob (pl n) (age n) (nf n) (by omega) (by omega) (by omega) k4) (cwV 1 hts g_Wa_32 rfl rfl rfl (by decide +kernel) ⟨Nat.le_of_ble_eq_true rfl, Nat.le_of_ble_eq_true rfl⟩) hK hLa hAB hA hP hD hS [3, 4] rfl rfl (ci := 4) rfl rfl (q0 := 3) rfl rfl hl.1 rfl (Nat.le_of_ble_eq_true rfl) d_Wa_countFrom_50 ⟨Nat.zero_le _, Nat.zero_le _⟩ (fun r w1 H locs hp hP hD hS => ?_)
    obtain ⟨rfl, rfl⟩ := hp
    have hP : va_P D vwCl [(wa, .inr (2, [.ref se, .ref qu, .int (nI ((fm_adds rf n Q k).length))])), (se, .inl (cI, 240, .inl f)), (qu, .inl (cI, 80, .inl g)), (sp, .inr (4, [.ref rw, .int wd, .int ob])), (rw, .inl (cI, 240, .inl row))] H := hP
    have hD : va_D A [(wa, .inr (2, [.ref se, .ref qu, .int (nI ((fm_adds rf n Q k).length))])), (se, .inl (cI, 240, .inl f)), (qu, .inl (cI, 80, .inl g)), (sp, .inr (4, [.ref rw, .int wd, .int ob])), (rw, .inl (cI, 240, .inl row))] := hD
    refine lv_icmp_ge hx hb d_Wa_countFrom_53 (tgt := 74) (by decide) (fun hc2 => ?_) (fun hc2 => ?_)
    · have hc2 : k = nf n := by have := (nI_leI (by omega) (by omega)).mp hc2; omega
      subst hc2
      refine lv_iinc (v := nI (i + 1)) hx hb d_Wa_countFrom_74 hl (k := 2) rfl (by rw [show Int32.ofInt 1 = nI 1 from by decide]; exact nI_add _ _) (by decide) rfl (fun ls hl => ?_)
      have hl : lv_has ls 6 [(3, .int (nI (i + 1))), (5, .int (nI (nf n))), (4, .int (nI (pl n))), (0, .ref wa), (1, .ref sp), (2, .int (fm_o (o.map pl)))] := hl
      refine lv_goto hx hb d_Wa_countFrom_77 (tgt := 20) (by decide) ?_
      have hl : lv_has ls 6 [(3, .int (nI (i + 1))), (0, .ref wa), (1, .ref sp), (2, .int (fm_o (o.map pl)))] := lv_sub hl [0, 3, 4, 5] rfl
      exact ih _ (i + 1, fm_adds rf n Q (nf n), f, g) _ _ _ (by omega) ⟨rfl, fm_B_step hB hn hk.2.2.2.1, hrp, hl, hP, hD, hS⟩
    · have hc2 : k < nf n := by have := mt (nI_leI (a := nf n) (b := k) (by omega) (by omega)).mpr hc2; omega
      refine lv_aload_n hx hb d_Wa_countFrom_56 rfl (lv_at hl 3 rfl) ?_
      refine lv_aload_n hx hb d_Wa_countFrom_57 rfl (lv_at hl 4 rfl) ?_
      refine lv_iload hx hb d_Wa_countFrom_58 (lv_at hl 1 rfl) ?_
      refine lv_iload hx hb d_Wa_countFrom_60 (lv_at hl 0 rfl) ?_
      refine fy_callV (As := [.int (nI (pl n)), .int (nI k)]) (rest := [.ref wa]) ⟨hx, hb, hml, hown, hts⟩ (c_Sp_referent l s0 D cI cZ cJ cW hG sp rw row wd ob (pl n) k (by omega)) (cwV 2 hts g_Wa_38 rfl rfl rfl (by decide +kernel) ⟨Nat.le_of_ble_eq_true rfl, Nat.le_of_ble_eq_true rfl⟩) hK hLa hAB hA hP hD hS [3, 4] rfl rfl (ci := 4) rfl rfl (q0 := 3) rfl rfl hl.1 rfl (Nat.le_of_ble_eq_true rfl) d_Wa_countFrom_62 ⟨Nat.zero_le _, Nat.zero_le _⟩ (fun r w1 H locs hp hP hD hS => ?_)
      obtain ⟨rfl, rfl⟩ := hp
      have hP : va_P D vwCl [(wa, .inr (2, [.ref se, .ref qu, .int (nI ((fm_adds rf n Q k).length))])), (se, .inl (cI, 240, .inl f)), (qu, .inl (cI, 80, .inl g)), (sp, .inr (4, [.ref rw, .int wd, .int ob])), (rw, .inl (cI, 240, .inl row))] H := hP
      have hD : va_D A [(wa, .inr (2, [.ref se, .ref qu, .int (nI ((fm_adds rf n Q k).length))])), (se, .inl (cI, 240, .inl f)), (qu, .inl (cI, 80, .inl g)), (sp, .inr (4, [.ref rw, .int wd, .int ob])), (rw, .inl (cI, 240, .inl row))] := hD
      refine fy_top (z := fm_o ((rf n k).map pl)) (k5 k hc2) ?_
      have hsub : ∀ x ∈ fm_adds rf n Q k, x ∈ L := fm_adds_sub (fun x hx => (hB.2.1 x hx).1) hk.2.2.2.1 hnL hkk
      refine fy_callV (As := [.int (fm_o ((rf n k).map pl))]) (rest := []) ⟨hx, hb, hml, hown, hts⟩ (c_Wa_find l s0 D cI cZ cJ cW hG wa se qu f g L (fm_adds rf n Q k) pl (rf n k) hk.lt hk.inj hsub (fun x hx => hk.2.2.2.1 n hnL k hc2 x hx) (fun x hx hxn => Nat.lt_of_lt_of_le (fm_full (fm_adds_nodup hB.1 k) hsub (hk.2.2.2.1 n hnL k hc2 x hx) hxn) hk.len) hrp) (cwV 1 hts g_Wa_28 rfl rfl rfl (by decide +kernel) ⟨Nat.le_of_ble_eq_true rfl, Nat.le_of_ble_eq_true rfl⟩) hK hLa hAB hA hP hD hS [0, 1, 2] rfl rfl (ci := 2) rfl rfl (q0 := 0) rfl rfl hl.1 rfl (Nat.le_of_ble_eq_true rfl) d_Wa_countFrom_65 ⟨Nat.zero_le _, Nat.zero_le _⟩ (fun r w1 H locs hp hP hD hS => ?_)
      obtain ⟨rfl, f3, g3, hr3, rfl⟩ := hp
      have hP : va_P D vwCl [(wa, .inr (2, [.ref se, .ref qu, .int (nI ((fm_adds rf n Q (k + 1)).length))])), (se, .inl (cI, 240, .inl f3)), (qu, .inl (cI, 80, .inl g3)), (sp, .inr (4, [.ref rw, .int wd, .int ob])), (rw, .inl (cI, 240, .inl row))] H := hP
      have hD : va_D A [(wa, .inr (2, [.ref se, .ref qu, .int (nI ((fm_adds rf n Q (k + 1)).length))])), (se, .inl (cI, 240, .inl f3)), (qu, .inl (cI, 80, .inl g3)), (sp, .inr (4, [.ref rw, .int wd, .int ob])), (rw, .inl (cI, 240, .inl row))] := hD
      refine lv_iinc (v := nI (k + 1)) hx hb d_Wa_countFrom_68 hl (k := 0) rfl (by rw [show Int32.ofInt 1 = nI 1 from by decide]; exact nI_add _ _) (by decide) rfl (fun ls hl => ?_)
      have hl : lv_has ls 6 [(5, .int (nI (k + 1))), (4, .int (nI (pl n))), (3, .int (nI i)), (0, .ref wa), (1, .ref sp), (2, .int (fm_o (o.map pl)))] := hl
      refine lv_goto hx hb d_Wa_countFrom_71 (tgt := 45) (by decide) ?_
      have hl : lv_has ls 6 [(5, .int (nI (k + 1))), (4, .int (nI (pl n))), (3, .int (nI i)), (0, .ref wa), (1, .ref sp), (2, .int (fm_o (o.map pl)))] := lv_sub hl [0, 1, 2, 3, 4, 5] rfl
      exact ih2 _ (k + 1, f3, g3) _ _ _ (by omega) ⟨rfl, hc2, hr3, hl, hP, hD, hS⟩
