theorem c_Wo_takeTop (l : Launch) (s0 : State) (D : va_G) (cI cZ cJ cW : ClassId) (hG : fy_G s0 D cI cZ cJ cW) (wo pi h : Nat) (f : Nat → Int32) (hh : h ≤ 80) : fy_Met l s0 D vwCl y_Wo_takeTop w_Wo_takeTop (fy_rm 0) 0 0 [.ref wo] [(wo, .inr (3, [.ref pi, .int (nI h)])), (pi, .inl (cI, 80, .inl f))] (fun r w1 => (h = 0 ∧ r = some (.int (-1)) ∧ w1 = [(wo, .inr (3, [.ref pi, .int (nI h)])), (pi, .inl (cI, 80, .inl f))]) ∨ ∃ q, h = q + 1 ∧ r = some (.int (f q)) ∧ w1 = [(wo, .inr (3, [.ref pi, .int (nI q)])), (pi, .inl (cI, 80, .inl f))]) := by
  cases h with
  | zero => exact (c_Wo_takeTop0 l s0 D cI cZ cJ cW hG wo pi f).weak (fun r w1 h => Or.inl ⟨rfl, h.1, h.2⟩)
  | succ q => exact (c_Wo_takeTop1 l s0 D cI cZ cJ cW hG wo pi q f (by omega)).weak (fun r w1 h => Or.inr ⟨q, rfl, h.1, h.2⟩)
set_option maxRecDepth 20000 in
set_option maxHeartbeats 4000000 in
theorem c_Cr_takeFor (l : Launch) (s0 : State) (D : va_G) (cI cZ cJ cW : ClassId) (hG : fy_G s0 D cI cZ cJ cW) (cr wk fw wn t : Nat) (wa pa : Nat → Nat) (tu st : Int32) (h : Nat → Nat) (pf : Nat → Nat → Int32) (h1 : 0 < wn) (h2 : wn ≤ 4) (ht : t < wn) (hh : ∀ w, w < 4 → h w ≤ 80) (hne : ∀ w, w < 4 → ∀ j, j < h w → ¬ pf w j = -1) : fy_Met l s0 D vwCl y_Cr_takeFor w_Cr_takeFor (fy_rm 1) 0 0 [.ref cr, .int (nI t)] [(cr, .inr (1, [.ref wk, .ref fw, .int (nI wn), .int tu, .int st])), (wk, .inl (cW, 4, .inr (.inr (.inr (.inr (fun i => some (wa i))))))), (wa 0, .inr (3, [.ref (pa 0), .int (nI (h 0))])), (pa 0, .inl (cI, 80, .inl (pf 0))), (wa 1, .inr (3, [.ref (pa 1), .int (nI (h 1))])), (pa 1, .inl (cI, 80, .inl (pf 1))), (wa 2, .inr (3, [.ref (pa 2), .int (nI (h 2))])), (pa 2, .inl (cI, 80, .inl (pf 2))), (wa 3, .inr (3, [.ref (pa 3), .int (nI (h 3))])), (pa 3, .inl (cI, 80, .inl (pf 3)))] (fun r w1 => ((∀ w, w < wn → h w = 0) ∧ r = some (.int (-1)) ∧ w1 = [(cr, .inr (1, [.ref wk, .ref fw, .int (nI wn), .int tu, .int st])), (wk, .inl (cW, 4, .inr (.inr (.inr (.inr (fun i => some (wa i))))))), (wa 0, .inr (3, [.ref (pa 0), .int (nI (h 0))])), (pa 0, .inl (cI, 80, .inl (pf 0))), (wa 1, .inr (3, [.ref (pa 1), .int (nI (h 1))])), (pa 1, .inl (cI, 80, .inl (pf 1))), (wa 2, .inr (3, [.ref (pa 2), .int (nI (h 2))])), (pa 2, .inl (cI, 80, .inl (pf 2))), (wa 3, .inr (3, [.ref (pa 3), .int (nI (h 3))])), (pa 3, .inl (cI, 80, .inl (pf 3)))]) ∨ ∃ w k, w < wn ∧ h w = k + 1 ∧ r = some (.int (pf w k)) ∧ w1 = [(cr, .inr (1, [.ref wk, .ref fw, .int (nI wn), .int tu, .int st])), (wk, .inl (cW, 4, .inr (.inr (.inr (.inr (fun i => some (wa i))))))), (wa 0, .inr (3, [.ref (pa 0), .int (nI ((va_up h w k) 0))])), (pa 0, .inl (cI, 80, .inl (pf 0))), (wa 1, .inr (3, [.ref (pa 1), .int (nI ((va_up h w k) 1))])), (pa 1, .inl (cI, 80, .inl (pf 1))), (wa 2, .inr (3, [.ref (pa 2), .int (nI ((va_up h w k) 2))])), (pa 2, .inl (cI, 80, .inl (pf 2))), (wa 3, .inr (3, [.ref (pa 3), .int (nI ((va_up h w k) 3))])), (pa 3, .inl (cI, 80, .inl (pf 3)))]) := by
  refine fy_st (bytes := b_Cr_takeFor) (maxL := 4) (ret := some .int) hG (by decide) rfl (Nat.le_of_ble_eq_true rfl) ?_
  intro p e s m below meth c A ls hx hb hr hlocks hml hown hts hK hLa hAe hAB hA hl hP hD hS
  have hl : lv_has ls 4 [(0, .ref cr), (1, .int (nI t))] := hl
  refine lv_iconst (v := -1) hx hb d_Cr_takeFor_0 (by decide) ?_
  refine lv_istore_n hx hb d_Cr_takeFor_1 rfl hl (by decide) rfl (fun ls hl => ?_)
  have hl : lv_has ls 4 [(2, .int (-1)), (0, .ref cr), (1, .int (nI t))] := hl
  refine lv_iconst (v := nI 0) hx hb d_Cr_takeFor_2 (by decide) ?_
  refine lv_istore_n hx hb d_Cr_takeFor_3 rfl hl (by decide) rfl (fun ls hl => ?_)
  have hl : lv_has ls 4 [(3, .int (nI 0)), (2, .int (-1)), (0, .ref cr), (1, .int (nI t))] := hl
  refine fy_loop (σ := Nat) (fun mz zz ls H locs => match zz with | i => mz = wn - i ∧ (i ≤ wn) ∧ (∀ j, j < i → h ((t + j) % wn) = 0) ∧ lv_has ls 4 [(3, .int (nI i)), (2, .int (-1)), (0, .ref cr), (1, .int (nI t))] ∧ va_P D vwCl [(cr, .inr (1, [.ref wk, .ref fw, .int (nI wn), .int tu, .int st])), (wk, .inl (cW, 4, .inr (.inr (.inr (.inr (fun i => some (wa i))))))), (wa 0, .inr (3, [.ref (pa 0), .int (nI (h 0))])), (pa 0, .inl (cI, 80, .inl (pf 0))), (wa 1, .inr (3, [.ref (pa 1), .int (nI (h 1))])), (pa 1, .inl (cI, 80, .inl (pf 1))), (wa 2, .inr (3, [.ref (pa 2), .int (nI (h 2))])), (pa 2, .inl (cI, 80, .inl (pf 2))), (wa 3, .inr (3, [.ref (pa 3), .int (nI (h 3))])), (pa 3, .inl (cI, 80, .inl (pf 3)))] H ∧ va_D A [(cr, .inr (1, [.ref wk, .ref fw, .int (nI wn), .int tu, .int st])), (wk, .inl (cW, 4, .inr (.inr (.inr (.inr (fun i => some (wa i))))))), (wa 0, .inr (3, [.ref (pa 0), .int (nI (h 0))])), (pa 0, .inl (cI, 80, .inl (pf 0))), (wa 1, .inr (3, [.ref (pa 1), .int (nI (h 1))])), (pa 1, .inl (cI, 80, .inl (pf 1))), (wa 2, .inr (3, [.ref (pa 2), .int (nI (h 2))])), (pa 2, .inl (cI, 80, .inl (pf 2))), (wa 3, .inr (3, [.ref (pa 3), .int (nI (h 3))])), (pa 3, .inl (cI, 80, .inl (pf 3)))] ∧ va_S A s.heap H locs) ?_ _ 0 ⟨rfl, Nat.zero_le _, fun j hj => absurd hj (Nat.not_lt_zero j), hl, hP, hD, hS⟩
  rintro mz i ls H locs ⟨hmz, hi, hz, hl, hP, hD, hS⟩ ih
  have hmz : mz = wn - i := hmz
  have hi : i ≤ wn := hi
  have hz : ∀ j, j < i → h ((t + j) % wn) = 0 := hz
  have hl : lv_has ls 4 [(3, .int (nI i)), (2, .int (-1)), (0, .ref cr), (1, .int (nI t))] := hl
  have hP : va_P D vwCl [(cr, .inr (1, [.ref wk, .ref fw, .int (nI wn), .int tu, .int st])), (wk, .inl (cW, 4, .inr (.inr (.inr (.inr (fun i => some (wa i))))))), (wa 0, .inr (3, [.ref (pa 0), .int (nI (h 0))])), (pa 0, .inl (cI, 80, .inl (pf 0))), (wa 1, .inr (3, [.ref (pa 1), .int (nI (h 1))])), (pa 1, .inl (cI, 80, .inl (pf 1))), (wa 2, .inr (3, [.ref (pa 2), .int (nI (h 2))])), (pa 2, .inl (cI, 80, .inl (pf 2))), (wa 3, .inr (3, [.ref (pa 3), .int (nI (h 3))])), (pa 3, .inl (cI, 80, .inl (pf 3)))] H := hP
  have hD : va_D A [(cr, .inr (1, [.ref wk, .ref fw, .int (nI wn), .int tu, .int st])), (wk, .inl (cW, 4, .inr (.inr (.inr (.inr (fun i => some (wa i))))))), (wa 0, .inr (3, [.ref (pa 0), .int (nI (h 0))])), (pa 0, .inl (cI, 80, .inl (pf 0))), (wa 1, .inr (3, [.ref (pa 1), .int (nI (h 1))])), (pa 1, .inl (cI, 80, .inl (pf 1))), (wa 2, .inr (3, [.ref (pa 2), .int (nI (h 2))])), (pa 2, .inl (cI, 80, .inl (pf 2))), (wa 3, .inr (3, [.ref (pa 3), .int (nI (h 3))])), (pa 3, .inl (cI, 80, .inl (pf 3)))] := hD
  refine lv_iload_n hx hb d_Cr_takeFor_4 rfl (lv_at hl 0 rfl) ?_
  refine lv_aload_n hx hb d_Cr_takeFor_5 rfl (lv_at hl 2 rfl) ?_
  refine va_get (D := D) (ci := 1) (v := .int (nI wn)) (C := R_Cr) (T := F_Cr) (N := 5) hx hb hts i_Cr hown hK hP 0 rfl rfl 2 (by decide) (hts _ k_f_Cr_21) (fun _ h9 => h9) rfl d_Cr_takeFor_6 ?_
  refine lv_icmp_ge hx hb d_Cr_takeFor_9 (tgt := 40) (by decide) (fun hc => ?_) (fun hc => ?_)
  · have hc : wn ≤ i := (nI_leI (by omega) (by omega)).mp hc
    refine lv_iload_n hx hb d_Cr_takeFor_40 rfl (lv_at hl 1 rfl) ?_
    exact fy_reti hx hb hr hlocks hAe (Or.inl ⟨fun w hw => by obtain ⟨j, h3, h4⟩ := fm_cyc ht hw; rw [← h4]; exact hz j (by omega), rfl, rfl⟩) (List.Perm.refl _) hP hS d_Cr_takeFor_41
  · have hc : i < wn := by have := mt (nI_leI (a := wn) (b := i) (by omega) (by omega)).mpr hc; omega
    refine lv_iload_n hx hb d_Cr_takeFor_12 rfl (lv_at hl 1 rfl) ?_
    refine lv_iconst (v := -1) hx hb d_Cr_takeFor_13 (by decide) ?_
    refine lv_icmp_ne hx hb d_Cr_takeFor_14 (tgt := 40) (by decide) (fun h => absurd (rfl) h) (fun _ => ?_)
    obtain ⟨k, hk⟩ : ∃ k, k = (t + i) % wn := ⟨_, rfl⟩
    have hkn : k < wn := by rw [hk]; exact Nat.mod_lt _ h1
    have hk4 : k < 4 := by omega
    refine lv_aload_n hx hb d_Cr_takeFor_17 rfl (lv_at hl 2 rfl) ?_
    refine va_get (D := D) (ci := 1) (v := .ref wk) (C := R_Cr) (T := F_Cr) (N := 5) hx hb hts i_Cr hown hK hP 0 rfl rfl 0 (by decide) (hts _ k_f_Cr_11) (fun _ h9 => h9) rfl d_Cr_takeFor_18 ?_
    refine lv_iload_n hx hb d_Cr_takeFor_21 rfl (lv_at hl 3 rfl) ?_
    refine lv_iload_n hx hb d_Cr_takeFor_22 rfl (lv_at hl 0 rfl) ?_
    refine lv_iadd hx hb d_Cr_takeFor_23 ?_
    refine fy_top (z := nI (t + i)) (nI_add _ _) ?_
    refine lv_aload_n hx hb d_Cr_takeFor_24 rfl (lv_at hl 2 rfl) ?_
    refine va_get (D := D) (ci := 1) (v := .int (nI wn)) (C := R_Cr) (T := F_Cr) (N := 5) hx hb hts i_Cr hown hK hP 0 rfl rfl 2 (by decide) (hts _ k_f_Cr_21) (fun _ h9 => h9) rfl d_Cr_takeFor_25 ?_
    refine lv_irem hx hb d_Cr_takeFor_28 (nI_ne0 (by omega) (by omega)) ?_
    refine fy_top (z := nI k) (by rw [hk]; exact pk_rem (by omega) (by omega) (by omega)) ?_
    refine fy_aald (t0 := 3) (v := (wa k)) hx hb hK hP 1 rfl rfl (by omega) (hk4) (rfl) d_Cr_takeFor_29 ?_
    refine fy_callV (As := []) (rest := []) ⟨hx, hb, hml, hown, hts⟩ (c_Wo_takeTop l s0 D cI cZ cJ cW hG (wa k) (pa k) (h k) (pf k) (hh k hk4)) (cwV 0 hts g_Cr_59 rfl rfl rfl (by decide +kernel) ⟨Nat.le_of_ble_eq_true rfl, Nat.le_of_ble_eq_true rfl⟩) hK hLa hAB hA hP hD hS [2 + 2 * k, 3 + 2 * k] (co_4 (P := fun t => va_nd [2 + 2 * t, 3 + 2 * t] = true) rfl rfl rfl rfl hk4) (co_4 (P := fun t => [2 + 2 * t, 3 + 2 * t].map (fun i => ([(cr, .inr (1, [.ref wk, .ref fw, .int (nI wn), .int tu, .int st])), (wk, .inl (cW, 4, .inr (.inr (.inr (.inr (fun i => some (wa i))))))), (wa 0, .inr (3, [.ref (pa 0), .int (nI (h 0))])), (pa 0, .inl (cI, 80, .inl (pf 0))), (wa 1, .inr (3, [.ref (pa 1), .int (nI (h 1))])), (pa 1, .inl (cI, 80, .inl (pf 1))), (wa 2, .inr (3, [.ref (pa 2), .int (nI (h 2))])), (pa 2, .inl (cI, 80, .inl (pf 2))), (wa 3, .inr (3, [.ref (pa 3), .int (nI (h 3))])), (pa 3, .inl (cI, 80, .inl (pf 3)))] : va_W)[i]?) = ([(wa t, .inr (3, [.ref (pa t), .int (nI (h t))])), (pa t, .inl (cI, 80, .inl (pf t)))] : va_W).map some) rfl rfl rfl rfl hk4) (ci := 3) rfl rfl (q0 := 2 + 2 * k) (co_4 (P := fun t => ([(cr, .inr (1, [.ref wk, .ref fw, .int (nI wn), .int tu, .int st])), (wk, .inl (cW, 4, .inr (.inr (.inr (.inr (fun i => some (wa i))))))), (wa 0, .inr (3, [.ref (pa 0), .int (nI (h 0))])), (pa 0, .inl (cI, 80, .inl (pf 0))), (wa 1, .inr (3, [.ref (pa 1), .int (nI (h 1))])), (pa 1, .inl (cI, 80, .inl (pf 1))), (wa 2, .inr (3, [.ref (pa 2), .int (nI (h 2))])), (pa 2, .inl (cI, 80, .inl (pf 2))), (wa 3, .inr (3, [.ref (pa 3), .int (nI (h 3))])), (pa 3, .inl (cI, 80, .inl (pf 3)))] : va_W)[2 + 2 * t]? = some (wa t, .inr (3, [.ref (pa t), .int (nI (h t))]))) rfl rfl rfl rfl hk4) rfl hl.1 rfl (Nat.le_of_ble_eq_true rfl) d_Cr_takeFor_30 ⟨Nat.zero_le _, Nat.zero_le _⟩ (fun r w1 H locs hp hP hD hS => ?_)
    rcases hp with ⟨h0, rfl, rfl⟩ | ⟨q, hq, rfl, rfl⟩
    · rw [(co_4 (P := fun t => fy_put ([(cr, .inr (1, [.ref wk, .ref fw, .int (nI wn), .int tu, .int st])), (wk, .inl (cW, 4, .inr (.inr (.inr (.inr (fun i => some (wa i))))))), (wa 0, .inr (3, [.ref (pa 0), .int (nI (h 0))])), (pa 0, .inl (cI, 80, .inl (pf 0))), (wa 1, .inr (3, [.ref (pa 1), .int (nI (h 1))])), (pa 1, .inl (cI, 80, .inl (pf 1))), (wa 2, .inr (3, [.ref (pa 2), .int (nI (h 2))])), (pa 2, .inl (cI, 80, .inl (pf 2))), (wa 3, .inr (3, [.ref (pa 3), .int (nI (h 3))])), (pa 3, .inl (cI, 80, .inl (pf 3)))] : va_W) [2 + 2 * t, 3 + 2 * t] [(wa t, .inr (3, [.ref (pa t), .int (nI (h t))])), (pa t, .inl (cI, 80, .inl (pf t)))] = [(cr, .inr (1, [.ref wk, .ref fw, .int (nI wn), .int tu, .int st])), (wk, .inl (cW, 4, .inr (.inr (.inr (.inr (fun i => some (wa i))))))), (wa 0, .inr (3, [.ref (pa 0), .int (nI (h 0))])), (pa 0, .inl (cI, 80, .inl (pf 0))), (wa 1, .inr (3, [.ref (pa 1), .int (nI (h 1))])), (pa 1, .inl (cI, 80, .inl (pf 1))), (wa 2, .inr (3, [.ref (pa 2), .int (nI (h 2))])), (pa 2, .inl (cI, 80, .inl (pf 2))), (wa 3, .inr (3, [.ref (pa 3), .int (nI (h 3))])), (pa 3, .inl (cI, 80, .inl (pf 3)))]) rfl rfl rfl rfl hk4)] at hP hD
      refine W.eq (g2 := F0 m 33 ls [.int (-1)]) rfl ?_
      refine lv_istore_n hx hb d_Cr_takeFor_33 rfl hl (by decide) rfl (fun ls hl => ?_)
      have hl : lv_has ls 4 [(2, .int (-1)), (3, .int (nI i)), (0, .ref cr), (1, .int (nI t))] := hl
      refine lv_iinc (v := nI (i + 1)) hx hb d_Cr_takeFor_34 hl (k := 1) rfl (by rw [show Int32.ofInt 1 = nI 1 from by decide]; exact nI_add _ _) (by decide) rfl (fun ls hl => ?_)
      have hl : lv_has ls 4 [(3, .int (nI (i + 1))), (2, .int (-1)), (0, .ref cr), (1, .int (nI t))] := hl
      refine lv_goto hx hb d_Cr_takeFor_37 (tgt := 4) (by decide) ?_
      have hl : lv_has ls 4 [(3, .int (nI (i + 1))), (2, .int (-1)), (0, .ref cr), (1, .int (nI t))] := lv_sub hl [0, 1, 2, 3] rfl
      exact ih _ (i + 1) _ _ _ (by omega) ⟨rfl, hc, fun j hj => by by_cases e : j = i; (subst e; rw [← hk]; exact h0); (exact hz j (by omega)), hl, hP, hD, hS⟩
    · rw [co_4 (P := fun t => ∀ q : Nat, fy_put ([(cr, .inr (1, [.ref wk, .ref fw, .int (nI wn), .int tu, .int st])), (wk, .inl (cW, 4, .inr (.inr (.inr (.inr (fun i => some (wa i))))))), (wa 0, .inr (3, [.ref (pa 0), .int (nI (h 0))])), (pa 0, .inl (cI, 80, .inl (pf 0))), (wa 1, .inr (3, [.ref (pa 1), .int (nI (h 1))])), (pa 1, .inl (cI, 80, .inl (pf 1))), (wa 2, .inr (3, [.ref (pa 2), .int (nI (h 2))])), (pa 2, .inl (cI, 80, .inl (pf 2))), (wa 3, .inr (3, [.ref (pa 3), .int (nI (h 3))])), (pa 3, .inl (cI, 80, .inl (pf 3)))] : va_W) [2 + 2 * t, 3 + 2 * t] [(wa t, .inr (3, [.ref (pa t), .int (nI q)])), (pa t, .inl (cI, 80, .inl (pf t)))] = [(cr, .inr (1, [.ref wk, .ref fw, .int (nI wn), .int tu, .int st])), (wk, .inl (cW, 4, .inr (.inr (.inr (.inr (fun i => some (wa i))))))), (wa 0, .inr (3, [.ref (pa 0), .int (nI ((va_up h t q) 0))])), (pa 0, .inl (cI, 80, .inl (pf 0))), (wa 1, .inr (3, [.ref (pa 1), .int (nI ((va_up h t q) 1))])), (pa 1, .inl (cI, 80, .inl (pf 1))), (wa 2, .inr (3, [.ref (pa 2), .int (nI ((va_up h t q) 2))])), (pa 2, .inl (cI, 80, .inl (pf 2))), (wa 3, .inr (3, [.ref (pa 3), .int (nI ((va_up h t q) 3))])), (pa 3, .inl (cI, 80, .inl (pf 3)))]) (fun _ => rfl) (fun _ => rfl) (fun _ => rfl) (fun _ => rfl) hk4 q] at hP hD
      refine W.eq (g2 := F0 m 33 ls [.int (pf k q)]) rfl ?_
      refine lv_istore_n hx hb d_Cr_takeFor_33 rfl hl (by decide) rfl (fun ls hl => ?_)
      have hl : lv_has ls 4 [(2, .int (pf k q)), (3, .int (nI i)), (0, .ref cr), (1, .int (nI t))] := hl
      refine lv_iinc (v := nI (i + 1)) hx hb d_Cr_takeFor_34 hl (k := 1) rfl (by rw [show Int32.ofInt 1 = nI 1 from by decide]; exact nI_add _ _) (by decide) rfl (fun ls hl => ?_)
      have hl : lv_has ls 4 [(3, .int (nI (i + 1))), (2, .int (pf k q)), (0, .ref cr), (1, .int (nI t))] := hl
      refine lv_goto hx hb d_Cr_takeFor_37 (tgt := 4) (by decide) ?_
      refine lv_iload_n hx hb d_Cr_takeFor_4 rfl (lv_at hl 0 rfl) ?_
      refine lv_aload_n hx hb d_Cr_takeFor_5 rfl (lv_at hl 2 rfl) ?_
      refine va_get (D := D) (ci := 1) (v := .int (nI wn)) (C := R_Cr) (T := F_Cr) (N := 5) hx hb hts i_Cr hown hK hP 0 rfl rfl 2 (by decide) (hts _ k_f_Cr_21) (fun _ h9 => h9) rfl d_Cr_takeFor_6 ?_
      refine lv_icmp_ge hx hb d_Cr_takeFor_9 (tgt := 40) (by decide) (fun hc3 => ?_) (fun hc3 => ?_)
      · refine lv_iload_n hx hb d_Cr_takeFor_40 rfl (lv_at hl 1 rfl) ?_
        exact fy_reti hx hb hr hlocks hAe (Or.inr ⟨k, q, hkn, hq, rfl, rfl⟩) (List.Perm.refl _) hP hS d_Cr_takeFor_41
      · refine lv_iload_n hx hb d_Cr_takeFor_12 rfl (lv_at hl 1 rfl) ?_
        refine lv_iconst (v := -1) hx hb d_Cr_takeFor_13 (by decide) ?_
        refine lv_icmp_ne hx hb d_Cr_takeFor_14 (tgt := 40) (by decide) (fun _ => ?_) (fun h => absurd h (hne k hk4 q (by omega)))
        refine lv_iload_n hx hb d_Cr_takeFor_40 rfl (lv_at hl 1 rfl) ?_
        exact fy_reti hx hb hr hlocks hAe (Or.inr ⟨k, q, hkn, hq, rfl, rfl⟩) (List.Perm.refl _) hP hS d_Cr_takeFor_41
set_option maxRecDepth 20000 in
set_option maxHeartbeats 4000000 in
theorem c_Cr_followWeak (l : Launch) (s0 : State) (D : va_G) (cI cZ cJ cW : ClassId) (hG : fy_G s0 D cI cZ cJ cW) (cr wk fw wr : Nat) (wn tu st : Int32) (F G : Nat → Int32) (L Q : List Nat) (pl q : Nat → Nat) (wkr : Nat → Option Nat) (hpl : ∀ n ∈ L, pl n < 240) (hF : ∀ n ∈ L, F (pl n) = if n ∈ Q then nI (q n) else -1) (hw : ∀ j, j < 4 → ∀ n, wkr j = some n → n ∈ L) (hG0 : ∀ j, j < 4 → G j = fm_o ((wkr j).map pl)) : fy_Met l s0 D vwCl y_Cr_followWeak w_Cr_followWeak (fy_rm 0) 0 0 [.ref cr, .ref wr] [(cr, .inr (1, [.ref wk, .ref fw, .int wn, .int tu, .int st])), (fw, .inl (cI, 240, .inl F)), (wr, .inl (cI, 4, .inl G))] (fun r w1 => r = none ∧ ∃ G2 : Nat → Int32, (∀ j, j < 4 → G2 j = fm_o ((fm_wk Q (wkr j)).map q)) ∧ w1 = [(cr, .inr (1, [.ref wk, .ref fw, .int wn, .int tu, .int st])), (fw, .inl (cI, 240, .inl F)), (wr, .inl (cI, 4, .inl G2))]) := by
  refine fy_st (bytes := b_Cr_followWeak) (maxL := 3) (ret := none) hG (by decide) rfl (Nat.le_of_ble_eq_true rfl) ?_
  intro p e s m below meth c A ls hx hb hr hlocks hml hown hts hK hLa hAe hAB hA hl hP hD hS
  have hl : lv_has ls 3 [(0, .ref cr), (1, .ref wr)] := hl
  refine lv_iconst (v := nI 0) hx hb d_Cr_followWeak_0 (by decide) ?_
  refine lv_istore_n hx hb d_Cr_followWeak_1 rfl hl (by decide) rfl (fun ls hl => ?_)
  have hl : lv_has ls 3 [(2, .int (nI 0)), (0, .ref cr), (1, .ref wr)] := hl
  refine fy_loop (σ := Nat × (Nat → Int32)) (fun mz zz ls H locs => match zz with | (i, G) => mz = 4 - i ∧ (i ≤ 4) ∧ (∀ j, j < 4 → G j = if j < i then fm_o ((fm_wk Q (wkr j)).map q) else fm_o ((wkr j).map pl)) ∧ lv_has ls 3 [(2, .int (nI i)), (0, .ref cr), (1, .ref wr)] ∧ va_P D vwCl [(cr, .inr (1, [.ref wk, .ref fw, .int wn, .int tu, .int st])), (fw, .inl (cI, 240, .inl F)), (wr, .inl (cI, 4, .inl G))] H ∧ va_D A [(cr, .inr (1, [.ref wk, .ref fw, .int wn, .int tu, .int st])), (fw, .inl (cI, 240, .inl F)), (wr, .inl (cI, 4, .inl G))] ∧ va_S A s.heap H locs) ?_ _ (0, G) ⟨rfl, Nat.zero_le _, fun j hj => by rw [if_neg (Nat.not_lt_zero j)]; exact hG0 j hj, hl, hP, hD, hS⟩
  rintro mz ⟨i, G⟩ ls H locs ⟨hmz, hi, hg, hl, hP, hD, hS⟩ ih
  have hmz : mz = 4 - i := hmz
  have hi : i ≤ 4 := hi
  have hg : ∀ j, j < 4 → G j = if j < i then fm_o ((fm_wk Q (wkr j)).map q) else fm_o ((wkr j).map pl) := hg
  have hl : lv_has ls 3 [(2, .int (nI i)), (0, .ref cr), (1, .ref wr)] := hl
  have hP : va_P D vwCl [(cr, .inr (1, [.ref wk, .ref fw, .int wn, .int tu, .int st])), (fw, .inl (cI, 240, .inl F)), (wr, .inl (cI, 4, .inl G))] H := hP
  have hD : va_D A [(cr, .inr (1, [.ref wk, .ref fw, .int wn, .int tu, .int st])), (fw, .inl (cI, 240, .inl F)), (wr, .inl (cI, 4, .inl G))] := hD
  refine lv_iload_n hx hb d_Cr_followWeak_2 rfl (lv_at hl 0 rfl) ?_
  refine lv_aload_n hx hb d_Cr_followWeak_3 rfl (lv_at hl 2 rfl) ?_
  refine va_alen (v := nI 4) hx hb hK hP 2 0 rfl rfl rfl d_Cr_followWeak_4 ?_
  refine lv_icmp_ge hx hb d_Cr_followWeak_5 (tgt := 36) (by decide) (fun hc => ?_) (fun hc => ?_)
  · have hc : i = 4 := by have := (nI_leI (by omega) (by omega)).mp hc; omega
    exact fy_retv hx hb hr hlocks hAe (⟨rfl, G, fun j hj => by rw [hg j hj, if_pos (by omega)], rfl⟩) (List.Perm.refl _) hP hS d_Cr_followWeak_36
  · have hc : i < 4 := by have := mt (nI_leI (a := 4) (b := i) (by omega) (by omega)).mpr hc; omega
    have hv : G i = fm_o ((wkr i).map pl) := by rw [hg i hc, if_neg (Nat.lt_irrefl i)]
    have hnx : ∀ v, v = fm_o ((fm_wk Q (wkr i)).map q) → ∀ j, j < 4 → upd G i v j = if j < i + 1 then fm_o ((fm_wk Q (wkr j)).map q) else fm_o ((wkr j).map pl) := fun v hv2 j hj => by by_cases e : j = i; (subst e; rw [fm_upd_self, if_pos (by omega), hv2]); (rw [fm_upd_ne e, hg j hj]; by_cases e2 : j < i; (rw [if_pos e2, if_pos (by omega)]); (rw [if_neg e2, if_neg (by omega)]))
    refine lv_aload_n hx hb d_Cr_followWeak_8 rfl (lv_at hl 2 rfl) ?_
    refine lv_iload_n hx hb d_Cr_followWeak_9 rfl (lv_at hl 0 rfl) ?_
    refine lv_aload_n hx hb d_Cr_followWeak_10 rfl (lv_at hl 2 rfl) ?_
    refine lv_iload_n hx hb d_Cr_followWeak_11 rfl (lv_at hl 0 rfl) ?_
    refine fy_iald (t0 := 0) (v := fm_o ((wkr i).map pl)) hx hb hK hP 2 rfl rfl (by omega) (by omega) (hv) d_Cr_followWeak_12 ?_
    refine lv_iconst (v := -1) hx hb d_Cr_followWeak_13 (by decide) ?_
    cases hwi : wkr i with
    | none =>
      refine lv_icmp_ne hx hb d_Cr_followWeak_14 (tgt := 21) (by decide) (fun h => absurd (rfl) h) (fun _ => ?_)
      refine lv_iconst (v := -1) hx hb d_Cr_followWeak_17 (by decide) ?_
      refine lv_goto hx hb d_Cr_followWeak_18 (tgt := 29) (by decide) ?_
      refine fy_iast (t0 := 0) (g := upd G i (-1)) hx hb hK hP hD hS 2 rfl rfl (by omega) (hc) (rfl) d_Cr_followWeak_29 (fun H locs hP hD hS => ?_)
      have hP : va_P D vwCl [(cr, .inr (1, [.ref wk, .ref fw, .int wn, .int tu, .int st])), (fw, .inl (cI, 240, .inl F)), (wr, .inl (cI, 4, .inl (upd G i (-1))))] H := hP
      have hD : va_D A [(cr, .inr (1, [.ref wk, .ref fw, .int wn, .int tu, .int st])), (fw, .inl (cI, 240, .inl F)), (wr, .inl (cI, 4, .inl (upd G i (-1))))] := hD
      refine lv_iinc (v := nI (i + 1)) hx hb d_Cr_followWeak_30 hl (k := 0) rfl (by rw [show Int32.ofInt 1 = nI 1 from by decide]; exact nI_add _ _) (by decide) rfl (fun ls hl => ?_)
      have hl : lv_has ls 3 [(2, .int (nI (i + 1))), (0, .ref cr), (1, .ref wr)] := hl
      refine lv_goto hx hb d_Cr_followWeak_33 (tgt := 2) (by decide) ?_
      have hl : lv_has ls 3 [(2, .int (nI (i + 1))), (0, .ref cr), (1, .ref wr)] := lv_sub hl [0, 1, 2] rfl
      exact ih _ (i + 1, upd G i (-1)) _ _ _ (by omega) ⟨rfl, hc, hnx (-1) (by rw [hwi]; rfl), hl, hP, hD, hS⟩
    | some n =>
      have hnL := hw i hc n hwi
      have hpn := hpl n hnL
      refine lv_icmp_ne hx hb d_Cr_followWeak_14 (tgt := 21) (by decide) (fun _ => ?_) (fun h => absurd h (fm_m1 (by omega)))
      refine lv_aload_n hx hb d_Cr_followWeak_21 rfl (lv_at hl 1 rfl) ?_
      refine va_get (D := D) (ci := 1) (v := .ref fw) (C := R_Cr) (T := F_Cr) (N := 5) hx hb hts i_Cr hown hK hP 0 rfl rfl 1 (by decide) (hts _ k_f_Cr_17) (fun _ h9 => h9) rfl d_Cr_followWeak_22 ?_
      refine lv_aload_n hx hb d_Cr_followWeak_25 rfl (lv_at hl 2 rfl) ?_
      refine lv_iload_n hx hb d_Cr_followWeak_26 rfl (lv_at hl 0 rfl) ?_
      refine fy_iald (t0 := 0) (v := nI (pl n)) hx hb hK hP 2 rfl rfl (by omega) (hc) (by rw [hv, hwi]; rfl) d_Cr_followWeak_27 ?_
      refine fy_iald (t0 := 0) (v := fm_o ((fm_wk Q (wkr i)).map q)) hx hb hK hP 1 rfl rfl (by omega) (by omega) (by rw [hF n hnL, hwi]; unfold fm_wk; by_cases e : n ∈ Q; (simp [e, fm_o]); (simp [e, fm_o])) d_Cr_followWeak_28 ?_
      refine fy_iast (t0 := 0) (g := upd G i (fm_o ((fm_wk Q (wkr i)).map q))) hx hb hK hP hD hS 2 rfl rfl (by omega) (hc) (rfl) d_Cr_followWeak_29 (fun H locs hP hD hS => ?_)
      have hP : va_P D vwCl [(cr, .inr (1, [.ref wk, .ref fw, .int wn, .int tu, .int st])), (fw, .inl (cI, 240, .inl F)), (wr, .inl (cI, 4, .inl (upd G i (fm_o ((fm_wk Q (wkr i)).map q)))))] H := hP
      have hD : va_D A [(cr, .inr (1, [.ref wk, .ref fw, .int wn, .int tu, .int st])), (fw, .inl (cI, 240, .inl F)), (wr, .inl (cI, 4, .inl (upd G i (fm_o ((fm_wk Q (wkr i)).map q)))))] := hD
      refine lv_iinc (v := nI (i + 1)) hx hb d_Cr_followWeak_30 hl (k := 0) rfl (by rw [show Int32.ofInt 1 = nI 1 from by decide]; exact nI_add _ _) (by decide) rfl (fun ls hl => ?_)
      have hl : lv_has ls 3 [(2, .int (nI (i + 1))), (0, .ref cr), (1, .ref wr)] := hl
      refine lv_goto hx hb d_Cr_followWeak_33 (tgt := 2) (by decide) ?_
      have hl : lv_has ls 3 [(2, .int (nI (i + 1))), (0, .ref cr), (1, .ref wr)] := lv_sub hl [0, 1, 2] rfl
      exact ih _ (i + 1, upd G i (fm_o ((fm_wk Q (wkr i)).map q))) _ _ _ (by omega) ⟨rfl, hc, hnx _ rfl, hl, hP, hD, hS⟩
