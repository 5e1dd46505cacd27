abbrev mo_post (rv : Int32 → Option Value) (mo m1 m2 m3 m4 m5 m6 m7 m8 : Nat) (cI cZ : ClassId) (k : Nat) (ans : Int32) (N : Nat) (C : Nat) (L : List Nat) (val : Nat → Int32) (age : Nat → Nat) (nf : Nat → Nat) (rf : Nat → Nat → Option Nat) (reg : Nat → Option Nat) (wk : Nat → Option Nat) : Option Value → va_W → Prop := fun r w1 => ∃ (b : Int32) (nu va ag fi re mk mr mw : Nat → Int32), (k = 0 → b = ans) ∧ r = rv b ∧ fm_Mo L val age nf rf reg wk nu va ag fi re mr mw ∧ w1 = [(mo, .inr (5, [.int (nI k), .int (nI N), .int (nI C), .int (nI L.length), .ref m1, .ref m2, .ref m3, .ref m4, .ref m5, .ref m6, .ref m7, .ref m8])), (m1, .inl (cI, 80, .inl nu)), (m2, .inl (cI, 80, .inl va)), (m3, .inl (cI, 80, .inl ag)), (m4, .inl (cI, 80, .inl fi)), (m5, .inl (cI, 320, .inl re)), (m6, .inl (cZ, 80, .inl mk)), (m7, .inl (cI, 8, .inl mr)), (m8, .inl (cI, 4, .inl mw))]
theorem fm_is0 {L : List Nat} {i : Nat} {a : Option Nat} (h : fm_is L i none a) : a = none := by
  cases a with
  | none => rfl
  | some k => obtain ⟨-, n, -, h2⟩ := (h k).mp rfl; cases h2
theorem fm_is1 {L : List Nat} {n : Nat} {a : Option Nat} (h : fm_is L L.length (some n) a) (hn : n ∈ L) : ∃ k, a = some k ∧ L[k]? = some n ∧ k < L.length := by
  cases a with
  | none => exact absurd hn (fm_is_none h n rfl)
  | some k => obtain ⟨h0, m, h1, h2⟩ := (h k).mp rfl; cases h2; exact ⟨k, rfl, h1, h0⟩
set_option maxRecDepth 20000 in
set_option maxHeartbeats 4000000 in
theorem c_Mo_fieldAt_N (l : Launch) (s0 : State) (D : va_G) (cI cZ cJ cW : ClassId) (hG : fy_G s0 D cI cZ cJ cW) (mo m1 m2 m3 m4 m5 m6 m7 m8 : Nat) (cd : Int32) (i : Nat) (N : Nat) (C : Nat) (L : List Nat) (val : Nat → Int32) (age : Nat → Nat) (nf : Nat → Nat) (rf : Nat → Nat → Option Nat) (reg : Nat → Option Nat) (wk : Nat → Option Nat) (nu va ag fi re mr mw : Nat → Int32) (hI : fm_In i N C L age nf rf reg wk) (hM : fm_Mo L val age nf rf reg wk nu va ag fi re mr mw) (j : Nat) (a2 : Int32) (hj : j < 8) (hn0 : reg j = none) : fy_Met l s0 D vwCl y_Mo_fieldAt w_Mo_fieldAt (fy_rm 1) 0 0 [.ref mo, .int (nI j), .int a2] [(mo, .inr (5, [.int cd, .int (nI N), .int (nI C), .int (nI L.length), .ref m1, .ref m2, .ref m3, .ref m4, .ref m5, .ref m6, .ref m7, .ref m8])), (m1, .inl (cI, 80, .inl nu)), (m4, .inl (cI, 80, .inl fi)), (m7, .inl (cI, 8, .inl mr))] (fun r w1 => r = some (.int (-1)) ∧ w1 = [(mo, .inr (5, [.int (nI 2), .int (nI N), .int (nI C), .int (nI L.length), .ref m1, .ref m2, .ref m3, .ref m4, .ref m5, .ref m6, .ref m7, .ref m8])), (m1, .inl (cI, 80, .inl nu)), (m4, .inl (cI, 80, .inl fi)), (m7, .inl (cI, 8, .inl mr))]) := by
  refine fy_st (bytes := b_Mo_fieldAt) (maxL := 4) (ret := some .int) hG (by decide) rfl (Nat.le_of_ble_eq_true rfl) ?_
  intro p e s m below meth c A ls hx hb hr hlocks hml hown hts hK hLa hAe hAB hA hl hP hD hS
  have hl : lv_has ls 4 [(0, .ref mo), (1, .int (nI j)), (2, .int a2)] := hl
  refine lv_aload_n hx hb d_Mo_fieldAt_0 rfl (lv_at hl 0 rfl) ?_
  refine lv_aload_n hx hb d_Mo_fieldAt_1 rfl (lv_at hl 0 rfl) ?_
  refine va_get (D := D) (ci := 5) (v := .ref m7) (C := R_Mo) (T := F_Mo) (N := 12) hx hb hts i_Mo hown hK hP 0 rfl rfl 10 (by decide) (hts _ k_f_Mo_29) (fun _ h9 => h9) rfl d_Mo_fieldAt_2 ?_
  refine lv_iload_n hx hb d_Mo_fieldAt_5 rfl (lv_at hl 1 rfl) ?_
  refine fy_iald (t0 := 0) (v := fm_o none) hx hb hK hP 3 rfl rfl (by omega) (by omega) (by rw [hM.2.1 j hj, hn0]) d_Mo_fieldAt_6 ?_
  refine fy_callV (As := [.int (fm_o none)]) (rest := []) ⟨hx, hb, hml, hown, hts⟩ (c_Mo_find l s0 D cI cZ cJ cW hG mo m1 m2 m3 m4 m5 m6 m7 m8 cd N C L nu none hM.num hI.2.2.2.1 hI.len hI.lt (fun n hn => by cases hn)) (cwV 1 hts g_Mo_53 rfl rfl rfl (by decide +kernel) ⟨Nat.le_of_ble_eq_true rfl, Nat.le_of_ble_eq_true rfl⟩) hK hLa hAB hA hP hD hS [0, 1] rfl rfl (ci := 5) rfl rfl (q0 := 0) rfl rfl hl.1 rfl (Nat.le_of_ble_eq_true rfl) d_Mo_fieldAt_7 ⟨Nat.zero_le _, Nat.zero_le _⟩ (fun r w1 H locs hp hP hD hS => ?_)
  obtain ⟨a, ha, rfl, rfl⟩ := hp
  have hP : va_P D vwCl [(mo, .inr (5, [.int cd, .int (nI N), .int (nI C), .int (nI L.length), .ref m1, .ref m2, .ref m3, .ref m4, .ref m5, .ref m6, .ref m7, .ref m8])), (m1, .inl (cI, 80, .inl nu)), (m4, .inl (cI, 80, .inl fi)), (m7, .inl (cI, 8, .inl mr))] H := hP
  have hD : va_D A [(mo, .inr (5, [.int cd, .int (nI N), .int (nI C), .int (nI L.length), .ref m1, .ref m2, .ref m3, .ref m4, .ref m5, .ref m6, .ref m7, .ref m8])), (m1, .inl (cI, 80, .inl nu)), (m4, .inl (cI, 80, .inl fi)), (m7, .inl (cI, 8, .inl mr))] := hD
  cases fm_is0 ha
  refine lv_istore_n hx hb d_Mo_fieldAt_10 rfl hl (by decide) rfl (fun ls hl => ?_)
  have hl : lv_has ls 4 [(3, .int (fm_o none)), (0, .ref mo), (1, .int (nI j)), (2, .int a2)] := hl
  refine lv_aload_n hx hb d_Mo_fieldAt_11 rfl (lv_at hl 1 rfl) ?_
  refine lv_iload_n hx hb d_Mo_fieldAt_12 rfl (lv_at hl 0 rfl) ?_
  refine lv_if_ge hx hb d_Mo_fieldAt_13 (tgt := 20) (by decide) (fun h => absurd h (by decide)) (fun _ => ?_)
  refine lv_iconst (v := nI 2) hx hb d_Mo_fieldAt_16 (by decide) ?_
  refine lv_goto hx hb d_Mo_fieldAt_17 (tgt := 39) (by decide) ?_
  refine va_put (D := D) (ci := 5) (v := .int (nI 2)) (ty := .int) (C := R_Mo) (T := F_Mo) (N := 12) hx hb hts i_Mo t_Mo tk_Mo n_Mo hown hK hP hD hS 0 rfl rfl 0 (by decide) (hts _ k_f_Mo_35) (fun _ h9 => h9) rfl (by decide +kernel) rfl rfl (Nat.le_of_ble_eq_true rfl) d_Mo_fieldAt_39 (fun H locs hP hD hS => ?_)
  have hP : va_P D vwCl [(mo, .inr (5, [.int (nI 2), .int (nI N), .int (nI C), .int (nI L.length), .ref m1, .ref m2, .ref m3, .ref m4, .ref m5, .ref m6, .ref m7, .ref m8])), (m1, .inl (cI, 80, .inl nu)), (m4, .inl (cI, 80, .inl fi)), (m7, .inl (cI, 8, .inl mr))] H := hP
  have hD : va_D A [(mo, .inr (5, [.int (nI 2), .int (nI N), .int (nI C), .int (nI L.length), .ref m1, .ref m2, .ref m3, .ref m4, .ref m5, .ref m6, .ref m7, .ref m8])), (m1, .inl (cI, 80, .inl nu)), (m4, .inl (cI, 80, .inl fi)), (m7, .inl (cI, 8, .inl mr))] := hD
  refine lv_aload_n hx hb d_Mo_fieldAt_42 rfl (lv_at hl 1 rfl) ?_
  refine va_get (D := D) (ci := 5) (v := .int (nI 2)) (C := R_Mo) (T := F_Mo) (N := 12) hx hb hts i_Mo hown hK hP 0 rfl rfl 0 (by decide) (hts _ k_f_Mo_35) (fun _ h9 => h9) rfl d_Mo_fieldAt_43 ?_
  refine lv_if_le hx hb d_Mo_fieldAt_46 (tgt := 53) (by decide) (fun h => absurd h (by decide)) (fun _ => ?_)
  refine lv_iconst (v := -1) hx hb d_Mo_fieldAt_49 (by decide) ?_
  refine lv_goto hx hb d_Mo_fieldAt_50 (tgt := 58) (by decide) ?_
  exact fy_reti hx hb hr hlocks hAe (⟨rfl, rfl⟩) (List.Perm.refl _) hP hS d_Mo_fieldAt_58
set_option maxRecDepth 20000 in
set_option maxHeartbeats 4000000 in
theorem c_Mo_fieldAt_O (l : Launch) (s0 : State) (D : va_G) (cI cZ cJ cW : ClassId) (hG : fy_G s0 D cI cZ cJ cW) (mo m1 m2 m3 m4 m5 m6 m7 m8 : Nat) (cd : Int32) (i : Nat) (N : Nat) (C : Nat) (L : List Nat) (val : Nat → Int32) (age : Nat → Nat) (nf : Nat → Nat) (rf : Nat → Nat → Option Nat) (reg : Nat → Option Nat) (wk : Nat → Option Nat) (nu va ag fi re mr mw : Nat → Int32) (hI : fm_In i N C L age nf rf reg wk) (hM : fm_Mo L val age nf rf reg wk nu va ag fi re mr mw) (j n : Nat) (a2 : Int32) (hj : j < 8) (hn0 : reg j = some n) (hf : ¬ fy_ok (nf n) a2) : fy_Met l s0 D vwCl y_Mo_fieldAt w_Mo_fieldAt (fy_rm 1) 0 0 [.ref mo, .int (nI j), .int a2] [(mo, .inr (5, [.int cd, .int (nI N), .int (nI C), .int (nI L.length), .ref m1, .ref m2, .ref m3, .ref m4, .ref m5, .ref m6, .ref m7, .ref m8])), (m1, .inl (cI, 80, .inl nu)), (m4, .inl (cI, 80, .inl fi)), (m7, .inl (cI, 8, .inl mr))] (fun r w1 => r = some (.int (-1)) ∧ w1 = [(mo, .inr (5, [.int (nI 3), .int (nI N), .int (nI C), .int (nI L.length), .ref m1, .ref m2, .ref m3, .ref m4, .ref m5, .ref m6, .ref m7, .ref m8])), (m1, .inl (cI, 80, .inl nu)), (m4, .inl (cI, 80, .inl fi)), (m7, .inl (cI, 8, .inl mr))]) := by
  refine fy_st (bytes := b_Mo_fieldAt) (maxL := 4) (ret := some .int) hG (by decide) rfl (Nat.le_of_ble_eq_true rfl) ?_
  intro p e s m below meth c A ls hx hb hr hlocks hml hown hts hK hLa hAe hAB hA hl hP hD hS
  have hl : lv_has ls 4 [(0, .ref mo), (1, .int (nI j)), (2, .int a2)] := hl
  refine lv_aload_n hx hb d_Mo_fieldAt_0 rfl (lv_at hl 0 rfl) ?_
  refine lv_aload_n hx hb d_Mo_fieldAt_1 rfl (lv_at hl 0 rfl) ?_
  refine va_get (D := D) (ci := 5) (v := .ref m7) (C := R_Mo) (T := F_Mo) (N := 12) hx hb hts i_Mo hown hK hP 0 rfl rfl 10 (by decide) (hts _ k_f_Mo_29) (fun _ h9 => h9) rfl d_Mo_fieldAt_2 ?_
  refine lv_iload_n hx hb d_Mo_fieldAt_5 rfl (lv_at hl 1 rfl) ?_
  refine fy_iald (t0 := 0) (v := fm_o (some n)) hx hb hK hP 3 rfl rfl (by omega) (by omega) (by rw [hM.2.1 j hj, hn0]) d_Mo_fieldAt_6 ?_
  have hnL : n ∈ L := hI.inR hj n hn0
  refine fy_callV (As := [.int (fm_o (some n))]) (rest := []) ⟨hx, hb, hml, hown, hts⟩ (c_Mo_find l s0 D cI cZ cJ cW hG mo m1 m2 m3 m4 m5 m6 m7 m8 cd N C L nu (some n) hM.num hI.2.2.2.1 hI.len hI.lt (fun m hm => hI.lt m (by cases hm; exact hnL))) (cwV 1 hts g_Mo_53 rfl rfl rfl (by decide +kernel) ⟨Nat.le_of_ble_eq_true rfl, Nat.le_of_ble_eq_true rfl⟩) hK hLa hAB hA hP hD hS [0, 1] rfl rfl (ci := 5) rfl rfl (q0 := 0) rfl rfl hl.1 rfl (Nat.le_of_ble_eq_true rfl) d_Mo_fieldAt_7 ⟨Nat.zero_le _, Nat.zero_le _⟩ (fun r w1 H locs hp hP hD hS => ?_)
  obtain ⟨a, ha, rfl, rfl⟩ := hp
  have hP : va_P D vwCl [(mo, .inr (5, [.int cd, .int (nI N), .int (nI C), .int (nI L.length), .ref m1, .ref m2, .ref m3, .ref m4, .ref m5, .ref m6, .ref m7, .ref m8])), (m1, .inl (cI, 80, .inl nu)), (m4, .inl (cI, 80, .inl fi)), (m7, .inl (cI, 8, .inl mr))] H := hP
  have hD : va_D A [(mo, .inr (5, [.int cd, .int (nI N), .int (nI C), .int (nI L.length), .ref m1, .ref m2, .ref m3, .ref m4, .ref m5, .ref m6, .ref m7, .ref m8])), (m1, .inl (cI, 80, .inl nu)), (m4, .inl (cI, 80, .inl fi)), (m7, .inl (cI, 8, .inl mr))] := hD
  obtain ⟨k, rfl, hk, hkl⟩ := fm_is1 ha hnL
  have h80 := hI.len
  refine W.eq (g2 := F0 m 10 ls [.int (nI k)]) rfl ?_
  obtain ⟨e1, e2, e3, e4, e5⟩ := hM.1 k n hk
  obtain ⟨-, ea, ef⟩ := hI.2.2.2.2.2.2.1 n hnL
  refine lv_istore_n hx hb d_Mo_fieldAt_10 rfl hl (by decide) rfl (fun ls hl => ?_)
  have hl : lv_has ls 4 [(3, .int (nI k)), (0, .ref mo), (1, .int (nI j)), (2, .int a2)] := hl
  refine lv_aload_n hx hb d_Mo_fieldAt_11 rfl (lv_at hl 1 rfl) ?_
  refine lv_iload_n hx hb d_Mo_fieldAt_12 rfl (lv_at hl 0 rfl) ?_
  refine lv_if_ge hx hb d_Mo_fieldAt_13 (tgt := 20) (by decide) (fun _ => ?_) (fun h => absurd (nI_pos' (by omega)) h)
  refine lv_iload_n hx hb d_Mo_fieldAt_20 rfl (lv_at hl 3 rfl) ?_
  refine lv_if_lt hx hb d_Mo_fieldAt_21 (tgt := 34) (by decide) (fun hc => ?_) (fun hc => ?_)
  · refine lv_iconst (v := nI 3) hx hb d_Mo_fieldAt_34 (by decide) ?_
    refine lv_goto hx hb d_Mo_fieldAt_35 (tgt := 39) (by decide) ?_
    refine va_put (D := D) (ci := 5) (v := .int (nI 3)) (ty := .int) (C := R_Mo) (T := F_Mo) (N := 12) hx hb hts i_Mo t_Mo tk_Mo n_Mo hown hK hP hD hS 0 rfl rfl 0 (by decide) (hts _ k_f_Mo_35) (fun _ h9 => h9) rfl (by decide +kernel) rfl rfl (Nat.le_of_ble_eq_true rfl) d_Mo_fieldAt_39 (fun H locs hP hD hS => ?_)
    have hP : va_P D vwCl [(mo, .inr (5, [.int (nI 3), .int (nI N), .int (nI C), .int (nI L.length), .ref m1, .ref m2, .ref m3, .ref m4, .ref m5, .ref m6, .ref m7, .ref m8])), (m1, .inl (cI, 80, .inl nu)), (m4, .inl (cI, 80, .inl fi)), (m7, .inl (cI, 8, .inl mr))] H := hP
    have hD : va_D A [(mo, .inr (5, [.int (nI 3), .int (nI N), .int (nI C), .int (nI L.length), .ref m1, .ref m2, .ref m3, .ref m4, .ref m5, .ref m6, .ref m7, .ref m8])), (m1, .inl (cI, 80, .inl nu)), (m4, .inl (cI, 80, .inl fi)), (m7, .inl (cI, 8, .inl mr))] := hD
    refine lv_aload_n hx hb d_Mo_fieldAt_42 rfl (lv_at hl 1 rfl) ?_
    refine va_get (D := D) (ci := 5) (v := .int (nI 3)) (C := R_Mo) (T := F_Mo) (N := 12) hx hb hts i_Mo hown hK hP 0 rfl rfl 0 (by decide) (hts _ k_f_Mo_35) (fun _ h9 => h9) rfl d_Mo_fieldAt_43 ?_
    refine lv_if_le hx hb d_Mo_fieldAt_46 (tgt := 53) (by decide) (fun h => absurd h (by decide)) (fun _ => ?_)
    refine lv_iconst (v := -1) hx hb d_Mo_fieldAt_49 (by decide) ?_
    refine lv_goto hx hb d_Mo_fieldAt_50 (tgt := 58) (by decide) ?_
    exact fy_reti hx hb hr hlocks hAe (⟨rfl, rfl⟩) (List.Perm.refl _) hP hS d_Mo_fieldAt_58
  · refine lv_iload_n hx hb d_Mo_fieldAt_24 rfl (lv_at hl 3 rfl) ?_
    refine lv_aload_n hx hb d_Mo_fieldAt_25 rfl (lv_at hl 1 rfl) ?_
    refine va_get (D := D) (ci := 5) (v := .ref m4) (C := R_Mo) (T := F_Mo) (N := 12) hx hb hts i_Mo hown hK hP 0 rfl rfl 7 (by decide) (hts _ k_f_Mo_19) (fun _ h9 => h9) rfl d_Mo_fieldAt_26 ?_
    refine lv_iload_n hx hb d_Mo_fieldAt_29 rfl (lv_at hl 0 rfl) ?_
    refine fy_iald (t0 := 0) (v := nI (nf n)) hx hb hK hP 2 rfl rfl (by omega) (by omega) (e4) d_Mo_fieldAt_30 ?_
    refine lv_icmp_lt hx hb d_Mo_fieldAt_31 (tgt := 38) (by decide) (fun h => absurd h (fun h => hf ⟨Int32.not_lt.mp hc, h⟩)) (fun _ => ?_)
    refine lv_iconst (v := nI 3) hx hb d_Mo_fieldAt_34 (by decide) ?_
    refine lv_goto hx hb d_Mo_fieldAt_35 (tgt := 39) (by decide) ?_
    refine va_put (D := D) (ci := 5) (v := .int (nI 3)) (ty := .int) (C := R_Mo) (T := F_Mo) (N := 12) hx hb hts i_Mo t_Mo tk_Mo n_Mo hown hK hP hD hS 0 rfl rfl 0 (by decide) (hts _ k_f_Mo_35) (fun _ h9 => h9) rfl (by decide +kernel) rfl rfl (Nat.le_of_ble_eq_true rfl) d_Mo_fieldAt_39 (fun H locs hP hD hS => ?_)
    have hP : va_P D vwCl [(mo, .inr (5, [.int (nI 3), .int (nI N), .int (nI C), .int (nI L.length), .ref m1, .ref m2, .ref m3, .ref m4, .ref m5, .ref m6, .ref m7, .ref m8])), (m1, .inl (cI, 80, .inl nu)), (m4, .inl (cI, 80, .inl fi)), (m7, .inl (cI, 8, .inl mr))] H := hP
    have hD : va_D A [(mo, .inr (5, [.int (nI 3), .int (nI N), .int (nI C), .int (nI L.length), .ref m1, .ref m2, .ref m3, .ref m4, .ref m5, .ref m6, .ref m7, .ref m8])), (m1, .inl (cI, 80, .inl nu)), (m4, .inl (cI, 80, .inl fi)), (m7, .inl (cI, 8, .inl mr))] := hD
    refine lv_aload_n hx hb d_Mo_fieldAt_42 rfl (lv_at hl 1 rfl) ?_
    refine va_get (D := D) (ci := 5) (v := .int (nI 3)) (C := R_Mo) (T := F_Mo) (N := 12) hx hb hts i_Mo hown hK hP 0 rfl rfl 0 (by decide) (hts _ k_f_Mo_35) (fun _ h9 => h9) rfl d_Mo_fieldAt_43 ?_
    refine lv_if_le hx hb d_Mo_fieldAt_46 (tgt := 53) (by decide) (fun h => absurd h (by decide)) (fun _ => ?_)
    refine lv_iconst (v := -1) hx hb d_Mo_fieldAt_49 (by decide) ?_
    refine lv_goto hx hb d_Mo_fieldAt_50 (tgt := 58) (by decide) ?_
    exact fy_reti hx hb hr hlocks hAe (⟨rfl, rfl⟩) (List.Perm.refl _) hP hS d_Mo_fieldAt_58
set_option maxRecDepth 20000 in
set_option maxHeartbeats 4000000 in
theorem c_Mo_fieldAt_ok (l : Launch) (s0 : State) (D : va_G) (cI cZ cJ cW : ClassId) (hG : fy_G s0 D cI cZ cJ cW) (mo m1 m2 m3 m4 m5 m6 m7 m8 : Nat) (cd : Int32) (i : Nat) (N : Nat) (C : Nat) (L : List Nat) (val : Nat → Int32) (age : Nat → Nat) (nf : Nat → Nat) (rf : Nat → Nat → Option Nat) (reg : Nat → Option Nat) (wk : Nat → Option Nat) (nu va ag fi re mr mw : Nat → Int32) (hI : fm_In i N C L age nf rf reg wk) (hM : fm_Mo L val age nf rf reg wk nu va ag fi re mr mw) (j n f : Nat) (hj : j < 8) (hn0 : reg j = some n) (hf : f < nf n) : fy_Met l s0 D vwCl y_Mo_fieldAt w_Mo_fieldAt (fy_rm 1) 0 0 [.ref mo, .int (nI j), .int (nI f)] [(mo, .inr (5, [.int cd, .int (nI N), .int (nI C), .int (nI L.length), .ref m1, .ref m2, .ref m3, .ref m4, .ref m5, .ref m6, .ref m7, .ref m8])), (m1, .inl (cI, 80, .inl nu)), (m4, .inl (cI, 80, .inl fi)), (m7, .inl (cI, 8, .inl mr))] (fun r w1 => ∃ k, L[k]? = some n ∧ k < 80 ∧ r = some (.int (nI (4 * k + f))) ∧ w1 = [(mo, .inr (5, [.int (nI 0), .int (nI N), .int (nI C), .int (nI L.length), .ref m1, .ref m2, .ref m3, .ref m4, .ref m5, .ref m6, .ref m7, .ref m8])), (m1, .inl (cI, 80, .inl nu)), (m4, .inl (cI, 80, .inl fi)), (m7, .inl (cI, 8, .inl mr))]) := by
  refine fy_st (bytes := b_Mo_fieldAt) (maxL := 4) (ret := some .int) hG (by decide) rfl (Nat.le_of_ble_eq_true rfl) ?_
  intro p e s m below meth c A ls hx hb hr hlocks hml hown hts hK hLa hAe hAB hA hl hP hD hS
  have hl : lv_has ls 4 [(0, .ref mo), (1, .int (nI j)), (2, .int (nI f))] := hl
  refine lv_aload_n hx hb d_Mo_fieldAt_0 rfl (lv_at hl 0 rfl) ?_
  refine lv_aload_n hx hb d_Mo_fieldAt_1 rfl (lv_at hl 0 rfl) ?_
  refine va_get (D := D) (ci := 5) (v := .ref m7) (C := R_Mo) (T := F_Mo) (N := 12) hx hb hts i_Mo hown hK hP 0 rfl rfl 10 (by decide) (hts _ k_f_Mo_29) (fun _ h9 => h9) rfl d_Mo_fieldAt_2 ?_
  refine lv_iload_n hx hb d_Mo_fieldAt_5 rfl (lv_at hl 1 rfl) ?_
  refine fy_iald (t0 := 0) (v := fm_o (some n)) hx hb hK hP 3 rfl rfl (by omega) (by omega) (by rw [hM.2.1 j hj, hn0]) d_Mo_fieldAt_6 ?_
  have hnL : n ∈ L := hI.inR hj n hn0
  refine fy_callV (As := [.int (fm_o (some n))]) (rest := []) ⟨hx, hb, hml, hown, hts⟩ (c_Mo_find l s0 D cI cZ cJ cW hG mo m1 m2 m3 m4 m5 m6 m7 m8 cd N C L nu (some n) hM.num hI.2.2.2.1 hI.len hI.lt (fun m hm => hI.lt m (by cases hm; exact hnL))) (cwV 1 hts g_Mo_53 rfl rfl rfl (by decide +kernel) ⟨Nat.le_of_ble_eq_true rfl, Nat.le_of_ble_eq_true rfl⟩) hK hLa hAB hA hP hD hS [0, 1] rfl rfl (ci := 5) rfl rfl (q0 := 0) rfl rfl hl.1 rfl (Nat.le_of_ble_eq_true rfl) d_Mo_fieldAt_7 ⟨Nat.zero_le _, Nat.zero_le _⟩ (fun r w1 H locs hp hP hD hS => ?_)
  obtain ⟨a, ha, rfl, rfl⟩ := hp
  have hP : va_P D vwCl [(mo, .inr (5, [.int cd, .int (nI N), .int (nI C), .int (nI L.length), .ref m1, .ref m2, .ref m3, .ref m4, .ref m5, .ref m6, .ref m7, .ref m8])), (m1, .inl (cI, 80, .inl nu)), (m4, .inl (cI, 80, .inl fi)), (m7, .inl (cI, 8, .inl mr))] H := hP
  have hD : va_D A [(mo, .inr (5, [.int cd, .int (nI N), .int (nI C), .int (nI L.length), .ref m1, .ref m2, .ref m3, .ref m4, .ref m5, .ref m6, .ref m7, .ref m8])), (m1, .inl (cI, 80, .inl nu)), (m4, .inl (cI, 80, .inl fi)), (m7, .inl (cI, 8, .inl mr))] := hD
  obtain ⟨k, rfl, hk, hkl⟩ := fm_is1 ha hnL
  have h80 := hI.len
  refine W.eq (g2 := F0 m 10 ls [.int (nI k)]) rfl ?_
  obtain ⟨e1, e2, e3, e4, e5⟩ := hM.1 k n hk
  obtain ⟨-, ea, ef⟩ := hI.2.2.2.2.2.2.1 n hnL
  refine lv_istore_n hx hb d_Mo_fieldAt_10 rfl hl (by decide) rfl (fun ls hl => ?_)
  have hl : lv_has ls 4 [(3, .int (nI k)), (0, .ref mo), (1, .int (nI j)), (2, .int (nI f))] := hl
  refine lv_aload_n hx hb d_Mo_fieldAt_11 rfl (lv_at hl 1 rfl) ?_
  refine lv_iload_n hx hb d_Mo_fieldAt_12 rfl (lv_at hl 0 rfl) ?_
  refine lv_if_ge hx hb d_Mo_fieldAt_13 (tgt := 20) (by decide) (fun _ => ?_) (fun h => absurd (nI_pos' (by omega)) h)
  refine lv_iload_n hx hb d_Mo_fieldAt_20 rfl (lv_at hl 3 rfl) ?_
  refine lv_if_lt hx hb d_Mo_fieldAt_21 (tgt := 34) (by decide) (fun h => absurd h (nI_pos (by omega))) (fun _ => ?_)
  refine lv_iload_n hx hb d_Mo_fieldAt_24 rfl (lv_at hl 3 rfl) ?_
  refine lv_aload_n hx hb d_Mo_fieldAt_25 rfl (lv_at hl 1 rfl) ?_
  refine va_get (D := D) (ci := 5) (v := .ref m4) (C := R_Mo) (T := F_Mo) (N := 12) hx hb hts i_Mo hown hK hP 0 rfl rfl 7 (by decide) (hts _ k_f_Mo_19) (fun _ h9 => h9) rfl d_Mo_fieldAt_26 ?_
  refine lv_iload_n hx hb d_Mo_fieldAt_29 rfl (lv_at hl 0 rfl) ?_
  refine fy_iald (t0 := 0) (v := nI (nf n)) hx hb hK hP 2 rfl rfl (by omega) (by omega) (e4) d_Mo_fieldAt_30 ?_
  refine lv_icmp_lt hx hb d_Mo_fieldAt_31 (tgt := 38) (by decide) (fun _ => ?_) (fun h => absurd ((nI_ltI (by omega) (by omega)).mpr hf) h)
  refine lv_iconst (v := nI 0) hx hb d_Mo_fieldAt_38 (by decide) ?_
  refine va_put (D := D) (ci := 5) (v := .int (nI 0)) (ty := .int) (C := R_Mo) (T := F_Mo) (N := 12) hx hb hts i_Mo t_Mo tk_Mo n_Mo hown hK hP hD hS 0 rfl rfl 0 (by decide) (hts _ k_f_Mo_35) (fun _ h9 => h9) rfl (by decide +kernel) rfl rfl (Nat.le_of_ble_eq_true rfl) d_Mo_fieldAt_39 (fun H locs hP hD hS => ?_)
  have hP : va_P D vwCl [(mo, .inr (5, [.int (nI 0), .int (nI N), .int (nI C), .int (nI L.length), .ref m1, .ref m2, .ref m3, .ref m4, .ref m5, .ref m6, .ref m7, .ref m8])), (m1, .inl (cI, 80, .inl nu)), (m4, .inl (cI, 80, .inl fi)), (m7, .inl (cI, 8, .inl mr))] H := hP
  have hD : va_D A [(mo, .inr (5, [.int (nI 0), .int (nI N), .int (nI C), .int (nI L.length), .ref m1, .ref m2, .ref m3, .ref m4, .ref m5, .ref m6, .ref m7, .ref m8])), (m1, .inl (cI, 80, .inl nu)), (m4, .inl (cI, 80, .inl fi)), (m7, .inl (cI, 8, .inl mr))] := hD
  refine lv_aload_n hx hb d_Mo_fieldAt_42 rfl (lv_at hl 1 rfl) ?_
  refine va_get (D := D) (ci := 5) (v := .int (nI 0)) (C := R_Mo) (T := F_Mo) (N := 12) hx hb hts i_Mo hown hK hP 0 rfl rfl 0 (by decide) (hts _ k_f_Mo_35) (fun _ h9 => h9) rfl d_Mo_fieldAt_43 ?_
  refine lv_if_le hx hb d_Mo_fieldAt_46 (tgt := 53) (by decide) (fun _ => ?_) (fun h => absurd (by decide) h)
  refine lv_iconst (v := nI 4) hx hb d_Mo_fieldAt_53 (by decide) ?_
  refine lv_iload_n hx hb d_Mo_fieldAt_54 rfl (lv_at hl 0 rfl) ?_
  refine lv_imul hx hb d_Mo_fieldAt_55 ?_
  refine fy_top (z := nI (4 * k)) (pk_mul _ _) ?_
  refine lv_iload_n hx hb d_Mo_fieldAt_56 rfl (lv_at hl 3 rfl) ?_
  refine lv_iadd hx hb d_Mo_fieldAt_57 ?_
  refine fy_top (z := nI ((4 * k) + f)) (nI_add _ _) ?_
  exact fy_reti hx hb hr hlocks hAe (⟨k, hk, by omega, rfl, rfl⟩) (List.Perm.refl _) hP hS d_Mo_fieldAt_58
set_option maxRecDepth 20000 in
set_option maxHeartbeats 4000000 in
theorem c_Mo_make_0 (l : Launch) (s0 : State) (D : va_G) (cI cZ cJ cW : ClassId) (hG : fy_G s0 D cI cZ cJ cW) (mo m1 m2 m3 m4 m5 m6 m7 m8 : Nat) (cd : Int32) (i : Nat) (N : Nat) (C : Nat) (L : List Nat) (val : Nat → Int32) (age : Nat → Nat) (nf : Nat → Nat) (rf : Nat → Nat → Option Nat) (reg : Nat → Option Nat) (wk : Nat → Option Nat) (nu va ag fi re mk mr mw : Nat → Int32) (hI : fm_In i N C L age nf rf reg wk) (hM : fm_Mo L val age nf rf reg wk nu va ag fi re mr mw) (a1 a2 a3 : Int32) (ans : Int32) (q1 : ¬ fy_ok 8 a1 ∨ ¬ fy_ok 5 a2) : fy_Met l s0 D vwCl y_Mo_make w_Mo_make (fy_rm 2) 0 0 [.ref mo, .int a1, .int a2, .int a3] [(mo, .inr (5, [.int cd, .int (nI N), .int (nI C), .int (nI L.length), .ref m1, .ref m2, .ref m3, .ref m4, .ref m5, .ref m6, .ref m7, .ref m8])), (m1, .inl (cI, 80, .inl nu)), (m2, .inl (cI, 80, .inl va)), (m3, .inl (cI, 80, .inl ag)), (m4, .inl (cI, 80, .inl fi)), (m5, .inl (cI, 320, .inl re)), (m6, .inl (cZ, 80, .inl mk)), (m7, .inl (cI, 8, .inl mr)), (m8, .inl (cI, 4, .inl mw))] (fun r w1 => mo_post (fun b => some (.int b)) mo m1 m2 m3 m4 m5 m6 m7 m8 cI cZ 1 ans N C L val age nf rf reg wk r w1) := by
  refine fy_st (bytes := b_Mo_make) (maxL := 5) (ret := some .int) hG (by decide) rfl (Nat.le_of_ble_eq_true rfl) ?_
  intro p e s m below meth c A ls hx hb hr hlocks hml hown hts hK hLa hAe hAB hA hl hP hD hS
  have hl : lv_has ls 5 [(0, .ref mo), (1, .int a1), (2, .int a2), (3, .int a3)] := hl
  refine lv_aload_n hx hb d_Mo_make_0 rfl (lv_at hl 0 rfl) ?_
  refine lv_iload_n hx hb d_Mo_make_1 rfl (lv_at hl 1 rfl) ?_
  by_cases hr9 : fy_ok 8 a1
  · obtain ⟨k, hk, rfl⟩ := hr9.nat (by omega)
    have hf : ¬ fy_ok 5 a2 := q1.resolve_left (fun h => h hr9)
    refine fy_callS (As := [.int (nI k)]) (rest := [.ref mo]) ⟨hx, hb, hml, hown, hts⟩ (c_Mo_isRegister l s0 D cI cZ cJ cW hG k hk) (va_cwS 1 hts g_Mo_42 rfl rfl rfl (by decide +kernel) ⟨Nat.le_of_ble_eq_true rfl, Nat.le_of_ble_eq_true rfl⟩) hLa hAB hA hP hD hS [] rfl rfl rfl hl.1 rfl (Nat.le_of_ble_eq_true rfl) d_Mo_make_2 ⟨Nat.zero_le _, Nat.zero_le _⟩ (fun r w1 H locs hp hP hD hS => ?_)
    obtain ⟨rfl, rfl⟩ := hp
    have hP : va_P D vwCl [(mo, .inr (5, [.int cd, .int (nI N), .int (nI C), .int (nI L.length), .ref m1, .ref m2, .ref m3, .ref m4, .ref m5, .ref m6, .ref m7, .ref m8])), (m1, .inl (cI, 80, .inl nu)), (m2, .inl (cI, 80, .inl va)), (m3, .inl (cI, 80, .inl ag)), (m4, .inl (cI, 80, .inl fi)), (m5, .inl (cI, 320, .inl re)), (m6, .inl (cZ, 80, .inl mk)), (m7, .inl (cI, 8, .inl mr)), (m8, .inl (cI, 4, .inl mw))] H := hP
    have hD : va_D A [(mo, .inr (5, [.int cd, .int (nI N), .int (nI C), .int (nI L.length), .ref m1, .ref m2, .ref m3, .ref m4, .ref m5, .ref m6, .ref m7, .ref m8])), (m1, .inl (cI, 80, .inl nu)), (m2, .inl (cI, 80, .inl va)), (m3, .inl (cI, 80, .inl ag)), (m4, .inl (cI, 80, .inl fi)), (m5, .inl (cI, 320, .inl re)), (m6, .inl (cZ, 80, .inl mk)), (m7, .inl (cI, 8, .inl mr)), (m8, .inl (cI, 4, .inl mw))] := hD
    refine lv_if_eq hx hb d_Mo_make_5 (tgt := 17) (by decide) (fun h => absurd h (by decide)) (fun _ => ?_)
    refine lv_iload_n hx hb d_Mo_make_8 rfl (lv_at hl 2 rfl) ?_
    refine lv_if_lt hx hb d_Mo_make_9 (tgt := 17) (by decide) (fun hc => ?_) (fun hc => ?_)
    · refine lv_iconst (v := nI 1) hx hb d_Mo_make_17 (by decide) ?_
      refine lv_goto hx hb d_Mo_make_18 (tgt := 40) (by decide) ?_
      refine va_put (D := D) (ci := 5) (v := .int (nI 1)) (ty := .int) (C := R_Mo) (T := F_Mo) (N := 12) hx hb hts i_Mo t_Mo tk_Mo n_Mo hown hK hP hD hS 0 rfl rfl 0 (by decide) (hts _ k_f_Mo_35) (fun _ h9 => h9) rfl (by decide +kernel) rfl rfl (Nat.le_of_ble_eq_true rfl) d_Mo_make_40 (fun H locs hP hD hS => ?_)
      have hP : va_P D vwCl [(mo, .inr (5, [.int (nI 1), .int (nI N), .int (nI C), .int (nI L.length), .ref m1, .ref m2, .ref m3, .ref m4, .ref m5, .ref m6, .ref m7, .ref m8])), (m1, .inl (cI, 80, .inl nu)), (m2, .inl (cI, 80, .inl va)), (m3, .inl (cI, 80, .inl ag)), (m4, .inl (cI, 80, .inl fi)), (m5, .inl (cI, 320, .inl re)), (m6, .inl (cZ, 80, .inl mk)), (m7, .inl (cI, 8, .inl mr)), (m8, .inl (cI, 4, .inl mw))] H := hP
      have hD : va_D A [(mo, .inr (5, [.int (nI 1), .int (nI N), .int (nI C), .int (nI L.length), .ref m1, .ref m2, .ref m3, .ref m4, .ref m5, .ref m6, .ref m7, .ref m8])), (m1, .inl (cI, 80, .inl nu)), (m2, .inl (cI, 80, .inl va)), (m3, .inl (cI, 80, .inl ag)), (m4, .inl (cI, 80, .inl fi)), (m5, .inl (cI, 320, .inl re)), (m6, .inl (cZ, 80, .inl mk)), (m7, .inl (cI, 8, .inl mr)), (m8, .inl (cI, 4, .inl mw))] := hD
      refine lv_aload_n hx hb d_Mo_make_43 rfl (lv_at hl 0 rfl) ?_
      refine va_get (D := D) (ci := 5) (v := .int (nI 1)) (C := R_Mo) (T := F_Mo) (N := 12) hx hb hts i_Mo hown hK hP 0 rfl rfl 0 (by decide) (hts _ k_f_Mo_35) (fun _ h9 => h9) rfl d_Mo_make_44 ?_
      refine lv_if_le hx hb d_Mo_make_47 (tgt := 52) (by decide) (fun h => absurd h (by decide)) (fun _ => ?_)
      refine lv_iconst (v := nI 0) hx hb d_Mo_make_50 (by decide) ?_
      exact fy_reti hx hb hr hlocks hAe (⟨nI 0, nu, va, ag, fi, re, mk, mr, mw, (fun h => absurd h (by decide)), rfl, hM, rfl⟩) (List.Perm.refl _) hP hS d_Mo_make_51
    · refine lv_iload_n hx hb d_Mo_make_12 rfl (lv_at hl 2 rfl) ?_
      refine lv_iconst (v := nI 4) hx hb d_Mo_make_13 (by decide) ?_
      refine lv_icmp_le hx hb d_Mo_make_14 (tgt := 21) (by decide) (fun h => absurd h (fun h => hf ⟨Int32.not_lt.mp hc, fy_lt5 h⟩)) (fun _ => ?_)
      refine lv_iconst (v := nI 1) hx hb d_Mo_make_17 (by decide) ?_
      refine lv_goto hx hb d_Mo_make_18 (tgt := 40) (by decide) ?_
      refine va_put (D := D) (ci := 5) (v := .int (nI 1)) (ty := .int) (C := R_Mo) (T := F_Mo) (N := 12) hx hb hts i_Mo t_Mo tk_Mo n_Mo hown hK hP hD hS 0 rfl rfl 0 (by decide) (hts _ k_f_Mo_35) (fun _ h9 => h9) rfl (by decide +kernel) rfl rfl (Nat.le_of_ble_eq_true rfl) d_Mo_make_40 (fun H locs hP hD hS => ?_)
      have hP : va_P D vwCl [(mo, .inr (5, [.int (nI 1), .int (nI N), .int (nI C), .int (nI L.length), .ref m1, .ref m2, .ref m3, .ref m4, .ref m5, .ref m6, .ref m7, .ref m8])), (m1, .inl (cI, 80, .inl nu)), (m2, .inl (cI, 80, .inl va)), (m3, .inl (cI, 80, .inl ag)), (m4, .inl (cI, 80, .inl fi)), (m5, .inl (cI, 320, .inl re)), (m6, .inl (cZ, 80, .inl mk)), (m7, .inl (cI, 8, .inl mr)), (m8, .inl (cI, 4, .inl mw))] H := hP
      have hD : va_D A [(mo, .inr (5, [.int (nI 1), .int (nI N), .int (nI C), .int (nI L.length), .ref m1, .ref m2, .ref m3, .ref m4, .ref m5, .ref m6, .ref m7, .ref m8])), (m1, .inl (cI, 80, .inl nu)), (m2, .inl (cI, 80, .inl va)), (m3, .inl (cI, 80, .inl ag)), (m4, .inl (cI, 80, .inl fi)), (m5, .inl (cI, 320, .inl re)), (m6, .inl (cZ, 80, .inl mk)), (m7, .inl (cI, 8, .inl mr)), (m8, .inl (cI, 4, .inl mw))] := hD
      refine lv_aload_n hx hb d_Mo_make_43 rfl (lv_at hl 0 rfl) ?_
      refine va_get (D := D) (ci := 5) (v := .int (nI 1)) (C := R_Mo) (T := F_Mo) (N := 12) hx hb hts i_Mo hown hK hP 0 rfl rfl 0 (by decide) (hts _ k_f_Mo_35) (fun _ h9 => h9) rfl d_Mo_make_44 ?_
      refine lv_if_le hx hb d_Mo_make_47 (tgt := 52) (by decide) (fun h => absurd h (by decide)) (fun _ => ?_)
      refine lv_iconst (v := nI 0) hx hb d_Mo_make_50 (by decide) ?_
      exact fy_reti hx hb hr hlocks hAe (⟨nI 0, nu, va, ag, fi, re, mk, mr, mw, (fun h => absurd h (by decide)), rfl, hM, rfl⟩) (List.Perm.refl _) hP hS d_Mo_make_51
  · refine fy_callS (As := [.int a1]) (rest := [.ref mo]) ⟨hx, hb, hml, hown, hts⟩ (c_Mo_isRegister0 l s0 D cI cZ cJ cW hG a1 (hr9)) (va_cwS 1 hts g_Mo_42 rfl rfl rfl (by decide +kernel) ⟨Nat.le_of_ble_eq_true rfl, Nat.le_of_ble_eq_true rfl⟩) hLa hAB hA hP hD hS [] rfl rfl rfl hl.1 rfl (Nat.le_of_ble_eq_true rfl) d_Mo_make_2 ⟨Nat.zero_le _, Nat.zero_le _⟩ (fun r w1 H locs hp hP hD hS => ?_)
    obtain ⟨rfl, rfl⟩ := hp
    have hP : va_P D vwCl [(mo, .inr (5, [.int cd, .int (nI N), .int (nI C), .int (nI L.length), .ref m1, .ref m2, .ref m3, .ref m4, .ref m5, .ref m6, .ref m7, .ref m8])), (m1, .inl (cI, 80, .inl nu)), (m2, .inl (cI, 80, .inl va)), (m3, .inl (cI, 80, .inl ag)), (m4, .inl (cI, 80, .inl fi)), (m5, .inl (cI, 320, .inl re)), (m6, .inl (cZ, 80, .inl mk)), (m7, .inl (cI, 8, .inl mr)), (m8, .inl (cI, 4, .inl mw))] H := hP
    have hD : va_D A [(mo, .inr (5, [.int cd, .int (nI N), .int (nI C), .int (nI L.length), .ref m1, .ref m2, .ref m3, .ref m4, .ref m5, .ref m6, .ref m7, .ref m8])), (m1, .inl (cI, 80, .inl nu)), (m2, .inl (cI, 80, .inl va)), (m3, .inl (cI, 80, .inl ag)), (m4, .inl (cI, 80, .inl fi)), (m5, .inl (cI, 320, .inl re)), (m6, .inl (cZ, 80, .inl mk)), (m7, .inl (cI, 8, .inl mr)), (m8, .inl (cI, 4, .inl mw))] := hD
    refine lv_if_eq hx hb d_Mo_make_5 (tgt := 17) (by decide) (fun _ => ?_) (fun h => absurd (rfl) h)
    refine lv_iconst (v := nI 1) hx hb d_Mo_make_17 (by decide) ?_
    refine lv_goto hx hb d_Mo_make_18 (tgt := 40) (by decide) ?_
    refine va_put (D := D) (ci := 5) (v := .int (nI 1)) (ty := .int) (C := R_Mo) (T := F_Mo) (N := 12) hx hb hts i_Mo t_Mo tk_Mo n_Mo hown hK hP hD hS 0 rfl rfl 0 (by decide) (hts _ k_f_Mo_35) (fun _ h9 => h9) rfl (by decide +kernel) rfl rfl (Nat.le_of_ble_eq_true rfl) d_Mo_make_40 (fun H locs hP hD hS => ?_)
    have hP : va_P D vwCl [(mo, .inr (5, [.int (nI 1), .int (nI N), .int (nI C), .int (nI L.length), .ref m1, .ref m2, .ref m3, .ref m4, .ref m5, .ref m6, .ref m7, .ref m8])), (m1, .inl (cI, 80, .inl nu)), (m2, .inl (cI, 80, .inl va)), (m3, .inl (cI, 80, .inl ag)), (m4, .inl (cI, 80, .inl fi)), (m5, .inl (cI, 320, .inl re)), (m6, .inl (cZ, 80, .inl mk)), (m7, .inl (cI, 8, .inl mr)), (m8, .inl (cI, 4, .inl mw))] H := hP
    have hD : va_D A [(mo, .inr (5, [.int (nI 1), .int (nI N), .int (nI C), .int (nI L.length), .ref m1, .ref m2, .ref m3, .ref m4, .ref m5, .ref m6, .ref m7, .ref m8])), (m1, .inl (cI, 80, .inl nu)), (m2, .inl (cI, 80, .inl va)), (m3, .inl (cI, 80, .inl ag)), (m4, .inl (cI, 80, .inl fi)), (m5, .inl (cI, 320, .inl re)), (m6, .inl (cZ, 80, .inl mk)), (m7, .inl (cI, 8, .inl mr)), (m8, .inl (cI, 4, .inl mw))] := hD
    refine lv_aload_n hx hb d_Mo_make_43 rfl (lv_at hl 0 rfl) ?_
    refine va_get (D := D) (ci := 5) (v := .int (nI 1)) (C := R_Mo) (T := F_Mo) (N := 12) hx hb hts i_Mo hown hK hP 0 rfl rfl 0 (by decide) (hts _ k_f_Mo_35) (fun _ h9 => h9) rfl d_Mo_make_44 ?_
    refine lv_if_le hx hb d_Mo_make_47 (tgt := 52) (by decide) (fun h => absurd h (by decide)) (fun _ => ?_)
    refine lv_iconst (v := nI 0) hx hb d_Mo_make_50 (by decide) ?_
    exact fy_reti hx hb hr hlocks hAe (⟨nI 0, nu, va, ag, fi, re, mk, mr, mw, (fun h => absurd h (by decide)), rfl, hM, rfl⟩) (List.Perm.refl _) hP hS d_Mo_make_51
set_option maxRecDepth 20000 in
set_option maxHeartbeats 4000000 in
theorem c_Mo_make_1 (l : Launch) (s0 : State) (D : va_G) (cI cZ cJ cW : ClassId) (hG : fy_G s0 D cI cZ cJ cW) (mo m1 m2 m3 m4 m5 m6 m7 m8 : Nat) (cd : Int32) (i : Nat) (N : Nat) (C : Nat) (L : List Nat) (val : Nat → Int32) (age : Nat → Nat) (nf : Nat → Nat) (rf : Nat → Nat → Option Nat) (reg : Nat → Option Nat) (wk : Nat → Option Nat) (nu va ag fi re mk mr mw : Nat → Int32) (hI : fm_In i N C L age nf rf reg wk) (hM : fm_Mo L val age nf rf reg wk nu va ag fi re mr mw) (j fl : Nat) (a3 : Int32) (ans : Int32) (q1 : j < 8) (q2 : fl ≤ 4) (q3 : ¬ fm_w nf L + 3 + fl ≤ 240) : fy_Met l s0 D vwCl y_Mo_make w_Mo_make (fy_rm 2) 0 0 [.ref mo, .int (nI j), .int (nI fl), .int a3] [(mo, .inr (5, [.int cd, .int (nI N), .int (nI C), .int (nI L.length), .ref m1, .ref m2, .ref m3, .ref m4, .ref m5, .ref m6, .ref m7, .ref m8])), (m1, .inl (cI, 80, .inl nu)), (m2, .inl (cI, 80, .inl va)), (m3, .inl (cI, 80, .inl ag)), (m4, .inl (cI, 80, .inl fi)), (m5, .inl (cI, 320, .inl re)), (m6, .inl (cZ, 80, .inl mk)), (m7, .inl (cI, 8, .inl mr)), (m8, .inl (cI, 4, .inl mw))] (fun r w1 => mo_post (fun b => some (.int b)) mo m1 m2 m3 m4 m5 m6 m7 m8 cI cZ 2 ans N C L val age nf rf reg wk r w1) := by
  refine fy_st (bytes := b_Mo_make) (maxL := 5) (ret := some .int) hG (by decide) rfl (Nat.le_of_ble_eq_true rfl) ?_
  intro p e s m below meth c A ls hx hb hr hlocks hml hown hts hK hLa hAe hAB hA hl hP hD hS
  have hl : lv_has ls 5 [(0, .ref mo), (1, .int (nI j)), (2, .int (nI fl)), (3, .int a3)] := hl
  refine lv_aload_n hx hb d_Mo_make_0 rfl (lv_at hl 0 rfl) ?_
  refine lv_iload_n hx hb d_Mo_make_1 rfl (lv_at hl 1 rfl) ?_
  refine fy_callS (As := [.int (nI j)]) (rest := [.ref mo]) ⟨hx, hb, hml, hown, hts⟩ (c_Mo_isRegister l s0 D cI cZ cJ cW hG j q1) (va_cwS 1 hts g_Mo_42 rfl rfl rfl (by decide +kernel) ⟨Nat.le_of_ble_eq_true rfl, Nat.le_of_ble_eq_true rfl⟩) hLa hAB hA hP hD hS [] rfl rfl rfl hl.1 rfl (Nat.le_of_ble_eq_true rfl) d_Mo_make_2 ⟨Nat.zero_le _, Nat.zero_le _⟩ (fun r w1 H locs hp hP hD hS => ?_)
  obtain ⟨rfl, rfl⟩ := hp
  have hP : va_P D vwCl [(mo, .inr (5, [.int cd, .int (nI N), .int (nI C), .int (nI L.length), .ref m1, .ref m2, .ref m3, .ref m4, .ref m5, .ref m6, .ref m7, .ref m8])), (m1, .inl (cI, 80, .inl nu)), (m2, .inl (cI, 80, .inl va)), (m3, .inl (cI, 80, .inl ag)), (m4, .inl (cI, 80, .inl fi)), (m5, .inl (cI, 320, .inl re)), (m6, .inl (cZ, 80, .inl mk)), (m7, .inl (cI, 8, .inl mr)), (m8, .inl (cI, 4, .inl mw))] H := hP
  have hD : va_D A [(mo, .inr (5, [.int cd, .int (nI N), .int (nI C), .int (nI L.length), .ref m1, .ref m2, .ref m3, .ref m4, .ref m5, .ref m6, .ref m7, .ref m8])), (m1, .inl (cI, 80, .inl nu)), (m2, .inl (cI, 80, .inl va)), (m3, .inl (cI, 80, .inl ag)), (m4, .inl (cI, 80, .inl fi)), (m5, .inl (cI, 320, .inl re)), (m6, .inl (cZ, 80, .inl mk)), (m7, .inl (cI, 8, .inl mr)), (m8, .inl (cI, 4, .inl mw))] := hD
  refine lv_if_eq hx hb d_Mo_make_5 (tgt := 17) (by decide) (fun h => absurd h (by decide)) (fun _ => ?_)
  refine lv_iload_n hx hb d_Mo_make_8 rfl (lv_at hl 2 rfl) ?_
  refine lv_if_lt hx hb d_Mo_make_9 (tgt := 17) (by decide) (fun h => absurd h (nI_pos (by omega))) (fun _ => ?_)
  refine lv_iload_n hx hb d_Mo_make_12 rfl (lv_at hl 2 rfl) ?_
  refine lv_iconst (v := nI 4) hx hb d_Mo_make_13 (by decide) ?_
  refine lv_icmp_le hx hb d_Mo_make_14 (tgt := 21) (by decide) (fun _ => ?_) (fun h => absurd ((nI_leI (by omega) (by omega)).mpr q2) h)
  refine lv_aload_n hx hb d_Mo_make_21 rfl (lv_at hl 0 rfl) ?_
  refine fy_callV (As := []) (rest := [.ref mo]) ⟨hx, hb, hml, hown, hts⟩ (c_Mo_words l s0 D cI cZ cJ cW hG mo m1 m2 m3 m4 m5 m6 m7 m8 cd N C L nf fi (fun k n hk => (hM.1 k n hk).2.2.2.1) hI.len) (cwV 0 hts g_Mo_46 rfl rfl rfl (by decide +kernel) ⟨Nat.le_of_ble_eq_true rfl, Nat.le_of_ble_eq_true rfl⟩) hK hLa hAB hA hP hD hS [0, 4] rfl rfl (ci := 5) rfl rfl (q0 := 0) rfl rfl hl.1 rfl (Nat.le_of_ble_eq_true rfl) d_Mo_make_22 ⟨Nat.zero_le _, Nat.zero_le _⟩ (fun r w1 H locs hp hP hD hS => ?_)
  obtain ⟨rfl, rfl⟩ := hp
  have hP : va_P D vwCl [(mo, .inr (5, [.int cd, .int (nI N), .int (nI C), .int (nI L.length), .ref m1, .ref m2, .ref m3, .ref m4, .ref m5, .ref m6, .ref m7, .ref m8])), (m1, .inl (cI, 80, .inl nu)), (m2, .inl (cI, 80, .inl va)), (m3, .inl (cI, 80, .inl ag)), (m4, .inl (cI, 80, .inl fi)), (m5, .inl (cI, 320, .inl re)), (m6, .inl (cZ, 80, .inl mk)), (m7, .inl (cI, 8, .inl mr)), (m8, .inl (cI, 4, .inl mw))] H := hP
  have hD : va_D A [(mo, .inr (5, [.int cd, .int (nI N), .int (nI C), .int (nI L.length), .ref m1, .ref m2, .ref m3, .ref m4, .ref m5, .ref m6, .ref m7, .ref m8])), (m1, .inl (cI, 80, .inl nu)), (m2, .inl (cI, 80, .inl va)), (m3, .inl (cI, 80, .inl ag)), (m4, .inl (cI, 80, .inl fi)), (m5, .inl (cI, 320, .inl re)), (m6, .inl (cZ, 80, .inl mk)), (m7, .inl (cI, 8, .inl mr)), (m8, .inl (cI, 4, .inl mw))] := hD
  have hw4 := hI.2.2.2.2.2.1
  refine lv_iload_n hx hb d_Mo_make_25 rfl (lv_at hl 2 rfl) ?_
  refine lv_iadd hx hb d_Mo_make_26 ?_
  refine fy_top (z := nI ((fm_w nf L) + fl)) (nI_add _ _) ?_
  refine lv_iconst (v := nI 3) hx hb d_Mo_make_27 (by decide) ?_
  refine lv_iadd hx hb d_Mo_make_28 ?_
  refine fy_top (z := nI (((fm_w nf L) + fl) + 3)) (nI_add _ _) ?_
  refine lv_sipush (v := nI 240) hx hb d_Mo_make_29 (by decide) ?_
  refine lv_icmp_le hx hb d_Mo_make_32 (tgt := 39) (by decide) (fun h => absurd h (nI_ge9 (by omega) (by omega))) (fun _ => ?_)
  refine lv_iconst (v := nI 2) hx hb d_Mo_make_35 (by decide) ?_
  refine lv_goto hx hb d_Mo_make_36 (tgt := 40) (by decide) ?_
  refine va_put (D := D) (ci := 5) (v := .int (nI 2)) (ty := .int) (C := R_Mo) (T := F_Mo) (N := 12) hx hb hts i_Mo t_Mo tk_Mo n_Mo hown hK hP hD hS 0 rfl rfl 0 (by decide) (hts _ k_f_Mo_35) (fun _ h9 => h9) rfl (by decide +kernel) rfl rfl (Nat.le_of_ble_eq_true rfl) d_Mo_make_40 (fun H locs hP hD hS => ?_)
  have hP : va_P D vwCl [(mo, .inr (5, [.int (nI 2), .int (nI N), .int (nI C), .int (nI L.length), .ref m1, .ref m2, .ref m3, .ref m4, .ref m5, .ref m6, .ref m7, .ref m8])), (m1, .inl (cI, 80, .inl nu)), (m2, .inl (cI, 80, .inl va)), (m3, .inl (cI, 80, .inl ag)), (m4, .inl (cI, 80, .inl fi)), (m5, .inl (cI, 320, .inl re)), (m6, .inl (cZ, 80, .inl mk)), (m7, .inl (cI, 8, .inl mr)), (m8, .inl (cI, 4, .inl mw))] H := hP
  have hD : va_D A [(mo, .inr (5, [.int (nI 2), .int (nI N), .int (nI C), .int (nI L.length), .ref m1, .ref m2, .ref m3, .ref m4, .ref m5, .ref m6, .ref m7, .ref m8])), (m1, .inl (cI, 80, .inl nu)), (m2, .inl (cI, 80, .inl va)), (m3, .inl (cI, 80, .inl ag)), (m4, .inl (cI, 80, .inl fi)), (m5, .inl (cI, 320, .inl re)), (m6, .inl (cZ, 80, .inl mk)), (m7, .inl (cI, 8, .inl mr)), (m8, .inl (cI, 4, .inl mw))] := hD
  refine lv_aload_n hx hb d_Mo_make_43 rfl (lv_at hl 0 rfl) ?_
  refine va_get (D := D) (ci := 5) (v := .int (nI 2)) (C := R_Mo) (T := F_Mo) (N := 12) hx hb hts i_Mo hown hK hP 0 rfl rfl 0 (by decide) (hts _ k_f_Mo_35) (fun _ h9 => h9) rfl d_Mo_make_44 ?_
  refine lv_if_le hx hb d_Mo_make_47 (tgt := 52) (by decide) (fun h => absurd h (by decide)) (fun _ => ?_)
  refine lv_iconst (v := nI 0) hx hb d_Mo_make_50 (by decide) ?_
  exact fy_reti hx hb hr hlocks hAe (⟨nI 0, nu, va, ag, fi, re, mk, mr, mw, (fun h => absurd h (by decide)), rfl, hM, rfl⟩) (List.Perm.refl _) hP hS d_Mo_make_51
set_option maxRecDepth 20000 in
set_option maxHeartbeats 4000000 in
theorem c_Mo_make_2 (l : Launch) (s0 : State) (D : va_G) (cI cZ cJ cW : ClassId) (hG : fy_G s0 D cI cZ cJ cW) (mo m1 m2 m3 m4 m5 m6 m7 m8 : Nat) (cd : Int32) (i : Nat) (N : Nat) (C : Nat) (L : List Nat) (val : Nat → Int32) (age : Nat → Nat) (nf : Nat → Nat) (rf : Nat → Nat → Option Nat) (reg : Nat → Option Nat) (wk : Nat → Option Nat) (nu va ag fi re mk mr mw : Nat → Int32) (hI : fm_In i N C L age nf rf reg wk) (hM : fm_Mo L val age nf rf reg wk nu va ag fi re mr mw) (j fl : Nat) (a3 : Int32) (q1 : j < 8) (q2 : fl ≤ 4) (q3 : fm_w nf L + 3 + fl ≤ 240) : fy_Met l s0 D vwCl y_Mo_make w_Mo_make (fy_rm 2) 0 0 [.ref mo, .int (nI j), .int (nI fl), .int a3] [(mo, .inr (5, [.int cd, .int (nI N), .int (nI C), .int (nI L.length), .ref m1, .ref m2, .ref m3, .ref m4, .ref m5, .ref m6, .ref m7, .ref m8])), (m1, .inl (cI, 80, .inl nu)), (m2, .inl (cI, 80, .inl va)), (m3, .inl (cI, 80, .inl ag)), (m4, .inl (cI, 80, .inl fi)), (m5, .inl (cI, 320, .inl re)), (m6, .inl (cZ, 80, .inl mk)), (m7, .inl (cI, 8, .inl mr)), (m8, .inl (cI, 4, .inl mw))] (fun r w1 => mo_post (fun b => some (.int b)) mo m1 m2 m3 m4 m5 m6 m7 m8 cI cZ 0 (nI N) (N + 1) C (L ++ [N]) (va_up val N a3) (va_up age N 0) (va_up nf N fl) (va_up rf N (fun _ => none)) (va_up reg j (some N)) wk r w1) := by
  refine fy_st (bytes := b_Mo_make) (maxL := 5) (ret := some .int) hG (by decide) rfl (Nat.le_of_ble_eq_true rfl) ?_
  intro p e s m below meth c A ls hx hb hr hlocks hml hown hts hK hLa hAe hAB hA hl hP hD hS
  have hl : lv_has ls 5 [(0, .ref mo), (1, .int (nI j)), (2, .int (nI fl)), (3, .int a3)] := hl
  refine lv_aload_n hx hb d_Mo_make_0 rfl (lv_at hl 0 rfl) ?_
  refine lv_iload_n hx hb d_Mo_make_1 rfl (lv_at hl 1 rfl) ?_
  refine fy_callS (As := [.int (nI j)]) (rest := [.ref mo]) ⟨hx, hb, hml, hown, hts⟩ (c_Mo_isRegister l s0 D cI cZ cJ cW hG j q1) (va_cwS 1 hts g_Mo_42 rfl rfl rfl (by decide +kernel) ⟨Nat.le_of_ble_eq_true rfl, Nat.le_of_ble_eq_true rfl⟩) hLa hAB hA hP hD hS [] rfl rfl rfl hl.1 rfl (Nat.le_of_ble_eq_true rfl) d_Mo_make_2 ⟨Nat.zero_le _, Nat.zero_le _⟩ (fun r w1 H locs hp hP hD hS => ?_)
  obtain ⟨rfl, rfl⟩ := hp
  have hP : va_P D vwCl [(mo, .inr (5, [.int cd, .int (nI N), .int (nI C), .int (nI L.length), .ref m1, .ref m2, .ref m3, .ref m4, .ref m5, .ref m6, .ref m7, .ref m8])), (m1, .inl (cI, 80, .inl nu)), (m2, .inl (cI, 80, .inl va)), (m3, .inl (cI, 80, .inl ag)), (m4, .inl (cI, 80, .inl fi)), (m5, .inl (cI, 320, .inl re)), (m6, .inl (cZ, 80, .inl mk)), (m7, .inl (cI, 8, .inl mr)), (m8, .inl (cI, 4, .inl mw))] H := hP
  have hD : va_D A [(mo, .inr (5, [.int cd, .int (nI N), .int (nI C), .int (nI L.length), .ref m1, .ref m2, .ref m3, .ref m4, .ref m5, .ref m6, .ref m7, .ref m8])), (m1, .inl (cI, 80, .inl nu)), (m2, .inl (cI, 80, .inl va)), (m3, .inl (cI, 80, .inl ag)), (m4, .inl (cI, 80, .inl fi)), (m5, .inl (cI, 320, .inl re)), (m6, .inl (cZ, 80, .inl mk)), (m7, .inl (cI, 8, .inl mr)), (m8, .inl (cI, 4, .inl mw))] := hD
  refine lv_if_eq hx hb d_Mo_make_5 (tgt := 17) (by decide) (fun h => absurd h (by decide)) (fun _ => ?_)
  refine lv_iload_n hx hb d_Mo_make_8 rfl (lv_at hl 2 rfl) ?_
  refine lv_if_lt hx hb d_Mo_make_9 (tgt := 17) (by decide) (fun h => absurd h (nI_pos (by omega))) (fun _ => ?_)
  refine lv_iload_n hx hb d_Mo_make_12 rfl (lv_at hl 2 rfl) ?_
  refine lv_iconst (v := nI 4) hx hb d_Mo_make_13 (by decide) ?_
  refine lv_icmp_le hx hb d_Mo_make_14 (tgt := 21) (by decide) (fun _ => ?_) (fun h => absurd ((nI_leI (by omega) (by omega)).mpr q2) h)
  refine lv_aload_n hx hb d_Mo_make_21 rfl (lv_at hl 0 rfl) ?_
  refine fy_callV (As := []) (rest := [.ref mo]) ⟨hx, hb, hml, hown, hts⟩ (c_Mo_words l s0 D cI cZ cJ cW hG mo m1 m2 m3 m4 m5 m6 m7 m8 cd N C L nf fi (fun k n hk => (hM.1 k n hk).2.2.2.1) hI.len) (cwV 0 hts g_Mo_46 rfl rfl rfl (by decide +kernel) ⟨Nat.le_of_ble_eq_true rfl, Nat.le_of_ble_eq_true rfl⟩) hK hLa hAB hA hP hD hS [0, 4] rfl rfl (ci := 5) rfl rfl (q0 := 0) rfl rfl hl.1 rfl (Nat.le_of_ble_eq_true rfl) d_Mo_make_22 ⟨Nat.zero_le _, Nat.zero_le _⟩ (fun r w1 H locs hp hP hD hS => ?_)
  obtain ⟨rfl, rfl⟩ := hp
  have hP : va_P D vwCl [(mo, .inr (5, [.int cd, .int (nI N), .int (nI C), .int (nI L.length), .ref m1, .ref m2, .ref m3, .ref m4, .ref m5, .ref m6, .ref m7, .ref m8])), (m1, .inl (cI, 80, .inl nu)), (m2, .inl (cI, 80, .inl va)), (m3, .inl (cI, 80, .inl ag)), (m4, .inl (cI, 80, .inl fi)), (m5, .inl (cI, 320, .inl re)), (m6, .inl (cZ, 80, .inl mk)), (m7, .inl (cI, 8, .inl mr)), (m8, .inl (cI, 4, .inl mw))] H := hP
  have hD : va_D A [(mo, .inr (5, [.int cd, .int (nI N), .int (nI C), .int (nI L.length), .ref m1, .ref m2, .ref m3, .ref m4, .ref m5, .ref m6, .ref m7, .ref m8])), (m1, .inl (cI, 80, .inl nu)), (m2, .inl (cI, 80, .inl va)), (m3, .inl (cI, 80, .inl ag)), (m4, .inl (cI, 80, .inl fi)), (m5, .inl (cI, 320, .inl re)), (m6, .inl (cZ, 80, .inl mk)), (m7, .inl (cI, 8, .inl mr)), (m8, .inl (cI, 4, .inl mw))] := hD
  have hw4 := hI.2.2.2.2.2.1
  refine lv_iload_n hx hb d_Mo_make_25 rfl (lv_at hl 2 rfl) ?_
  refine lv_iadd hx hb d_Mo_make_26 ?_
  refine fy_top (z := nI ((fm_w nf L) + fl)) (nI_add _ _) ?_
  refine lv_iconst (v := nI 3) hx hb d_Mo_make_27 (by decide) ?_
  refine lv_iadd hx hb d_Mo_make_28 ?_
  refine fy_top (z := nI (((fm_w nf L) + fl) + 3)) (nI_add _ _) ?_
  refine lv_sipush (v := nI 240) hx hb d_Mo_make_29 (by decide) ?_
  refine lv_icmp_le hx hb d_Mo_make_32 (tgt := 39) (by decide) (fun _ => ?_) (fun h => absurd ((nI_leI (by omega) (by omega)).mpr (by omega)) h)
  refine lv_iconst (v := nI 0) hx hb d_Mo_make_39 (by decide) ?_
  refine va_put (D := D) (ci := 5) (v := .int (nI 0)) (ty := .int) (C := R_Mo) (T := F_Mo) (N := 12) hx hb hts i_Mo t_Mo tk_Mo n_Mo hown hK hP hD hS 0 rfl rfl 0 (by decide) (hts _ k_f_Mo_35) (fun _ h9 => h9) rfl (by decide +kernel) rfl rfl (Nat.le_of_ble_eq_true rfl) d_Mo_make_40 (fun H locs hP hD hS => ?_)
  have hP : va_P D vwCl [(mo, .inr (5, [.int (nI 0), .int (nI N), .int (nI C), .int (nI L.length), .ref m1, .ref m2, .ref m3, .ref m4, .ref m5, .ref m6, .ref m7, .ref m8])), (m1, .inl (cI, 80, .inl nu)), (m2, .inl (cI, 80, .inl va)), (m3, .inl (cI, 80, .inl ag)), (m4, .inl (cI, 80, .inl fi)), (m5, .inl (cI, 320, .inl re)), (m6, .inl (cZ, 80, .inl mk)), (m7, .inl (cI, 8, .inl mr)), (m8, .inl (cI, 4, .inl mw))] H := hP
  have hD : va_D A [(mo, .inr (5, [.int (nI 0), .int (nI N), .int (nI C), .int (nI L.length), .ref m1, .ref m2, .ref m3, .ref m4, .ref m5, .ref m6, .ref m7, .ref m8])), (m1, .inl (cI, 80, .inl nu)), (m2, .inl (cI, 80, .inl va)), (m3, .inl (cI, 80, .inl ag)), (m4, .inl (cI, 80, .inl fi)), (m5, .inl (cI, 320, .inl re)), (m6, .inl (cZ, 80, .inl mk)), (m7, .inl (cI, 8, .inl mr)), (m8, .inl (cI, 4, .inl mw))] := hD
  refine lv_aload_n hx hb d_Mo_make_43 rfl (lv_at hl 0 rfl) ?_
  refine va_get (D := D) (ci := 5) (v := .int (nI 0)) (C := R_Mo) (T := F_Mo) (N := 12) hx hb hts i_Mo hown hK hP 0 rfl rfl 0 (by decide) (hts _ k_f_Mo_35) (fun _ h9 => h9) rfl d_Mo_make_44 ?_
  refine lv_if_le hx hb d_Mo_make_47 (tgt := 52) (by decide) (fun _ => ?_) (fun h => absurd (by decide) h)
  have h80 : L.length < 80 := by have := fm_w_len (nf := nf) L; omega
  refine lv_aload_n hx hb d_Mo_make_52 rfl (lv_at hl 0 rfl) ?_
  refine va_get (D := D) (ci := 5) (v := .ref m1) (C := R_Mo) (T := F_Mo) (N := 12) hx hb hts i_Mo hown hK hP 0 rfl rfl 4 (by decide) (hts _ k_f_Mo_7) (fun _ h9 => h9) rfl d_Mo_make_53 ?_
  refine lv_aload_n hx hb d_Mo_make_56 rfl (lv_at hl 0 rfl) ?_
  refine va_get (D := D) (ci := 5) (v := .int (nI L.length)) (C := R_Mo) (T := F_Mo) (N := 12) hx hb hts i_Mo hown hK hP 0 rfl rfl 3 (by decide) (hts _ k_f_Mo_39) (fun _ h9 => h9) rfl d_Mo_make_57 ?_
  refine lv_aload_n hx hb d_Mo_make_60 rfl (lv_at hl 0 rfl) ?_
  refine va_get (D := D) (ci := 5) (v := .int (nI N)) (C := R_Mo) (T := F_Mo) (N := 12) hx hb hts i_Mo hown hK hP 0 rfl rfl 1 (by decide) (hts _ k_f_Mo_50) (fun _ h9 => h9) rfl d_Mo_make_61 ?_
  refine fy_iast (t0 := 0) (g := upd nu L.length (nI N)) hx hb hK hP hD hS 1 rfl rfl (by omega) (by omega) (rfl) d_Mo_make_64 (fun H locs hP hD hS => ?_)
  have hP : va_P D vwCl [(mo, .inr (5, [.int (nI 0), .int (nI N), .int (nI C), .int (nI L.length), .ref m1, .ref m2, .ref m3, .ref m4, .ref m5, .ref m6, .ref m7, .ref m8])), (m1, .inl (cI, 80, .inl (upd nu L.length (nI N)))), (m2, .inl (cI, 80, .inl va)), (m3, .inl (cI, 80, .inl ag)), (m4, .inl (cI, 80, .inl fi)), (m5, .inl (cI, 320, .inl re)), (m6, .inl (cZ, 80, .inl mk)), (m7, .inl (cI, 8, .inl mr)), (m8, .inl (cI, 4, .inl mw))] H := hP
  have hD : va_D A [(mo, .inr (5, [.int (nI 0), .int (nI N), .int (nI C), .int (nI L.length), .ref m1, .ref m2, .ref m3, .ref m4, .ref m5, .ref m6, .ref m7, .ref m8])), (m1, .inl (cI, 80, .inl (upd nu L.length (nI N)))), (m2, .inl (cI, 80, .inl va)), (m3, .inl (cI, 80, .inl ag)), (m4, .inl (cI, 80, .inl fi)), (m5, .inl (cI, 320, .inl re)), (m6, .inl (cZ, 80, .inl mk)), (m7, .inl (cI, 8, .inl mr)), (m8, .inl (cI, 4, .inl mw))] := hD
  refine lv_aload_n hx hb d_Mo_make_65 rfl (lv_at hl 0 rfl) ?_
  refine va_get (D := D) (ci := 5) (v := .ref m2) (C := R_Mo) (T := F_Mo) (N := 12) hx hb hts i_Mo hown hK hP 0 rfl rfl 5 (by decide) (hts _ k_f_Mo_13) (fun _ h9 => h9) rfl d_Mo_make_66 ?_
  refine lv_aload_n hx hb d_Mo_make_69 rfl (lv_at hl 0 rfl) ?_
  refine va_get (D := D) (ci := 5) (v := .int (nI L.length)) (C := R_Mo) (T := F_Mo) (N := 12) hx hb hts i_Mo hown hK hP 0 rfl rfl 3 (by decide) (hts _ k_f_Mo_39) (fun _ h9 => h9) rfl d_Mo_make_70 ?_
  refine lv_iload_n hx hb d_Mo_make_73 rfl (lv_at hl 3 rfl) ?_
  refine fy_iast (t0 := 0) (g := upd va L.length a3) hx hb hK hP hD hS 2 rfl rfl (by omega) (by omega) (rfl) d_Mo_make_74 (fun H locs hP hD hS => ?_)
  have hP : va_P D vwCl [(mo, .inr (5, [.int (nI 0), .int (nI N), .int (nI C), .int (nI L.length), .ref m1, .ref m2, .ref m3, .ref m4, .ref m5, .ref m6, .ref m7, .ref m8])), (m1, .inl (cI, 80, .inl (upd nu L.length (nI N)))), (m2, .inl (cI, 80, .inl (upd va L.length a3))), (m3, .inl (cI, 80, .inl ag)), (m4, .inl (cI, 80, .inl fi)), (m5, .inl (cI, 320, .inl re)), (m6, .inl (cZ, 80, .inl mk)), (m7, .inl (cI, 8, .inl mr)), (m8, .inl (cI, 4, .inl mw))] H := hP
  have hD : va_D A [(mo, .inr (5, [.int (nI 0), .int (nI N), .int (nI C), .int (nI L.length), .ref m1, .ref m2, .ref m3, .ref m4, .ref m5, .ref m6, .ref m7, .ref m8])), (m1, .inl (cI, 80, .inl (upd nu L.length (nI N)))), (m2, .inl (cI, 80, .inl (upd va L.length a3))), (m3, .inl (cI, 80, .inl ag)), (m4, .inl (cI, 80, .inl fi)), (m5, .inl (cI, 320, .inl re)), (m6, .inl (cZ, 80, .inl mk)), (m7, .inl (cI, 8, .inl mr)), (m8, .inl (cI, 4, .inl mw))] := hD
  refine lv_aload_n hx hb d_Mo_make_75 rfl (lv_at hl 0 rfl) ?_
  refine va_get (D := D) (ci := 5) (v := .ref m3) (C := R_Mo) (T := F_Mo) (N := 12) hx hb hts i_Mo hown hK hP 0 rfl rfl 6 (by decide) (hts _ k_f_Mo_16) (fun _ h9 => h9) rfl d_Mo_make_76 ?_
  refine lv_aload_n hx hb d_Mo_make_79 rfl (lv_at hl 0 rfl) ?_
  refine va_get (D := D) (ci := 5) (v := .int (nI L.length)) (C := R_Mo) (T := F_Mo) (N := 12) hx hb hts i_Mo hown hK hP 0 rfl rfl 3 (by decide) (hts _ k_f_Mo_39) (fun _ h9 => h9) rfl d_Mo_make_80 ?_
  refine lv_iconst (v := nI 0) hx hb d_Mo_make_83 (by decide) ?_
  refine fy_iast (t0 := 0) (g := upd ag L.length (nI 0)) hx hb hK hP hD hS 3 rfl rfl (by omega) (by omega) (rfl) d_Mo_make_84 (fun H locs hP hD hS => ?_)
  have hP : va_P D vwCl [(mo, .inr (5, [.int (nI 0), .int (nI N), .int (nI C), .int (nI L.length), .ref m1, .ref m2, .ref m3, .ref m4, .ref m5, .ref m6, .ref m7, .ref m8])), (m1, .inl (cI, 80, .inl (upd nu L.length (nI N)))), (m2, .inl (cI, 80, .inl (upd va L.length a3))), (m3, .inl (cI, 80, .inl (upd ag L.length (nI 0)))), (m4, .inl (cI, 80, .inl fi)), (m5, .inl (cI, 320, .inl re)), (m6, .inl (cZ, 80, .inl mk)), (m7, .inl (cI, 8, .inl mr)), (m8, .inl (cI, 4, .inl mw))] H := hP
  have hD : va_D A [(mo, .inr (5, [.int (nI 0), .int (nI N), .int (nI C), .int (nI L.length), .ref m1, .ref m2, .ref m3, .ref m4, .ref m5, .ref m6, .ref m7, .ref m8])), (m1, .inl (cI, 80, .inl (upd nu L.length (nI N)))), (m2, .inl (cI, 80, .inl (upd va L.length a3))), (m3, .inl (cI, 80, .inl (upd ag L.length (nI 0)))), (m4, .inl (cI, 80, .inl fi)), (m5, .inl (cI, 320, .inl re)), (m6, .inl (cZ, 80, .inl mk)), (m7, .inl (cI, 8, .inl mr)), (m8, .inl (cI, 4, .inl mw))] := hD
  refine lv_aload_n hx hb d_Mo_make_85 rfl (lv_at hl 0 rfl) ?_
  refine va_get (D := D) (ci := 5) (v := .ref m4) (C := R_Mo) (T := F_Mo) (N := 12) hx hb hts i_Mo hown hK hP 0 rfl rfl 7 (by decide) (hts _ k_f_Mo_19) (fun _ h9 => h9) rfl d_Mo_make_86 ?_
  refine lv_aload_n hx hb d_Mo_make_89 rfl (lv_at hl 0 rfl) ?_
  refine va_get (D := D) (ci := 5) (v := .int (nI L.length)) (C := R_Mo) (T := F_Mo) (N := 12) hx hb hts i_Mo hown hK hP 0 rfl rfl 3 (by decide) (hts _ k_f_Mo_39) (fun _ h9 => h9) rfl d_Mo_make_90 ?_
  refine lv_iload_n hx hb d_Mo_make_93 rfl (lv_at hl 2 rfl) ?_
  refine fy_iast (t0 := 0) (g := upd fi L.length (nI fl)) hx hb hK hP hD hS 4 rfl rfl (by omega) (by omega) (rfl) d_Mo_make_94 (fun H locs hP hD hS => ?_)
  have hP : va_P D vwCl [(mo, .inr (5, [.int (nI 0), .int (nI N), .int (nI C), .int (nI L.length), .ref m1, .ref m2, .ref m3, .ref m4, .ref m5, .ref m6, .ref m7, .ref m8])), (m1, .inl (cI, 80, .inl (upd nu L.length (nI N)))), (m2, .inl (cI, 80, .inl (upd va L.length a3))), (m3, .inl (cI, 80, .inl (upd ag L.length (nI 0)))), (m4, .inl (cI, 80, .inl (upd fi L.length (nI fl)))), (m5, .inl (cI, 320, .inl re)), (m6, .inl (cZ, 80, .inl mk)), (m7, .inl (cI, 8, .inl mr)), (m8, .inl (cI, 4, .inl mw))] H := hP
  have hD : va_D A [(mo, .inr (5, [.int (nI 0), .int (nI N), .int (nI C), .int (nI L.length), .ref m1, .ref m2, .ref m3, .ref m4, .ref m5, .ref m6, .ref m7, .ref m8])), (m1, .inl (cI, 80, .inl (upd nu L.length (nI N)))), (m2, .inl (cI, 80, .inl (upd va L.length a3))), (m3, .inl (cI, 80, .inl (upd ag L.length (nI 0)))), (m4, .inl (cI, 80, .inl (upd fi L.length (nI fl)))), (m5, .inl (cI, 320, .inl re)), (m6, .inl (cZ, 80, .inl mk)), (m7, .inl (cI, 8, .inl mr)), (m8, .inl (cI, 4, .inl mw))] := hD
  refine lv_iconst (v := nI 0) hx hb d_Mo_make_95 (by decide) ?_
  refine lv_istore hx hb d_Mo_make_96 hl (by decide) rfl (fun ls hl => ?_)
  have hl : lv_has ls 5 [(4, .int (nI 0)), (0, .ref mo), (1, .int (nI j)), (2, .int (nI fl)), (3, .int a3)] := hl
  refine fy_loop (σ := Nat × (Nat → Int32)) (fun mz zz ls H locs => match zz with | (f, re2) => mz = 4 - f ∧ (f ≤ 4) ∧ (∀ g, g < f → re2 (4 * L.length + g) = -1) ∧ (∀ q, q < 4 * L.length → re2 q = re q) ∧ lv_has ls 5 [(4, .int (nI f)), (0, .ref mo), (1, .int (nI j)), (2, .int (nI fl)), (3, .int a3)] ∧ va_P D vwCl [(mo, .inr (5, [.int (nI 0), .int (nI N), .int (nI C), .int (nI L.length), .ref m1, .ref m2, .ref m3, .ref m4, .ref m5, .ref m6, .ref m7, .ref m8])), (m1, .inl (cI, 80, .inl (upd nu L.length (nI N)))), (m2, .inl (cI, 80, .inl (upd va L.length a3))), (m3, .inl (cI, 80, .inl (upd ag L.length (nI 0)))), (m4, .inl (cI, 80, .inl (upd fi L.length (nI fl)))), (m5, .inl (cI, 320, .inl re2)), (m6, .inl (cZ, 80, .inl mk)), (m7, .inl (cI, 8, .inl mr)), (m8, .inl (cI, 4, .inl mw))] H ∧ va_D A [(mo, .inr (5, [.int (nI 0), .int (nI N), .int (nI C), .int (nI L.length), .ref m1, .ref m2, .ref m3, .ref m4, .ref m5, .ref m6, .ref m7, .ref m8])), (m1, .inl (cI, 80, .inl (upd nu L.length (nI N)))), (m2, .inl (cI, 80, .inl (upd va L.length a3))), (m3, .inl (cI, 80, .inl (upd ag L.length (nI 0)))), (m4, .inl (cI, 80, .inl (upd fi L.length (nI fl)))), (m5, .inl (cI, 320, .inl re2)), (m6, .inl (cZ, 80, .inl mk)), (m7, .inl (cI, 8, .inl mr)), (m8, .inl (cI, 4, .inl mw))] ∧ va_S A s.heap H locs) ?_ _ (0, re) ⟨rfl, Nat.zero_le _, fun g hg => absurd hg (Nat.not_lt_zero g), fun q _ => rfl, hl, hP, hD, hS⟩
  rintro mz ⟨f, re2⟩ ls H locs ⟨hmz, hf, h1, h2, hl, hP, hD, hS⟩ ih
  have hmz : mz = 4 - f := hmz
  have hf : f ≤ 4 := hf
  have h1 : ∀ g, g < f → re2 (4 * L.length + g) = -1 := h1
  have h2 : ∀ q, q < 4 * L.length → re2 q = re q := h2
  have hl : lv_has ls 5 [(4, .int (nI f)), (0, .ref mo), (1, .int (nI j)), (2, .int (nI fl)), (3, .int a3)] := hl
  have hP : va_P D vwCl [(mo, .inr (5, [.int (nI 0), .int (nI N), .int (nI C), .int (nI L.length), .ref m1, .ref m2, .ref m3, .ref m4, .ref m5, .ref m6, .ref m7, .ref m8])), (m1, .inl (cI, 80, .inl (upd nu L.length (nI N)))), (m2, .inl (cI, 80, .inl (upd va L.length a3))), (m3, .inl (cI, 80, .inl (upd ag L.length (nI 0)))), (m4, .inl (cI, 80, .inl (upd fi L.length (nI fl)))), (m5, .inl (cI, 320, .inl re2)), (m6, .inl (cZ, 80, .inl mk)), (m7, .inl (cI, 8, .inl mr)), (m8, .inl (cI, 4, .inl mw))] H := hP
  have hD : va_D A [(mo, .inr (5, [.int (nI 0), .int (nI N), .int (nI C), .int (nI L.length), .ref m1, .ref m2, .ref m3, .ref m4, .ref m5, .ref m6, .ref m7, .ref m8])), (m1, .inl (cI, 80, .inl (upd nu L.length (nI N)))), (m2, .inl (cI, 80, .inl (upd va L.length a3))), (m3, .inl (cI, 80, .inl (upd ag L.length (nI 0)))), (m4, .inl (cI, 80, .inl (upd fi L.length (nI fl)))), (m5, .inl (cI, 320, .inl re2)), (m6, .inl (cZ, 80, .inl mk)), (m7, .inl (cI, 8, .inl mr)), (m8, .inl (cI, 4, .inl mw))] := hD
  refine lv_iload hx hb d_Mo_make_98 (lv_at hl 0 rfl) ?_
  refine lv_iconst (v := nI 4) hx hb d_Mo_make_100 (by decide) ?_
  refine lv_icmp_ge hx hb d_Mo_make_101 (tgt := 125) (by decide) (fun hc => ?_) (fun hc => ?_)
  · have hc : f = 4 := by have := (nI_leI (by omega) (by omega)).mp hc; omega
    refine lv_aload_n hx hb d_Mo_make_125 rfl (lv_at hl 1 rfl) ?_
    refine lv_dup hx hb d_Mo_make_126 rfl ?_
    refine va_get (D := D) (ci := 5) (v := .int (nI L.length)) (C := R_Mo) (T := F_Mo) (N := 12) hx hb hts i_Mo hown hK hP 0 rfl rfl 3 (by decide) (hts _ k_f_Mo_39) (fun _ h9 => h9) rfl d_Mo_make_127 ?_
    refine lv_iconst (v := nI 1) hx hb d_Mo_make_130 (by decide) ?_
    refine lv_iadd hx hb d_Mo_make_131 ?_
    refine fy_top (z := nI (L.length + 1)) (nI_add _ _) ?_
    refine va_put (D := D) (ci := 5) (v := .int (nI (L.length + 1))) (ty := .int) (C := R_Mo) (T := F_Mo) (N := 12) hx hb hts i_Mo t_Mo tk_Mo n_Mo hown hK hP hD hS 0 rfl rfl 3 (by decide) (hts _ k_f_Mo_39) (fun _ h9 => h9) rfl (by decide +kernel) rfl rfl (Nat.le_of_ble_eq_true rfl) d_Mo_make_132 (fun H locs hP hD hS => ?_)
    have hP : va_P D vwCl [(mo, .inr (5, [.int (nI 0), .int (nI N), .int (nI C), .int (nI (L.length + 1)), .ref m1, .ref m2, .ref m3, .ref m4, .ref m5, .ref m6, .ref m7, .ref m8])), (m1, .inl (cI, 80, .inl (upd nu L.length (nI N)))), (m2, .inl (cI, 80, .inl (upd va L.length a3))), (m3, .inl (cI, 80, .inl (upd ag L.length (nI 0)))), (m4, .inl (cI, 80, .inl (upd fi L.length (nI fl)))), (m5, .inl (cI, 320, .inl re2)), (m6, .inl (cZ, 80, .inl mk)), (m7, .inl (cI, 8, .inl mr)), (m8, .inl (cI, 4, .inl mw))] H := hP
    have hD : va_D A [(mo, .inr (5, [.int (nI 0), .int (nI N), .int (nI C), .int (nI (L.length + 1)), .ref m1, .ref m2, .ref m3, .ref m4, .ref m5, .ref m6, .ref m7, .ref m8])), (m1, .inl (cI, 80, .inl (upd nu L.length (nI N)))), (m2, .inl (cI, 80, .inl (upd va L.length a3))), (m3, .inl (cI, 80, .inl (upd ag L.length (nI 0)))), (m4, .inl (cI, 80, .inl (upd fi L.length (nI fl)))), (m5, .inl (cI, 320, .inl re2)), (m6, .inl (cZ, 80, .inl mk)), (m7, .inl (cI, 8, .inl mr)), (m8, .inl (cI, 4, .inl mw))] := hD
    refine lv_aload_n hx hb d_Mo_make_135 rfl (lv_at hl 1 rfl) ?_
    refine lv_dup hx hb d_Mo_make_136 rfl ?_
    refine va_get (D := D) (ci := 5) (v := .int (nI N)) (C := R_Mo) (T := F_Mo) (N := 12) hx hb hts i_Mo hown hK hP 0 rfl rfl 1 (by decide) (hts _ k_f_Mo_50) (fun _ h9 => h9) rfl d_Mo_make_137 ?_
    refine lv_iconst (v := nI 1) hx hb d_Mo_make_140 (by decide) ?_
    refine lv_iadd hx hb d_Mo_make_141 ?_
    refine fy_top (z := nI (N + 1)) (nI_add _ _) ?_
    refine va_put (D := D) (ci := 5) (v := .int (nI (N + 1))) (ty := .int) (C := R_Mo) (T := F_Mo) (N := 12) hx hb hts i_Mo t_Mo tk_Mo n_Mo hown hK hP hD hS 0 rfl rfl 1 (by decide) (hts _ k_f_Mo_50) (fun _ h9 => h9) rfl (by decide +kernel) rfl rfl (Nat.le_of_ble_eq_true rfl) d_Mo_make_142 (fun H locs hP hD hS => ?_)
    have hP : va_P D vwCl [(mo, .inr (5, [.int (nI 0), .int (nI (N + 1)), .int (nI C), .int (nI (L.length + 1)), .ref m1, .ref m2, .ref m3, .ref m4, .ref m5, .ref m6, .ref m7, .ref m8])), (m1, .inl (cI, 80, .inl (upd nu L.length (nI N)))), (m2, .inl (cI, 80, .inl (upd va L.length a3))), (m3, .inl (cI, 80, .inl (upd ag L.length (nI 0)))), (m4, .inl (cI, 80, .inl (upd fi L.length (nI fl)))), (m5, .inl (cI, 320, .inl re2)), (m6, .inl (cZ, 80, .inl mk)), (m7, .inl (cI, 8, .inl mr)), (m8, .inl (cI, 4, .inl mw))] H := hP
    have hD : va_D A [(mo, .inr (5, [.int (nI 0), .int (nI (N + 1)), .int (nI C), .int (nI (L.length + 1)), .ref m1, .ref m2, .ref m3, .ref m4, .ref m5, .ref m6, .ref m7, .ref m8])), (m1, .inl (cI, 80, .inl (upd nu L.length (nI N)))), (m2, .inl (cI, 80, .inl (upd va L.length a3))), (m3, .inl (cI, 80, .inl (upd ag L.length (nI 0)))), (m4, .inl (cI, 80, .inl (upd fi L.length (nI fl)))), (m5, .inl (cI, 320, .inl re2)), (m6, .inl (cZ, 80, .inl mk)), (m7, .inl (cI, 8, .inl mr)), (m8, .inl (cI, 4, .inl mw))] := hD
    refine lv_aload_n hx hb d_Mo_make_145 rfl (lv_at hl 1 rfl) ?_
    refine va_get (D := D) (ci := 5) (v := .ref m7) (C := R_Mo) (T := F_Mo) (N := 12) hx hb hts i_Mo hown hK hP 0 rfl rfl 10 (by decide) (hts _ k_f_Mo_29) (fun _ h9 => h9) rfl d_Mo_make_146 ?_
    refine lv_iload_n hx hb d_Mo_make_149 rfl (lv_at hl 2 rfl) ?_
    refine lv_aload_n hx hb d_Mo_make_150 rfl (lv_at hl 1 rfl) ?_
    refine va_get (D := D) (ci := 5) (v := .int (nI (N + 1))) (C := R_Mo) (T := F_Mo) (N := 12) hx hb hts i_Mo hown hK hP 0 rfl rfl 1 (by decide) (hts _ k_f_Mo_50) (fun _ h9 => h9) rfl d_Mo_make_151 ?_
    refine lv_iconst (v := nI 1) hx hb d_Mo_make_154 (by decide) ?_
    refine lv_isub hx hb d_Mo_make_155 ?_
    refine fy_top (z := nI N) (pk_sub (by omega)) ?_
    refine fy_iast (t0 := 0) (g := upd mr j (nI N)) hx hb hK hP hD hS 7 rfl rfl (by omega) (by omega) (rfl) d_Mo_make_156 (fun H locs hP hD hS => ?_)
    have hP : va_P D vwCl [(mo, .inr (5, [.int (nI 0), .int (nI (N + 1)), .int (nI C), .int (nI (L.length + 1)), .ref m1, .ref m2, .ref m3, .ref m4, .ref m5, .ref m6, .ref m7, .ref m8])), (m1, .inl (cI, 80, .inl (upd nu L.length (nI N)))), (m2, .inl (cI, 80, .inl (upd va L.length a3))), (m3, .inl (cI, 80, .inl (upd ag L.length (nI 0)))), (m4, .inl (cI, 80, .inl (upd fi L.length (nI fl)))), (m5, .inl (cI, 320, .inl re2)), (m6, .inl (cZ, 80, .inl mk)), (m7, .inl (cI, 8, .inl (upd mr j (nI N)))), (m8, .inl (cI, 4, .inl mw))] H := hP
    have hD : va_D A [(mo, .inr (5, [.int (nI 0), .int (nI (N + 1)), .int (nI C), .int (nI (L.length + 1)), .ref m1, .ref m2, .ref m3, .ref m4, .ref m5, .ref m6, .ref m7, .ref m8])), (m1, .inl (cI, 80, .inl (upd nu L.length (nI N)))), (m2, .inl (cI, 80, .inl (upd va L.length a3))), (m3, .inl (cI, 80, .inl (upd ag L.length (nI 0)))), (m4, .inl (cI, 80, .inl (upd fi L.length (nI fl)))), (m5, .inl (cI, 320, .inl re2)), (m6, .inl (cZ, 80, .inl mk)), (m7, .inl (cI, 8, .inl (upd mr j (nI N)))), (m8, .inl (cI, 4, .inl mw))] := hD
    refine lv_aload_n hx hb d_Mo_make_157 rfl (lv_at hl 1 rfl) ?_
    refine va_get (D := D) (ci := 5) (v := .int (nI (N + 1))) (C := R_Mo) (T := F_Mo) (N := 12) hx hb hts i_Mo hown hK hP 0 rfl rfl 1 (by decide) (hts _ k_f_Mo_50) (fun _ h9 => h9) rfl d_Mo_make_158 ?_
    refine lv_iconst (v := nI 1) hx hb d_Mo_make_161 (by decide) ?_
    refine lv_isub hx hb d_Mo_make_162 ?_
    refine fy_top (z := nI N) (pk_sub (by omega)) ?_
    have hL9 : L.length + 1 = (L ++ [N]).length := by simp
    rw [hL9] at hP
    exact fy_reti hx hb hr hlocks hAe (⟨nI N, upd nu L.length (nI N), upd va L.length a3, upd ag L.length (nI 0), upd fi L.length (nI fl), re2, mk, upd mr j (nI N), mw, (fun _ => rfl), rfl, fm_Mo.make hI hM (fun g hg => h1 g (by omega)) h2, rfl⟩) (List.Perm.refl _) hP hS d_Mo_make_163
  · have hc : f < 4 := by have := mt (nI_leI (a := 4) (b := f) (by omega) (by omega)).mpr hc; omega
    refine lv_aload_n hx hb d_Mo_make_104 rfl (lv_at hl 1 rfl) ?_
    refine va_get (D := D) (ci := 5) (v := .ref m5) (C := R_Mo) (T := F_Mo) (N := 12) hx hb hts i_Mo hown hK hP 0 rfl rfl 8 (by decide) (hts _ k_f_Mo_22) (fun _ h9 => h9) rfl d_Mo_make_105 ?_
    refine lv_iconst (v := nI 4) hx hb d_Mo_make_108 (by decide) ?_
    refine lv_aload_n hx hb d_Mo_make_109 rfl (lv_at hl 1 rfl) ?_
    refine va_get (D := D) (ci := 5) (v := .int (nI L.length)) (C := R_Mo) (T := F_Mo) (N := 12) hx hb hts i_Mo hown hK hP 0 rfl rfl 3 (by decide) (hts _ k_f_Mo_39) (fun _ h9 => h9) rfl d_Mo_make_110 ?_
    refine lv_imul hx hb d_Mo_make_113 ?_
    refine fy_top (z := nI (4 * L.length)) (pk_mul _ _) ?_
    refine lv_iload hx hb d_Mo_make_114 (lv_at hl 0 rfl) ?_
    refine lv_iadd hx hb d_Mo_make_116 ?_
    refine fy_top (z := nI ((4 * L.length) + f)) (nI_add _ _) ?_
    refine lv_iconst (v := -1) hx hb d_Mo_make_117 (by decide) ?_
    refine fy_iast (t0 := 0) (g := upd re2 ((4 * L.length) + f) (-1)) hx hb hK hP hD hS 5 rfl rfl (by omega) (by omega) (rfl) d_Mo_make_118 (fun H locs hP hD hS => ?_)
    have hP : va_P D vwCl [(mo, .inr (5, [.int (nI 0), .int (nI N), .int (nI C), .int (nI L.length), .ref m1, .ref m2, .ref m3, .ref m4, .ref m5, .ref m6, .ref m7, .ref m8])), (m1, .inl (cI, 80, .inl (upd nu L.length (nI N)))), (m2, .inl (cI, 80, .inl (upd va L.length a3))), (m3, .inl (cI, 80, .inl (upd ag L.length (nI 0)))), (m4, .inl (cI, 80, .inl (upd fi L.length (nI fl)))), (m5, .inl (cI, 320, .inl (upd re2 ((4 * L.length) + f) (-1)))), (m6, .inl (cZ, 80, .inl mk)), (m7, .inl (cI, 8, .inl mr)), (m8, .inl (cI, 4, .inl mw))] H := hP
    have hD : va_D A [(mo, .inr (5, [.int (nI 0), .int (nI N), .int (nI C), .int (nI L.length), .ref m1, .ref m2, .ref m3, .ref m4, .ref m5, .ref m6, .ref m7, .ref m8])), (m1, .inl (cI, 80, .inl (upd nu L.length (nI N)))), (m2, .inl (cI, 80, .inl (upd va L.length a3))), (m3, .inl (cI, 80, .inl (upd ag L.length (nI 0)))), (m4, .inl (cI, 80, .inl (upd fi L.length (nI fl)))), (m5, .inl (cI, 320, .inl (upd re2 ((4 * L.length) + f) (-1)))), (m6, .inl (cZ, 80, .inl mk)), (m7, .inl (cI, 8, .inl mr)), (m8, .inl (cI, 4, .inl mw))] := hD
    refine lv_iinc (v := nI (f + 1)) hx hb d_Mo_make_119 hl (k := 0) rfl (by rw [show Int32.ofInt 1 = nI 1 from by decide]; exact nI_add _ _) (by decide) rfl (fun ls hl => ?_)
    have hl : lv_has ls 5 [(4, .int (nI (f + 1))), (0, .ref mo), (1, .int (nI j)), (2, .int (nI fl)), (3, .int a3)] := hl
    refine lv_goto hx hb d_Mo_make_122 (tgt := 98) (by decide) ?_
    have hl : lv_has ls 5 [(4, .int (nI (f + 1))), (0, .ref mo), (1, .int (nI j)), (2, .int (nI fl)), (3, .int a3)] := lv_sub hl [0, 1, 2, 3, 4] rfl
    exact ih _ (f + 1, upd re2 (4 * L.length + f) (-1)) _ _ _ (by omega) ⟨rfl, hc, fun g hg => by by_cases e : g = f; (subst e; exact fm_upd_self); (rw [fm_upd_ne (by omega)]; exact h1 g (by omega)), fun q hq => by rw [fm_upd_ne (by omega)]; exact h2 q hq, hl, hP, hD, hS⟩
set_option maxRecDepth 20000 in
set_option maxHeartbeats 4000000 in
theorem c_Mo_set_0 (l : Launch) (s0 : State) (D : va_G) (cI cZ cJ cW : ClassId) (hG : fy_G s0 D cI cZ cJ cW) (mo m1 m2 m3 m4 m5 m6 m7 m8 : Nat) (cd : Int32) (i : Nat) (N : Nat) (C : Nat) (L : List Nat) (val : Nat → Int32) (age : Nat → Nat) (nf : Nat → Nat) (rf : Nat → Nat → Option Nat) (reg : Nat → Option Nat) (wk : Nat → Option Nat) (nu va ag fi re mk mr mw : Nat → Int32) (hI : fm_In i N C L age nf rf reg wk) (hM : fm_Mo L val age nf rf reg wk nu va ag fi re mr mw) (a1 a2 a3 : Int32) (ans : Int32) (q1 : ¬ fy_ok 8 a1 ∨ ¬ fy_ok 8 a3) : fy_Met l s0 D vwCl y_Mo_set w_Mo_set (fy_rm 2) 0 0 [.ref mo, .int a1, .int a2, .int a3] [(mo, .inr (5, [.int cd, .int (nI N), .int (nI C), .int (nI L.length), .ref m1, .ref m2, .ref m3, .ref m4, .ref m5, .ref m6, .ref m7, .ref m8])), (m1, .inl (cI, 80, .inl nu)), (m2, .inl (cI, 80, .inl va)), (m3, .inl (cI, 80, .inl ag)), (m4, .inl (cI, 80, .inl fi)), (m5, .inl (cI, 320, .inl re)), (m6, .inl (cZ, 80, .inl mk)), (m7, .inl (cI, 8, .inl mr)), (m8, .inl (cI, 4, .inl mw))] (fun r w1 => mo_post (fun _ => none) mo m1 m2 m3 m4 m5 m6 m7 m8 cI cZ 1 ans N C L val age nf rf reg wk r w1) := by
  refine fy_st (bytes := b_Mo_set) (maxL := 5) (ret := none) hG (by decide) rfl (Nat.le_of_ble_eq_true rfl) ?_
  intro p e s m below meth c A ls hx hb hr hlocks hml hown hts hK hLa hAe hAB hA hl hP hD hS
  have hl : lv_has ls 5 [(0, .ref mo), (1, .int a1), (2, .int a2), (3, .int a3)] := hl
  refine lv_aload_n hx hb d_Mo_set_0 rfl (lv_at hl 0 rfl) ?_
  refine lv_iload_n hx hb d_Mo_set_1 rfl (lv_at hl 1 rfl) ?_
  by_cases hr9 : fy_ok 8 a1
  · obtain ⟨k, hk, rfl⟩ := hr9.nat (by omega)
    refine fy_callS (As := [.int (nI k)]) (rest := [.ref mo]) ⟨hx, hb, hml, hown, hts⟩ (c_Mo_isRegister l s0 D cI cZ cJ cW hG k hk) (va_cwS 1 hts g_Mo_42 rfl rfl rfl (by decide +kernel) ⟨Nat.le_of_ble_eq_true rfl, Nat.le_of_ble_eq_true rfl⟩) hLa hAB hA hP hD hS [] rfl rfl rfl hl.1 rfl (Nat.le_of_ble_eq_true rfl) d_Mo_set_2 ⟨Nat.zero_le _, Nat.zero_le _⟩ (fun r w1 H locs hp hP hD hS => ?_)
    obtain ⟨rfl, rfl⟩ := hp
    have hP : va_P D vwCl [(mo, .inr (5, [.int cd, .int (nI N), .int (nI C), .int (nI L.length), .ref m1, .ref m2, .ref m3, .ref m4, .ref m5, .ref m6, .ref m7, .ref m8])), (m1, .inl (cI, 80, .inl nu)), (m2, .inl (cI, 80, .inl va)), (m3, .inl (cI, 80, .inl ag)), (m4, .inl (cI, 80, .inl fi)), (m5, .inl (cI, 320, .inl re)), (m6, .inl (cZ, 80, .inl mk)), (m7, .inl (cI, 8, .inl mr)), (m8, .inl (cI, 4, .inl mw))] H := hP
    have hD : va_D A [(mo, .inr (5, [.int cd, .int (nI N), .int (nI C), .int (nI L.length), .ref m1, .ref m2, .ref m3, .ref m4, .ref m5, .ref m6, .ref m7, .ref m8])), (m1, .inl (cI, 80, .inl nu)), (m2, .inl (cI, 80, .inl va)), (m3, .inl (cI, 80, .inl ag)), (m4, .inl (cI, 80, .inl fi)), (m5, .inl (cI, 320, .inl re)), (m6, .inl (cZ, 80, .inl mk)), (m7, .inl (cI, 8, .inl mr)), (m8, .inl (cI, 4, .inl mw))] := hD
    refine lv_if_eq hx hb d_Mo_set_5 (tgt := 19) (by decide) (fun h => absurd h (by decide)) (fun _ => ?_)
    refine lv_iload_n hx hb d_Mo_set_8 rfl (lv_at hl 3 rfl) ?_
    refine fy_callS (As := [.int a3]) (rest := [.ref mo]) ⟨hx, hb, hml, hown, hts⟩ (c_Mo_isRegister0 l s0 D cI cZ cJ cW hG a3 (q1.resolve_left (fun h => h hr9))) (va_cwS 1 hts g_Mo_42 rfl rfl rfl (by decide +kernel) ⟨Nat.le_of_ble_eq_true rfl, Nat.le_of_ble_eq_true rfl⟩) hLa hAB hA hP hD hS [] rfl rfl rfl hl.1 rfl (Nat.le_of_ble_eq_true rfl) d_Mo_set_9 ⟨Nat.zero_le _, Nat.zero_le _⟩ (fun r w1 H locs hp hP hD hS => ?_)
    obtain ⟨rfl, rfl⟩ := hp
    have hP : va_P D vwCl [(mo, .inr (5, [.int cd, .int (nI N), .int (nI C), .int (nI L.length), .ref m1, .ref m2, .ref m3, .ref m4, .ref m5, .ref m6, .ref m7, .ref m8])), (m1, .inl (cI, 80, .inl nu)), (m2, .inl (cI, 80, .inl va)), (m3, .inl (cI, 80, .inl ag)), (m4, .inl (cI, 80, .inl fi)), (m5, .inl (cI, 320, .inl re)), (m6, .inl (cZ, 80, .inl mk)), (m7, .inl (cI, 8, .inl mr)), (m8, .inl (cI, 4, .inl mw))] H := hP
    have hD : va_D A [(mo, .inr (5, [.int cd, .int (nI N), .int (nI C), .int (nI L.length), .ref m1, .ref m2, .ref m3, .ref m4, .ref m5, .ref m6, .ref m7, .ref m8])), (m1, .inl (cI, 80, .inl nu)), (m2, .inl (cI, 80, .inl va)), (m3, .inl (cI, 80, .inl ag)), (m4, .inl (cI, 80, .inl fi)), (m5, .inl (cI, 320, .inl re)), (m6, .inl (cZ, 80, .inl mk)), (m7, .inl (cI, 8, .inl mr)), (m8, .inl (cI, 4, .inl mw))] := hD
    refine lv_if_eq hx hb d_Mo_set_12 (tgt := 19) (by decide) (fun _ => ?_) (fun h => absurd (rfl) h)
    refine lv_iconst (v := nI 1) hx hb d_Mo_set_19 (by decide) ?_
    refine va_put (D := D) (ci := 5) (v := .int (nI 1)) (ty := .int) (C := R_Mo) (T := F_Mo) (N := 12) hx hb hts i_Mo t_Mo tk_Mo n_Mo hown hK hP hD hS 0 rfl rfl 0 (by decide) (hts _ k_f_Mo_35) (fun _ h9 => h9) rfl (by decide +kernel) rfl rfl (Nat.le_of_ble_eq_true rfl) d_Mo_set_20 (fun H locs hP hD hS => ?_)
    have hP : va_P D vwCl [(mo, .inr (5, [.int (nI 1), .int (nI N), .int (nI C), .int (nI L.length), .ref m1, .ref m2, .ref m3, .ref m4, .ref m5, .ref m6, .ref m7, .ref m8])), (m1, .inl (cI, 80, .inl nu)), (m2, .inl (cI, 80, .inl va)), (m3, .inl (cI, 80, .inl ag)), (m4, .inl (cI, 80, .inl fi)), (m5, .inl (cI, 320, .inl re)), (m6, .inl (cZ, 80, .inl mk)), (m7, .inl (cI, 8, .inl mr)), (m8, .inl (cI, 4, .inl mw))] H := hP
    have hD : va_D A [(mo, .inr (5, [.int (nI 1), .int (nI N), .int (nI C), .int (nI L.length), .ref m1, .ref m2, .ref m3, .ref m4, .ref m5, .ref m6, .ref m7, .ref m8])), (m1, .inl (cI, 80, .inl nu)), (m2, .inl (cI, 80, .inl va)), (m3, .inl (cI, 80, .inl ag)), (m4, .inl (cI, 80, .inl fi)), (m5, .inl (cI, 320, .inl re)), (m6, .inl (cZ, 80, .inl mk)), (m7, .inl (cI, 8, .inl mr)), (m8, .inl (cI, 4, .inl mw))] := hD
    refine lv_aload_n hx hb d_Mo_set_23 rfl (lv_at hl 0 rfl) ?_
    refine va_get (D := D) (ci := 5) (v := .int (nI 1)) (C := R_Mo) (T := F_Mo) (N := 12) hx hb hts i_Mo hown hK hP 0 rfl rfl 0 (by decide) (hts _ k_f_Mo_35) (fun _ h9 => h9) rfl d_Mo_set_24 ?_
    refine lv_if_le hx hb d_Mo_set_27 (tgt := 34) (by decide) (fun h => absurd h (by decide)) (fun _ => ?_)
    refine lv_iconst (v := -1) hx hb d_Mo_set_30 (by decide) ?_
    refine lv_goto hx hb d_Mo_set_31 (tgt := 40) (by decide) ?_
    refine lv_istore hx hb d_Mo_set_40 hl (by decide) rfl (fun ls hl => ?_)
    have hl : lv_has ls 5 [(4, .int (-1)), (0, .ref mo), (1, .int (nI k)), (2, .int a2), (3, .int a3)] := hl
    refine lv_iload hx hb d_Mo_set_42 (lv_at hl 0 rfl) ?_
    refine lv_if_lt hx hb d_Mo_set_44 (tgt := 60) (by decide) (fun _ => ?_) (fun h => absurd (by decide) h)
    exact fy_retv hx hb hr hlocks hAe (⟨0, nu, va, ag, fi, re, mk, mr, mw, (fun h => absurd h (by decide)), rfl, hM, rfl⟩) (List.Perm.refl _) hP hS d_Mo_set_60
  · refine fy_callS (As := [.int a1]) (rest := [.ref mo]) ⟨hx, hb, hml, hown, hts⟩ (c_Mo_isRegister0 l s0 D cI cZ cJ cW hG a1 (hr9)) (va_cwS 1 hts g_Mo_42 rfl rfl rfl (by decide +kernel) ⟨Nat.le_of_ble_eq_true rfl, Nat.le_of_ble_eq_true rfl⟩) hLa hAB hA hP hD hS [] rfl rfl rfl hl.1 rfl (Nat.le_of_ble_eq_true rfl) d_Mo_set_2 ⟨Nat.zero_le _, Nat.zero_le _⟩ (fun r w1 H locs hp hP hD hS => ?_)
    obtain ⟨rfl, rfl⟩ := hp
    have hP : va_P D vwCl [(mo, .inr (5, [.int cd, .int (nI N), .int (nI C), .int (nI L.length), .ref m1, .ref m2, .ref m3, .ref m4, .ref m5, .ref m6, .ref m7, .ref m8])), (m1, .inl (cI, 80, .inl nu)), (m2, .inl (cI, 80, .inl va)), (m3, .inl (cI, 80, .inl ag)), (m4, .inl (cI, 80, .inl fi)), (m5, .inl (cI, 320, .inl re)), (m6, .inl (cZ, 80, .inl mk)), (m7, .inl (cI, 8, .inl mr)), (m8, .inl (cI, 4, .inl mw))] H := hP
    have hD : va_D A [(mo, .inr (5, [.int cd, .int (nI N), .int (nI C), .int (nI L.length), .ref m1, .ref m2, .ref m3, .ref m4, .ref m5, .ref m6, .ref m7, .ref m8])), (m1, .inl (cI, 80, .inl nu)), (m2, .inl (cI, 80, .inl va)), (m3, .inl (cI, 80, .inl ag)), (m4, .inl (cI, 80, .inl fi)), (m5, .inl (cI, 320, .inl re)), (m6, .inl (cZ, 80, .inl mk)), (m7, .inl (cI, 8, .inl mr)), (m8, .inl (cI, 4, .inl mw))] := hD
    refine lv_if_eq hx hb d_Mo_set_5 (tgt := 19) (by decide) (fun _ => ?_) (fun h => absurd (rfl) h)
    refine lv_iconst (v := nI 1) hx hb d_Mo_set_19 (by decide) ?_
    refine va_put (D := D) (ci := 5) (v := .int (nI 1)) (ty := .int) (C := R_Mo) (T := F_Mo) (N := 12) hx hb hts i_Mo t_Mo tk_Mo n_Mo hown hK hP hD hS 0 rfl rfl 0 (by decide) (hts _ k_f_Mo_35) (fun _ h9 => h9) rfl (by decide +kernel) rfl rfl (Nat.le_of_ble_eq_true rfl) d_Mo_set_20 (fun H locs hP hD hS => ?_)
    have hP : va_P D vwCl [(mo, .inr (5, [.int (nI 1), .int (nI N), .int (nI C), .int (nI L.length), .ref m1, .ref m2, .ref m3, .ref m4, .ref m5, .ref m6, .ref m7, .ref m8])), (m1, .inl (cI, 80, .inl nu)), (m2, .inl (cI, 80, .inl va)), (m3, .inl (cI, 80, .inl ag)), (m4, .inl (cI, 80, .inl fi)), (m5, .inl (cI, 320, .inl re)), (m6, .inl (cZ, 80, .inl mk)), (m7, .inl (cI, 8, .inl mr)), (m8, .inl (cI, 4, .inl mw))] H := hP
    have hD : va_D A [(mo, .inr (5, [.int (nI 1), .int (nI N), .int (nI C), .int (nI L.length), .ref m1, .ref m2, .ref m3, .ref m4, .ref m5, .ref m6, .ref m7, .ref m8])), (m1, .inl (cI, 80, .inl nu)), (m2, .inl (cI, 80, .inl va)), (m3, .inl (cI, 80, .inl ag)), (m4, .inl (cI, 80, .inl fi)), (m5, .inl (cI, 320, .inl re)), (m6, .inl (cZ, 80, .inl mk)), (m7, .inl (cI, 8, .inl mr)), (m8, .inl (cI, 4, .inl mw))] := hD
    refine lv_aload_n hx hb d_Mo_set_23 rfl (lv_at hl 0 rfl) ?_
    refine va_get (D := D) (ci := 5) (v := .int (nI 1)) (C := R_Mo) (T := F_Mo) (N := 12) hx hb hts i_Mo hown hK hP 0 rfl rfl 0 (by decide) (hts _ k_f_Mo_35) (fun _ h9 => h9) rfl d_Mo_set_24 ?_
    refine lv_if_le hx hb d_Mo_set_27 (tgt := 34) (by decide) (fun h => absurd h (by decide)) (fun _ => ?_)
    refine lv_iconst (v := -1) hx hb d_Mo_set_30 (by decide) ?_
    refine lv_goto hx hb d_Mo_set_31 (tgt := 40) (by decide) ?_
    refine lv_istore hx hb d_Mo_set_40 hl (by decide) rfl (fun ls hl => ?_)
    have hl : lv_has ls 5 [(4, .int (-1)), (0, .ref mo), (1, .int a1), (2, .int a2), (3, .int a3)] := hl
    refine lv_iload hx hb d_Mo_set_42 (lv_at hl 0 rfl) ?_
    refine lv_if_lt hx hb d_Mo_set_44 (tgt := 60) (by decide) (fun _ => ?_) (fun h => absurd (by decide) h)
    exact fy_retv hx hb hr hlocks hAe (⟨0, nu, va, ag, fi, re, mk, mr, mw, (fun h => absurd h (by decide)), rfl, hM, rfl⟩) (List.Perm.refl _) hP hS d_Mo_set_60
set_option maxRecDepth 20000 in
set_option maxHeartbeats 4000000 in
theorem c_Mo_set_1 (l : Launch) (s0 : State) (D : va_G) (cI cZ cJ cW : ClassId) (hG : fy_G s0 D cI cZ cJ cW) (mo m1 m2 m3 m4 m5 m6 m7 m8 : Nat) (cd : Int32) (i : Nat) (N : Nat) (C : Nat) (L : List Nat) (val : Nat → Int32) (age : Nat → Nat) (nf : Nat → Nat) (rf : Nat → Nat → Option Nat) (reg : Nat → Option Nat) (wk : Nat → Option Nat) (nu va ag fi re mk mr mw : Nat → Int32) (hI : fm_In i N C L age nf rf reg wk) (hM : fm_Mo L val age nf rf reg wk nu va ag fi re mr mw) (j q : Nat) (a2 : Int32) (ans : Int32) (q1 : j < 8) (q2 : q < 8) (q3 : reg j = none) : fy_Met l s0 D vwCl y_Mo_set w_Mo_set (fy_rm 2) 0 0 [.ref mo, .int (nI j), .int a2, .int (nI q)] [(mo, .inr (5, [.int cd, .int (nI N), .int (nI C), .int (nI L.length), .ref m1, .ref m2, .ref m3, .ref m4, .ref m5, .ref m6, .ref m7, .ref m8])), (m1, .inl (cI, 80, .inl nu)), (m2, .inl (cI, 80, .inl va)), (m3, .inl (cI, 80, .inl ag)), (m4, .inl (cI, 80, .inl fi)), (m5, .inl (cI, 320, .inl re)), (m6, .inl (cZ, 80, .inl mk)), (m7, .inl (cI, 8, .inl mr)), (m8, .inl (cI, 4, .inl mw))] (fun r w1 => mo_post (fun _ => none) mo m1 m2 m3 m4 m5 m6 m7 m8 cI cZ 2 ans N C L val age nf rf reg wk r w1) := by
  refine fy_st (bytes := b_Mo_set) (maxL := 5) (ret := none) hG (by decide) rfl (Nat.le_of_ble_eq_true rfl) ?_
  intro p e s m below meth c A ls hx hb hr hlocks hml hown hts hK hLa hAe hAB hA hl hP hD hS
  have hl : lv_has ls 5 [(0, .ref mo), (1, .int (nI j)), (2, .int a2), (3, .int (nI q))] := hl
  refine lv_aload_n hx hb d_Mo_set_0 rfl (lv_at hl 0 rfl) ?_
  refine lv_iload_n hx hb d_Mo_set_1 rfl (lv_at hl 1 rfl) ?_
  refine fy_callS (As := [.int (nI j)]) (rest := [.ref mo]) ⟨hx, hb, hml, hown, hts⟩ (c_Mo_isRegister l s0 D cI cZ cJ cW hG j q1) (va_cwS 1 hts g_Mo_42 rfl rfl rfl (by decide +kernel) ⟨Nat.le_of_ble_eq_true rfl, Nat.le_of_ble_eq_true rfl⟩) hLa hAB hA hP hD hS [] rfl rfl rfl hl.1 rfl (Nat.le_of_ble_eq_true rfl) d_Mo_set_2 ⟨Nat.zero_le _, Nat.zero_le _⟩ (fun r w1 H locs hp hP hD hS => ?_)
  obtain ⟨rfl, rfl⟩ := hp
  have hP : va_P D vwCl [(mo, .inr (5, [.int cd, .int (nI N), .int (nI C), .int (nI L.length), .ref m1, .ref m2, .ref m3, .ref m4, .ref m5, .ref m6, .ref m7, .ref m8])), (m1, .inl (cI, 80, .inl nu)), (m2, .inl (cI, 80, .inl va)), (m3, .inl (cI, 80, .inl ag)), (m4, .inl (cI, 80, .inl fi)), (m5, .inl (cI, 320, .inl re)), (m6, .inl (cZ, 80, .inl mk)), (m7, .inl (cI, 8, .inl mr)), (m8, .inl (cI, 4, .inl mw))] H := hP
  have hD : va_D A [(mo, .inr (5, [.int cd, .int (nI N), .int (nI C), .int (nI L.length), .ref m1, .ref m2, .ref m3, .ref m4, .ref m5, .ref m6, .ref m7, .ref m8])), (m1, .inl (cI, 80, .inl nu)), (m2, .inl (cI, 80, .inl va)), (m3, .inl (cI, 80, .inl ag)), (m4, .inl (cI, 80, .inl fi)), (m5, .inl (cI, 320, .inl re)), (m6, .inl (cZ, 80, .inl mk)), (m7, .inl (cI, 8, .inl mr)), (m8, .inl (cI, 4, .inl mw))] := hD
  refine lv_if_eq hx hb d_Mo_set_5 (tgt := 19) (by decide) (fun h => absurd h (by decide)) (fun _ => ?_)
  refine lv_iload_n hx hb d_Mo_set_8 rfl (lv_at hl 3 rfl) ?_
  refine fy_callS (As := [.int (nI q)]) (rest := [.ref mo]) ⟨hx, hb, hml, hown, hts⟩ (c_Mo_isRegister l s0 D cI cZ cJ cW hG q q2) (va_cwS 1 hts g_Mo_42 rfl rfl rfl (by decide +kernel) ⟨Nat.le_of_ble_eq_true rfl, Nat.le_of_ble_eq_true rfl⟩) hLa hAB hA hP hD hS [] rfl rfl rfl hl.1 rfl (Nat.le_of_ble_eq_true rfl) d_Mo_set_9 ⟨Nat.zero_le _, Nat.zero_le _⟩ (fun r w1 H locs hp hP hD hS => ?_)
  obtain ⟨rfl, rfl⟩ := hp
  have hP : va_P D vwCl [(mo, .inr (5, [.int cd, .int (nI N), .int (nI C), .int (nI L.length), .ref m1, .ref m2, .ref m3, .ref m4, .ref m5, .ref m6, .ref m7, .ref m8])), (m1, .inl (cI, 80, .inl nu)), (m2, .inl (cI, 80, .inl va)), (m3, .inl (cI, 80, .inl ag)), (m4, .inl (cI, 80, .inl fi)), (m5, .inl (cI, 320, .inl re)), (m6, .inl (cZ, 80, .inl mk)), (m7, .inl (cI, 8, .inl mr)), (m8, .inl (cI, 4, .inl mw))] H := hP
  have hD : va_D A [(mo, .inr (5, [.int cd, .int (nI N), .int (nI C), .int (nI L.length), .ref m1, .ref m2, .ref m3, .ref m4, .ref m5, .ref m6, .ref m7, .ref m8])), (m1, .inl (cI, 80, .inl nu)), (m2, .inl (cI, 80, .inl va)), (m3, .inl (cI, 80, .inl ag)), (m4, .inl (cI, 80, .inl fi)), (m5, .inl (cI, 320, .inl re)), (m6, .inl (cZ, 80, .inl mk)), (m7, .inl (cI, 8, .inl mr)), (m8, .inl (cI, 4, .inl mw))] := hD
  refine lv_if_eq hx hb d_Mo_set_12 (tgt := 19) (by decide) (fun h => absurd h (by decide)) (fun _ => ?_)
  refine lv_iconst (v := nI 0) hx hb d_Mo_set_15 (by decide) ?_
  refine lv_goto hx hb d_Mo_set_16 (tgt := 20) (by decide) ?_
  refine va_put (D := D) (ci := 5) (v := .int (nI 0)) (ty := .int) (C := R_Mo) (T := F_Mo) (N := 12) hx hb hts i_Mo t_Mo tk_Mo n_Mo hown hK hP hD hS 0 rfl rfl 0 (by decide) (hts _ k_f_Mo_35) (fun _ h9 => h9) rfl (by decide +kernel) rfl rfl (Nat.le_of_ble_eq_true rfl) d_Mo_set_20 (fun H locs hP hD hS => ?_)
  have hP : va_P D vwCl [(mo, .inr (5, [.int (nI 0), .int (nI N), .int (nI C), .int (nI L.length), .ref m1, .ref m2, .ref m3, .ref m4, .ref m5, .ref m6, .ref m7, .ref m8])), (m1, .inl (cI, 80, .inl nu)), (m2, .inl (cI, 80, .inl va)), (m3, .inl (cI, 80, .inl ag)), (m4, .inl (cI, 80, .inl fi)), (m5, .inl (cI, 320, .inl re)), (m6, .inl (cZ, 80, .inl mk)), (m7, .inl (cI, 8, .inl mr)), (m8, .inl (cI, 4, .inl mw))] H := hP
  have hD : va_D A [(mo, .inr (5, [.int (nI 0), .int (nI N), .int (nI C), .int (nI L.length), .ref m1, .ref m2, .ref m3, .ref m4, .ref m5, .ref m6, .ref m7, .ref m8])), (m1, .inl (cI, 80, .inl nu)), (m2, .inl (cI, 80, .inl va)), (m3, .inl (cI, 80, .inl ag)), (m4, .inl (cI, 80, .inl fi)), (m5, .inl (cI, 320, .inl re)), (m6, .inl (cZ, 80, .inl mk)), (m7, .inl (cI, 8, .inl mr)), (m8, .inl (cI, 4, .inl mw))] := hD
  refine lv_aload_n hx hb d_Mo_set_23 rfl (lv_at hl 0 rfl) ?_
  refine va_get (D := D) (ci := 5) (v := .int (nI 0)) (C := R_Mo) (T := F_Mo) (N := 12) hx hb hts i_Mo hown hK hP 0 rfl rfl 0 (by decide) (hts _ k_f_Mo_35) (fun _ h9 => h9) rfl d_Mo_set_24 ?_
  refine lv_if_le hx hb d_Mo_set_27 (tgt := 34) (by decide) (fun _ => ?_) (fun h => absurd (by decide) h)
  refine lv_aload_n hx hb d_Mo_set_34 rfl (lv_at hl 0 rfl) ?_
  refine lv_iload_n hx hb d_Mo_set_35 rfl (lv_at hl 1 rfl) ?_
  refine lv_iload_n hx hb d_Mo_set_36 rfl (lv_at hl 2 rfl) ?_
  refine fy_callV (As := [.int (nI j), .int a2]) (rest := []) ⟨hx, hb, hml, hown, hts⟩ (c_Mo_fieldAt_N l s0 D cI cZ cJ cW hG mo m1 m2 m3 m4 m5 m6 m7 m8 (nI 0) i N C L val age nf rf reg wk nu va ag fi re mr mw hI hM j a2 q1 q3) (cwV 2 hts g_Mo_57 rfl rfl rfl (by decide +kernel) ⟨Nat.le_of_ble_eq_true rfl, Nat.le_of_ble_eq_true rfl⟩) hK hLa hAB hA hP hD hS [0, 1, 4, 7] rfl rfl (ci := 5) rfl rfl (q0 := 0) rfl rfl hl.1 rfl (Nat.le_of_ble_eq_true rfl) d_Mo_set_37 ⟨Nat.zero_le _, Nat.zero_le _⟩ (fun r w1 H locs hp hP hD hS => ?_)
  obtain ⟨rfl, rfl⟩ := hp
  have hP : va_P D vwCl [(mo, .inr (5, [.int (nI 2), .int (nI N), .int (nI C), .int (nI L.length), .ref m1, .ref m2, .ref m3, .ref m4, .ref m5, .ref m6, .ref m7, .ref m8])), (m1, .inl (cI, 80, .inl nu)), (m2, .inl (cI, 80, .inl va)), (m3, .inl (cI, 80, .inl ag)), (m4, .inl (cI, 80, .inl fi)), (m5, .inl (cI, 320, .inl re)), (m6, .inl (cZ, 80, .inl mk)), (m7, .inl (cI, 8, .inl mr)), (m8, .inl (cI, 4, .inl mw))] H := hP
  have hD : va_D A [(mo, .inr (5, [.int (nI 2), .int (nI N), .int (nI C), .int (nI L.length), .ref m1, .ref m2, .ref m3, .ref m4, .ref m5, .ref m6, .ref m7, .ref m8])), (m1, .inl (cI, 80, .inl nu)), (m2, .inl (cI, 80, .inl va)), (m3, .inl (cI, 80, .inl ag)), (m4, .inl (cI, 80, .inl fi)), (m5, .inl (cI, 320, .inl re)), (m6, .inl (cZ, 80, .inl mk)), (m7, .inl (cI, 8, .inl mr)), (m8, .inl (cI, 4, .inl mw))] := hD
  refine lv_istore hx hb d_Mo_set_40 hl (by decide) rfl (fun ls hl => ?_)
  have hl : lv_has ls 5 [(4, .int (-1)), (0, .ref mo), (1, .int (nI j)), (2, .int a2), (3, .int (nI q))] := hl
  refine lv_iload hx hb d_Mo_set_42 (lv_at hl 0 rfl) ?_
  refine lv_if_lt hx hb d_Mo_set_44 (tgt := 60) (by decide) (fun _ => ?_) (fun h => absurd (by decide) h)
  exact fy_retv hx hb hr hlocks hAe (⟨0, nu, va, ag, fi, re, mk, mr, mw, (fun h => absurd h (by decide)), rfl, hM, rfl⟩) (List.Perm.refl _) hP hS d_Mo_set_60
set_option maxRecDepth 20000 in
set_option maxHeartbeats 4000000 in
theorem c_Mo_set_2 (l : Launch) (s0 : State) (D : va_G) (cI cZ cJ cW : ClassId) (hG : fy_G s0 D cI cZ cJ cW) (mo m1 m2 m3 m4 m5 m6 m7 m8 : Nat) (cd : Int32) (i : Nat) (N : Nat) (C : Nat) (L : List Nat) (val : Nat → Int32) (age : Nat → Nat) (nf : Nat → Nat) (rf : Nat → Nat → Option Nat) (reg : Nat → Option Nat) (wk : Nat → Option Nat) (nu va ag fi re mk mr mw : Nat → Int32) (hI : fm_In i N C L age nf rf reg wk) (hM : fm_Mo L val age nf rf reg wk nu va ag fi re mr mw) (j q n : Nat) (a2 : Int32) (ans : Int32) (q1 : j < 8) (q2 : q < 8) (q3 : reg j = some n) (q4 : ¬ fy_ok (nf n) a2) : fy_Met l s0 D vwCl y_Mo_set w_Mo_set (fy_rm 2) 0 0 [.ref mo, .int (nI j), .int a2, .int (nI q)] [(mo, .inr (5, [.int cd, .int (nI N), .int (nI C), .int (nI L.length), .ref m1, .ref m2, .ref m3, .ref m4, .ref m5, .ref m6, .ref m7, .ref m8])), (m1, .inl (cI, 80, .inl nu)), (m2, .inl (cI, 80, .inl va)), (m3, .inl (cI, 80, .inl ag)), (m4, .inl (cI, 80, .inl fi)), (m5, .inl (cI, 320, .inl re)), (m6, .inl (cZ, 80, .inl mk)), (m7, .inl (cI, 8, .inl mr)), (m8, .inl (cI, 4, .inl mw))] (fun r w1 => mo_post (fun _ => none) mo m1 m2 m3 m4 m5 m6 m7 m8 cI cZ 3 ans N C L val age nf rf reg wk r w1) := by
  refine fy_st (bytes := b_Mo_set) (maxL := 5) (ret := none) hG (by decide) rfl (Nat.le_of_ble_eq_true rfl) ?_
  intro p e s m below meth c A ls hx hb hr hlocks hml hown hts hK hLa hAe hAB hA hl hP hD hS
  have hl : lv_has ls 5 [(0, .ref mo), (1, .int (nI j)), (2, .int a2), (3, .int (nI q))] := hl
  refine lv_aload_n hx hb d_Mo_set_0 rfl (lv_at hl 0 rfl) ?_
  refine lv_iload_n hx hb d_Mo_set_1 rfl (lv_at hl 1 rfl) ?_
  refine fy_callS (As := [.int (nI j)]) (rest := [.ref mo]) ⟨hx, hb, hml, hown, hts⟩ (c_Mo_isRegister l s0 D cI cZ cJ cW hG j q1) (va_cwS 1 hts g_Mo_42 rfl rfl rfl (by decide +kernel) ⟨Nat.le_of_ble_eq_true rfl, Nat.le_of_ble_eq_true rfl⟩) hLa hAB hA hP hD hS [] rfl rfl rfl hl.1 rfl (Nat.le_of_ble_eq_true rfl) d_Mo_set_2 ⟨Nat.zero_le _, Nat.zero_le _⟩ (fun r w1 H locs hp hP hD hS => ?_)
  obtain ⟨rfl, rfl⟩ := hp
  have hP : va_P D vwCl [(mo, .inr (5, [.int cd, .int (nI N), .int (nI C), .int (nI L.length), .ref m1, .ref m2, .ref m3, .ref m4, .ref m5, .ref m6, .ref m7, .ref m8])), (m1, .inl (cI, 80, .inl nu)), (m2, .inl (cI, 80, .inl va)), (m3, .inl (cI, 80, .inl ag)), (m4, .inl (cI, 80, .inl fi)), (m5, .inl (cI, 320, .inl re)), (m6, .inl (cZ, 80, .inl mk)), (m7, .inl (cI, 8, .inl mr)), (m8, .inl (cI, 4, .inl mw))] H := hP
  have hD : va_D A [(mo, .inr (5, [.int cd, .int (nI N), .int (nI C), .int (nI L.length), .ref m1, .ref m2, .ref m3, .ref m4, .ref m5, .ref m6, .ref m7, .ref m8])), (m1, .inl (cI, 80, .inl nu)), (m2, .inl (cI, 80, .inl va)), (m3, .inl (cI, 80, .inl ag)), (m4, .inl (cI, 80, .inl fi)), (m5, .inl (cI, 320, .inl re)), (m6, .inl (cZ, 80, .inl mk)), (m7, .inl (cI, 8, .inl mr)), (m8, .inl (cI, 4, .inl mw))] := hD
  refine lv_if_eq hx hb d_Mo_set_5 (tgt := 19) (by decide) (fun h => absurd h (by decide)) (fun _ => ?_)
  refine lv_iload_n hx hb d_Mo_set_8 rfl (lv_at hl 3 rfl) ?_
  refine fy_callS (As := [.int (nI q)]) (rest := [.ref mo]) ⟨hx, hb, hml, hown, hts⟩ (c_Mo_isRegister l s0 D cI cZ cJ cW hG q q2) (va_cwS 1 hts g_Mo_42 rfl rfl rfl (by decide +kernel) ⟨Nat.le_of_ble_eq_true rfl, Nat.le_of_ble_eq_true rfl⟩) hLa hAB hA hP hD hS [] rfl rfl rfl hl.1 rfl (Nat.le_of_ble_eq_true rfl) d_Mo_set_9 ⟨Nat.zero_le _, Nat.zero_le _⟩ (fun r w1 H locs hp hP hD hS => ?_)
  obtain ⟨rfl, rfl⟩ := hp
  have hP : va_P D vwCl [(mo, .inr (5, [.int cd, .int (nI N), .int (nI C), .int (nI L.length), .ref m1, .ref m2, .ref m3, .ref m4, .ref m5, .ref m6, .ref m7, .ref m8])), (m1, .inl (cI, 80, .inl nu)), (m2, .inl (cI, 80, .inl va)), (m3, .inl (cI, 80, .inl ag)), (m4, .inl (cI, 80, .inl fi)), (m5, .inl (cI, 320, .inl re)), (m6, .inl (cZ, 80, .inl mk)), (m7, .inl (cI, 8, .inl mr)), (m8, .inl (cI, 4, .inl mw))] H := hP
  have hD : va_D A [(mo, .inr (5, [.int cd, .int (nI N), .int (nI C), .int (nI L.length), .ref m1, .ref m2, .ref m3, .ref m4, .ref m5, .ref m6, .ref m7, .ref m8])), (m1, .inl (cI, 80, .inl nu)), (m2, .inl (cI, 80, .inl va)), (m3, .inl (cI, 80, .inl ag)), (m4, .inl (cI, 80, .inl fi)), (m5, .inl (cI, 320, .inl re)), (m6, .inl (cZ, 80, .inl mk)), (m7, .inl (cI, 8, .inl mr)), (m8, .inl (cI, 4, .inl mw))] := hD
  refine lv_if_eq hx hb d_Mo_set_12 (tgt := 19) (by decide) (fun h => absurd h (by decide)) (fun _ => ?_)
  refine lv_iconst (v := nI 0) hx hb d_Mo_set_15 (by decide) ?_
  refine lv_goto hx hb d_Mo_set_16 (tgt := 20) (by decide) ?_
  refine va_put (D := D) (ci := 5) (v := .int (nI 0)) (ty := .int) (C := R_Mo) (T := F_Mo) (N := 12) hx hb hts i_Mo t_Mo tk_Mo n_Mo hown hK hP hD hS 0 rfl rfl 0 (by decide) (hts _ k_f_Mo_35) (fun _ h9 => h9) rfl (by decide +kernel) rfl rfl (Nat.le_of_ble_eq_true rfl) d_Mo_set_20 (fun H locs hP hD hS => ?_)
  have hP : va_P D vwCl [(mo, .inr (5, [.int (nI 0), .int (nI N), .int (nI C), .int (nI L.length), .ref m1, .ref m2, .ref m3, .ref m4, .ref m5, .ref m6, .ref m7, .ref m8])), (m1, .inl (cI, 80, .inl nu)), (m2, .inl (cI, 80, .inl va)), (m3, .inl (cI, 80, .inl ag)), (m4, .inl (cI, 80, .inl fi)), (m5, .inl (cI, 320, .inl re)), (m6, .inl (cZ, 80, .inl mk)), (m7, .inl (cI, 8, .inl mr)), (m8, .inl (cI, 4, .inl mw))] H := hP
  have hD : va_D A [(mo, .inr (5, [.int (nI 0), .int (nI N), .int (nI C), .int (nI L.length), .ref m1, .ref m2, .ref m3, .ref m4, .ref m5, .ref m6, .ref m7, .ref m8])), (m1, .inl (cI, 80, .inl nu)), (m2, .inl (cI, 80, .inl va)), (m3, .inl (cI, 80, .inl ag)), (m4, .inl (cI, 80, .inl fi)), (m5, .inl (cI, 320, .inl re)), (m6, .inl (cZ, 80, .inl mk)), (m7, .inl (cI, 8, .inl mr)), (m8, .inl (cI, 4, .inl mw))] := hD
  refine lv_aload_n hx hb d_Mo_set_23 rfl (lv_at hl 0 rfl) ?_
  refine va_get (D := D) (ci := 5) (v := .int (nI 0)) (C := R_Mo) (T := F_Mo) (N := 12) hx hb hts i_Mo hown hK hP 0 rfl rfl 0 (by decide) (hts _ k_f_Mo_35) (fun _ h9 => h9) rfl d_Mo_set_24 ?_
  refine lv_if_le hx hb d_Mo_set_27 (tgt := 34) (by decide) (fun _ => ?_) (fun h => absurd (by decide) h)
  refine lv_aload_n hx hb d_Mo_set_34 rfl (lv_at hl 0 rfl) ?_
  refine lv_iload_n hx hb d_Mo_set_35 rfl (lv_at hl 1 rfl) ?_
  refine lv_iload_n hx hb d_Mo_set_36 rfl (lv_at hl 2 rfl) ?_
  refine fy_callV (As := [.int (nI j), .int a2]) (rest := []) ⟨hx, hb, hml, hown, hts⟩ (c_Mo_fieldAt_O l s0 D cI cZ cJ cW hG mo m1 m2 m3 m4 m5 m6 m7 m8 (nI 0) i N C L val age nf rf reg wk nu va ag fi re mr mw hI hM j n a2 q1 q3 q4) (cwV 2 hts g_Mo_57 rfl rfl rfl (by decide +kernel) ⟨Nat.le_of_ble_eq_true rfl, Nat.le_of_ble_eq_true rfl⟩) hK hLa hAB hA hP hD hS [0, 1, 4, 7] rfl rfl (ci := 5) rfl rfl (q0 := 0) rfl rfl hl.1 rfl (Nat.le_of_ble_eq_true rfl) d_Mo_set_37 ⟨Nat.zero_le _, Nat.zero_le _⟩ (fun r w1 H locs hp hP hD hS => ?_)
  obtain ⟨rfl, rfl⟩ := hp
  have hP : va_P D vwCl [(mo, .inr (5, [.int (nI 3), .int (nI N), .int (nI C), .int (nI L.length), .ref m1, .ref m2, .ref m3, .ref m4, .ref m5, .ref m6, .ref m7, .ref m8])), (m1, .inl (cI, 80, .inl nu)), (m2, .inl (cI, 80, .inl va)), (m3, .inl (cI, 80, .inl ag)), (m4, .inl (cI, 80, .inl fi)), (m5, .inl (cI, 320, .inl re)), (m6, .inl (cZ, 80, .inl mk)), (m7, .inl (cI, 8, .inl mr)), (m8, .inl (cI, 4, .inl mw))] H := hP
  have hD : va_D A [(mo, .inr (5, [.int (nI 3), .int (nI N), .int (nI C), .int (nI L.length), .ref m1, .ref m2, .ref m3, .ref m4, .ref m5, .ref m6, .ref m7, .ref m8])), (m1, .inl (cI, 80, .inl nu)), (m2, .inl (cI, 80, .inl va)), (m3, .inl (cI, 80, .inl ag)), (m4, .inl (cI, 80, .inl fi)), (m5, .inl (cI, 320, .inl re)), (m6, .inl (cZ, 80, .inl mk)), (m7, .inl (cI, 8, .inl mr)), (m8, .inl (cI, 4, .inl mw))] := hD
  refine lv_istore hx hb d_Mo_set_40 hl (by decide) rfl (fun ls hl => ?_)
  have hl : lv_has ls 5 [(4, .int (-1)), (0, .ref mo), (1, .int (nI j)), (2, .int a2), (3, .int (nI q))] := hl
  refine lv_iload hx hb d_Mo_set_42 (lv_at hl 0 rfl) ?_
  refine lv_if_lt hx hb d_Mo_set_44 (tgt := 60) (by decide) (fun _ => ?_) (fun h => absurd (by decide) h)
  exact fy_retv hx hb hr hlocks hAe (⟨0, nu, va, ag, fi, re, mk, mr, mw, (fun h => absurd h (by decide)), rfl, hM, rfl⟩) (List.Perm.refl _) hP hS d_Mo_set_60
set_option maxRecDepth 20000 in
set_option maxHeartbeats 4000000 in
theorem c_Mo_set_3 (l : Launch) (s0 : State) (D : va_G) (cI cZ cJ cW : ClassId) (hG : fy_G s0 D cI cZ cJ cW) (mo m1 m2 m3 m4 m5 m6 m7 m8 : Nat) (cd : Int32) (i : Nat) (N : Nat) (C : Nat) (L : List Nat) (val : Nat → Int32) (age : Nat → Nat) (nf : Nat → Nat) (rf : Nat → Nat → Option Nat) (reg : Nat → Option Nat) (wk : Nat → Option Nat) (nu va ag fi re mk mr mw : Nat → Int32) (hI : fm_In i N C L age nf rf reg wk) (hM : fm_Mo L val age nf rf reg wk nu va ag fi re mr mw) (j q n f : Nat) (ans : Int32) (q1 : j < 8) (q2 : q < 8) (q3 : reg j = some n) (q4 : f < nf n) : fy_Met l s0 D vwCl y_Mo_set w_Mo_set (fy_rm 2) 0 0 [.ref mo, .int (nI j), .int (nI f), .int (nI q)] [(mo, .inr (5, [.int cd, .int (nI N), .int (nI C), .int (nI L.length), .ref m1, .ref m2, .ref m3, .ref m4, .ref m5, .ref m6, .ref m7, .ref m8])), (m1, .inl (cI, 80, .inl nu)), (m2, .inl (cI, 80, .inl va)), (m3, .inl (cI, 80, .inl ag)), (m4, .inl (cI, 80, .inl fi)), (m5, .inl (cI, 320, .inl re)), (m6, .inl (cZ, 80, .inl mk)), (m7, .inl (cI, 8, .inl mr)), (m8, .inl (cI, 4, .inl mw))] (fun r w1 => mo_post (fun _ => none) mo m1 m2 m3 m4 m5 m6 m7 m8 cI cZ 0 ans N C L val age nf (va_up rf n (va_up (rf n) f (reg q))) reg wk r w1) := by
  refine fy_st (bytes := b_Mo_set) (maxL := 5) (ret := none) hG (by decide) rfl (Nat.le_of_ble_eq_true rfl) ?_
  intro p e s m below meth c A ls hx hb hr hlocks hml hown hts hK hLa hAe hAB hA hl hP hD hS
  have hl : lv_has ls 5 [(0, .ref mo), (1, .int (nI j)), (2, .int (nI f)), (3, .int (nI q))] := hl
  refine lv_aload_n hx hb d_Mo_set_0 rfl (lv_at hl 0 rfl) ?_
  refine lv_iload_n hx hb d_Mo_set_1 rfl (lv_at hl 1 rfl) ?_
  refine fy_callS (As := [.int (nI j)]) (rest := [.ref mo]) ⟨hx, hb, hml, hown, hts⟩ (c_Mo_isRegister l s0 D cI cZ cJ cW hG j q1) (va_cwS 1 hts g_Mo_42 rfl rfl rfl (by decide +kernel) ⟨Nat.le_of_ble_eq_true rfl, Nat.le_of_ble_eq_true rfl⟩) hLa hAB hA hP hD hS [] rfl rfl rfl hl.1 rfl (Nat.le_of_ble_eq_true rfl) d_Mo_set_2 ⟨Nat.zero_le _, Nat.zero_le _⟩ (fun r w1 H locs hp hP hD hS => ?_)
  obtain ⟨rfl, rfl⟩ := hp
  have hP : va_P D vwCl [(mo, .inr (5, [.int cd, .int (nI N), .int (nI C), .int (nI L.length), .ref m1, .ref m2, .ref m3, .ref m4, .ref m5, .ref m6, .ref m7, .ref m8])), (m1, .inl (cI, 80, .inl nu)), (m2, .inl (cI, 80, .inl va)), (m3, .inl (cI, 80, .inl ag)), (m4, .inl (cI, 80, .inl fi)), (m5, .inl (cI, 320, .inl re)), (m6, .inl (cZ, 80, .inl mk)), (m7, .inl (cI, 8, .inl mr)), (m8, .inl (cI, 4, .inl mw))] H := hP
  have hD : va_D A [(mo, .inr (5, [.int cd, .int (nI N), .int (nI C), .int (nI L.length), .ref m1, .ref m2, .ref m3, .ref m4, .ref m5, .ref m6, .ref m7, .ref m8])), (m1, .inl (cI, 80, .inl nu)), (m2, .inl (cI, 80, .inl va)), (m3, .inl (cI, 80, .inl ag)), (m4, .inl (cI, 80, .inl fi)), (m5, .inl (cI, 320, .inl re)), (m6, .inl (cZ, 80, .inl mk)), (m7, .inl (cI, 8, .inl mr)), (m8, .inl (cI, 4, .inl mw))] := hD
  refine lv_if_eq hx hb d_Mo_set_5 (tgt := 19) (by decide) (fun h => absurd h (by decide)) (fun _ => ?_)
  refine lv_iload_n hx hb d_Mo_set_8 rfl (lv_at hl 3 rfl) ?_
  refine fy_callS (As := [.int (nI q)]) (rest := [.ref mo]) ⟨hx, hb, hml, hown, hts⟩ (c_Mo_isRegister l s0 D cI cZ cJ cW hG q q2) (va_cwS 1 hts g_Mo_42 rfl rfl rfl (by decide +kernel) ⟨Nat.le_of_ble_eq_true rfl, Nat.le_of_ble_eq_true rfl⟩) hLa hAB hA hP hD hS [] rfl rfl rfl hl.1 rfl (Nat.le_of_ble_eq_true rfl) d_Mo_set_9 ⟨Nat.zero_le _, Nat.zero_le _⟩ (fun r w1 H locs hp hP hD hS => ?_)
  obtain ⟨rfl, rfl⟩ := hp
  have hP : va_P D vwCl [(mo, .inr (5, [.int cd, .int (nI N), .int (nI C), .int (nI L.length), .ref m1, .ref m2, .ref m3, .ref m4, .ref m5, .ref m6, .ref m7, .ref m8])), (m1, .inl (cI, 80, .inl nu)), (m2, .inl (cI, 80, .inl va)), (m3, .inl (cI, 80, .inl ag)), (m4, .inl (cI, 80, .inl fi)), (m5, .inl (cI, 320, .inl re)), (m6, .inl (cZ, 80, .inl mk)), (m7, .inl (cI, 8, .inl mr)), (m8, .inl (cI, 4, .inl mw))] H := hP
  have hD : va_D A [(mo, .inr (5, [.int cd, .int (nI N), .int (nI C), .int (nI L.length), .ref m1, .ref m2, .ref m3, .ref m4, .ref m5, .ref m6, .ref m7, .ref m8])), (m1, .inl (cI, 80, .inl nu)), (m2, .inl (cI, 80, .inl va)), (m3, .inl (cI, 80, .inl ag)), (m4, .inl (cI, 80, .inl fi)), (m5, .inl (cI, 320, .inl re)), (m6, .inl (cZ, 80, .inl mk)), (m7, .inl (cI, 8, .inl mr)), (m8, .inl (cI, 4, .inl mw))] := hD
  refine lv_if_eq hx hb d_Mo_set_12 (tgt := 19) (by decide) (fun h => absurd h (by decide)) (fun _ => ?_)
  refine lv_iconst (v := nI 0) hx hb d_Mo_set_15 (by decide) ?_
  refine lv_goto hx hb d_Mo_set_16 (tgt := 20) (by decide) ?_
  refine va_put (D := D) (ci := 5) (v := .int (nI 0)) (ty := .int) (C := R_Mo) (T := F_Mo) (N := 12) hx hb hts i_Mo t_Mo tk_Mo n_Mo hown hK hP hD hS 0 rfl rfl 0 (by decide) (hts _ k_f_Mo_35) (fun _ h9 => h9) rfl (by decide +kernel) rfl rfl (Nat.le_of_ble_eq_true rfl) d_Mo_set_20 (fun H locs hP hD hS => ?_)
  have hP : va_P D vwCl [(mo, .inr (5, [.int (nI 0), .int (nI N), .int (nI C), .int (nI L.length), .ref m1, .ref m2, .ref m3, .ref m4, .ref m5, .ref m6, .ref m7, .ref m8])), (m1, .inl (cI, 80, .inl nu)), (m2, .inl (cI, 80, .inl va)), (m3, .inl (cI, 80, .inl ag)), (m4, .inl (cI, 80, .inl fi)), (m5, .inl (cI, 320, .inl re)), (m6, .inl (cZ, 80, .inl mk)), (m7, .inl (cI, 8, .inl mr)), (m8, .inl (cI, 4, .inl mw))] H := hP
  have hD : va_D A [(mo, .inr (5, [.int (nI 0), .int (nI N), .int (nI C), .int (nI L.length), .ref m1, .ref m2, .ref m3, .ref m4, .ref m5, .ref m6, .ref m7, .ref m8])), (m1, .inl (cI, 80, .inl nu)), (m2, .inl (cI, 80, .inl va)), (m3, .inl (cI, 80, .inl ag)), (m4, .inl (cI, 80, .inl fi)), (m5, .inl (cI, 320, .inl re)), (m6, .inl (cZ, 80, .inl mk)), (m7, .inl (cI, 8, .inl mr)), (m8, .inl (cI, 4, .inl mw))] := hD
  refine lv_aload_n hx hb d_Mo_set_23 rfl (lv_at hl 0 rfl) ?_
  refine va_get (D := D) (ci := 5) (v := .int (nI 0)) (C := R_Mo) (T := F_Mo) (N := 12) hx hb hts i_Mo hown hK hP 0 rfl rfl 0 (by decide) (hts _ k_f_Mo_35) (fun _ h9 => h9) rfl d_Mo_set_24 ?_
  refine lv_if_le hx hb d_Mo_set_27 (tgt := 34) (by decide) (fun _ => ?_) (fun h => absurd (by decide) h)
  refine lv_aload_n hx hb d_Mo_set_34 rfl (lv_at hl 0 rfl) ?_
  refine lv_iload_n hx hb d_Mo_set_35 rfl (lv_at hl 1 rfl) ?_
  refine lv_iload_n hx hb d_Mo_set_36 rfl (lv_at hl 2 rfl) ?_
  have ef := (hI.2.2.2.2.2.2.1 n (hI.inR q1 n q3)).2.2
  refine fy_callV (As := [.int (nI j), .int (nI f)]) (rest := []) ⟨hx, hb, hml, hown, hts⟩ (c_Mo_fieldAt_ok l s0 D cI cZ cJ cW hG mo m1 m2 m3 m4 m5 m6 m7 m8 (nI 0) i N C L val age nf rf reg wk nu va ag fi re mr mw hI hM j n f q1 q3 q4) (cwV 2 hts g_Mo_57 rfl rfl rfl (by decide +kernel) ⟨Nat.le_of_ble_eq_true rfl, Nat.le_of_ble_eq_true rfl⟩) hK hLa hAB hA hP hD hS [0, 1, 4, 7] rfl rfl (ci := 5) rfl rfl (q0 := 0) rfl rfl hl.1 rfl (Nat.le_of_ble_eq_true rfl) d_Mo_set_37 ⟨Nat.zero_le _, Nat.zero_le _⟩ (fun r w1 H locs hp hP hD hS => ?_)
  obtain ⟨k, hk, hk8, rfl, rfl⟩ := hp
  have hP : va_P D vwCl [(mo, .inr (5, [.int (nI 0), .int (nI N), .int (nI C), .int (nI L.length), .ref m1, .ref m2, .ref m3, .ref m4, .ref m5, .ref m6, .ref m7, .ref m8])), (m1, .inl (cI, 80, .inl nu)), (m2, .inl (cI, 80, .inl va)), (m3, .inl (cI, 80, .inl ag)), (m4, .inl (cI, 80, .inl fi)), (m5, .inl (cI, 320, .inl re)), (m6, .inl (cZ, 80, .inl mk)), (m7, .inl (cI, 8, .inl mr)), (m8, .inl (cI, 4, .inl mw))] H := hP
  have hD : va_D A [(mo, .inr (5, [.int (nI 0), .int (nI N), .int (nI C), .int (nI L.length), .ref m1, .ref m2, .ref m3, .ref m4, .ref m5, .ref m6, .ref m7, .ref m8])), (m1, .inl (cI, 80, .inl nu)), (m2, .inl (cI, 80, .inl va)), (m3, .inl (cI, 80, .inl ag)), (m4, .inl (cI, 80, .inl fi)), (m5, .inl (cI, 320, .inl re)), (m6, .inl (cZ, 80, .inl mk)), (m7, .inl (cI, 8, .inl mr)), (m8, .inl (cI, 4, .inl mw))] := hD
  refine lv_istore hx hb d_Mo_set_40 hl (by decide) rfl (fun ls hl => ?_)
  have hl : lv_has ls 5 [(4, .int (nI (4 * k + f))), (0, .ref mo), (1, .int (nI j)), (2, .int (nI f)), (3, .int (nI q))] := hl
  refine lv_iload hx hb d_Mo_set_42 (lv_at hl 0 rfl) ?_
  refine lv_if_lt hx hb d_Mo_set_44 (tgt := 60) (by decide) (fun h => absurd h (nI_pos (by omega))) (fun _ => ?_)
  refine lv_aload_n hx hb d_Mo_set_47 rfl (lv_at hl 1 rfl) ?_
  refine va_get (D := D) (ci := 5) (v := .ref m5) (C := R_Mo) (T := F_Mo) (N := 12) hx hb hts i_Mo hown hK hP 0 rfl rfl 8 (by decide) (hts _ k_f_Mo_22) (fun _ h9 => h9) rfl d_Mo_set_48 ?_
  refine lv_iload hx hb d_Mo_set_51 (lv_at hl 0 rfl) ?_
  refine lv_aload_n hx hb d_Mo_set_53 rfl (lv_at hl 1 rfl) ?_
  refine va_get (D := D) (ci := 5) (v := .ref m7) (C := R_Mo) (T := F_Mo) (N := 12) hx hb hts i_Mo hown hK hP 0 rfl rfl 10 (by decide) (hts _ k_f_Mo_29) (fun _ h9 => h9) rfl d_Mo_set_54 ?_
  refine lv_iload_n hx hb d_Mo_set_57 rfl (lv_at hl 4 rfl) ?_
  refine fy_iald (t0 := 0) (v := mr q) hx hb hK hP 7 rfl rfl (by omega) (by omega) (rfl) d_Mo_set_58 ?_
  refine fy_iast (t0 := 0) (g := upd re (4 * k + f) (mr q)) hx hb hK hP hD hS 5 rfl rfl (by omega) (by omega) (rfl) d_Mo_set_59 (fun H locs hP hD hS => ?_)
  have hP : va_P D vwCl [(mo, .inr (5, [.int (nI 0), .int (nI N), .int (nI C), .int (nI L.length), .ref m1, .ref m2, .ref m3, .ref m4, .ref m5, .ref m6, .ref m7, .ref m8])), (m1, .inl (cI, 80, .inl nu)), (m2, .inl (cI, 80, .inl va)), (m3, .inl (cI, 80, .inl ag)), (m4, .inl (cI, 80, .inl fi)), (m5, .inl (cI, 320, .inl (upd re (4 * k + f) (mr q)))), (m6, .inl (cZ, 80, .inl mk)), (m7, .inl (cI, 8, .inl mr)), (m8, .inl (cI, 4, .inl mw))] H := hP
  have hD : va_D A [(mo, .inr (5, [.int (nI 0), .int (nI N), .int (nI C), .int (nI L.length), .ref m1, .ref m2, .ref m3, .ref m4, .ref m5, .ref m6, .ref m7, .ref m8])), (m1, .inl (cI, 80, .inl nu)), (m2, .inl (cI, 80, .inl va)), (m3, .inl (cI, 80, .inl ag)), (m4, .inl (cI, 80, .inl fi)), (m5, .inl (cI, 320, .inl (upd re (4 * k + f) (mr q)))), (m6, .inl (cZ, 80, .inl mk)), (m7, .inl (cI, 8, .inl mr)), (m8, .inl (cI, 4, .inl mw))] := hD
  exact fy_retv hx hb hr hlocks hAe (⟨ans, nu, va, ag, fi, upd re (4 * k + f) (mr q), mk, mr, mw, (fun _ => rfl), rfl, fm_Mo.set hI.2.2.2.1 hM hk (by omega) q2, rfl⟩) (List.Perm.refl _) hP hS d_Mo_set_60
set_option maxRecDepth 20000 in
set_option maxHeartbeats 4000000 in
theorem c_Mo_get_0 (l : Launch) (s0 : State) (D : va_G) (cI cZ cJ cW : ClassId) (hG : fy_G s0 D cI cZ cJ cW) (mo m1 m2 m3 m4 m5 m6 m7 m8 : Nat) (cd : Int32) (i : Nat) (N : Nat) (C : Nat) (L : List Nat) (val : Nat → Int32) (age : Nat → Nat) (nf : Nat → Nat) (rf : Nat → Nat → Option Nat) (reg : Nat → Option Nat) (wk : Nat → Option Nat) (nu va ag fi re mk mr mw : Nat → Int32) (hI : fm_In i N C L age nf rf reg wk) (hM : fm_Mo L val age nf rf reg wk nu va ag fi re mr mw) (a1 a2 a3 : Int32) (ans : Int32) (q1 : ¬ fy_ok 8 a1 ∨ ¬ fy_ok 8 a3) : fy_Met l s0 D vwCl y_Mo_get w_Mo_get (fy_rm 2) 0 0 [.ref mo, .int a1, .int a2, .int a3] [(mo, .inr (5, [.int cd, .int (nI N), .int (nI C), .int (nI L.length), .ref m1, .ref m2, .ref m3, .ref m4, .ref m5, .ref m6, .ref m7, .ref m8])), (m1, .inl (cI, 80, .inl nu)), (m2, .inl (cI, 80, .inl va)), (m3, .inl (cI, 80, .inl ag)), (m4, .inl (cI, 80, .inl fi)), (m5, .inl (cI, 320, .inl re)), (m6, .inl (cZ, 80, .inl mk)), (m7, .inl (cI, 8, .inl mr)), (m8, .inl (cI, 4, .inl mw))] (fun r w1 => mo_post (fun _ => none) mo m1 m2 m3 m4 m5 m6 m7 m8 cI cZ 1 ans N C L val age nf rf reg wk r w1) := by
  refine fy_st (bytes := b_Mo_get) (maxL := 5) (ret := none) hG (by decide) rfl (Nat.le_of_ble_eq_true rfl) ?_
  intro p e s m below meth c A ls hx hb hr hlocks hml hown hts hK hLa hAe hAB hA hl hP hD hS
  have hl : lv_has ls 5 [(0, .ref mo), (1, .int a1), (2, .int a2), (3, .int a3)] := hl
  refine lv_aload_n hx hb d_Mo_get_0 rfl (lv_at hl 0 rfl) ?_
  refine lv_iload_n hx hb d_Mo_get_1 rfl (lv_at hl 1 rfl) ?_
  by_cases hr9 : fy_ok 8 a1
  · obtain ⟨k, hk, rfl⟩ := hr9.nat (by omega)
    refine fy_callS (As := [.int (nI k)]) (rest := [.ref mo]) ⟨hx, hb, hml, hown, hts⟩ (c_Mo_isRegister l s0 D cI cZ cJ cW hG k hk) (va_cwS 1 hts g_Mo_42 rfl rfl rfl (by decide +kernel) ⟨Nat.le_of_ble_eq_true rfl, Nat.le_of_ble_eq_true rfl⟩) hLa hAB hA hP hD hS [] rfl rfl rfl hl.1 rfl (Nat.le_of_ble_eq_true rfl) d_Mo_get_2 ⟨Nat.zero_le _, Nat.zero_le _⟩ (fun r w1 H locs hp hP hD hS => ?_)
    obtain ⟨rfl, rfl⟩ := hp
    have hP : va_P D vwCl [(mo, .inr (5, [.int cd, .int (nI N), .int (nI C), .int (nI L.length), .ref m1, .ref m2, .ref m3, .ref m4, .ref m5, .ref m6, .ref m7, .ref m8])), (m1, .inl (cI, 80, .inl nu)), (m2, .inl (cI, 80, .inl va)), (m3, .inl (cI, 80, .inl ag)), (m4, .inl (cI, 80, .inl fi)), (m5, .inl (cI, 320, .inl re)), (m6, .inl (cZ, 80, .inl mk)), (m7, .inl (cI, 8, .inl mr)), (m8, .inl (cI, 4, .inl mw))] H := hP
    have hD : va_D A [(mo, .inr (5, [.int cd, .int (nI N), .int (nI C), .int (nI L.length), .ref m1, .ref m2, .ref m3, .ref m4, .ref m5, .ref m6, .ref m7, .ref m8])), (m1, .inl (cI, 80, .inl nu)), (m2, .inl (cI, 80, .inl va)), (m3, .inl (cI, 80, .inl ag)), (m4, .inl (cI, 80, .inl fi)), (m5, .inl (cI, 320, .inl re)), (m6, .inl (cZ, 80, .inl mk)), (m7, .inl (cI, 8, .inl mr)), (m8, .inl (cI, 4, .inl mw))] := hD
    refine lv_if_eq hx hb d_Mo_get_5 (tgt := 19) (by decide) (fun h => absurd h (by decide)) (fun _ => ?_)
    refine lv_iload_n hx hb d_Mo_get_8 rfl (lv_at hl 3 rfl) ?_
    refine fy_callS (As := [.int a3]) (rest := [.ref mo]) ⟨hx, hb, hml, hown, hts⟩ (c_Mo_isRegister0 l s0 D cI cZ cJ cW hG a3 (q1.resolve_left (fun h => h hr9))) (va_cwS 1 hts g_Mo_42 rfl rfl rfl (by decide +kernel) ⟨Nat.le_of_ble_eq_true rfl, Nat.le_of_ble_eq_true rfl⟩) hLa hAB hA hP hD hS [] rfl rfl rfl hl.1 rfl (Nat.le_of_ble_eq_true rfl) d_Mo_get_9 ⟨Nat.zero_le _, Nat.zero_le _⟩ (fun r w1 H locs hp hP hD hS => ?_)
    obtain ⟨rfl, rfl⟩ := hp
    have hP : va_P D vwCl [(mo, .inr (5, [.int cd, .int (nI N), .int (nI C), .int (nI L.length), .ref m1, .ref m2, .ref m3, .ref m4, .ref m5, .ref m6, .ref m7, .ref m8])), (m1, .inl (cI, 80, .inl nu)), (m2, .inl (cI, 80, .inl va)), (m3, .inl (cI, 80, .inl ag)), (m4, .inl (cI, 80, .inl fi)), (m5, .inl (cI, 320, .inl re)), (m6, .inl (cZ, 80, .inl mk)), (m7, .inl (cI, 8, .inl mr)), (m8, .inl (cI, 4, .inl mw))] H := hP
    have hD : va_D A [(mo, .inr (5, [.int cd, .int (nI N), .int (nI C), .int (nI L.length), .ref m1, .ref m2, .ref m3, .ref m4, .ref m5, .ref m6, .ref m7, .ref m8])), (m1, .inl (cI, 80, .inl nu)), (m2, .inl (cI, 80, .inl va)), (m3, .inl (cI, 80, .inl ag)), (m4, .inl (cI, 80, .inl fi)), (m5, .inl (cI, 320, .inl re)), (m6, .inl (cZ, 80, .inl mk)), (m7, .inl (cI, 8, .inl mr)), (m8, .inl (cI, 4, .inl mw))] := hD
    refine lv_if_eq hx hb d_Mo_get_12 (tgt := 19) (by decide) (fun _ => ?_) (fun h => absurd (rfl) h)
    refine lv_iconst (v := nI 1) hx hb d_Mo_get_19 (by decide) ?_
    refine va_put (D := D) (ci := 5) (v := .int (nI 1)) (ty := .int) (C := R_Mo) (T := F_Mo) (N := 12) hx hb hts i_Mo t_Mo tk_Mo n_Mo hown hK hP hD hS 0 rfl rfl 0 (by decide) (hts _ k_f_Mo_35) (fun _ h9 => h9) rfl (by decide +kernel) rfl rfl (Nat.le_of_ble_eq_true rfl) d_Mo_get_20 (fun H locs hP hD hS => ?_)
    have hP : va_P D vwCl [(mo, .inr (5, [.int (nI 1), .int (nI N), .int (nI C), .int (nI L.length), .ref m1, .ref m2, .ref m3, .ref m4, .ref m5, .ref m6, .ref m7, .ref m8])), (m1, .inl (cI, 80, .inl nu)), (m2, .inl (cI, 80, .inl va)), (m3, .inl (cI, 80, .inl ag)), (m4, .inl (cI, 80, .inl fi)), (m5, .inl (cI, 320, .inl re)), (m6, .inl (cZ, 80, .inl mk)), (m7, .inl (cI, 8, .inl mr)), (m8, .inl (cI, 4, .inl mw))] H := hP
    have hD : va_D A [(mo, .inr (5, [.int (nI 1), .int (nI N), .int (nI C), .int (nI L.length), .ref m1, .ref m2, .ref m3, .ref m4, .ref m5, .ref m6, .ref m7, .ref m8])), (m1, .inl (cI, 80, .inl nu)), (m2, .inl (cI, 80, .inl va)), (m3, .inl (cI, 80, .inl ag)), (m4, .inl (cI, 80, .inl fi)), (m5, .inl (cI, 320, .inl re)), (m6, .inl (cZ, 80, .inl mk)), (m7, .inl (cI, 8, .inl mr)), (m8, .inl (cI, 4, .inl mw))] := hD
    refine lv_aload_n hx hb d_Mo_get_23 rfl (lv_at hl 0 rfl) ?_
    refine va_get (D := D) (ci := 5) (v := .int (nI 1)) (C := R_Mo) (T := F_Mo) (N := 12) hx hb hts i_Mo hown hK hP 0 rfl rfl 0 (by decide) (hts _ k_f_Mo_35) (fun _ h9 => h9) rfl d_Mo_get_24 ?_
    refine lv_if_le hx hb d_Mo_get_27 (tgt := 34) (by decide) (fun h => absurd h (by decide)) (fun _ => ?_)
    refine lv_iconst (v := -1) hx hb d_Mo_get_30 (by decide) ?_
    refine lv_goto hx hb d_Mo_get_31 (tgt := 40) (by decide) ?_
    refine lv_istore hx hb d_Mo_get_40 hl (by decide) rfl (fun ls hl => ?_)
    have hl : lv_has ls 5 [(4, .int (-1)), (0, .ref mo), (1, .int (nI k)), (2, .int a2), (3, .int a3)] := hl
    refine lv_iload hx hb d_Mo_get_42 (lv_at hl 0 rfl) ?_
    refine lv_if_lt hx hb d_Mo_get_44 (tgt := 60) (by decide) (fun _ => ?_) (fun h => absurd (by decide) h)
    exact fy_retv hx hb hr hlocks hAe (⟨0, nu, va, ag, fi, re, mk, mr, mw, (fun h => absurd h (by decide)), rfl, hM, rfl⟩) (List.Perm.refl _) hP hS d_Mo_get_60
  · refine fy_callS (As := [.int a1]) (rest := [.ref mo]) ⟨hx, hb, hml, hown, hts⟩ (c_Mo_isRegister0 l s0 D cI cZ cJ cW hG a1 (hr9)) (va_cwS 1 hts g_Mo_42 rfl rfl rfl (by decide +kernel) ⟨Nat.le_of_ble_eq_true rfl, Nat.le_of_ble_eq_true rfl⟩) hLa hAB hA hP hD hS [] rfl rfl rfl hl.1 rfl (Nat.le_of_ble_eq_true rfl) d_Mo_get_2 ⟨Nat.zero_le _, Nat.zero_le _⟩ (fun r w1 H locs hp hP hD hS => ?_)
    obtain ⟨rfl, rfl⟩ := hp
    have hP : va_P D vwCl [(mo, .inr (5, [.int cd, .int (nI N), .int (nI C), .int (nI L.length), .ref m1, .ref m2, .ref m3, .ref m4, .ref m5, .ref m6, .ref m7, .ref m8])), (m1, .inl (cI, 80, .inl nu)), (m2, .inl (cI, 80, .inl va)), (m3, .inl (cI, 80, .inl ag)), (m4, .inl (cI, 80, .inl fi)), (m5, .inl (cI, 320, .inl re)), (m6, .inl (cZ, 80, .inl mk)), (m7, .inl (cI, 8, .inl mr)), (m8, .inl (cI, 4, .inl mw))] H := hP
    have hD : va_D A [(mo, .inr (5, [.int cd, .int (nI N), .int (nI C), .int (nI L.length), .ref m1, .ref m2, .ref m3, .ref m4, .ref m5, .ref m6, .ref m7, .ref m8])), (m1, .inl (cI, 80, .inl nu)), (m2, .inl (cI, 80, .inl va)), (m3, .inl (cI, 80, .inl ag)), (m4, .inl (cI, 80, .inl fi)), (m5, .inl (cI, 320, .inl re)), (m6, .inl (cZ, 80, .inl mk)), (m7, .inl (cI, 8, .inl mr)), (m8, .inl (cI, 4, .inl mw))] := hD
    refine lv_if_eq hx hb d_Mo_get_5 (tgt := 19) (by decide) (fun _ => ?_) (fun h => absurd (rfl) h)
    refine lv_iconst (v := nI 1) hx hb d_Mo_get_19 (by decide) ?_
    refine va_put (D := D) (ci := 5) (v := .int (nI 1)) (ty := .int) (C := R_Mo) (T := F_Mo) (N := 12) hx hb hts i_Mo t_Mo tk_Mo n_Mo hown hK hP hD hS 0 rfl rfl 0 (by decide) (hts _ k_f_Mo_35) (fun _ h9 => h9) rfl (by decide +kernel) rfl rfl (Nat.le_of_ble_eq_true rfl) d_Mo_get_20 (fun H locs hP hD hS => ?_)
    have hP : va_P D vwCl [(mo, .inr (5, [.int (nI 1), .int (nI N), .int (nI C), .int (nI L.length), .ref m1, .ref m2, .ref m3, .ref m4, .ref m5, .ref m6, .ref m7, .ref m8])), (m1, .inl (cI, 80, .inl nu)), (m2, .inl (cI, 80, .inl va)), (m3, .inl (cI, 80, .inl ag)), (m4, .inl (cI, 80, .inl fi)), (m5, .inl (cI, 320, .inl re)), (m6, .inl (cZ, 80, .inl mk)), (m7, .inl (cI, 8, .inl mr)), (m8, .inl (cI, 4, .inl mw))] H := hP
    have hD : va_D A [(mo, .inr (5, [.int (nI 1), .int (nI N), .int (nI C), .int (nI L.length), .ref m1, .ref m2, .ref m3, .ref m4, .ref m5, .ref m6, .ref m7, .ref m8])), (m1, .inl (cI, 80, .inl nu)), (m2, .inl (cI, 80, .inl va)), (m3, .inl (cI, 80, .inl ag)), (m4, .inl (cI, 80, .inl fi)), (m5, .inl (cI, 320, .inl re)), (m6, .inl (cZ, 80, .inl mk)), (m7, .inl (cI, 8, .inl mr)), (m8, .inl (cI, 4, .inl mw))] := hD
    refine lv_aload_n hx hb d_Mo_get_23 rfl (lv_at hl 0 rfl) ?_
    refine va_get (D := D) (ci := 5) (v := .int (nI 1)) (C := R_Mo) (T := F_Mo) (N := 12) hx hb hts i_Mo hown hK hP 0 rfl rfl 0 (by decide) (hts _ k_f_Mo_35) (fun _ h9 => h9) rfl d_Mo_get_24 ?_
    refine lv_if_le hx hb d_Mo_get_27 (tgt := 34) (by decide) (fun h => absurd h (by decide)) (fun _ => ?_)
    refine lv_iconst (v := -1) hx hb d_Mo_get_30 (by decide) ?_
    refine lv_goto hx hb d_Mo_get_31 (tgt := 40) (by decide) ?_
    refine lv_istore hx hb d_Mo_get_40 hl (by decide) rfl (fun ls hl => ?_)
    have hl : lv_has ls 5 [(4, .int (-1)), (0, .ref mo), (1, .int a1), (2, .int a2), (3, .int a3)] := hl
    refine lv_iload hx hb d_Mo_get_42 (lv_at hl 0 rfl) ?_
    refine lv_if_lt hx hb d_Mo_get_44 (tgt := 60) (by decide) (fun _ => ?_) (fun h => absurd (by decide) h)
    exact fy_retv hx hb hr hlocks hAe (⟨0, nu, va, ag, fi, re, mk, mr, mw, (fun h => absurd h (by decide)), rfl, hM, rfl⟩) (List.Perm.refl _) hP hS d_Mo_get_60
set_option maxRecDepth 20000 in
set_option maxHeartbeats 4000000 in
theorem c_Mo_get_1 (l : Launch) (s0 : State) (D : va_G) (cI cZ cJ cW : ClassId) (hG : fy_G s0 D cI cZ cJ cW) (mo m1 m2 m3 m4 m5 m6 m7 m8 : Nat) (cd : Int32) (i : Nat) (N : Nat) (C : Nat) (L : List Nat) (val : Nat → Int32) (age : Nat → Nat) (nf : Nat → Nat) (rf : Nat → Nat → Option Nat) (reg : Nat → Option Nat) (wk : Nat → Option Nat) (nu va ag fi re mk mr mw : Nat → Int32) (hI : fm_In i N C L age nf rf reg wk) (hM : fm_Mo L val age nf rf reg wk nu va ag fi re mr mw) (j q : Nat) (a2 : Int32) (ans : Int32) (q1 : j < 8) (q2 : q < 8) (q3 : reg j = none) : fy_Met l s0 D vwCl y_Mo_get w_Mo_get (fy_rm 2) 0 0 [.ref mo, .int (nI j), .int a2, .int (nI q)] [(mo, .inr (5, [.int cd, .int (nI N), .int (nI C), .int (nI L.length), .ref m1, .ref m2, .ref m3, .ref m4, .ref m5, .ref m6, .ref m7, .ref m8])), (m1, .inl (cI, 80, .inl nu)), (m2, .inl (cI, 80, .inl va)), (m3, .inl (cI, 80, .inl ag)), (m4, .inl (cI, 80, .inl fi)), (m5, .inl (cI, 320, .inl re)), (m6, .inl (cZ, 80, .inl mk)), (m7, .inl (cI, 8, .inl mr)), (m8, .inl (cI, 4, .inl mw))] (fun r w1 => mo_post (fun _ => none) mo m1 m2 m3 m4 m5 m6 m7 m8 cI cZ 2 ans N C L val age nf rf reg wk r w1) := by
  refine fy_st (bytes := b_Mo_get) (maxL := 5) (ret := none) hG (by decide) rfl (Nat.le_of_ble_eq_true rfl) ?_
  intro p e s m below meth c A ls hx hb hr hlocks hml hown hts hK hLa hAe hAB hA hl hP hD hS
  have hl : lv_has ls 5 [(0, .ref mo), (1, .int (nI j)), (2, .int a2), (3, .int (nI q))] := hl
  refine lv_aload_n hx hb d_Mo_get_0 rfl (lv_at hl 0 rfl) ?_
  refine lv_iload_n hx hb d_Mo_get_1 rfl (lv_at hl 1 rfl) ?_
  refine fy_callS (As := [.int (nI j)]) (rest := [.ref mo]) ⟨hx, hb, hml, hown, hts⟩ (c_Mo_isRegister l s0 D cI cZ cJ cW hG j q1) (va_cwS 1 hts g_Mo_42 rfl rfl rfl (by decide +kernel) ⟨Nat.le_of_ble_eq_true rfl, Nat.le_of_ble_eq_true rfl⟩) hLa hAB hA hP hD hS [] rfl rfl rfl hl.1 rfl (Nat.le_of_ble_eq_true rfl) d_Mo_get_2 ⟨Nat.zero_le _, Nat.zero_le _⟩ (fun r w1 H locs hp hP hD hS => ?_)
  obtain ⟨rfl, rfl⟩ := hp
  have hP : va_P D vwCl [(mo, .inr (5, [.int cd, .int (nI N), .int (nI C), .int (nI L.length), .ref m1, .ref m2, .ref m3, .ref m4, .ref m5, .ref m6, .ref m7, .ref m8])), (m1, .inl (cI, 80, .inl nu)), (m2, .inl (cI, 80, .inl va)), (m3, .inl (cI, 80, .inl ag)), (m4, .inl (cI, 80, .inl fi)), (m5, .inl (cI, 320, .inl re)), (m6, .inl (cZ, 80, .inl mk)), (m7, .inl (cI, 8, .inl mr)), (m8, .inl (cI, 4, .inl mw))] H := hP
  have hD : va_D A [(mo, .inr (5, [.int cd, .int (nI N), .int (nI C), .int (nI L.length), .ref m1, .ref m2, .ref m3, .ref m4, .ref m5, .ref m6, .ref m7, .ref m8])), (m1, .inl (cI, 80, .inl nu)), (m2, .inl (cI, 80, .inl va)), (m3, .inl (cI, 80, .inl ag)), (m4, .inl (cI, 80, .inl fi)), (m5, .inl (cI, 320, .inl re)), (m6, .inl (cZ, 80, .inl mk)), (m7, .inl (cI, 8, .inl mr)), (m8, .inl (cI, 4, .inl mw))] := hD
  refine lv_if_eq hx hb d_Mo_get_5 (tgt := 19) (by decide) (fun h => absurd h (by decide)) (fun _ => ?_)
  refine lv_iload_n hx hb d_Mo_get_8 rfl (lv_at hl 3 rfl) ?_
  refine fy_callS (As := [.int (nI q)]) (rest := [.ref mo]) ⟨hx, hb, hml, hown, hts⟩ (c_Mo_isRegister l s0 D cI cZ cJ cW hG q q2) (va_cwS 1 hts g_Mo_42 rfl rfl rfl (by decide +kernel) ⟨Nat.le_of_ble_eq_true rfl, Nat.le_of_ble_eq_true rfl⟩) hLa hAB hA hP hD hS [] rfl rfl rfl hl.1 rfl (Nat.le_of_ble_eq_true rfl) d_Mo_get_9 ⟨Nat.zero_le _, Nat.zero_le _⟩ (fun r w1 H locs hp hP hD hS => ?_)
  obtain ⟨rfl, rfl⟩ := hp
  have hP : va_P D vwCl [(mo, .inr (5, [.int cd, .int (nI N), .int (nI C), .int (nI L.length), .ref m1, .ref m2, .ref m3, .ref m4, .ref m5, .ref m6, .ref m7, .ref m8])), (m1, .inl (cI, 80, .inl nu)), (m2, .inl (cI, 80, .inl va)), (m3, .inl (cI, 80, .inl ag)), (m4, .inl (cI, 80, .inl fi)), (m5, .inl (cI, 320, .inl re)), (m6, .inl (cZ, 80, .inl mk)), (m7, .inl (cI, 8, .inl mr)), (m8, .inl (cI, 4, .inl mw))] H := hP
  have hD : va_D A [(mo, .inr (5, [.int cd, .int (nI N), .int (nI C), .int (nI L.length), .ref m1, .ref m2, .ref m3, .ref m4, .ref m5, .ref m6, .ref m7, .ref m8])), (m1, .inl (cI, 80, .inl nu)), (m2, .inl (cI, 80, .inl va)), (m3, .inl (cI, 80, .inl ag)), (m4, .inl (cI, 80, .inl fi)), (m5, .inl (cI, 320, .inl re)), (m6, .inl (cZ, 80, .inl mk)), (m7, .inl (cI, 8, .inl mr)), (m8, .inl (cI, 4, .inl mw))] := hD
  refine lv_if_eq hx hb d_Mo_get_12 (tgt := 19) (by decide) (fun h => absurd h (by decide)) (fun _ => ?_)
  refine lv_iconst (v := nI 0) hx hb d_Mo_get_15 (by decide) ?_
  refine lv_goto hx hb d_Mo_get_16 (tgt := 20) (by decide) ?_
  refine va_put (D := D) (ci := 5) (v := .int (nI 0)) (ty := .int) (C := R_Mo) (T := F_Mo) (N := 12) hx hb hts i_Mo t_Mo tk_Mo n_Mo hown hK hP hD hS 0 rfl rfl 0 (by decide) (hts _ k_f_Mo_35) (fun _ h9 => h9) rfl (by decide +kernel) rfl rfl (Nat.le_of_ble_eq_true rfl) d_Mo_get_20 (fun H locs hP hD hS => ?_)
  have hP : va_P D vwCl [(mo, .inr (5, [.int (nI 0), .int (nI N), .int (nI C), .int (nI L.length), .ref m1, .ref m2, .ref m3, .ref m4, .ref m5, .ref m6, .ref m7, .ref m8])), (m1, .inl (cI, 80, .inl nu)), (m2, .inl (cI, 80, .inl va)), (m3, .inl (cI, 80, .inl ag)), (m4, .inl (cI, 80, .inl fi)), (m5, .inl (cI, 320, .inl re)), (m6, .inl (cZ, 80, .inl mk)), (m7, .inl (cI, 8, .inl mr)), (m8, .inl (cI, 4, .inl mw))] H := hP
  have hD : va_D A [(mo, .inr (5, [.int (nI 0), .int (nI N), .int (nI C), .int (nI L.length), .ref m1, .ref m2, .ref m3, .ref m4, .ref m5, .ref m6, .ref m7, .ref m8])), (m1, .inl (cI, 80, .inl nu)), (m2, .inl (cI, 80, .inl va)), (m3, .inl (cI, 80, .inl ag)), (m4, .inl (cI, 80, .inl fi)), (m5, .inl (cI, 320, .inl re)), (m6, .inl (cZ, 80, .inl mk)), (m7, .inl (cI, 8, .inl mr)), (m8, .inl (cI, 4, .inl mw))] := hD
  refine lv_aload_n hx hb d_Mo_get_23 rfl (lv_at hl 0 rfl) ?_
  refine va_get (D := D) (ci := 5) (v := .int (nI 0)) (C := R_Mo) (T := F_Mo) (N := 12) hx hb hts i_Mo hown hK hP 0 rfl rfl 0 (by decide) (hts _ k_f_Mo_35) (fun _ h9 => h9) rfl d_Mo_get_24 ?_
  refine lv_if_le hx hb d_Mo_get_27 (tgt := 34) (by decide) (fun _ => ?_) (fun h => absurd (by decide) h)
  refine lv_aload_n hx hb d_Mo_get_34 rfl (lv_at hl 0 rfl) ?_
  refine lv_iload_n hx hb d_Mo_get_35 rfl (lv_at hl 1 rfl) ?_
  refine lv_iload_n hx hb d_Mo_get_36 rfl (lv_at hl 2 rfl) ?_
  refine fy_callV (As := [.int (nI j), .int a2]) (rest := []) ⟨hx, hb, hml, hown, hts⟩ (c_Mo_fieldAt_N l s0 D cI cZ cJ cW hG mo m1 m2 m3 m4 m5 m6 m7 m8 (nI 0) i N C L val age nf rf reg wk nu va ag fi re mr mw hI hM j a2 q1 q3) (cwV 2 hts g_Mo_57 rfl rfl rfl (by decide +kernel) ⟨Nat.le_of_ble_eq_true rfl, Nat.le_of_ble_eq_true rfl⟩) hK hLa hAB hA hP hD hS [0, 1, 4, 7] rfl rfl (ci := 5) rfl rfl (q0 := 0) rfl rfl hl.1 rfl (Nat.le_of_ble_eq_true rfl) d_Mo_get_37 ⟨Nat.zero_le _, Nat.zero_le _⟩ (fun r w1 H locs hp hP hD hS => ?_)
  obtain ⟨rfl, rfl⟩ := hp
  have hP : va_P D vwCl [(mo, .inr (5, [.int (nI 2), .int (nI N), .int (nI C), .int (nI L.length), .ref m1, .ref m2, .ref m3, .ref m4, .ref m5, .ref m6, .ref m7, .ref m8])), (m1, .inl (cI, 80, .inl nu)), (m2, .inl (cI, 80, .inl va)), (m3, .inl (cI, 80, .inl ag)), (m4, .inl (cI, 80, .inl fi)), (m5, .inl (cI, 320, .inl re)), (m6, .inl (cZ, 80, .inl mk)), (m7, .inl (cI, 8, .inl mr)), (m8, .inl (cI, 4, .inl mw))] H := hP
  have hD : va_D A [(mo, .inr (5, [.int (nI 2), .int (nI N), .int (nI C), .int (nI L.length), .ref m1, .ref m2, .ref m3, .ref m4, .ref m5, .ref m6, .ref m7, .ref m8])), (m1, .inl (cI, 80, .inl nu)), (m2, .inl (cI, 80, .inl va)), (m3, .inl (cI, 80, .inl ag)), (m4, .inl (cI, 80, .inl fi)), (m5, .inl (cI, 320, .inl re)), (m6, .inl (cZ, 80, .inl mk)), (m7, .inl (cI, 8, .inl mr)), (m8, .inl (cI, 4, .inl mw))] := hD
  refine lv_istore hx hb d_Mo_get_40 hl (by decide) rfl (fun ls hl => ?_)
  have hl : lv_has ls 5 [(4, .int (-1)), (0, .ref mo), (1, .int (nI j)), (2, .int a2), (3, .int (nI q))] := hl
  refine lv_iload hx hb d_Mo_get_42 (lv_at hl 0 rfl) ?_
  refine lv_if_lt hx hb d_Mo_get_44 (tgt := 60) (by decide) (fun _ => ?_) (fun h => absurd (by decide) h)
  exact fy_retv hx hb hr hlocks hAe (⟨0, nu, va, ag, fi, re, mk, mr, mw, (fun h => absurd h (by decide)), rfl, hM, rfl⟩) (List.Perm.refl _) hP hS d_Mo_get_60
set_option maxRecDepth 20000 in
set_option maxHeartbeats 4000000 in
theorem c_Mo_get_2 (l : Launch) (s0 : State) (D : va_G) (cI cZ cJ cW : ClassId) (hG : fy_G s0 D cI cZ cJ cW) (mo m1 m2 m3 m4 m5 m6 m7 m8 : Nat) (cd : Int32) (i : Nat) (N : Nat) (C : Nat) (L : List Nat) (val : Nat → Int32) (age : Nat → Nat) (nf : Nat → Nat) (rf : Nat → Nat → Option Nat) (reg : Nat → Option Nat) (wk : Nat → Option Nat) (nu va ag fi re mk mr mw : Nat → Int32) (hI : fm_In i N C L age nf rf reg wk) (hM : fm_Mo L val age nf rf reg wk nu va ag fi re mr mw) (j q n : Nat) (a2 : Int32) (ans : Int32) (q1 : j < 8) (q2 : q < 8) (q3 : reg j = some n) (q4 : ¬ fy_ok (nf n) a2) : fy_Met l s0 D vwCl y_Mo_get w_Mo_get (fy_rm 2) 0 0 [.ref mo, .int (nI j), .int a2, .int (nI q)] [(mo, .inr (5, [.int cd, .int (nI N), .int (nI C), .int (nI L.length), .ref m1, .ref m2, .ref m3, .ref m4, .ref m5, .ref m6, .ref m7, .ref m8])), (m1, .inl (cI, 80, .inl nu)), (m2, .inl (cI, 80, .inl va)), (m3, .inl (cI, 80, .inl ag)), (m4, .inl (cI, 80, .inl fi)), (m5, .inl (cI, 320, .inl re)), (m6, .inl (cZ, 80, .inl mk)), (m7, .inl (cI, 8, .inl mr)), (m8, .inl (cI, 4, .inl mw))] (fun r w1 => mo_post (fun _ => none) mo m1 m2 m3 m4 m5 m6 m7 m8 cI cZ 3 ans N C L val age nf rf reg wk r w1) := by
  refine fy_st (bytes := b_Mo_get) (maxL := 5) (ret := none) hG (by decide) rfl (Nat.le_of_ble_eq_true rfl) ?_
  intro p e s m below meth c A ls hx hb hr hlocks hml hown hts hK hLa hAe hAB hA hl hP hD hS
  have hl : lv_has ls 5 [(0, .ref mo), (1, .int (nI j)), (2, .int a2), (3, .int (nI q))] := hl
  refine lv_aload_n hx hb d_Mo_get_0 rfl (lv_at hl 0 rfl) ?_
  refine lv_iload_n hx hb d_Mo_get_1 rfl (lv_at hl 1 rfl) ?_
  refine fy_callS (As := [.int (nI j)]) (rest := [.ref mo]) ⟨hx, hb, hml, hown, hts⟩ (c_Mo_isRegister l s0 D cI cZ cJ cW hG j q1) (va_cwS 1 hts g_Mo_42 rfl rfl rfl (by decide +kernel) ⟨Nat.le_of_ble_eq_true rfl, Nat.le_of_ble_eq_true rfl⟩) hLa hAB hA hP hD hS [] rfl rfl rfl hl.1 rfl (Nat.le_of_ble_eq_true rfl) d_Mo_get_2 ⟨Nat.zero_le _, Nat.zero_le _⟩ (fun r w1 H locs hp hP hD hS => ?_)
  obtain ⟨rfl, rfl⟩ := hp
  have hP : va_P D vwCl [(mo, .inr (5, [.int cd, .int (nI N), .int (nI C), .int (nI L.length), .ref m1, .ref m2, .ref m3, .ref m4, .ref m5, .ref m6, .ref m7, .ref m8])), (m1, .inl (cI, 80, .inl nu)), (m2, .inl (cI, 80, .inl va)), (m3, .inl (cI, 80, .inl ag)), (m4, .inl (cI, 80, .inl fi)), (m5, .inl (cI, 320, .inl re)), (m6, .inl (cZ, 80, .inl mk)), (m7, .inl (cI, 8, .inl mr)), (m8, .inl (cI, 4, .inl mw))] H := hP
  have hD : va_D A [(mo, .inr (5, [.int cd, .int (nI N), .int (nI C), .int (nI L.length), .ref m1, .ref m2, .ref m3, .ref m4, .ref m5, .ref m6, .ref m7, .ref m8])), (m1, .inl (cI, 80, .inl nu)), (m2, .inl (cI, 80, .inl va)), (m3, .inl (cI, 80, .inl ag)), (m4, .inl (cI, 80, .inl fi)), (m5, .inl (cI, 320, .inl re)), (m6, .inl (cZ, 80, .inl mk)), (m7, .inl (cI, 8, .inl mr)), (m8, .inl (cI, 4, .inl mw))] := hD
  refine lv_if_eq hx hb d_Mo_get_5 (tgt := 19) (by decide) (fun h => absurd h (by decide)) (fun _ => ?_)
  refine lv_iload_n hx hb d_Mo_get_8 rfl (lv_at hl 3 rfl) ?_
  refine fy_callS (As := [.int (nI q)]) (rest := [.ref mo]) ⟨hx, hb, hml, hown, hts⟩ (c_Mo_isRegister l s0 D cI cZ cJ cW hG q q2) (va_cwS 1 hts g_Mo_42 rfl rfl rfl (by decide +kernel) ⟨Nat.le_of_ble_eq_true rfl, Nat.le_of_ble_eq_true rfl⟩) hLa hAB hA hP hD hS [] rfl rfl rfl hl.1 rfl (Nat.le_of_ble_eq_true rfl) d_Mo_get_9 ⟨Nat.zero_le _, Nat.zero_le _⟩ (fun r w1 H locs hp hP hD hS => ?_)
  obtain ⟨rfl, rfl⟩ := hp
  have hP : va_P D vwCl [(mo, .inr (5, [.int cd, .int (nI N), .int (nI C), .int (nI L.length), .ref m1, .ref m2, .ref m3, .ref m4, .ref m5, .ref m6, .ref m7, .ref m8])), (m1, .inl (cI, 80, .inl nu)), (m2, .inl (cI, 80, .inl va)), (m3, .inl (cI, 80, .inl ag)), (m4, .inl (cI, 80, .inl fi)), (m5, .inl (cI, 320, .inl re)), (m6, .inl (cZ, 80, .inl mk)), (m7, .inl (cI, 8, .inl mr)), (m8, .inl (cI, 4, .inl mw))] H := hP
  have hD : va_D A [(mo, .inr (5, [.int cd, .int (nI N), .int (nI C), .int (nI L.length), .ref m1, .ref m2, .ref m3, .ref m4, .ref m5, .ref m6, .ref m7, .ref m8])), (m1, .inl (cI, 80, .inl nu)), (m2, .inl (cI, 80, .inl va)), (m3, .inl (cI, 80, .inl ag)), (m4, .inl (cI, 80, .inl fi)), (m5, .inl (cI, 320, .inl re)), (m6, .inl (cZ, 80, .inl mk)), (m7, .inl (cI, 8, .inl mr)), (m8, .inl (cI, 4, .inl mw))] := hD
  refine lv_if_eq hx hb d_Mo_get_12 (tgt := 19) (by decide) (fun h => absurd h (by decide)) (fun _ => ?_)
  refine lv_iconst (v := nI 0) hx hb d_Mo_get_15 (by decide) ?_
  refine lv_goto hx hb d_Mo_get_16 (tgt := 20) (by decide) ?_
  refine va_put (D := D) (ci := 5) (v := .int (nI 0)) (ty := .int) (C := R_Mo) (T := F_Mo) (N := 12) hx hb hts i_Mo t_Mo tk_Mo n_Mo hown hK hP hD hS 0 rfl rfl 0 (by decide) (hts _ k_f_Mo_35) (fun _ h9 => h9) rfl (by decide +kernel) rfl rfl (Nat.le_of_ble_eq_true rfl) d_Mo_get_20 (fun H locs hP hD hS => ?_)
  have hP : va_P D vwCl [(mo, .inr (5, [.int (nI 0), .int (nI N), .int (nI C), .int (nI L.length), .ref m1, .ref m2, .ref m3, .ref m4, .ref m5, .ref m6, .ref m7, .ref m8])), (m1, .inl (cI, 80, .inl nu)), (m2, .inl (cI, 80, .inl va)), (m3, .inl (cI, 80, .inl ag)), (m4, .inl (cI, 80, .inl fi)), (m5, .inl (cI, 320, .inl re)), (m6, .inl (cZ, 80, .inl mk)), (m7, .inl (cI, 8, .inl mr)), (m8, .inl (cI, 4, .inl mw))] H := hP
  have hD : va_D A [(mo, .inr (5, [.int (nI 0), .int (nI N), .int (nI C), .int (nI L.length), .ref m1, .ref m2, .ref m3, .ref m4, .ref m5, .ref m6, .ref m7, .ref m8])), (m1, .inl (cI, 80, .inl nu)), (m2, .inl (cI, 80, .inl va)), (m3, .inl (cI, 80, .inl ag)), (m4, .inl (cI, 80, .inl fi)), (m5, .inl (cI, 320, .inl re)), (m6, .inl (cZ, 80, .inl mk)), (m7, .inl (cI, 8, .inl mr)), (m8, .inl (cI, 4, .inl mw))] := hD
  refine lv_aload_n hx hb d_Mo_get_23 rfl (lv_at hl 0 rfl) ?_
  refine va_get (D := D) (ci := 5) (v := .int (nI 0)) (C := R_Mo) (T := F_Mo) (N := 12) hx hb hts i_Mo hown hK hP 0 rfl rfl 0 (by decide) (hts _ k_f_Mo_35) (fun _ h9 => h9) rfl d_Mo_get_24 ?_
  refine lv_if_le hx hb d_Mo_get_27 (tgt := 34) (by decide) (fun _ => ?_) (fun h => absurd (by decide) h)
  refine lv_aload_n hx hb d_Mo_get_34 rfl (lv_at hl 0 rfl) ?_
  refine lv_iload_n hx hb d_Mo_get_35 rfl (lv_at hl 1 rfl) ?_
  refine lv_iload_n hx hb d_Mo_get_36 rfl (lv_at hl 2 rfl) ?_
  refine fy_callV (As := [.int (nI j), .int a2]) (rest := []) ⟨hx, hb, hml, hown, hts⟩ (c_Mo_fieldAt_O l s0 D cI cZ cJ cW hG mo m1 m2 m3 m4 m5 m6 m7 m8 (nI 0) i N C L val age nf rf reg wk nu va ag fi re mr mw hI hM j n a2 q1 q3 q4) (cwV 2 hts g_Mo_57 rfl rfl rfl (by decide +kernel) ⟨Nat.le_of_ble_eq_true rfl, Nat.le_of_ble_eq_true rfl⟩) hK hLa hAB hA hP hD hS [0, 1, 4, 7] rfl rfl (ci := 5) rfl rfl (q0 := 0) rfl rfl hl.1 rfl (Nat.le_of_ble_eq_true rfl) d_Mo_get_37 ⟨Nat.zero_le _, Nat.zero_le _⟩ (fun r w1 H locs hp hP hD hS => ?_)
  obtain ⟨rfl, rfl⟩ := hp
  have hP : va_P D vwCl [(mo, .inr (5, [.int (nI 3), .int (nI N), .int (nI C), .int (nI L.length), .ref m1, .ref m2, .ref m3, .ref m4, .ref m5, .ref m6, .ref m7, .ref m8])), (m1, .inl (cI, 80, .inl nu)), (m2, .inl (cI, 80, .inl va)), (m3, .inl (cI, 80, .inl ag)), (m4, .inl (cI, 80, .inl fi)), (m5, .inl (cI, 320, .inl re)), (m6, .inl (cZ, 80, .inl mk)), (m7, .inl (cI, 8, .inl mr)), (m8, .inl (cI, 4, .inl mw))] H := hP
  have hD : va_D A [(mo, .inr (5, [.int (nI 3), .int (nI N), .int (nI C), .int (nI L.length), .ref m1, .ref m2, .ref m3, .ref m4, .ref m5, .ref m6, .ref m7, .ref m8])), (m1, .inl (cI, 80, .inl nu)), (m2, .inl (cI, 80, .inl va)), (m3, .inl (cI, 80, .inl ag)), (m4, .inl (cI, 80, .inl fi)), (m5, .inl (cI, 320, .inl re)), (m6, .inl (cZ, 80, .inl mk)), (m7, .inl (cI, 8, .inl mr)), (m8, .inl (cI, 4, .inl mw))] := hD
  refine lv_istore hx hb d_Mo_get_40 hl (by decide) rfl (fun ls hl => ?_)
  have hl : lv_has ls 5 [(4, .int (-1)), (0, .ref mo), (1, .int (nI j)), (2, .int a2), (3, .int (nI q))] := hl
  refine lv_iload hx hb d_Mo_get_42 (lv_at hl 0 rfl) ?_
  refine lv_if_lt hx hb d_Mo_get_44 (tgt := 60) (by decide) (fun _ => ?_) (fun h => absurd (by decide) h)
  exact fy_retv hx hb hr hlocks hAe (⟨0, nu, va, ag, fi, re, mk, mr, mw, (fun h => absurd h (by decide)), rfl, hM, rfl⟩) (List.Perm.refl _) hP hS d_Mo_get_60
set_option maxRecDepth 20000 in
set_option maxHeartbeats 4000000 in
theorem c_Mo_get_3 (l : Launch) (s0 : State) (D : va_G) (cI cZ cJ cW : ClassId) (hG : fy_G s0 D cI cZ cJ cW) (mo m1 m2 m3 m4 m5 m6 m7 m8 : Nat) (cd : Int32) (i : Nat) (N : Nat) (C : Nat) (L : List Nat) (val : Nat → Int32) (age : Nat → Nat) (nf : Nat → Nat) (rf : Nat → Nat → Option Nat) (reg : Nat → Option Nat) (wk : Nat → Option Nat) (nu va ag fi re mk mr mw : Nat → Int32) (hI : fm_In i N C L age nf rf reg wk) (hM : fm_Mo L val age nf rf reg wk nu va ag fi re mr mw) (j q n f : Nat) (ans : Int32) (q1 : j < 8) (q2 : q < 8) (q3 : reg j = some n) (q4 : f < nf n) : fy_Met l s0 D vwCl y_Mo_get w_Mo_get (fy_rm 2) 0 0 [.ref mo, .int (nI j), .int (nI f), .int (nI q)] [(mo, .inr (5, [.int cd, .int (nI N), .int (nI C), .int (nI L.length), .ref m1, .ref m2, .ref m3, .ref m4, .ref m5, .ref m6, .ref m7, .ref m8])), (m1, .inl (cI, 80, .inl nu)), (m2, .inl (cI, 80, .inl va)), (m3, .inl (cI, 80, .inl ag)), (m4, .inl (cI, 80, .inl fi)), (m5, .inl (cI, 320, .inl re)), (m6, .inl (cZ, 80, .inl mk)), (m7, .inl (cI, 8, .inl mr)), (m8, .inl (cI, 4, .inl mw))] (fun r w1 => mo_post (fun _ => none) mo m1 m2 m3 m4 m5 m6 m7 m8 cI cZ 0 ans N C L val age nf rf (va_up reg q (rf n f)) wk r w1) := by
  refine fy_st (bytes := b_Mo_get) (maxL := 5) (ret := none) hG (by decide) rfl (Nat.le_of_ble_eq_true rfl) ?_
  intro p e s m below meth c A ls hx hb hr hlocks hml hown hts hK hLa hAe hAB hA hl hP hD hS
  have hl : lv_has ls 5 [(0, .ref mo), (1, .int (nI j)), (2, .int (nI f)), (3, .int (nI q))] := hl
  refine lv_aload_n hx hb d_Mo_get_0 rfl (lv_at hl 0 rfl) ?_
  refine lv_iload_n hx hb d_Mo_get_1 rfl (lv_at hl 1 rfl) ?_
  refine fy_callS (As := [.int (nI j)]) (rest := [.ref mo]) ⟨hx, hb, hml, hown, hts⟩ (c_Mo_isRegister l s0 D cI cZ cJ cW hG j q1) (va_cwS 1 hts g_Mo_42 rfl rfl rfl (by decide +kernel) ⟨Nat.le_of_ble_eq_true rfl, Nat.le_of_ble_eq_true rfl⟩) hLa hAB hA hP hD hS [] rfl rfl rfl hl.1 rfl (Nat.le_of_ble_eq_true rfl) d_Mo_get_2 ⟨Nat.zero_le _, Nat.zero_le _⟩ (fun r w1 H locs hp hP hD hS => ?_)
  obtain ⟨rfl, rfl⟩ := hp
  have hP : va_P D vwCl [(mo, .inr (5, [.int cd, .int (nI N), .int (nI C), .int (nI L.length), .ref m1, .ref m2, .ref m3, .ref m4, .ref m5, .ref m6, .ref m7, .ref m8])), (m1, .inl (cI, 80, .inl nu)), (m2, .inl (cI, 80, .inl va)), (m3, .inl (cI, 80, .inl ag)), (m4, .inl (cI, 80, .inl fi)), (m5, .inl (cI, 320, .inl re)), (m6, .inl (cZ, 80, .inl mk)), (m7, .inl (cI, 8, .inl mr)), (m8, .inl (cI, 4, .inl mw))] H := hP
  have hD : va_D A [(mo, .inr (5, [.int cd, .int (nI N), .int (nI C), .int (nI L.length), .ref m1, .ref m2, .ref m3, .ref m4, .ref m5, .ref m6, .ref m7, .ref m8])), (m1, .inl (cI, 80, .inl nu)), (m2, .inl (cI, 80, .inl va)), (m3, .inl (cI, 80, .inl ag)), (m4, .inl (cI, 80, .inl fi)), (m5, .inl (cI, 320, .inl re)), (m6, .inl (cZ, 80, .inl mk)), (m7, .inl (cI, 8, .inl mr)), (m8, .inl (cI, 4, .inl mw))] := hD
  refine lv_if_eq hx hb d_Mo_get_5 (tgt := 19) (by decide) (fun h => absurd h (by decide)) (fun _ => ?_)
  refine lv_iload_n hx hb d_Mo_get_8 rfl (lv_at hl 3 rfl) ?_
  refine fy_callS (As := [.int (nI q)]) (rest := [.ref mo]) ⟨hx, hb, hml, hown, hts⟩ (c_Mo_isRegister l s0 D cI cZ cJ cW hG q q2) (va_cwS 1 hts g_Mo_42 rfl rfl rfl (by decide +kernel) ⟨Nat.le_of_ble_eq_true rfl, Nat.le_of_ble_eq_true rfl⟩) hLa hAB hA hP hD hS [] rfl rfl rfl hl.1 rfl (Nat.le_of_ble_eq_true rfl) d_Mo_get_9 ⟨Nat.zero_le _, Nat.zero_le _⟩ (fun r w1 H locs hp hP hD hS => ?_)
  obtain ⟨rfl, rfl⟩ := hp
  have hP : va_P D vwCl [(mo, .inr (5, [.int cd, .int (nI N), .int (nI C), .int (nI L.length), .ref m1, .ref m2, .ref m3, .ref m4, .ref m5, .ref m6, .ref m7, .ref m8])), (m1, .inl (cI, 80, .inl nu)), (m2, .inl (cI, 80, .inl va)), (m3, .inl (cI, 80, .inl ag)), (m4, .inl (cI, 80, .inl fi)), (m5, .inl (cI, 320, .inl re)), (m6, .inl (cZ, 80, .inl mk)), (m7, .inl (cI, 8, .inl mr)), (m8, .inl (cI, 4, .inl mw))] H := hP
  have hD : va_D A [(mo, .inr (5, [.int cd, .int (nI N), .int (nI C), .int (nI L.length), .ref m1, .ref m2, .ref m3, .ref m4, .ref m5, .ref m6, .ref m7, .ref m8])), (m1, .inl (cI, 80, .inl nu)), (m2, .inl (cI, 80, .inl va)), (m3, .inl (cI, 80, .inl ag)), (m4, .inl (cI, 80, .inl fi)), (m5, .inl (cI, 320, .inl re)), (m6, .inl (cZ, 80, .inl mk)), (m7, .inl (cI, 8, .inl mr)), (m8, .inl (cI, 4, .inl mw))] := hD
  refine lv_if_eq hx hb d_Mo_get_12 (tgt := 19) (by decide) (fun h => absurd h (by decide)) (fun _ => ?_)
  refine lv_iconst (v := nI 0) hx hb d_Mo_get_15 (by decide) ?_
  refine lv_goto hx hb d_Mo_get_16 (tgt := 20) (by decide) ?_
  refine va_put (D := D) (ci := 5) (v := .int (nI 0)) (ty := .int) (C := R_Mo) (T := F_Mo) (N := 12) hx hb hts i_Mo t_Mo tk_Mo n_Mo hown hK hP hD hS 0 rfl rfl 0 (by decide) (hts _ k_f_Mo_35) (fun _ h9 => h9) rfl (by decide +kernel) rfl rfl (Nat.le_of_ble_eq_true rfl) d_Mo_get_20 (fun H locs hP hD hS => ?_)
  have hP : va_P D vwCl [(mo, .inr (5, [.int (nI 0), .int (nI N), .int (nI C), .int (nI L.length), .ref m1, .ref m2, .ref m3, .ref m4, .ref m5, .ref m6, .ref m7, .ref m8])), (m1, .inl (cI, 80, .inl nu)), (m2, .inl (cI, 80, .inl va)), (m3, .inl (cI, 80, .inl ag)), (m4, .inl (cI, 80, .inl fi)), (m5, .inl (cI, 320, .inl re)), (m6, .inl (cZ, 80, .inl mk)), (m7, .inl (cI, 8, .inl mr)), (m8, .inl (cI, 4, .inl mw))] H := hP
  have hD : va_D A [(mo, .inr (5, [.int (nI 0), .int (nI N), .int (nI C), .int (nI L.length), .ref m1, .ref m2, .ref m3, .ref m4, .ref m5, .ref m6, .ref m7, .ref m8])), (m1, .inl (cI, 80, .inl nu)), (m2, .inl (cI, 80, .inl va)), (m3, .inl (cI, 80, .inl ag)), (m4, .inl (cI, 80, .inl fi)), (m5, .inl (cI, 320, .inl re)), (m6, .inl (cZ, 80, .inl mk)), (m7, .inl (cI, 8, .inl mr)), (m8, .inl (cI, 4, .inl mw))] := hD
  refine lv_aload_n hx hb d_Mo_get_23 rfl (lv_at hl 0 rfl) ?_
  refine va_get (D := D) (ci := 5) (v := .int (nI 0)) (C := R_Mo) (T := F_Mo) (N := 12) hx hb hts i_Mo hown hK hP 0 rfl rfl 0 (by decide) (hts _ k_f_Mo_35) (fun _ h9 => h9) rfl d_Mo_get_24 ?_
  refine lv_if_le hx hb d_Mo_get_27 (tgt := 34) (by decide) (fun _ => ?_) (fun h => absurd (by decide) h)
  refine lv_aload_n hx hb d_Mo_get_34 rfl (lv_at hl 0 rfl) ?_
  refine lv_iload_n hx hb d_Mo_get_35 rfl (lv_at hl 1 rfl) ?_
  refine lv_iload_n hx hb d_Mo_get_36 rfl (lv_at hl 2 rfl) ?_
  have ef := (hI.2.2.2.2.2.2.1 n (hI.inR q1 n q3)).2.2
  refine fy_callV (As := [.int (nI j), .int (nI f)]) (rest := []) ⟨hx, hb, hml, hown, hts⟩ (c_Mo_fieldAt_ok l s0 D cI cZ cJ cW hG mo m1 m2 m3 m4 m5 m6 m7 m8 (nI 0) i N C L val age nf rf reg wk nu va ag fi re mr mw hI hM j n f q1 q3 q4) (cwV 2 hts g_Mo_57 rfl rfl rfl (by decide +kernel) ⟨Nat.le_of_ble_eq_true rfl, Nat.le_of_ble_eq_true rfl⟩) hK hLa hAB hA hP hD hS [0, 1, 4, 7] rfl rfl (ci := 5) rfl rfl (q0 := 0) rfl rfl hl.1 rfl (Nat.le_of_ble_eq_true rfl) d_Mo_get_37 ⟨Nat.zero_le _, Nat.zero_le _⟩ (fun r w1 H locs hp hP hD hS => ?_)
  obtain ⟨k, hk, hk8, rfl, rfl⟩ := hp
  have hP : va_P D vwCl [(mo, .inr (5, [.int (nI 0), .int (nI N), .int (nI C), .int (nI L.length), .ref m1, .ref m2, .ref m3, .ref m4, .ref m5, .ref m6, .ref m7, .ref m8])), (m1, .inl (cI, 80, .inl nu)), (m2, .inl (cI, 80, .inl va)), (m3, .inl (cI, 80, .inl ag)), (m4, .inl (cI, 80, .inl fi)), (m5, .inl (cI, 320, .inl re)), (m6, .inl (cZ, 80, .inl mk)), (m7, .inl (cI, 8, .inl mr)), (m8, .inl (cI, 4, .inl mw))] H := hP
  have hD : va_D A [(mo, .inr (5, [.int (nI 0), .int (nI N), .int (nI C), .int (nI L.length), .ref m1, .ref m2, .ref m3, .ref m4, .ref m5, .ref m6, .ref m7, .ref m8])), (m1, .inl (cI, 80, .inl nu)), (m2, .inl (cI, 80, .inl va)), (m3, .inl (cI, 80, .inl ag)), (m4, .inl (cI, 80, .inl fi)), (m5, .inl (cI, 320, .inl re)), (m6, .inl (cZ, 80, .inl mk)), (m7, .inl (cI, 8, .inl mr)), (m8, .inl (cI, 4, .inl mw))] := hD
  refine lv_istore hx hb d_Mo_get_40 hl (by decide) rfl (fun ls hl => ?_)
  have hl : lv_has ls 5 [(4, .int (nI (4 * k + f))), (0, .ref mo), (1, .int (nI j)), (2, .int (nI f)), (3, .int (nI q))] := hl
  refine lv_iload hx hb d_Mo_get_42 (lv_at hl 0 rfl) ?_
  refine lv_if_lt hx hb d_Mo_get_44 (tgt := 60) (by decide) (fun h => absurd h (nI_pos (by omega))) (fun _ => ?_)
  refine lv_aload_n hx hb d_Mo_get_47 rfl (lv_at hl 1 rfl) ?_
  refine va_get (D := D) (ci := 5) (v := .ref m7) (C := R_Mo) (T := F_Mo) (N := 12) hx hb hts i_Mo hown hK hP 0 rfl rfl 10 (by decide) (hts _ k_f_Mo_29) (fun _ h9 => h9) rfl d_Mo_get_48 ?_
  refine lv_iload_n hx hb d_Mo_get_51 rfl (lv_at hl 4 rfl) ?_
  refine lv_aload_n hx hb d_Mo_get_52 rfl (lv_at hl 1 rfl) ?_
  refine va_get (D := D) (ci := 5) (v := .ref m5) (C := R_Mo) (T := F_Mo) (N := 12) hx hb hts i_Mo hown hK hP 0 rfl rfl 8 (by decide) (hts _ k_f_Mo_22) (fun _ h9 => h9) rfl d_Mo_get_53 ?_
  refine lv_iload hx hb d_Mo_get_56 (lv_at hl 0 rfl) ?_
  refine fy_iald (t0 := 0) (v := re (4 * k + f)) hx hb hK hP 5 rfl rfl (by omega) (by omega) (rfl) d_Mo_get_58 ?_
  refine fy_iast (t0 := 0) (g := upd mr q (re (4 * k + f))) hx hb hK hP hD hS 7 rfl rfl (by omega) (by omega) (rfl) d_Mo_get_59 (fun H locs hP hD hS => ?_)
  have hP : va_P D vwCl [(mo, .inr (5, [.int (nI 0), .int (nI N), .int (nI C), .int (nI L.length), .ref m1, .ref m2, .ref m3, .ref m4, .ref m5, .ref m6, .ref m7, .ref m8])), (m1, .inl (cI, 80, .inl nu)), (m2, .inl (cI, 80, .inl va)), (m3, .inl (cI, 80, .inl ag)), (m4, .inl (cI, 80, .inl fi)), (m5, .inl (cI, 320, .inl re)), (m6, .inl (cZ, 80, .inl mk)), (m7, .inl (cI, 8, .inl (upd mr q (re (4 * k + f))))), (m8, .inl (cI, 4, .inl mw))] H := hP
  have hD : va_D A [(mo, .inr (5, [.int (nI 0), .int (nI N), .int (nI C), .int (nI L.length), .ref m1, .ref m2, .ref m3, .ref m4, .ref m5, .ref m6, .ref m7, .ref m8])), (m1, .inl (cI, 80, .inl nu)), (m2, .inl (cI, 80, .inl va)), (m3, .inl (cI, 80, .inl ag)), (m4, .inl (cI, 80, .inl fi)), (m5, .inl (cI, 320, .inl re)), (m6, .inl (cZ, 80, .inl mk)), (m7, .inl (cI, 8, .inl (upd mr q (re (4 * k + f))))), (m8, .inl (cI, 4, .inl mw))] := hD
  exact fy_retv hx hb hr hlocks hAe (⟨ans, nu, va, ag, fi, re, mk, upd mr q (re (4 * k + f)), mw, (fun _ => rfl), rfl, hM.toR ((hM.1 k n hk).2.2.2.2 f (by omega)), rfl⟩) (List.Perm.refl _) hP hS d_Mo_get_60
set_option maxRecDepth 20000 in
set_option maxHeartbeats 4000000 in
theorem c_Mo_copy_0 (l : Launch) (s0 : State) (D : va_G) (cI cZ cJ cW : ClassId) (hG : fy_G s0 D cI cZ cJ cW) (mo m1 m2 m3 m4 m5 m6 m7 m8 : Nat) (cd : Int32) (i : Nat) (N : Nat) (C : Nat) (L : List Nat) (val : Nat → Int32) (age : Nat → Nat) (nf : Nat → Nat) (rf : Nat → Nat → Option Nat) (reg : Nat → Option Nat) (wk : Nat → Option Nat) (nu va ag fi re mk mr mw : Nat → Int32) (hI : fm_In i N C L age nf rf reg wk) (hM : fm_Mo L val age nf rf reg wk nu va ag fi re mr mw) (a1 a2 : Int32) (ans : Int32) (q1 : ¬ fy_ok 8 a1 ∨ ¬ fy_ok 8 a2) : fy_Met l s0 D vwCl y_Mo_copy w_Mo_copy (fy_rm 2) 0 0 [.ref mo, .int a1, .int a2] [(mo, .inr (5, [.int cd, .int (nI N), .int (nI C), .int (nI L.length), .ref m1, .ref m2, .ref m3, .ref m4, .ref m5, .ref m6, .ref m7, .ref m8])), (m1, .inl (cI, 80, .inl nu)), (m2, .inl (cI, 80, .inl va)), (m3, .inl (cI, 80, .inl ag)), (m4, .inl (cI, 80, .inl fi)), (m5, .inl (cI, 320, .inl re)), (m6, .inl (cZ, 80, .inl mk)), (m7, .inl (cI, 8, .inl mr)), (m8, .inl (cI, 4, .inl mw))] (fun r w1 => mo_post (fun _ => none) mo m1 m2 m3 m4 m5 m6 m7 m8 cI cZ 1 ans N C L val age nf rf reg wk r w1) := by
  refine fy_st (bytes := b_Mo_copy) (maxL := 3) (ret := none) hG (by decide) rfl (Nat.le_of_ble_eq_true rfl) ?_
  intro p e s m below meth c A ls hx hb hr hlocks hml hown hts hK hLa hAe hAB hA hl hP hD hS
  have hl : lv_has ls 3 [(0, .ref mo), (1, .int a1), (2, .int a2)] := hl
  refine lv_aload_n hx hb d_Mo_copy_0 rfl (lv_at hl 0 rfl) ?_
  refine lv_iload_n hx hb d_Mo_copy_1 rfl (lv_at hl 1 rfl) ?_
  by_cases hr9 : fy_ok 8 a1
  · obtain ⟨k, hk, rfl⟩ := hr9.nat (by omega)
    refine fy_callS (As := [.int (nI k)]) (rest := [.ref mo]) ⟨hx, hb, hml, hown, hts⟩ (c_Mo_isRegister l s0 D cI cZ cJ cW hG k hk) (va_cwS 1 hts g_Mo_42 rfl rfl rfl (by decide +kernel) ⟨Nat.le_of_ble_eq_true rfl, Nat.le_of_ble_eq_true rfl⟩) hLa hAB hA hP hD hS [] rfl rfl rfl hl.1 rfl (Nat.le_of_ble_eq_true rfl) d_Mo_copy_2 ⟨Nat.zero_le _, Nat.zero_le _⟩ (fun r w1 H locs hp hP hD hS => ?_)
    obtain ⟨rfl, rfl⟩ := hp
    have hP : va_P D vwCl [(mo, .inr (5, [.int cd, .int (nI N), .int (nI C), .int (nI L.length), .ref m1, .ref m2, .ref m3, .ref m4, .ref m5, .ref m6, .ref m7, .ref m8])), (m1, .inl (cI, 80, .inl nu)), (m2, .inl (cI, 80, .inl va)), (m3, .inl (cI, 80, .inl ag)), (m4, .inl (cI, 80, .inl fi)), (m5, .inl (cI, 320, .inl re)), (m6, .inl (cZ, 80, .inl mk)), (m7, .inl (cI, 8, .inl mr)), (m8, .inl (cI, 4, .inl mw))] H := hP
    have hD : va_D A [(mo, .inr (5, [.int cd, .int (nI N), .int (nI C), .int (nI L.length), .ref m1, .ref m2, .ref m3, .ref m4, .ref m5, .ref m6, .ref m7, .ref m8])), (m1, .inl (cI, 80, .inl nu)), (m2, .inl (cI, 80, .inl va)), (m3, .inl (cI, 80, .inl ag)), (m4, .inl (cI, 80, .inl fi)), (m5, .inl (cI, 320, .inl re)), (m6, .inl (cZ, 80, .inl mk)), (m7, .inl (cI, 8, .inl mr)), (m8, .inl (cI, 4, .inl mw))] := hD
    refine lv_if_eq hx hb d_Mo_copy_5 (tgt := 19) (by decide) (fun h => absurd h (by decide)) (fun _ => ?_)
    refine lv_iload_n hx hb d_Mo_copy_8 rfl (lv_at hl 2 rfl) ?_
    refine fy_callS (As := [.int a2]) (rest := [.ref mo]) ⟨hx, hb, hml, hown, hts⟩ (c_Mo_isRegister0 l s0 D cI cZ cJ cW hG a2 (q1.resolve_left (fun h => h hr9))) (va_cwS 1 hts g_Mo_42 rfl rfl rfl (by decide +kernel) ⟨Nat.le_of_ble_eq_true rfl, Nat.le_of_ble_eq_true rfl⟩) hLa hAB hA hP hD hS [] rfl rfl rfl hl.1 rfl (Nat.le_of_ble_eq_true rfl) d_Mo_copy_9 ⟨Nat.zero_le _, Nat.zero_le _⟩ (fun r w1 H locs hp hP hD hS => ?_)
    obtain ⟨rfl, rfl⟩ := hp
    have hP : va_P D vwCl [(mo, .inr (5, [.int cd, .int (nI N), .int (nI C), .int (nI L.length), .ref m1, .ref m2, .ref m3, .ref m4, .ref m5, .ref m6, .ref m7, .ref m8])), (m1, .inl (cI, 80, .inl nu)), (m2, .inl (cI, 80, .inl va)), (m3, .inl (cI, 80, .inl ag)), (m4, .inl (cI, 80, .inl fi)), (m5, .inl (cI, 320, .inl re)), (m6, .inl (cZ, 80, .inl mk)), (m7, .inl (cI, 8, .inl mr)), (m8, .inl (cI, 4, .inl mw))] H := hP
    have hD : va_D A [(mo, .inr (5, [.int cd, .int (nI N), .int (nI C), .int (nI L.length), .ref m1, .ref m2, .ref m3, .ref m4, .ref m5, .ref m6, .ref m7, .ref m8])), (m1, .inl (cI, 80, .inl nu)), (m2, .inl (cI, 80, .inl va)), (m3, .inl (cI, 80, .inl ag)), (m4, .inl (cI, 80, .inl fi)), (m5, .inl (cI, 320, .inl re)), (m6, .inl (cZ, 80, .inl mk)), (m7, .inl (cI, 8, .inl mr)), (m8, .inl (cI, 4, .inl mw))] := hD
    refine lv_if_eq hx hb d_Mo_copy_12 (tgt := 19) (by decide) (fun _ => ?_) (fun h => absurd (rfl) h)
    refine lv_iconst (v := nI 1) hx hb d_Mo_copy_19 (by decide) ?_
    refine va_put (D := D) (ci := 5) (v := .int (nI 1)) (ty := .int) (C := R_Mo) (T := F_Mo) (N := 12) hx hb hts i_Mo t_Mo tk_Mo n_Mo hown hK hP hD hS 0 rfl rfl 0 (by decide) (hts _ k_f_Mo_35) (fun _ h9 => h9) rfl (by decide +kernel) rfl rfl (Nat.le_of_ble_eq_true rfl) d_Mo_copy_20 (fun H locs hP hD hS => ?_)
    have hP : va_P D vwCl [(mo, .inr (5, [.int (nI 1), .int (nI N), .int (nI C), .int (nI L.length), .ref m1, .ref m2, .ref m3, .ref m4, .ref m5, .ref m6, .ref m7, .ref m8])), (m1, .inl (cI, 80, .inl nu)), (m2, .inl (cI, 80, .inl va)), (m3, .inl (cI, 80, .inl ag)), (m4, .inl (cI, 80, .inl fi)), (m5, .inl (cI, 320, .inl re)), (m6, .inl (cZ, 80, .inl mk)), (m7, .inl (cI, 8, .inl mr)), (m8, .inl (cI, 4, .inl mw))] H := hP
    have hD : va_D A [(mo, .inr (5, [.int (nI 1), .int (nI N), .int (nI C), .int (nI L.length), .ref m1, .ref m2, .ref m3, .ref m4, .ref m5, .ref m6, .ref m7, .ref m8])), (m1, .inl (cI, 80, .inl nu)), (m2, .inl (cI, 80, .inl va)), (m3, .inl (cI, 80, .inl ag)), (m4, .inl (cI, 80, .inl fi)), (m5, .inl (cI, 320, .inl re)), (m6, .inl (cZ, 80, .inl mk)), (m7, .inl (cI, 8, .inl mr)), (m8, .inl (cI, 4, .inl mw))] := hD
    refine lv_aload_n hx hb d_Mo_copy_23 rfl (lv_at hl 0 rfl) ?_
    refine va_get (D := D) (ci := 5) (v := .int (nI 1)) (C := R_Mo) (T := F_Mo) (N := 12) hx hb hts i_Mo hown hK hP 0 rfl rfl 0 (by decide) (hts _ k_f_Mo_35) (fun _ h9 => h9) rfl d_Mo_copy_24 ?_
    refine lv_if_ne hx hb d_Mo_copy_27 (tgt := 42) (by decide) (fun _ => ?_) (fun h => absurd h (by decide))
    exact fy_retv hx hb hr hlocks hAe (⟨0, nu, va, ag, fi, re, mk, mr, mw, (fun h => absurd h (by decide)), rfl, hM, rfl⟩) (List.Perm.refl _) hP hS d_Mo_copy_42
  · refine fy_callS (As := [.int a1]) (rest := [.ref mo]) ⟨hx, hb, hml, hown, hts⟩ (c_Mo_isRegister0 l s0 D cI cZ cJ cW hG a1 (hr9)) (va_cwS 1 hts g_Mo_42 rfl rfl rfl (by decide +kernel) ⟨Nat.le_of_ble_eq_true rfl, Nat.le_of_ble_eq_true rfl⟩) hLa hAB hA hP hD hS [] rfl rfl rfl hl.1 rfl (Nat.le_of_ble_eq_true rfl) d_Mo_copy_2 ⟨Nat.zero_le _, Nat.zero_le _⟩ (fun r w1 H locs hp hP hD hS => ?_)
    obtain ⟨rfl, rfl⟩ := hp
    have hP : va_P D vwCl [(mo, .inr (5, [.int cd, .int (nI N), .int (nI C), .int (nI L.length), .ref m1, .ref m2, .ref m3, .ref m4, .ref m5, .ref m6, .ref m7, .ref m8])), (m1, .inl (cI, 80, .inl nu)), (m2, .inl (cI, 80, .inl va)), (m3, .inl (cI, 80, .inl ag)), (m4, .inl (cI, 80, .inl fi)), (m5, .inl (cI, 320, .inl re)), (m6, .inl (cZ, 80, .inl mk)), (m7, .inl (cI, 8, .inl mr)), (m8, .inl (cI, 4, .inl mw))] H := hP
    have hD : va_D A [(mo, .inr (5, [.int cd, .int (nI N), .int (nI C), .int (nI L.length), .ref m1, .ref m2, .ref m3, .ref m4, .ref m5, .ref m6, .ref m7, .ref m8])), (m1, .inl (cI, 80, .inl nu)), (m2, .inl (cI, 80, .inl va)), (m3, .inl (cI, 80, .inl ag)), (m4, .inl (cI, 80, .inl fi)), (m5, .inl (cI, 320, .inl re)), (m6, .inl (cZ, 80, .inl mk)), (m7, .inl (cI, 8, .inl mr)), (m8, .inl (cI, 4, .inl mw))] := hD
    refine lv_if_eq hx hb d_Mo_copy_5 (tgt := 19) (by decide) (fun _ => ?_) (fun h => absurd (rfl) h)
    refine lv_iconst (v := nI 1) hx hb d_Mo_copy_19 (by decide) ?_
    refine va_put (D := D) (ci := 5) (v := .int (nI 1)) (ty := .int) (C := R_Mo) (T := F_Mo) (N := 12) hx hb hts i_Mo t_Mo tk_Mo n_Mo hown hK hP hD hS 0 rfl rfl 0 (by decide) (hts _ k_f_Mo_35) (fun _ h9 => h9) rfl (by decide +kernel) rfl rfl (Nat.le_of_ble_eq_true rfl) d_Mo_copy_20 (fun H locs hP hD hS => ?_)
    have hP : va_P D vwCl [(mo, .inr (5, [.int (nI 1), .int (nI N), .int (nI C), .int (nI L.length), .ref m1, .ref m2, .ref m3, .ref m4, .ref m5, .ref m6, .ref m7, .ref m8])), (m1, .inl (cI, 80, .inl nu)), (m2, .inl (cI, 80, .inl va)), (m3, .inl (cI, 80, .inl ag)), (m4, .inl (cI, 80, .inl fi)), (m5, .inl (cI, 320, .inl re)), (m6, .inl (cZ, 80, .inl mk)), (m7, .inl (cI, 8, .inl mr)), (m8, .inl (cI, 4, .inl mw))] H := hP
    have hD : va_D A [(mo, .inr (5, [.int (nI 1), .int (nI N), .int (nI C), .int (nI L.length), .ref m1, .ref m2, .ref m3, .ref m4, .ref m5, .ref m6, .ref m7, .ref m8])), (m1, .inl (cI, 80, .inl nu)), (m2, .inl (cI, 80, .inl va)), (m3, .inl (cI, 80, .inl ag)), (m4, .inl (cI, 80, .inl fi)), (m5, .inl (cI, 320, .inl re)), (m6, .inl (cZ, 80, .inl mk)), (m7, .inl (cI, 8, .inl mr)), (m8, .inl (cI, 4, .inl mw))] := hD
    refine lv_aload_n hx hb d_Mo_copy_23 rfl (lv_at hl 0 rfl) ?_
    refine va_get (D := D) (ci := 5) (v := .int (nI 1)) (C := R_Mo) (T := F_Mo) (N := 12) hx hb hts i_Mo hown hK hP 0 rfl rfl 0 (by decide) (hts _ k_f_Mo_35) (fun _ h9 => h9) rfl d_Mo_copy_24 ?_
    refine lv_if_ne hx hb d_Mo_copy_27 (tgt := 42) (by decide) (fun _ => ?_) (fun h => absurd h (by decide))
    exact fy_retv hx hb hr hlocks hAe (⟨0, nu, va, ag, fi, re, mk, mr, mw, (fun h => absurd h (by decide)), rfl, hM, rfl⟩) (List.Perm.refl _) hP hS d_Mo_copy_42
set_option maxRecDepth 20000 in
set_option maxHeartbeats 4000000 in
theorem c_Mo_copy_1 (l : Launch) (s0 : State) (D : va_G) (cI cZ cJ cW : ClassId) (hG : fy_G s0 D cI cZ cJ cW) (mo m1 m2 m3 m4 m5 m6 m7 m8 : Nat) (cd : Int32) (i : Nat) (N : Nat) (C : Nat) (L : List Nat) (val : Nat → Int32) (age : Nat → Nat) (nf : Nat → Nat) (rf : Nat → Nat → Option Nat) (reg : Nat → Option Nat) (wk : Nat → Option Nat) (nu va ag fi re mk mr mw : Nat → Int32) (hI : fm_In i N C L age nf rf reg wk) (hM : fm_Mo L val age nf rf reg wk nu va ag fi re mr mw) (j q : Nat) (ans : Int32) (q1 : j < 8) (q2 : q < 8) : fy_Met l s0 D vwCl y_Mo_copy w_Mo_copy (fy_rm 2) 0 0 [.ref mo, .int (nI j), .int (nI q)] [(mo, .inr (5, [.int cd, .int (nI N), .int (nI C), .int (nI L.length), .ref m1, .ref m2, .ref m3, .ref m4, .ref m5, .ref m6, .ref m7, .ref m8])), (m1, .inl (cI, 80, .inl nu)), (m2, .inl (cI, 80, .inl va)), (m3, .inl (cI, 80, .inl ag)), (m4, .inl (cI, 80, .inl fi)), (m5, .inl (cI, 320, .inl re)), (m6, .inl (cZ, 80, .inl mk)), (m7, .inl (cI, 8, .inl mr)), (m8, .inl (cI, 4, .inl mw))] (fun r w1 => mo_post (fun _ => none) mo m1 m2 m3 m4 m5 m6 m7 m8 cI cZ 0 ans N C L val age nf rf (va_up reg q (reg j)) wk r w1) := by
  refine fy_st (bytes := b_Mo_copy) (maxL := 3) (ret := none) hG (by decide) rfl (Nat.le_of_ble_eq_true rfl) ?_
  intro p e s m below meth c A ls hx hb hr hlocks hml hown hts hK hLa hAe hAB hA hl hP hD hS
  have hl : lv_has ls 3 [(0, .ref mo), (1, .int (nI j)), (2, .int (nI q))] := hl
  refine lv_aload_n hx hb d_Mo_copy_0 rfl (lv_at hl 0 rfl) ?_
  refine lv_iload_n hx hb d_Mo_copy_1 rfl (lv_at hl 1 rfl) ?_
  refine fy_callS (As := [.int (nI j)]) (rest := [.ref mo]) ⟨hx, hb, hml, hown, hts⟩ (c_Mo_isRegister l s0 D cI cZ cJ cW hG j q1) (va_cwS 1 hts g_Mo_42 rfl rfl rfl (by decide +kernel) ⟨Nat.le_of_ble_eq_true rfl, Nat.le_of_ble_eq_true rfl⟩) hLa hAB hA hP hD hS [] rfl rfl rfl hl.1 rfl (Nat.le_of_ble_eq_true rfl) d_Mo_copy_2 ⟨Nat.zero_le _, Nat.zero_le _⟩ (fun r w1 H locs hp hP hD hS => ?_)
  obtain ⟨rfl, rfl⟩ := hp
  have hP : va_P D vwCl [(mo, .inr (5, [.int cd, .int (nI N), .int (nI C), .int (nI L.length), .ref m1, .ref m2, .ref m3, .ref m4, .ref m5, .ref m6, .ref m7, .ref m8])), (m1, .inl (cI, 80, .inl nu)), (m2, .inl (cI, 80, .inl va)), (m3, .inl (cI, 80, .inl ag)), (m4, .inl (cI, 80, .inl fi)), (m5, .inl (cI, 320, .inl re)), (m6, .inl (cZ, 80, .inl mk)), (m7, .inl (cI, 8, .inl mr)), (m8, .inl (cI, 4, .inl mw))] H := hP
  have hD : va_D A [(mo, .inr (5, [.int cd, .int (nI N), .int (nI C), .int (nI L.length), .ref m1, .ref m2, .ref m3, .ref m4, .ref m5, .ref m6, .ref m7, .ref m8])), (m1, .inl (cI, 80, .inl nu)), (m2, .inl (cI, 80, .inl va)), (m3, .inl (cI, 80, .inl ag)), (m4, .inl (cI, 80, .inl fi)), (m5, .inl (cI, 320, .inl re)), (m6, .inl (cZ, 80, .inl mk)), (m7, .inl (cI, 8, .inl mr)), (m8, .inl (cI, 4, .inl mw))] := hD
  refine lv_if_eq hx hb d_Mo_copy_5 (tgt := 19) (by decide) (fun h => absurd h (by decide)) (fun _ => ?_)
  refine lv_iload_n hx hb d_Mo_copy_8 rfl (lv_at hl 2 rfl) ?_
  refine fy_callS (As := [.int (nI q)]) (rest := [.ref mo]) ⟨hx, hb, hml, hown, hts⟩ (c_Mo_isRegister l s0 D cI cZ cJ cW hG q q2) (va_cwS 1 hts g_Mo_42 rfl rfl rfl (by decide +kernel) ⟨Nat.le_of_ble_eq_true rfl, Nat.le_of_ble_eq_true rfl⟩) hLa hAB hA hP hD hS [] rfl rfl rfl hl.1 rfl (Nat.le_of_ble_eq_true rfl) d_Mo_copy_9 ⟨Nat.zero_le _, Nat.zero_le _⟩ (fun r w1 H locs hp hP hD hS => ?_)
  obtain ⟨rfl, rfl⟩ := hp
  have hP : va_P D vwCl [(mo, .inr (5, [.int cd, .int (nI N), .int (nI C), .int (nI L.length), .ref m1, .ref m2, .ref m3, .ref m4, .ref m5, .ref m6, .ref m7, .ref m8])), (m1, .inl (cI, 80, .inl nu)), (m2, .inl (cI, 80, .inl va)), (m3, .inl (cI, 80, .inl ag)), (m4, .inl (cI, 80, .inl fi)), (m5, .inl (cI, 320, .inl re)), (m6, .inl (cZ, 80, .inl mk)), (m7, .inl (cI, 8, .inl mr)), (m8, .inl (cI, 4, .inl mw))] H := hP
  have hD : va_D A [(mo, .inr (5, [.int cd, .int (nI N), .int (nI C), .int (nI L.length), .ref m1, .ref m2, .ref m3, .ref m4, .ref m5, .ref m6, .ref m7, .ref m8])), (m1, .inl (cI, 80, .inl nu)), (m2, .inl (cI, 80, .inl va)), (m3, .inl (cI, 80, .inl ag)), (m4, .inl (cI, 80, .inl fi)), (m5, .inl (cI, 320, .inl re)), (m6, .inl (cZ, 80, .inl mk)), (m7, .inl (cI, 8, .inl mr)), (m8, .inl (cI, 4, .inl mw))] := hD
  refine lv_if_eq hx hb d_Mo_copy_12 (tgt := 19) (by decide) (fun h => absurd h (by decide)) (fun _ => ?_)
  refine lv_iconst (v := nI 0) hx hb d_Mo_copy_15 (by decide) ?_
  refine lv_goto hx hb d_Mo_copy_16 (tgt := 20) (by decide) ?_
  refine va_put (D := D) (ci := 5) (v := .int (nI 0)) (ty := .int) (C := R_Mo) (T := F_Mo) (N := 12) hx hb hts i_Mo t_Mo tk_Mo n_Mo hown hK hP hD hS 0 rfl rfl 0 (by decide) (hts _ k_f_Mo_35) (fun _ h9 => h9) rfl (by decide +kernel) rfl rfl (Nat.le_of_ble_eq_true rfl) d_Mo_copy_20 (fun H locs hP hD hS => ?_)
  have hP : va_P D vwCl [(mo, .inr (5, [.int (nI 0), .int (nI N), .int (nI C), .int (nI L.length), .ref m1, .ref m2, .ref m3, .ref m4, .ref m5, .ref m6, .ref m7, .ref m8])), (m1, .inl (cI, 80, .inl nu)), (m2, .inl (cI, 80, .inl va)), (m3, .inl (cI, 80, .inl ag)), (m4, .inl (cI, 80, .inl fi)), (m5, .inl (cI, 320, .inl re)), (m6, .inl (cZ, 80, .inl mk)), (m7, .inl (cI, 8, .inl mr)), (m8, .inl (cI, 4, .inl mw))] H := hP
  have hD : va_D A [(mo, .inr (5, [.int (nI 0), .int (nI N), .int (nI C), .int (nI L.length), .ref m1, .ref m2, .ref m3, .ref m4, .ref m5, .ref m6, .ref m7, .ref m8])), (m1, .inl (cI, 80, .inl nu)), (m2, .inl (cI, 80, .inl va)), (m3, .inl (cI, 80, .inl ag)), (m4, .inl (cI, 80, .inl fi)), (m5, .inl (cI, 320, .inl re)), (m6, .inl (cZ, 80, .inl mk)), (m7, .inl (cI, 8, .inl mr)), (m8, .inl (cI, 4, .inl mw))] := hD
  refine lv_aload_n hx hb d_Mo_copy_23 rfl (lv_at hl 0 rfl) ?_
  refine va_get (D := D) (ci := 5) (v := .int (nI 0)) (C := R_Mo) (T := F_Mo) (N := 12) hx hb hts i_Mo hown hK hP 0 rfl rfl 0 (by decide) (hts _ k_f_Mo_35) (fun _ h9 => h9) rfl d_Mo_copy_24 ?_
  refine lv_if_ne hx hb d_Mo_copy_27 (tgt := 42) (by decide) (fun h => absurd (rfl) h) (fun _ => ?_)
  refine lv_aload_n hx hb d_Mo_copy_30 rfl (lv_at hl 0 rfl) ?_
  refine va_get (D := D) (ci := 5) (v := .ref m7) (C := R_Mo) (T := F_Mo) (N := 12) hx hb hts i_Mo hown hK hP 0 rfl rfl 10 (by decide) (hts _ k_f_Mo_29) (fun _ h9 => h9) rfl d_Mo_copy_31 ?_
  refine lv_iload_n hx hb d_Mo_copy_34 rfl (lv_at hl 2 rfl) ?_
  refine lv_aload_n hx hb d_Mo_copy_35 rfl (lv_at hl 0 rfl) ?_
  refine va_get (D := D) (ci := 5) (v := .ref m7) (C := R_Mo) (T := F_Mo) (N := 12) hx hb hts i_Mo hown hK hP 0 rfl rfl 10 (by decide) (hts _ k_f_Mo_29) (fun _ h9 => h9) rfl d_Mo_copy_36 ?_
  refine lv_iload_n hx hb d_Mo_copy_39 rfl (lv_at hl 1 rfl) ?_
  refine fy_iald (t0 := 0) (v := mr j) hx hb hK hP 7 rfl rfl (by omega) (by omega) (rfl) d_Mo_copy_40 ?_
  refine fy_iast (t0 := 0) (g := upd mr q (mr j)) hx hb hK hP hD hS 7 rfl rfl (by omega) (by omega) (rfl) d_Mo_copy_41 (fun H locs hP hD hS => ?_)
  have hP : va_P D vwCl [(mo, .inr (5, [.int (nI 0), .int (nI N), .int (nI C), .int (nI L.length), .ref m1, .ref m2, .ref m3, .ref m4, .ref m5, .ref m6, .ref m7, .ref m8])), (m1, .inl (cI, 80, .inl nu)), (m2, .inl (cI, 80, .inl va)), (m3, .inl (cI, 80, .inl ag)), (m4, .inl (cI, 80, .inl fi)), (m5, .inl (cI, 320, .inl re)), (m6, .inl (cZ, 80, .inl mk)), (m7, .inl (cI, 8, .inl (upd mr q (mr j)))), (m8, .inl (cI, 4, .inl mw))] H := hP
  have hD : va_D A [(mo, .inr (5, [.int (nI 0), .int (nI N), .int (nI C), .int (nI L.length), .ref m1, .ref m2, .ref m3, .ref m4, .ref m5, .ref m6, .ref m7, .ref m8])), (m1, .inl (cI, 80, .inl nu)), (m2, .inl (cI, 80, .inl va)), (m3, .inl (cI, 80, .inl ag)), (m4, .inl (cI, 80, .inl fi)), (m5, .inl (cI, 320, .inl re)), (m6, .inl (cZ, 80, .inl mk)), (m7, .inl (cI, 8, .inl (upd mr q (mr j)))), (m8, .inl (cI, 4, .inl mw))] := hD
  exact fy_retv hx hb hr hlocks hAe (⟨ans, nu, va, ag, fi, re, mk, upd mr q (mr j), mw, (fun _ => rfl), rfl, hM.toR (hM.2.1 j q1), rfl⟩) (List.Perm.refl _) hP hS d_Mo_copy_42
set_option maxRecDepth 20000 in
set_option maxHeartbeats 4000000 in
theorem c_Mo_watch_0 (l : Launch) (s0 : State) (D : va_G) (cI cZ cJ cW : ClassId) (hG : fy_G s0 D cI cZ cJ cW) (mo m1 m2 m3 m4 m5 m6 m7 m8 : Nat) (cd : Int32) (i : Nat) (N : Nat) (C : Nat) (L : List Nat) (val : Nat → Int32) (age : Nat → Nat) (nf : Nat → Nat) (rf : Nat → Nat → Option Nat) (reg : Nat → Option Nat) (wk : Nat → Option Nat) (nu va ag fi re mk mr mw : Nat → Int32) (hI : fm_In i N C L age nf rf reg wk) (hM : fm_Mo L val age nf rf reg wk nu va ag fi re mr mw) (a1 a2 : Int32) (ans : Int32) (q1 : ¬ fy_ok 4 a1 ∨ ¬ fy_ok 8 a2) : fy_Met l s0 D vwCl y_Mo_watch w_Mo_watch (fy_rm 2) 0 0 [.ref mo, .int a1, .int a2] [(mo, .inr (5, [.int cd, .int (nI N), .int (nI C), .int (nI L.length), .ref m1, .ref m2, .ref m3, .ref m4, .ref m5, .ref m6, .ref m7, .ref m8])), (m1, .inl (cI, 80, .inl nu)), (m2, .inl (cI, 80, .inl va)), (m3, .inl (cI, 80, .inl ag)), (m4, .inl (cI, 80, .inl fi)), (m5, .inl (cI, 320, .inl re)), (m6, .inl (cZ, 80, .inl mk)), (m7, .inl (cI, 8, .inl mr)), (m8, .inl (cI, 4, .inl mw))] (fun r w1 => mo_post (fun _ => none) mo m1 m2 m3 m4 m5 m6 m7 m8 cI cZ 1 ans N C L val age nf rf reg wk r w1) := by
  refine fy_st (bytes := b_Mo_watch) (maxL := 3) (ret := none) hG (by decide) rfl (Nat.le_of_ble_eq_true rfl) ?_
  intro p e s m below meth c A ls hx hb hr hlocks hml hown hts hK hLa hAe hAB hA hl hP hD hS
  have hl : lv_has ls 3 [(0, .ref mo), (1, .int a1), (2, .int a2)] := hl
  refine lv_aload_n hx hb d_Mo_watch_0 rfl (lv_at hl 0 rfl) ?_
  refine lv_iload_n hx hb d_Mo_watch_1 rfl (lv_at hl 1 rfl) ?_
  by_cases hr9 : fy_ok 4 a1
  · obtain ⟨k, hk, rfl⟩ := hr9.nat (by omega)
    refine fy_callS (As := [.int (nI k)]) (rest := [.ref mo]) ⟨hx, hb, hml, hown, hts⟩ (c_Mo_isWeak l s0 D cI cZ cJ cW hG k hk) (va_cwS 1 hts g_Mo_61 rfl rfl rfl (by decide +kernel) ⟨Nat.le_of_ble_eq_true rfl, Nat.le_of_ble_eq_true rfl⟩) hLa hAB hA hP hD hS [] rfl rfl rfl hl.1 rfl (Nat.le_of_ble_eq_true rfl) d_Mo_watch_2 ⟨Nat.zero_le _, Nat.zero_le _⟩ (fun r w1 H locs hp hP hD hS => ?_)
    obtain ⟨rfl, rfl⟩ := hp
    have hP : va_P D vwCl [(mo, .inr (5, [.int cd, .int (nI N), .int (nI C), .int (nI L.length), .ref m1, .ref m2, .ref m3, .ref m4, .ref m5, .ref m6, .ref m7, .ref m8])), (m1, .inl (cI, 80, .inl nu)), (m2, .inl (cI, 80, .inl va)), (m3, .inl (cI, 80, .inl ag)), (m4, .inl (cI, 80, .inl fi)), (m5, .inl (cI, 320, .inl re)), (m6, .inl (cZ, 80, .inl mk)), (m7, .inl (cI, 8, .inl mr)), (m8, .inl (cI, 4, .inl mw))] H := hP
    have hD : va_D A [(mo, .inr (5, [.int cd, .int (nI N), .int (nI C), .int (nI L.length), .ref m1, .ref m2, .ref m3, .ref m4, .ref m5, .ref m6, .ref m7, .ref m8])), (m1, .inl (cI, 80, .inl nu)), (m2, .inl (cI, 80, .inl va)), (m3, .inl (cI, 80, .inl ag)), (m4, .inl (cI, 80, .inl fi)), (m5, .inl (cI, 320, .inl re)), (m6, .inl (cZ, 80, .inl mk)), (m7, .inl (cI, 8, .inl mr)), (m8, .inl (cI, 4, .inl mw))] := hD
    refine lv_if_eq hx hb d_Mo_watch_5 (tgt := 19) (by decide) (fun h => absurd h (by decide)) (fun _ => ?_)
    refine lv_iload_n hx hb d_Mo_watch_8 rfl (lv_at hl 2 rfl) ?_
    refine fy_callS (As := [.int a2]) (rest := [.ref mo]) ⟨hx, hb, hml, hown, hts⟩ (c_Mo_isRegister0 l s0 D cI cZ cJ cW hG a2 (q1.resolve_left (fun h => h hr9))) (va_cwS 1 hts g_Mo_42 rfl rfl rfl (by decide +kernel) ⟨Nat.le_of_ble_eq_true rfl, Nat.le_of_ble_eq_true rfl⟩) hLa hAB hA hP hD hS [] rfl rfl rfl hl.1 rfl (Nat.le_of_ble_eq_true rfl) d_Mo_watch_9 ⟨Nat.zero_le _, Nat.zero_le _⟩ (fun r w1 H locs hp hP hD hS => ?_)
    obtain ⟨rfl, rfl⟩ := hp
    have hP : va_P D vwCl [(mo, .inr (5, [.int cd, .int (nI N), .int (nI C), .int (nI L.length), .ref m1, .ref m2, .ref m3, .ref m4, .ref m5, .ref m6, .ref m7, .ref m8])), (m1, .inl (cI, 80, .inl nu)), (m2, .inl (cI, 80, .inl va)), (m3, .inl (cI, 80, .inl ag)), (m4, .inl (cI, 80, .inl fi)), (m5, .inl (cI, 320, .inl re)), (m6, .inl (cZ, 80, .inl mk)), (m7, .inl (cI, 8, .inl mr)), (m8, .inl (cI, 4, .inl mw))] H := hP
    have hD : va_D A [(mo, .inr (5, [.int cd, .int (nI N), .int (nI C), .int (nI L.length), .ref m1, .ref m2, .ref m3, .ref m4, .ref m5, .ref m6, .ref m7, .ref m8])), (m1, .inl (cI, 80, .inl nu)), (m2, .inl (cI, 80, .inl va)), (m3, .inl (cI, 80, .inl ag)), (m4, .inl (cI, 80, .inl fi)), (m5, .inl (cI, 320, .inl re)), (m6, .inl (cZ, 80, .inl mk)), (m7, .inl (cI, 8, .inl mr)), (m8, .inl (cI, 4, .inl mw))] := hD
    refine lv_if_eq hx hb d_Mo_watch_12 (tgt := 19) (by decide) (fun _ => ?_) (fun h => absurd (rfl) h)
    refine lv_iconst (v := nI 1) hx hb d_Mo_watch_19 (by decide) ?_
    refine va_put (D := D) (ci := 5) (v := .int (nI 1)) (ty := .int) (C := R_Mo) (T := F_Mo) (N := 12) hx hb hts i_Mo t_Mo tk_Mo n_Mo hown hK hP hD hS 0 rfl rfl 0 (by decide) (hts _ k_f_Mo_35) (fun _ h9 => h9) rfl (by decide +kernel) rfl rfl (Nat.le_of_ble_eq_true rfl) d_Mo_watch_20 (fun H locs hP hD hS => ?_)
    have hP : va_P D vwCl [(mo, .inr (5, [.int (nI 1), .int (nI N), .int (nI C), .int (nI L.length), .ref m1, .ref m2, .ref m3, .ref m4, .ref m5, .ref m6, .ref m7, .ref m8])), (m1, .inl (cI, 80, .inl nu)), (m2, .inl (cI, 80, .inl va)), (m3, .inl (cI, 80, .inl ag)), (m4, .inl (cI, 80, .inl fi)), (m5, .inl (cI, 320, .inl re)), (m6, .inl (cZ, 80, .inl mk)), (m7, .inl (cI, 8, .inl mr)), (m8, .inl (cI, 4, .inl mw))] H := hP
    have hD : va_D A [(mo, .inr (5, [.int (nI 1), .int (nI N), .int (nI C), .int (nI L.length), .ref m1, .ref m2, .ref m3, .ref m4, .ref m5, .ref m6, .ref m7, .ref m8])), (m1, .inl (cI, 80, .inl nu)), (m2, .inl (cI, 80, .inl va)), (m3, .inl (cI, 80, .inl ag)), (m4, .inl (cI, 80, .inl fi)), (m5, .inl (cI, 320, .inl re)), (m6, .inl (cZ, 80, .inl mk)), (m7, .inl (cI, 8, .inl mr)), (m8, .inl (cI, 4, .inl mw))] := hD
    refine lv_aload_n hx hb d_Mo_watch_23 rfl (lv_at hl 0 rfl) ?_
    refine va_get (D := D) (ci := 5) (v := .int (nI 1)) (C := R_Mo) (T := F_Mo) (N := 12) hx hb hts i_Mo hown hK hP 0 rfl rfl 0 (by decide) (hts _ k_f_Mo_35) (fun _ h9 => h9) rfl d_Mo_watch_24 ?_
    refine lv_if_ne hx hb d_Mo_watch_27 (tgt := 42) (by decide) (fun _ => ?_) (fun h => absurd h (by decide))
    exact fy_retv hx hb hr hlocks hAe (⟨0, nu, va, ag, fi, re, mk, mr, mw, (fun h => absurd h (by decide)), rfl, hM, rfl⟩) (List.Perm.refl _) hP hS d_Mo_watch_42
  · refine fy_callS (As := [.int a1]) (rest := [.ref mo]) ⟨hx, hb, hml, hown, hts⟩ (c_Mo_isWeak0 l s0 D cI cZ cJ cW hG a1 (hr9)) (va_cwS 1 hts g_Mo_61 rfl rfl rfl (by decide +kernel) ⟨Nat.le_of_ble_eq_true rfl, Nat.le_of_ble_eq_true rfl⟩) hLa hAB hA hP hD hS [] rfl rfl rfl hl.1 rfl (Nat.le_of_ble_eq_true rfl) d_Mo_watch_2 ⟨Nat.zero_le _, Nat.zero_le _⟩ (fun r w1 H locs hp hP hD hS => ?_)
    obtain ⟨rfl, rfl⟩ := hp
    have hP : va_P D vwCl [(mo, .inr (5, [.int cd, .int (nI N), .int (nI C), .int (nI L.length), .ref m1, .ref m2, .ref m3, .ref m4, .ref m5, .ref m6, .ref m7, .ref m8])), (m1, .inl (cI, 80, .inl nu)), (m2, .inl (cI, 80, .inl va)), (m3, .inl (cI, 80, .inl ag)), (m4, .inl (cI, 80, .inl fi)), (m5, .inl (cI, 320, .inl re)), (m6, .inl (cZ, 80, .inl mk)), (m7, .inl (cI, 8, .inl mr)), (m8, .inl (cI, 4, .inl mw))] H := hP
    have hD : va_D A [(mo, .inr (5, [.int cd, .int (nI N), .int (nI C), .int (nI L.length), .ref m1, .ref m2, .ref m3, .ref m4, .ref m5, .ref m6, .ref m7, .ref m8])), (m1, .inl (cI, 80, .inl nu)), (m2, .inl (cI, 80, .inl va)), (m3, .inl (cI, 80, .inl ag)), (m4, .inl (cI, 80, .inl fi)), (m5, .inl (cI, 320, .inl re)), (m6, .inl (cZ, 80, .inl mk)), (m7, .inl (cI, 8, .inl mr)), (m8, .inl (cI, 4, .inl mw))] := hD
    refine lv_if_eq hx hb d_Mo_watch_5 (tgt := 19) (by decide) (fun _ => ?_) (fun h => absurd (rfl) h)
    refine lv_iconst (v := nI 1) hx hb d_Mo_watch_19 (by decide) ?_
    refine va_put (D := D) (ci := 5) (v := .int (nI 1)) (ty := .int) (C := R_Mo) (T := F_Mo) (N := 12) hx hb hts i_Mo t_Mo tk_Mo n_Mo hown hK hP hD hS 0 rfl rfl 0 (by decide) (hts _ k_f_Mo_35) (fun _ h9 => h9) rfl (by decide +kernel) rfl rfl (Nat.le_of_ble_eq_true rfl) d_Mo_watch_20 (fun H locs hP hD hS => ?_)
    have hP : va_P D vwCl [(mo, .inr (5, [.int (nI 1), .int (nI N), .int (nI C), .int (nI L.length), .ref m1, .ref m2, .ref m3, .ref m4, .ref m5, .ref m6, .ref m7, .ref m8])), (m1, .inl (cI, 80, .inl nu)), (m2, .inl (cI, 80, .inl va)), (m3, .inl (cI, 80, .inl ag)), (m4, .inl (cI, 80, .inl fi)), (m5, .inl (cI, 320, .inl re)), (m6, .inl (cZ, 80, .inl mk)), (m7, .inl (cI, 8, .inl mr)), (m8, .inl (cI, 4, .inl mw))] H := hP
    have hD : va_D A [(mo, .inr (5, [.int (nI 1), .int (nI N), .int (nI C), .int (nI L.length), .ref m1, .ref m2, .ref m3, .ref m4, .ref m5, .ref m6, .ref m7, .ref m8])), (m1, .inl (cI, 80, .inl nu)), (m2, .inl (cI, 80, .inl va)), (m3, .inl (cI, 80, .inl ag)), (m4, .inl (cI, 80, .inl fi)), (m5, .inl (cI, 320, .inl re)), (m6, .inl (cZ, 80, .inl mk)), (m7, .inl (cI, 8, .inl mr)), (m8, .inl (cI, 4, .inl mw))] := hD
    refine lv_aload_n hx hb d_Mo_watch_23 rfl (lv_at hl 0 rfl) ?_
    refine va_get (D := D) (ci := 5) (v := .int (nI 1)) (C := R_Mo) (T := F_Mo) (N := 12) hx hb hts i_Mo hown hK hP 0 rfl rfl 0 (by decide) (hts _ k_f_Mo_35) (fun _ h9 => h9) rfl d_Mo_watch_24 ?_
    refine lv_if_ne hx hb d_Mo_watch_27 (tgt := 42) (by decide) (fun _ => ?_) (fun h => absurd h (by decide))
    exact fy_retv hx hb hr hlocks hAe (⟨0, nu, va, ag, fi, re, mk, mr, mw, (fun h => absurd h (by decide)), rfl, hM, rfl⟩) (List.Perm.refl _) hP hS d_Mo_watch_42
set_option maxRecDepth 20000 in
set_option maxHeartbeats 4000000 in
theorem c_Mo_watch_1 (l : Launch) (s0 : State) (D : va_G) (cI cZ cJ cW : ClassId) (hG : fy_G s0 D cI cZ cJ cW) (mo m1 m2 m3 m4 m5 m6 m7 m8 : Nat) (cd : Int32) (i : Nat) (N : Nat) (C : Nat) (L : List Nat) (val : Nat → Int32) (age : Nat → Nat) (nf : Nat → Nat) (rf : Nat → Nat → Option Nat) (reg : Nat → Option Nat) (wk : Nat → Option Nat) (nu va ag fi re mk mr mw : Nat → Int32) (hI : fm_In i N C L age nf rf reg wk) (hM : fm_Mo L val age nf rf reg wk nu va ag fi re mr mw) (w q : Nat) (ans : Int32) (q1 : w < 4) (q2 : q < 8) : fy_Met l s0 D vwCl y_Mo_watch w_Mo_watch (fy_rm 2) 0 0 [.ref mo, .int (nI w), .int (nI q)] [(mo, .inr (5, [.int cd, .int (nI N), .int (nI C), .int (nI L.length), .ref m1, .ref m2, .ref m3, .ref m4, .ref m5, .ref m6, .ref m7, .ref m8])), (m1, .inl (cI, 80, .inl nu)), (m2, .inl (cI, 80, .inl va)), (m3, .inl (cI, 80, .inl ag)), (m4, .inl (cI, 80, .inl fi)), (m5, .inl (cI, 320, .inl re)), (m6, .inl (cZ, 80, .inl mk)), (m7, .inl (cI, 8, .inl mr)), (m8, .inl (cI, 4, .inl mw))] (fun r w1 => mo_post (fun _ => none) mo m1 m2 m3 m4 m5 m6 m7 m8 cI cZ 0 ans N C L val age nf rf reg (va_up wk w (reg q)) r w1) := by
  refine fy_st (bytes := b_Mo_watch) (maxL := 3) (ret := none) hG (by decide) rfl (Nat.le_of_ble_eq_true rfl) ?_
  intro p e s m below meth c A ls hx hb hr hlocks hml hown hts hK hLa hAe hAB hA hl hP hD hS
  have hl : lv_has ls 3 [(0, .ref mo), (1, .int (nI w)), (2, .int (nI q))] := hl
  refine lv_aload_n hx hb d_Mo_watch_0 rfl (lv_at hl 0 rfl) ?_
  refine lv_iload_n hx hb d_Mo_watch_1 rfl (lv_at hl 1 rfl) ?_
  refine fy_callS (As := [.int (nI w)]) (rest := [.ref mo]) ⟨hx, hb, hml, hown, hts⟩ (c_Mo_isWeak l s0 D cI cZ cJ cW hG w q1) (va_cwS 1 hts g_Mo_61 rfl rfl rfl (by decide +kernel) ⟨Nat.le_of_ble_eq_true rfl, Nat.le_of_ble_eq_true rfl⟩) hLa hAB hA hP hD hS [] rfl rfl rfl hl.1 rfl (Nat.le_of_ble_eq_true rfl) d_Mo_watch_2 ⟨Nat.zero_le _, Nat.zero_le _⟩ (fun r w1 H locs hp hP hD hS => ?_)
  obtain ⟨rfl, rfl⟩ := hp
  have hP : va_P D vwCl [(mo, .inr (5, [.int cd, .int (nI N), .int (nI C), .int (nI L.length), .ref m1, .ref m2, .ref m3, .ref m4, .ref m5, .ref m6, .ref m7, .ref m8])), (m1, .inl (cI, 80, .inl nu)), (m2, .inl (cI, 80, .inl va)), (m3, .inl (cI, 80, .inl ag)), (m4, .inl (cI, 80, .inl fi)), (m5, .inl (cI, 320, .inl re)), (m6, .inl (cZ, 80, .inl mk)), (m7, .inl (cI, 8, .inl mr)), (m8, .inl (cI, 4, .inl mw))] H := hP
  have hD : va_D A [(mo, .inr (5, [.int cd, .int (nI N), .int (nI C), .int (nI L.length), .ref m1, .ref m2, .ref m3, .ref m4, .ref m5, .ref m6, .ref m7, .ref m8])), (m1, .inl (cI, 80, .inl nu)), (m2, .inl (cI, 80, .inl va)), (m3, .inl (cI, 80, .inl ag)), (m4, .inl (cI, 80, .inl fi)), (m5, .inl (cI, 320, .inl re)), (m6, .inl (cZ, 80, .inl mk)), (m7, .inl (cI, 8, .inl mr)), (m8, .inl (cI, 4, .inl mw))] := hD
  refine lv_if_eq hx hb d_Mo_watch_5 (tgt := 19) (by decide) (fun h => absurd h (by decide)) (fun _ => ?_)
  refine lv_iload_n hx hb d_Mo_watch_8 rfl (lv_at hl 2 rfl) ?_
  refine fy_callS (As := [.int (nI q)]) (rest := [.ref mo]) ⟨hx, hb, hml, hown, hts⟩ (c_Mo_isRegister l s0 D cI cZ cJ cW hG q q2) (va_cwS 1 hts g_Mo_42 rfl rfl rfl (by decide +kernel) ⟨Nat.le_of_ble_eq_true rfl, Nat.le_of_ble_eq_true rfl⟩) hLa hAB hA hP hD hS [] rfl rfl rfl hl.1 rfl (Nat.le_of_ble_eq_true rfl) d_Mo_watch_9 ⟨Nat.zero_le _, Nat.zero_le _⟩ (fun r w1 H locs hp hP hD hS => ?_)
  obtain ⟨rfl, rfl⟩ := hp
  have hP : va_P D vwCl [(mo, .inr (5, [.int cd, .int (nI N), .int (nI C), .int (nI L.length), .ref m1, .ref m2, .ref m3, .ref m4, .ref m5, .ref m6, .ref m7, .ref m8])), (m1, .inl (cI, 80, .inl nu)), (m2, .inl (cI, 80, .inl va)), (m3, .inl (cI, 80, .inl ag)), (m4, .inl (cI, 80, .inl fi)), (m5, .inl (cI, 320, .inl re)), (m6, .inl (cZ, 80, .inl mk)), (m7, .inl (cI, 8, .inl mr)), (m8, .inl (cI, 4, .inl mw))] H := hP
  have hD : va_D A [(mo, .inr (5, [.int cd, .int (nI N), .int (nI C), .int (nI L.length), .ref m1, .ref m2, .ref m3, .ref m4, .ref m5, .ref m6, .ref m7, .ref m8])), (m1, .inl (cI, 80, .inl nu)), (m2, .inl (cI, 80, .inl va)), (m3, .inl (cI, 80, .inl ag)), (m4, .inl (cI, 80, .inl fi)), (m5, .inl (cI, 320, .inl re)), (m6, .inl (cZ, 80, .inl mk)), (m7, .inl (cI, 8, .inl mr)), (m8, .inl (cI, 4, .inl mw))] := hD
  refine lv_if_eq hx hb d_Mo_watch_12 (tgt := 19) (by decide) (fun h => absurd h (by decide)) (fun _ => ?_)
  refine lv_iconst (v := nI 0) hx hb d_Mo_watch_15 (by decide) ?_
  refine lv_goto hx hb d_Mo_watch_16 (tgt := 20) (by decide) ?_
  refine va_put (D := D) (ci := 5) (v := .int (nI 0)) (ty := .int) (C := R_Mo) (T := F_Mo) (N := 12) hx hb hts i_Mo t_Mo tk_Mo n_Mo hown hK hP hD hS 0 rfl rfl 0 (by decide) (hts _ k_f_Mo_35) (fun _ h9 => h9) rfl (by decide +kernel) rfl rfl (Nat.le_of_ble_eq_true rfl) d_Mo_watch_20 (fun H locs hP hD hS => ?_)
  have hP : va_P D vwCl [(mo, .inr (5, [.int (nI 0), .int (nI N), .int (nI C), .int (nI L.length), .ref m1, .ref m2, .ref m3, .ref m4, .ref m5, .ref m6, .ref m7, .ref m8])), (m1, .inl (cI, 80, .inl nu)), (m2, .inl (cI, 80, .inl va)), (m3, .inl (cI, 80, .inl ag)), (m4, .inl (cI, 80, .inl fi)), (m5, .inl (cI, 320, .inl re)), (m6, .inl (cZ, 80, .inl mk)), (m7, .inl (cI, 8, .inl mr)), (m8, .inl (cI, 4, .inl mw))] H := hP
  have hD : va_D A [(mo, .inr (5, [.int (nI 0), .int (nI N), .int (nI C), .int (nI L.length), .ref m1, .ref m2, .ref m3, .ref m4, .ref m5, .ref m6, .ref m7, .ref m8])), (m1, .inl (cI, 80, .inl nu)), (m2, .inl (cI, 80, .inl va)), (m3, .inl (cI, 80, .inl ag)), (m4, .inl (cI, 80, .inl fi)), (m5, .inl (cI, 320, .inl re)), (m6, .inl (cZ, 80, .inl mk)), (m7, .inl (cI, 8, .inl mr)), (m8, .inl (cI, 4, .inl mw))] := hD
  refine lv_aload_n hx hb d_Mo_watch_23 rfl (lv_at hl 0 rfl) ?_
  refine va_get (D := D) (ci := 5) (v := .int (nI 0)) (C := R_Mo) (T := F_Mo) (N := 12) hx hb hts i_Mo hown hK hP 0 rfl rfl 0 (by decide) (hts _ k_f_Mo_35) (fun _ h9 => h9) rfl d_Mo_watch_24 ?_
  refine lv_if_ne hx hb d_Mo_watch_27 (tgt := 42) (by decide) (fun h => absurd (rfl) h) (fun _ => ?_)
  refine lv_aload_n hx hb d_Mo_watch_30 rfl (lv_at hl 0 rfl) ?_
  refine va_get (D := D) (ci := 5) (v := .ref m8) (C := R_Mo) (T := F_Mo) (N := 12) hx hb hts i_Mo hown hK hP 0 rfl rfl 11 (by decide) (hts _ k_f_Mo_32) (fun _ h9 => h9) rfl d_Mo_watch_31 ?_
  refine lv_iload_n hx hb d_Mo_watch_34 rfl (lv_at hl 1 rfl) ?_
  refine lv_aload_n hx hb d_Mo_watch_35 rfl (lv_at hl 0 rfl) ?_
  refine va_get (D := D) (ci := 5) (v := .ref m7) (C := R_Mo) (T := F_Mo) (N := 12) hx hb hts i_Mo hown hK hP 0 rfl rfl 10 (by decide) (hts _ k_f_Mo_29) (fun _ h9 => h9) rfl d_Mo_watch_36 ?_
  refine lv_iload_n hx hb d_Mo_watch_39 rfl (lv_at hl 2 rfl) ?_
  refine fy_iald (t0 := 0) (v := mr q) hx hb hK hP 7 rfl rfl (by omega) (by omega) (rfl) d_Mo_watch_40 ?_
  refine fy_iast (t0 := 0) (g := upd mw w (mr q)) hx hb hK hP hD hS 8 rfl rfl (by omega) (by omega) (rfl) d_Mo_watch_41 (fun H locs hP hD hS => ?_)
  have hP : va_P D vwCl [(mo, .inr (5, [.int (nI 0), .int (nI N), .int (nI C), .int (nI L.length), .ref m1, .ref m2, .ref m3, .ref m4, .ref m5, .ref m6, .ref m7, .ref m8])), (m1, .inl (cI, 80, .inl nu)), (m2, .inl (cI, 80, .inl va)), (m3, .inl (cI, 80, .inl ag)), (m4, .inl (cI, 80, .inl fi)), (m5, .inl (cI, 320, .inl re)), (m6, .inl (cZ, 80, .inl mk)), (m7, .inl (cI, 8, .inl mr)), (m8, .inl (cI, 4, .inl (upd mw w (mr q))))] H := hP
  have hD : va_D A [(mo, .inr (5, [.int (nI 0), .int (nI N), .int (nI C), .int (nI L.length), .ref m1, .ref m2, .ref m3, .ref m4, .ref m5, .ref m6, .ref m7, .ref m8])), (m1, .inl (cI, 80, .inl nu)), (m2, .inl (cI, 80, .inl va)), (m3, .inl (cI, 80, .inl ag)), (m4, .inl (cI, 80, .inl fi)), (m5, .inl (cI, 320, .inl re)), (m6, .inl (cZ, 80, .inl mk)), (m7, .inl (cI, 8, .inl mr)), (m8, .inl (cI, 4, .inl (upd mw w (mr q))))] := hD
  exact fy_retv hx hb hr hlocks hAe (⟨ans, nu, va, ag, fi, re, mk, mr, upd mw w (mr q), (fun _ => rfl), rfl, hM.toW (hM.2.1 q q2), rfl⟩) (List.Perm.refl _) hP hS d_Mo_watch_42
set_option maxRecDepth 20000 in
set_option maxHeartbeats 4000000 in
theorem c_Mo_revive_0 (l : Launch) (s0 : State) (D : va_G) (cI cZ cJ cW : ClassId) (hG : fy_G s0 D cI cZ cJ cW) (mo m1 m2 m3 m4 m5 m6 m7 m8 : Nat) (cd : Int32) (i : Nat) (N : Nat) (C : Nat) (L : List Nat) (val : Nat → Int32) (age : Nat → Nat) (nf : Nat → Nat) (rf : Nat → Nat → Option Nat) (reg : Nat → Option Nat) (wk : Nat → Option Nat) (nu va ag fi re mk mr mw : Nat → Int32) (hI : fm_In i N C L age nf rf reg wk) (hM : fm_Mo L val age nf rf reg wk nu va ag fi re mr mw) (a1 a2 : Int32) (ans : Int32) (q1 : ¬ fy_ok 4 a1 ∨ ¬ fy_ok 8 a2) : fy_Met l s0 D vwCl y_Mo_revive w_Mo_revive (fy_rm 2) 0 0 [.ref mo, .int a1, .int a2] [(mo, .inr (5, [.int cd, .int (nI N), .int (nI C), .int (nI L.length), .ref m1, .ref m2, .ref m3, .ref m4, .ref m5, .ref m6, .ref m7, .ref m8])), (m1, .inl (cI, 80, .inl nu)), (m2, .inl (cI, 80, .inl va)), (m3, .inl (cI, 80, .inl ag)), (m4, .inl (cI, 80, .inl fi)), (m5, .inl (cI, 320, .inl re)), (m6, .inl (cZ, 80, .inl mk)), (m7, .inl (cI, 8, .inl mr)), (m8, .inl (cI, 4, .inl mw))] (fun r w1 => mo_post (fun _ => none) mo m1 m2 m3 m4 m5 m6 m7 m8 cI cZ 1 ans N C L val age nf rf reg wk r w1) := by
  refine fy_st (bytes := b_Mo_revive) (maxL := 3) (ret := none) hG (by decide) rfl (Nat.le_of_ble_eq_true rfl) ?_
  intro p e s m below meth c A ls hx hb hr hlocks hml hown hts hK hLa hAe hAB hA hl hP hD hS
  have hl : lv_has ls 3 [(0, .ref mo), (1, .int a1), (2, .int a2)] := hl
  refine lv_aload_n hx hb d_Mo_revive_0 rfl (lv_at hl 0 rfl) ?_
  refine lv_iload_n hx hb d_Mo_revive_1 rfl (lv_at hl 1 rfl) ?_
  by_cases hr9 : fy_ok 4 a1
  · obtain ⟨k, hk, rfl⟩ := hr9.nat (by omega)
    refine fy_callS (As := [.int (nI k)]) (rest := [.ref mo]) ⟨hx, hb, hml, hown, hts⟩ (c_Mo_isWeak l s0 D cI cZ cJ cW hG k hk) (va_cwS 1 hts g_Mo_61 rfl rfl rfl (by decide +kernel) ⟨Nat.le_of_ble_eq_true rfl, Nat.le_of_ble_eq_true rfl⟩) hLa hAB hA hP hD hS [] rfl rfl rfl hl.1 rfl (Nat.le_of_ble_eq_true rfl) d_Mo_revive_2 ⟨Nat.zero_le _, Nat.zero_le _⟩ (fun r w1 H locs hp hP hD hS => ?_)
    obtain ⟨rfl, rfl⟩ := hp
    have hP : va_P D vwCl [(mo, .inr (5, [.int cd, .int (nI N), .int (nI C), .int (nI L.length), .ref m1, .ref m2, .ref m3, .ref m4, .ref m5, .ref m6, .ref m7, .ref m8])), (m1, .inl (cI, 80, .inl nu)), (m2, .inl (cI, 80, .inl va)), (m3, .inl (cI, 80, .inl ag)), (m4, .inl (cI, 80, .inl fi)), (m5, .inl (cI, 320, .inl re)), (m6, .inl (cZ, 80, .inl mk)), (m7, .inl (cI, 8, .inl mr)), (m8, .inl (cI, 4, .inl mw))] H := hP
    have hD : va_D A [(mo, .inr (5, [.int cd, .int (nI N), .int (nI C), .int (nI L.length), .ref m1, .ref m2, .ref m3, .ref m4, .ref m5, .ref m6, .ref m7, .ref m8])), (m1, .inl (cI, 80, .inl nu)), (m2, .inl (cI, 80, .inl va)), (m3, .inl (cI, 80, .inl ag)), (m4, .inl (cI, 80, .inl fi)), (m5, .inl (cI, 320, .inl re)), (m6, .inl (cZ, 80, .inl mk)), (m7, .inl (cI, 8, .inl mr)), (m8, .inl (cI, 4, .inl mw))] := hD
    refine lv_if_eq hx hb d_Mo_revive_5 (tgt := 19) (by decide) (fun h => absurd h (by decide)) (fun _ => ?_)
    refine lv_iload_n hx hb d_Mo_revive_8 rfl (lv_at hl 2 rfl) ?_
    refine fy_callS (As := [.int a2]) (rest := [.ref mo]) ⟨hx, hb, hml, hown, hts⟩ (c_Mo_isRegister0 l s0 D cI cZ cJ cW hG a2 (q1.resolve_left (fun h => h hr9))) (va_cwS 1 hts g_Mo_42 rfl rfl rfl (by decide +kernel) ⟨Nat.le_of_ble_eq_true rfl, Nat.le_of_ble_eq_true rfl⟩) hLa hAB hA hP hD hS [] rfl rfl rfl hl.1 rfl (Nat.le_of_ble_eq_true rfl) d_Mo_revive_9 ⟨Nat.zero_le _, Nat.zero_le _⟩ (fun r w1 H locs hp hP hD hS => ?_)
    obtain ⟨rfl, rfl⟩ := hp
    have hP : va_P D vwCl [(mo, .inr (5, [.int cd, .int (nI N), .int (nI C), .int (nI L.length), .ref m1, .ref m2, .ref m3, .ref m4, .ref m5, .ref m6, .ref m7, .ref m8])), (m1, .inl (cI, 80, .inl nu)), (m2, .inl (cI, 80, .inl va)), (m3, .inl (cI, 80, .inl ag)), (m4, .inl (cI, 80, .inl fi)), (m5, .inl (cI, 320, .inl re)), (m6, .inl (cZ, 80, .inl mk)), (m7, .inl (cI, 8, .inl mr)), (m8, .inl (cI, 4, .inl mw))] H := hP
    have hD : va_D A [(mo, .inr (5, [.int cd, .int (nI N), .int (nI C), .int (nI L.length), .ref m1, .ref m2, .ref m3, .ref m4, .ref m5, .ref m6, .ref m7, .ref m8])), (m1, .inl (cI, 80, .inl nu)), (m2, .inl (cI, 80, .inl va)), (m3, .inl (cI, 80, .inl ag)), (m4, .inl (cI, 80, .inl fi)), (m5, .inl (cI, 320, .inl re)), (m6, .inl (cZ, 80, .inl mk)), (m7, .inl (cI, 8, .inl mr)), (m8, .inl (cI, 4, .inl mw))] := hD
    refine lv_if_eq hx hb d_Mo_revive_12 (tgt := 19) (by decide) (fun _ => ?_) (fun h => absurd (rfl) h)
    refine lv_iconst (v := nI 1) hx hb d_Mo_revive_19 (by decide) ?_
    refine va_put (D := D) (ci := 5) (v := .int (nI 1)) (ty := .int) (C := R_Mo) (T := F_Mo) (N := 12) hx hb hts i_Mo t_Mo tk_Mo n_Mo hown hK hP hD hS 0 rfl rfl 0 (by decide) (hts _ k_f_Mo_35) (fun _ h9 => h9) rfl (by decide +kernel) rfl rfl (Nat.le_of_ble_eq_true rfl) d_Mo_revive_20 (fun H locs hP hD hS => ?_)
    have hP : va_P D vwCl [(mo, .inr (5, [.int (nI 1), .int (nI N), .int (nI C), .int (nI L.length), .ref m1, .ref m2, .ref m3, .ref m4, .ref m5, .ref m6, .ref m7, .ref m8])), (m1, .inl (cI, 80, .inl nu)), (m2, .inl (cI, 80, .inl va)), (m3, .inl (cI, 80, .inl ag)), (m4, .inl (cI, 80, .inl fi)), (m5, .inl (cI, 320, .inl re)), (m6, .inl (cZ, 80, .inl mk)), (m7, .inl (cI, 8, .inl mr)), (m8, .inl (cI, 4, .inl mw))] H := hP
    have hD : va_D A [(mo, .inr (5, [.int (nI 1), .int (nI N), .int (nI C), .int (nI L.length), .ref m1, .ref m2, .ref m3, .ref m4, .ref m5, .ref m6, .ref m7, .ref m8])), (m1, .inl (cI, 80, .inl nu)), (m2, .inl (cI, 80, .inl va)), (m3, .inl (cI, 80, .inl ag)), (m4, .inl (cI, 80, .inl fi)), (m5, .inl (cI, 320, .inl re)), (m6, .inl (cZ, 80, .inl mk)), (m7, .inl (cI, 8, .inl mr)), (m8, .inl (cI, 4, .inl mw))] := hD
    refine lv_aload_n hx hb d_Mo_revive_23 rfl (lv_at hl 0 rfl) ?_
    refine va_get (D := D) (ci := 5) (v := .int (nI 1)) (C := R_Mo) (T := F_Mo) (N := 12) hx hb hts i_Mo hown hK hP 0 rfl rfl 0 (by decide) (hts _ k_f_Mo_35) (fun _ h9 => h9) rfl d_Mo_revive_24 ?_
    refine lv_if_ne hx hb d_Mo_revive_27 (tgt := 42) (by decide) (fun _ => ?_) (fun h => absurd h (by decide))
    exact fy_retv hx hb hr hlocks hAe (⟨0, nu, va, ag, fi, re, mk, mr, mw, (fun h => absurd h (by decide)), rfl, hM, rfl⟩) (List.Perm.refl _) hP hS d_Mo_revive_42
  · refine fy_callS (As := [.int a1]) (rest := [.ref mo]) ⟨hx, hb, hml, hown, hts⟩ (c_Mo_isWeak0 l s0 D cI cZ cJ cW hG a1 (hr9)) (va_cwS 1 hts g_Mo_61 rfl rfl rfl (by decide +kernel) ⟨Nat.le_of_ble_eq_true rfl, Nat.le_of_ble_eq_true rfl⟩) hLa hAB hA hP hD hS [] rfl rfl rfl hl.1 rfl (Nat.le_of_ble_eq_true rfl) d_Mo_revive_2 ⟨Nat.zero_le _, Nat.zero_le _⟩ (fun r w1 H locs hp hP hD hS => ?_)
    obtain ⟨rfl, rfl⟩ := hp
    have hP : va_P D vwCl [(mo, .inr (5, [.int cd, .int (nI N), .int (nI C), .int (nI L.length), .ref m1, .ref m2, .ref m3, .ref m4, .ref m5, .ref m6, .ref m7, .ref m8])), (m1, .inl (cI, 80, .inl nu)), (m2, .inl (cI, 80, .inl va)), (m3, .inl (cI, 80, .inl ag)), (m4, .inl (cI, 80, .inl fi)), (m5, .inl (cI, 320, .inl re)), (m6, .inl (cZ, 80, .inl mk)), (m7, .inl (cI, 8, .inl mr)), (m8, .inl (cI, 4, .inl mw))] H := hP
    have hD : va_D A [(mo, .inr (5, [.int cd, .int (nI N), .int (nI C), .int (nI L.length), .ref m1, .ref m2, .ref m3, .ref m4, .ref m5, .ref m6, .ref m7, .ref m8])), (m1, .inl (cI, 80, .inl nu)), (m2, .inl (cI, 80, .inl va)), (m3, .inl (cI, 80, .inl ag)), (m4, .inl (cI, 80, .inl fi)), (m5, .inl (cI, 320, .inl re)), (m6, .inl (cZ, 80, .inl mk)), (m7, .inl (cI, 8, .inl mr)), (m8, .inl (cI, 4, .inl mw))] := hD
    refine lv_if_eq hx hb d_Mo_revive_5 (tgt := 19) (by decide) (fun _ => ?_) (fun h => absurd (rfl) h)
    refine lv_iconst (v := nI 1) hx hb d_Mo_revive_19 (by decide) ?_
    refine va_put (D := D) (ci := 5) (v := .int (nI 1)) (ty := .int) (C := R_Mo) (T := F_Mo) (N := 12) hx hb hts i_Mo t_Mo tk_Mo n_Mo hown hK hP hD hS 0 rfl rfl 0 (by decide) (hts _ k_f_Mo_35) (fun _ h9 => h9) rfl (by decide +kernel) rfl rfl (Nat.le_of_ble_eq_true rfl) d_Mo_revive_20 (fun H locs hP hD hS => ?_)
    have hP : va_P D vwCl [(mo, .inr (5, [.int (nI 1), .int (nI N), .int (nI C), .int (nI L.length), .ref m1, .ref m2, .ref m3, .ref m4, .ref m5, .ref m6, .ref m7, .ref m8])), (m1, .inl (cI, 80, .inl nu)), (m2, .inl (cI, 80, .inl va)), (m3, .inl (cI, 80, .inl ag)), (m4, .inl (cI, 80, .inl fi)), (m5, .inl (cI, 320, .inl re)), (m6, .inl (cZ, 80, .inl mk)), (m7, .inl (cI, 8, .inl mr)), (m8, .inl (cI, 4, .inl mw))] H := hP
    have hD : va_D A [(mo, .inr (5, [.int (nI 1), .int (nI N), .int (nI C), .int (nI L.length), .ref m1, .ref m2, .ref m3, .ref m4, .ref m5, .ref m6, .ref m7, .ref m8])), (m1, .inl (cI, 80, .inl nu)), (m2, .inl (cI, 80, .inl va)), (m3, .inl (cI, 80, .inl ag)), (m4, .inl (cI, 80, .inl fi)), (m5, .inl (cI, 320, .inl re)), (m6, .inl (cZ, 80, .inl mk)), (m7, .inl (cI, 8, .inl mr)), (m8, .inl (cI, 4, .inl mw))] := hD
    refine lv_aload_n hx hb d_Mo_revive_23 rfl (lv_at hl 0 rfl) ?_
    refine va_get (D := D) (ci := 5) (v := .int (nI 1)) (C := R_Mo) (T := F_Mo) (N := 12) hx hb hts i_Mo hown hK hP 0 rfl rfl 0 (by decide) (hts _ k_f_Mo_35) (fun _ h9 => h9) rfl d_Mo_revive_24 ?_
    refine lv_if_ne hx hb d_Mo_revive_27 (tgt := 42) (by decide) (fun _ => ?_) (fun h => absurd h (by decide))
    exact fy_retv hx hb hr hlocks hAe (⟨0, nu, va, ag, fi, re, mk, mr, mw, (fun h => absurd h (by decide)), rfl, hM, rfl⟩) (List.Perm.refl _) hP hS d_Mo_revive_42
set_option maxRecDepth 20000 in
set_option maxHeartbeats 4000000 in
theorem c_Mo_revive_1 (l : Launch) (s0 : State) (D : va_G) (cI cZ cJ cW : ClassId) (hG : fy_G s0 D cI cZ cJ cW) (mo m1 m2 m3 m4 m5 m6 m7 m8 : Nat) (cd : Int32) (i : Nat) (N : Nat) (C : Nat) (L : List Nat) (val : Nat → Int32) (age : Nat → Nat) (nf : Nat → Nat) (rf : Nat → Nat → Option Nat) (reg : Nat → Option Nat) (wk : Nat → Option Nat) (nu va ag fi re mk mr mw : Nat → Int32) (hI : fm_In i N C L age nf rf reg wk) (hM : fm_Mo L val age nf rf reg wk nu va ag fi re mr mw) (w q : Nat) (ans : Int32) (q1 : w < 4) (q2 : q < 8) : fy_Met l s0 D vwCl y_Mo_revive w_Mo_revive (fy_rm 2) 0 0 [.ref mo, .int (nI w), .int (nI q)] [(mo, .inr (5, [.int cd, .int (nI N), .int (nI C), .int (nI L.length), .ref m1, .ref m2, .ref m3, .ref m4, .ref m5, .ref m6, .ref m7, .ref m8])), (m1, .inl (cI, 80, .inl nu)), (m2, .inl (cI, 80, .inl va)), (m3, .inl (cI, 80, .inl ag)), (m4, .inl (cI, 80, .inl fi)), (m5, .inl (cI, 320, .inl re)), (m6, .inl (cZ, 80, .inl mk)), (m7, .inl (cI, 8, .inl mr)), (m8, .inl (cI, 4, .inl mw))] (fun r w1 => mo_post (fun _ => none) mo m1 m2 m3 m4 m5 m6 m7 m8 cI cZ 0 ans N C L val age nf rf (va_up reg q (wk w)) wk r w1) := by
  refine fy_st (bytes := b_Mo_revive) (maxL := 3) (ret := none) hG (by decide) rfl (Nat.le_of_ble_eq_true rfl) ?_
  intro p e s m below meth c A ls hx hb hr hlocks hml hown hts hK hLa hAe hAB hA hl hP hD hS
  have hl : lv_has ls 3 [(0, .ref mo), (1, .int (nI w)), (2, .int (nI q))] := hl
  refine lv_aload_n hx hb d_Mo_revive_0 rfl (lv_at hl 0 rfl) ?_
  refine lv_iload_n hx hb d_Mo_revive_1 rfl (lv_at hl 1 rfl) ?_
  refine fy_callS (As := [.int (nI w)]) (rest := [.ref mo]) ⟨hx, hb, hml, hown, hts⟩ (c_Mo_isWeak l s0 D cI cZ cJ cW hG w q1) (va_cwS 1 hts g_Mo_61 rfl rfl rfl (by decide +kernel) ⟨Nat.le_of_ble_eq_true rfl, Nat.le_of_ble_eq_true rfl⟩) hLa hAB hA hP hD hS [] rfl rfl rfl hl.1 rfl (Nat.le_of_ble_eq_true rfl) d_Mo_revive_2 ⟨Nat.zero_le _, Nat.zero_le _⟩ (fun r w1 H locs hp hP hD hS => ?_)
  obtain ⟨rfl, rfl⟩ := hp
  have hP : va_P D vwCl [(mo, .inr (5, [.int cd, .int (nI N), .int (nI C), .int (nI L.length), .ref m1, .ref m2, .ref m3, .ref m4, .ref m5, .ref m6, .ref m7, .ref m8])), (m1, .inl (cI, 80, .inl nu)), (m2, .inl (cI, 80, .inl va)), (m3, .inl (cI, 80, .inl ag)), (m4, .inl (cI, 80, .inl fi)), (m5, .inl (cI, 320, .inl re)), (m6, .inl (cZ, 80, .inl mk)), (m7, .inl (cI, 8, .inl mr)), (m8, .inl (cI, 4, .inl mw))] H := hP
  have hD : va_D A [(mo, .inr (5, [.int cd, .int (nI N), .int (nI C), .int (nI L.length), .ref m1, .ref m2, .ref m3, .ref m4, .ref m5, .ref m6, .ref m7, .ref m8])), (m1, .inl (cI, 80, .inl nu)), (m2, .inl (cI, 80, .inl va)), (m3, .inl (cI, 80, .inl ag)), (m4, .inl (cI, 80, .inl fi)), (m5, .inl (cI, 320, .inl re)), (m6, .inl (cZ, 80, .inl mk)), (m7, .inl (cI, 8, .inl mr)), (m8, .inl (cI, 4, .inl mw))] := hD
  refine lv_if_eq hx hb d_Mo_revive_5 (tgt := 19) (by decide) (fun h => absurd h (by decide)) (fun _ => ?_)
  refine lv_iload_n hx hb d_Mo_revive_8 rfl (lv_at hl 2 rfl) ?_
  refine fy_callS (As := [.int (nI q)]) (rest := [.ref mo]) ⟨hx, hb, hml, hown, hts⟩ (c_Mo_isRegister l s0 D cI cZ cJ cW hG q q2) (va_cwS 1 hts g_Mo_42 rfl rfl rfl (by decide +kernel) ⟨Nat.le_of_ble_eq_true rfl, Nat.le_of_ble_eq_true rfl⟩) hLa hAB hA hP hD hS [] rfl rfl rfl hl.1 rfl (Nat.le_of_ble_eq_true rfl) d_Mo_revive_9 ⟨Nat.zero_le _, Nat.zero_le _⟩ (fun r w1 H locs hp hP hD hS => ?_)
  obtain ⟨rfl, rfl⟩ := hp
  have hP : va_P D vwCl [(mo, .inr (5, [.int cd, .int (nI N), .int (nI C), .int (nI L.length), .ref m1, .ref m2, .ref m3, .ref m4, .ref m5, .ref m6, .ref m7, .ref m8])), (m1, .inl (cI, 80, .inl nu)), (m2, .inl (cI, 80, .inl va)), (m3, .inl (cI, 80, .inl ag)), (m4, .inl (cI, 80, .inl fi)), (m5, .inl (cI, 320, .inl re)), (m6, .inl (cZ, 80, .inl mk)), (m7, .inl (cI, 8, .inl mr)), (m8, .inl (cI, 4, .inl mw))] H := hP
  have hD : va_D A [(mo, .inr (5, [.int cd, .int (nI N), .int (nI C), .int (nI L.length), .ref m1, .ref m2, .ref m3, .ref m4, .ref m5, .ref m6, .ref m7, .ref m8])), (m1, .inl (cI, 80, .inl nu)), (m2, .inl (cI, 80, .inl va)), (m3, .inl (cI, 80, .inl ag)), (m4, .inl (cI, 80, .inl fi)), (m5, .inl (cI, 320, .inl re)), (m6, .inl (cZ, 80, .inl mk)), (m7, .inl (cI, 8, .inl mr)), (m8, .inl (cI, 4, .inl mw))] := hD
  refine lv_if_eq hx hb d_Mo_revive_12 (tgt := 19) (by decide) (fun h => absurd h (by decide)) (fun _ => ?_)
  refine lv_iconst (v := nI 0) hx hb d_Mo_revive_15 (by decide) ?_
  refine lv_goto hx hb d_Mo_revive_16 (tgt := 20) (by decide) ?_
  refine va_put (D := D) (ci := 5) (v := .int (nI 0)) (ty := .int) (C := R_Mo) (T := F_Mo) (N := 12) hx hb hts i_Mo t_Mo tk_Mo n_Mo hown hK hP hD hS 0 rfl rfl 0 (by decide) (hts _ k_f_Mo_35) (fun _ h9 => h9) rfl (by decide +kernel) rfl rfl (Nat.le_of_ble_eq_true rfl) d_Mo_revive_20 (fun H locs hP hD hS => ?_)
  have hP : va_P D vwCl [(mo, .inr (5, [.int (nI 0), .int (nI N), .int (nI C), .int (nI L.length), .ref m1, .ref m2, .ref m3, .ref m4, .ref m5, .ref m6, .ref m7, .ref m8])), (m1, .inl (cI, 80, .inl nu)), (m2, .inl (cI, 80, .inl va)), (m3, .inl (cI, 80, .inl ag)), (m4, .inl (cI, 80, .inl fi)), (m5, .inl (cI, 320, .inl re)), (m6, .inl (cZ, 80, .inl mk)), (m7, .inl (cI, 8, .inl mr)), (m8, .inl (cI, 4, .inl mw))] H := hP
  have hD : va_D A [(mo, .inr (5, [.int (nI 0), .int (nI N), .int (nI C), .int (nI L.length), .ref m1, .ref m2, .ref m3, .ref m4, .ref m5, .ref m6, .ref m7, .ref m8])), (m1, .inl (cI, 80, .inl nu)), (m2, .inl (cI, 80, .inl va)), (m3, .inl (cI, 80, .inl ag)), (m4, .inl (cI, 80, .inl fi)), (m5, .inl (cI, 320, .inl re)), (m6, .inl (cZ, 80, .inl mk)), (m7, .inl (cI, 8, .inl mr)), (m8, .inl (cI, 4, .inl mw))] := hD
  refine lv_aload_n hx hb d_Mo_revive_23 rfl (lv_at hl 0 rfl) ?_
  refine va_get (D := D) (ci := 5) (v := .int (nI 0)) (C := R_Mo) (T := F_Mo) (N := 12) hx hb hts i_Mo hown hK hP 0 rfl rfl 0 (by decide) (hts _ k_f_Mo_35) (fun _ h9 => h9) rfl d_Mo_revive_24 ?_
  refine lv_if_ne hx hb d_Mo_revive_27 (tgt := 42) (by decide) (fun h => absurd (rfl) h) (fun _ => ?_)
  refine lv_aload_n hx hb d_Mo_revive_30 rfl (lv_at hl 0 rfl) ?_
  refine va_get (D := D) (ci := 5) (v := .ref m7) (C := R_Mo) (T := F_Mo) (N := 12) hx hb hts i_Mo hown hK hP 0 rfl rfl 10 (by decide) (hts _ k_f_Mo_29) (fun _ h9 => h9) rfl d_Mo_revive_31 ?_
  refine lv_iload_n hx hb d_Mo_revive_34 rfl (lv_at hl 2 rfl) ?_
  refine lv_aload_n hx hb d_Mo_revive_35 rfl (lv_at hl 0 rfl) ?_
  refine va_get (D := D) (ci := 5) (v := .ref m8) (C := R_Mo) (T := F_Mo) (N := 12) hx hb hts i_Mo hown hK hP 0 rfl rfl 11 (by decide) (hts _ k_f_Mo_32) (fun _ h9 => h9) rfl d_Mo_revive_36 ?_
  refine lv_iload_n hx hb d_Mo_revive_39 rfl (lv_at hl 1 rfl) ?_
  refine fy_iald (t0 := 0) (v := mw w) hx hb hK hP 8 rfl rfl (by omega) (by omega) (rfl) d_Mo_revive_40 ?_
  refine fy_iast (t0 := 0) (g := upd mr q (mw w)) hx hb hK hP hD hS 7 rfl rfl (by omega) (by omega) (rfl) d_Mo_revive_41 (fun H locs hP hD hS => ?_)
  have hP : va_P D vwCl [(mo, .inr (5, [.int (nI 0), .int (nI N), .int (nI C), .int (nI L.length), .ref m1, .ref m2, .ref m3, .ref m4, .ref m5, .ref m6, .ref m7, .ref m8])), (m1, .inl (cI, 80, .inl nu)), (m2, .inl (cI, 80, .inl va)), (m3, .inl (cI, 80, .inl ag)), (m4, .inl (cI, 80, .inl fi)), (m5, .inl (cI, 320, .inl re)), (m6, .inl (cZ, 80, .inl mk)), (m7, .inl (cI, 8, .inl (upd mr q (mw w)))), (m8, .inl (cI, 4, .inl mw))] H := hP
  have hD : va_D A [(mo, .inr (5, [.int (nI 0), .int (nI N), .int (nI C), .int (nI L.length), .ref m1, .ref m2, .ref m3, .ref m4, .ref m5, .ref m6, .ref m7, .ref m8])), (m1, .inl (cI, 80, .inl nu)), (m2, .inl (cI, 80, .inl va)), (m3, .inl (cI, 80, .inl ag)), (m4, .inl (cI, 80, .inl fi)), (m5, .inl (cI, 320, .inl re)), (m6, .inl (cZ, 80, .inl mk)), (m7, .inl (cI, 8, .inl (upd mr q (mw w)))), (m8, .inl (cI, 4, .inl mw))] := hD
  exact fy_retv hx hb hr hlocks hAe (⟨ans, nu, va, ag, fi, re, mk, upd mr q (mw w), mw, (fun _ => rfl), rfl, hM.toR (hM.2.2 w q1), rfl⟩) (List.Perm.refl _) hP hS d_Mo_revive_42
set_option maxRecDepth 20000 in
set_option maxHeartbeats 4000000 in
theorem c_Mo_same_0 (l : Launch) (s0 : State) (D : va_G) (cI cZ cJ cW : ClassId) (hG : fy_G s0 D cI cZ cJ cW) (mo m1 m2 m3 m4 m5 m6 m7 m8 : Nat) (cd : Int32) (i : Nat) (N : Nat) (C : Nat) (L : List Nat) (val : Nat → Int32) (age : Nat → Nat) (nf : Nat → Nat) (rf : Nat → Nat → Option Nat) (reg : Nat → Option Nat) (wk : Nat → Option Nat) (nu va ag fi re mk mr mw : Nat → Int32) (hI : fm_In i N C L age nf rf reg wk) (hM : fm_Mo L val age nf rf reg wk nu va ag fi re mr mw) (a1 a2 : Int32) (ans : Int32) (q1 : ¬ fy_ok 8 a1 ∨ ¬ fy_ok 8 a2) : fy_Met l s0 D vwCl y_Mo_same w_Mo_same (fy_rm 2) 0 0 [.ref mo, .int a1, .int a2] [(mo, .inr (5, [.int cd, .int (nI N), .int (nI C), .int (nI L.length), .ref m1, .ref m2, .ref m3, .ref m4, .ref m5, .ref m6, .ref m7, .ref m8])), (m1, .inl (cI, 80, .inl nu)), (m2, .inl (cI, 80, .inl va)), (m3, .inl (cI, 80, .inl ag)), (m4, .inl (cI, 80, .inl fi)), (m5, .inl (cI, 320, .inl re)), (m6, .inl (cZ, 80, .inl mk)), (m7, .inl (cI, 8, .inl mr)), (m8, .inl (cI, 4, .inl mw))] (fun r w1 => mo_post (fun b => some (.int b)) mo m1 m2 m3 m4 m5 m6 m7 m8 cI cZ 1 ans N C L val age nf rf reg wk r w1) := by
  refine fy_st (bytes := b_Mo_same) (maxL := 3) (ret := some .boolean) hG (by decide) rfl (Nat.le_of_ble_eq_true rfl) ?_
  intro p e s m below meth c A ls hx hb hr hlocks hml hown hts hK hLa hAe hAB hA hl hP hD hS
  have hl : lv_has ls 3 [(0, .ref mo), (1, .int a1), (2, .int a2)] := hl
  refine lv_aload_n hx hb d_Mo_same_0 rfl (lv_at hl 0 rfl) ?_
  refine lv_iload_n hx hb d_Mo_same_1 rfl (lv_at hl 1 rfl) ?_
  by_cases hr9 : fy_ok 8 a1
  · obtain ⟨k, hk, rfl⟩ := hr9.nat (by omega)
    refine fy_callS (As := [.int (nI k)]) (rest := [.ref mo]) ⟨hx, hb, hml, hown, hts⟩ (c_Mo_isRegister l s0 D cI cZ cJ cW hG k hk) (va_cwS 1 hts g_Mo_42 rfl rfl rfl (by decide +kernel) ⟨Nat.le_of_ble_eq_true rfl, Nat.le_of_ble_eq_true rfl⟩) hLa hAB hA hP hD hS [] rfl rfl rfl hl.1 rfl (Nat.le_of_ble_eq_true rfl) d_Mo_same_2 ⟨Nat.zero_le _, Nat.zero_le _⟩ (fun r w1 H locs hp hP hD hS => ?_)
    obtain ⟨rfl, rfl⟩ := hp
    have hP : va_P D vwCl [(mo, .inr (5, [.int cd, .int (nI N), .int (nI C), .int (nI L.length), .ref m1, .ref m2, .ref m3, .ref m4, .ref m5, .ref m6, .ref m7, .ref m8])), (m1, .inl (cI, 80, .inl nu)), (m2, .inl (cI, 80, .inl va)), (m3, .inl (cI, 80, .inl ag)), (m4, .inl (cI, 80, .inl fi)), (m5, .inl (cI, 320, .inl re)), (m6, .inl (cZ, 80, .inl mk)), (m7, .inl (cI, 8, .inl mr)), (m8, .inl (cI, 4, .inl mw))] H := hP
    have hD : va_D A [(mo, .inr (5, [.int cd, .int (nI N), .int (nI C), .int (nI L.length), .ref m1, .ref m2, .ref m3, .ref m4, .ref m5, .ref m6, .ref m7, .ref m8])), (m1, .inl (cI, 80, .inl nu)), (m2, .inl (cI, 80, .inl va)), (m3, .inl (cI, 80, .inl ag)), (m4, .inl (cI, 80, .inl fi)), (m5, .inl (cI, 320, .inl re)), (m6, .inl (cZ, 80, .inl mk)), (m7, .inl (cI, 8, .inl mr)), (m8, .inl (cI, 4, .inl mw))] := hD
    refine lv_if_eq hx hb d_Mo_same_5 (tgt := 19) (by decide) (fun h => absurd h (by decide)) (fun _ => ?_)
    refine lv_iload_n hx hb d_Mo_same_8 rfl (lv_at hl 2 rfl) ?_
    refine fy_callS (As := [.int a2]) (rest := [.ref mo]) ⟨hx, hb, hml, hown, hts⟩ (c_Mo_isRegister0 l s0 D cI cZ cJ cW hG a2 (q1.resolve_left (fun h => h hr9))) (va_cwS 1 hts g_Mo_42 rfl rfl rfl (by decide +kernel) ⟨Nat.le_of_ble_eq_true rfl, Nat.le_of_ble_eq_true rfl⟩) hLa hAB hA hP hD hS [] rfl rfl rfl hl.1 rfl (Nat.le_of_ble_eq_true rfl) d_Mo_same_9 ⟨Nat.zero_le _, Nat.zero_le _⟩ (fun r w1 H locs hp hP hD hS => ?_)
    obtain ⟨rfl, rfl⟩ := hp
    have hP : va_P D vwCl [(mo, .inr (5, [.int cd, .int (nI N), .int (nI C), .int (nI L.length), .ref m1, .ref m2, .ref m3, .ref m4, .ref m5, .ref m6, .ref m7, .ref m8])), (m1, .inl (cI, 80, .inl nu)), (m2, .inl (cI, 80, .inl va)), (m3, .inl (cI, 80, .inl ag)), (m4, .inl (cI, 80, .inl fi)), (m5, .inl (cI, 320, .inl re)), (m6, .inl (cZ, 80, .inl mk)), (m7, .inl (cI, 8, .inl mr)), (m8, .inl (cI, 4, .inl mw))] H := hP
    have hD : va_D A [(mo, .inr (5, [.int cd, .int (nI N), .int (nI C), .int (nI L.length), .ref m1, .ref m2, .ref m3, .ref m4, .ref m5, .ref m6, .ref m7, .ref m8])), (m1, .inl (cI, 80, .inl nu)), (m2, .inl (cI, 80, .inl va)), (m3, .inl (cI, 80, .inl ag)), (m4, .inl (cI, 80, .inl fi)), (m5, .inl (cI, 320, .inl re)), (m6, .inl (cZ, 80, .inl mk)), (m7, .inl (cI, 8, .inl mr)), (m8, .inl (cI, 4, .inl mw))] := hD
    refine lv_if_eq hx hb d_Mo_same_12 (tgt := 19) (by decide) (fun _ => ?_) (fun h => absurd (rfl) h)
    refine lv_iconst (v := nI 1) hx hb d_Mo_same_19 (by decide) ?_
    refine va_put (D := D) (ci := 5) (v := .int (nI 1)) (ty := .int) (C := R_Mo) (T := F_Mo) (N := 12) hx hb hts i_Mo t_Mo tk_Mo n_Mo hown hK hP hD hS 0 rfl rfl 0 (by decide) (hts _ k_f_Mo_35) (fun _ h9 => h9) rfl (by decide +kernel) rfl rfl (Nat.le_of_ble_eq_true rfl) d_Mo_same_20 (fun H locs hP hD hS => ?_)
    have hP : va_P D vwCl [(mo, .inr (5, [.int (nI 1), .int (nI N), .int (nI C), .int (nI L.length), .ref m1, .ref m2, .ref m3, .ref m4, .ref m5, .ref m6, .ref m7, .ref m8])), (m1, .inl (cI, 80, .inl nu)), (m2, .inl (cI, 80, .inl va)), (m3, .inl (cI, 80, .inl ag)), (m4, .inl (cI, 80, .inl fi)), (m5, .inl (cI, 320, .inl re)), (m6, .inl (cZ, 80, .inl mk)), (m7, .inl (cI, 8, .inl mr)), (m8, .inl (cI, 4, .inl mw))] H := hP
    have hD : va_D A [(mo, .inr (5, [.int (nI 1), .int (nI N), .int (nI C), .int (nI L.length), .ref m1, .ref m2, .ref m3, .ref m4, .ref m5, .ref m6, .ref m7, .ref m8])), (m1, .inl (cI, 80, .inl nu)), (m2, .inl (cI, 80, .inl va)), (m3, .inl (cI, 80, .inl ag)), (m4, .inl (cI, 80, .inl fi)), (m5, .inl (cI, 320, .inl re)), (m6, .inl (cZ, 80, .inl mk)), (m7, .inl (cI, 8, .inl mr)), (m8, .inl (cI, 4, .inl mw))] := hD
    refine lv_aload_n hx hb d_Mo_same_23 rfl (lv_at hl 0 rfl) ?_
    refine va_get (D := D) (ci := 5) (v := .int (nI 1)) (C := R_Mo) (T := F_Mo) (N := 12) hx hb hts i_Mo hown hK hP 0 rfl rfl 0 (by decide) (hts _ k_f_Mo_35) (fun _ h9 => h9) rfl d_Mo_same_24 ?_
    refine lv_if_ne hx hb d_Mo_same_27 (tgt := 49) (by decide) (fun _ => ?_) (fun h => absurd h (by decide))
    refine lv_iconst (v := nI 0) hx hb d_Mo_same_49 (by decide) ?_
    exact fy_retz hx hb hr hlocks hAe (by first | exact Or.inl rfl | exact Or.inr rfl) (⟨nI 0, nu, va, ag, fi, re, mk, mr, mw, (fun h => absurd h (by decide)), rfl, hM, rfl⟩) (List.Perm.refl _) hP hS d_Mo_same_50
  · refine fy_callS (As := [.int a1]) (rest := [.ref mo]) ⟨hx, hb, hml, hown, hts⟩ (c_Mo_isRegister0 l s0 D cI cZ cJ cW hG a1 (hr9)) (va_cwS 1 hts g_Mo_42 rfl rfl rfl (by decide +kernel) ⟨Nat.le_of_ble_eq_true rfl, Nat.le_of_ble_eq_true rfl⟩) hLa hAB hA hP hD hS [] rfl rfl rfl hl.1 rfl (Nat.le_of_ble_eq_true rfl) d_Mo_same_2 ⟨Nat.zero_le _, Nat.zero_le _⟩ (fun r w1 H locs hp hP hD hS => ?_)
    obtain ⟨rfl, rfl⟩ := hp
    have hP : va_P D vwCl [(mo, .inr (5, [.int cd, .int (nI N), .int (nI C), .int (nI L.length), .ref m1, .ref m2, .ref m3, .ref m4, .ref m5, .ref m6, .ref m7, .ref m8])), (m1, .inl (cI, 80, .inl nu)), (m2, .inl (cI, 80, .inl va)), (m3, .inl (cI, 80, .inl ag)), (m4, .inl (cI, 80, .inl fi)), (m5, .inl (cI, 320, .inl re)), (m6, .inl (cZ, 80, .inl mk)), (m7, .inl (cI, 8, .inl mr)), (m8, .inl (cI, 4, .inl mw))] H := hP
    have hD : va_D A [(mo, .inr (5, [.int cd, .int (nI N), .int (nI C), .int (nI L.length), .ref m1, .ref m2, .ref m3, .ref m4, .ref m5, .ref m6, .ref m7, .ref m8])), (m1, .inl (cI, 80, .inl nu)), (m2, .inl (cI, 80, .inl va)), (m3, .inl (cI, 80, .inl ag)), (m4, .inl (cI, 80, .inl fi)), (m5, .inl (cI, 320, .inl re)), (m6, .inl (cZ, 80, .inl mk)), (m7, .inl (cI, 8, .inl mr)), (m8, .inl (cI, 4, .inl mw))] := hD
    refine lv_if_eq hx hb d_Mo_same_5 (tgt := 19) (by decide) (fun _ => ?_) (fun h => absurd (rfl) h)
    refine lv_iconst (v := nI 1) hx hb d_Mo_same_19 (by decide) ?_
    refine va_put (D := D) (ci := 5) (v := .int (nI 1)) (ty := .int) (C := R_Mo) (T := F_Mo) (N := 12) hx hb hts i_Mo t_Mo tk_Mo n_Mo hown hK hP hD hS 0 rfl rfl 0 (by decide) (hts _ k_f_Mo_35) (fun _ h9 => h9) rfl (by decide +kernel) rfl rfl (Nat.le_of_ble_eq_true rfl) d_Mo_same_20 (fun H locs hP hD hS => ?_)
    have hP : va_P D vwCl [(mo, .inr (5, [.int (nI 1), .int (nI N), .int (nI C), .int (nI L.length), .ref m1, .ref m2, .ref m3, .ref m4, .ref m5, .ref m6, .ref m7, .ref m8])), (m1, .inl (cI, 80, .inl nu)), (m2, .inl (cI, 80, .inl va)), (m3, .inl (cI, 80, .inl ag)), (m4, .inl (cI, 80, .inl fi)), (m5, .inl (cI, 320, .inl re)), (m6, .inl (cZ, 80, .inl mk)), (m7, .inl (cI, 8, .inl mr)), (m8, .inl (cI, 4, .inl mw))] H := hP
    have hD : va_D A [(mo, .inr (5, [.int (nI 1), .int (nI N), .int (nI C), .int (nI L.length), .ref m1, .ref m2, .ref m3, .ref m4, .ref m5, .ref m6, .ref m7, .ref m8])), (m1, .inl (cI, 80, .inl nu)), (m2, .inl (cI, 80, .inl va)), (m3, .inl (cI, 80, .inl ag)), (m4, .inl (cI, 80, .inl fi)), (m5, .inl (cI, 320, .inl re)), (m6, .inl (cZ, 80, .inl mk)), (m7, .inl (cI, 8, .inl mr)), (m8, .inl (cI, 4, .inl mw))] := hD
    refine lv_aload_n hx hb d_Mo_same_23 rfl (lv_at hl 0 rfl) ?_
    refine va_get (D := D) (ci := 5) (v := .int (nI 1)) (C := R_Mo) (T := F_Mo) (N := 12) hx hb hts i_Mo hown hK hP 0 rfl rfl 0 (by decide) (hts _ k_f_Mo_35) (fun _ h9 => h9) rfl d_Mo_same_24 ?_
    refine lv_if_ne hx hb d_Mo_same_27 (tgt := 49) (by decide) (fun _ => ?_) (fun h => absurd h (by decide))
    refine lv_iconst (v := nI 0) hx hb d_Mo_same_49 (by decide) ?_
    exact fy_retz hx hb hr hlocks hAe (by first | exact Or.inl rfl | exact Or.inr rfl) (⟨nI 0, nu, va, ag, fi, re, mk, mr, mw, (fun h => absurd h (by decide)), rfl, hM, rfl⟩) (List.Perm.refl _) hP hS d_Mo_same_50
set_option maxRecDepth 20000 in
set_option maxHeartbeats 4000000 in
theorem c_Mo_same_1 (l : Launch) (s0 : State) (D : va_G) (cI cZ cJ cW : ClassId) (hG : fy_G s0 D cI cZ cJ cW) (mo m1 m2 m3 m4 m5 m6 m7 m8 : Nat) (cd : Int32) (i : Nat) (N : Nat) (C : Nat) (L : List Nat) (val : Nat → Int32) (age : Nat → Nat) (nf : Nat → Nat) (rf : Nat → Nat → Option Nat) (reg : Nat → Option Nat) (wk : Nat → Option Nat) (nu va ag fi re mk mr mw : Nat → Int32) (hI : fm_In i N C L age nf rf reg wk) (hM : fm_Mo L val age nf rf reg wk nu va ag fi re mr mw) (j q : Nat) (q1 : j < 8) (q2 : q < 8) : fy_Met l s0 D vwCl y_Mo_same w_Mo_same (fy_rm 2) 0 0 [.ref mo, .int (nI j), .int (nI q)] [(mo, .inr (5, [.int cd, .int (nI N), .int (nI C), .int (nI L.length), .ref m1, .ref m2, .ref m3, .ref m4, .ref m5, .ref m6, .ref m7, .ref m8])), (m1, .inl (cI, 80, .inl nu)), (m2, .inl (cI, 80, .inl va)), (m3, .inl (cI, 80, .inl ag)), (m4, .inl (cI, 80, .inl fi)), (m5, .inl (cI, 320, .inl re)), (m6, .inl (cZ, 80, .inl mk)), (m7, .inl (cI, 8, .inl mr)), (m8, .inl (cI, 4, .inl mw))] (fun r w1 => mo_post (fun b => some (.int b)) mo m1 m2 m3 m4 m5 m6 m7 m8 cI cZ 0 (if reg j = reg q then nI 1 else nI 0) N C L val age nf rf reg wk r w1) := by
  refine fy_st (bytes := b_Mo_same) (maxL := 3) (ret := some .boolean) hG (by decide) rfl (Nat.le_of_ble_eq_true rfl) ?_
  intro p e s m below meth c A ls hx hb hr hlocks hml hown hts hK hLa hAe hAB hA hl hP hD hS
  have hl : lv_has ls 3 [(0, .ref mo), (1, .int (nI j)), (2, .int (nI q))] := hl
  refine lv_aload_n hx hb d_Mo_same_0 rfl (lv_at hl 0 rfl) ?_
  refine lv_iload_n hx hb d_Mo_same_1 rfl (lv_at hl 1 rfl) ?_
  refine fy_callS (As := [.int (nI j)]) (rest := [.ref mo]) ⟨hx, hb, hml, hown, hts⟩ (c_Mo_isRegister l s0 D cI cZ cJ cW hG j q1) (va_cwS 1 hts g_Mo_42 rfl rfl rfl (by decide +kernel) ⟨Nat.le_of_ble_eq_true rfl, Nat.le_of_ble_eq_true rfl⟩) hLa hAB hA hP hD hS [] rfl rfl rfl hl.1 rfl (Nat.le_of_ble_eq_true rfl) d_Mo_same_2 ⟨Nat.zero_le _, Nat.zero_le _⟩ (fun r w1 H locs hp hP hD hS => ?_)
  obtain ⟨rfl, rfl⟩ := hp
  have hP : va_P D vwCl [(mo, .inr (5, [.int cd, .int (nI N), .int (nI C), .int (nI L.length), .ref m1, .ref m2, .ref m3, .ref m4, .ref m5, .ref m6, .ref m7, .ref m8])), (m1, .inl (cI, 80, .inl nu)), (m2, .inl (cI, 80, .inl va)), (m3, .inl (cI, 80, .inl ag)), (m4, .inl (cI, 80, .inl fi)), (m5, .inl (cI, 320, .inl re)), (m6, .inl (cZ, 80, .inl mk)), (m7, .inl (cI, 8, .inl mr)), (m8, .inl (cI, 4, .inl mw))] H := hP
  have hD : va_D A [(mo, .inr (5, [.int cd, .int (nI N), .int (nI C), .int (nI L.length), .ref m1, .ref m2, .ref m3, .ref m4, .ref m5, .ref m6, .ref m7, .ref m8])), (m1, .inl (cI, 80, .inl nu)), (m2, .inl (cI, 80, .inl va)), (m3, .inl (cI, 80, .inl ag)), (m4, .inl (cI, 80, .inl fi)), (m5, .inl (cI, 320, .inl re)), (m6, .inl (cZ, 80, .inl mk)), (m7, .inl (cI, 8, .inl mr)), (m8, .inl (cI, 4, .inl mw))] := hD
  refine lv_if_eq hx hb d_Mo_same_5 (tgt := 19) (by decide) (fun h => absurd h (by decide)) (fun _ => ?_)
  refine lv_iload_n hx hb d_Mo_same_8 rfl (lv_at hl 2 rfl) ?_
  refine fy_callS (As := [.int (nI q)]) (rest := [.ref mo]) ⟨hx, hb, hml, hown, hts⟩ (c_Mo_isRegister l s0 D cI cZ cJ cW hG q q2) (va_cwS 1 hts g_Mo_42 rfl rfl rfl (by decide +kernel) ⟨Nat.le_of_ble_eq_true rfl, Nat.le_of_ble_eq_true rfl⟩) hLa hAB hA hP hD hS [] rfl rfl rfl hl.1 rfl (Nat.le_of_ble_eq_true rfl) d_Mo_same_9 ⟨Nat.zero_le _, Nat.zero_le _⟩ (fun r w1 H locs hp hP hD hS => ?_)
  obtain ⟨rfl, rfl⟩ := hp
  have hP : va_P D vwCl [(mo, .inr (5, [.int cd, .int (nI N), .int (nI C), .int (nI L.length), .ref m1, .ref m2, .ref m3, .ref m4, .ref m5, .ref m6, .ref m7, .ref m8])), (m1, .inl (cI, 80, .inl nu)), (m2, .inl (cI, 80, .inl va)), (m3, .inl (cI, 80, .inl ag)), (m4, .inl (cI, 80, .inl fi)), (m5, .inl (cI, 320, .inl re)), (m6, .inl (cZ, 80, .inl mk)), (m7, .inl (cI, 8, .inl mr)), (m8, .inl (cI, 4, .inl mw))] H := hP
  have hD : va_D A [(mo, .inr (5, [.int cd, .int (nI N), .int (nI C), .int (nI L.length), .ref m1, .ref m2, .ref m3, .ref m4, .ref m5, .ref m6, .ref m7, .ref m8])), (m1, .inl (cI, 80, .inl nu)), (m2, .inl (cI, 80, .inl va)), (m3, .inl (cI, 80, .inl ag)), (m4, .inl (cI, 80, .inl fi)), (m5, .inl (cI, 320, .inl re)), (m6, .inl (cZ, 80, .inl mk)), (m7, .inl (cI, 8, .inl mr)), (m8, .inl (cI, 4, .inl mw))] := hD
  refine lv_if_eq hx hb d_Mo_same_12 (tgt := 19) (by decide) (fun h => absurd h (by decide)) (fun _ => ?_)
  refine lv_iconst (v := nI 0) hx hb d_Mo_same_15 (by decide) ?_
  refine lv_goto hx hb d_Mo_same_16 (tgt := 20) (by decide) ?_
  refine va_put (D := D) (ci := 5) (v := .int (nI 0)) (ty := .int) (C := R_Mo) (T := F_Mo) (N := 12) hx hb hts i_Mo t_Mo tk_Mo n_Mo hown hK hP hD hS 0 rfl rfl 0 (by decide) (hts _ k_f_Mo_35) (fun _ h9 => h9) rfl (by decide +kernel) rfl rfl (Nat.le_of_ble_eq_true rfl) d_Mo_same_20 (fun H locs hP hD hS => ?_)
  have hP : va_P D vwCl [(mo, .inr (5, [.int (nI 0), .int (nI N), .int (nI C), .int (nI L.length), .ref m1, .ref m2, .ref m3, .ref m4, .ref m5, .ref m6, .ref m7, .ref m8])), (m1, .inl (cI, 80, .inl nu)), (m2, .inl (cI, 80, .inl va)), (m3, .inl (cI, 80, .inl ag)), (m4, .inl (cI, 80, .inl fi)), (m5, .inl (cI, 320, .inl re)), (m6, .inl (cZ, 80, .inl mk)), (m7, .inl (cI, 8, .inl mr)), (m8, .inl (cI, 4, .inl mw))] H := hP
  have hD : va_D A [(mo, .inr (5, [.int (nI 0), .int (nI N), .int (nI C), .int (nI L.length), .ref m1, .ref m2, .ref m3, .ref m4, .ref m5, .ref m6, .ref m7, .ref m8])), (m1, .inl (cI, 80, .inl nu)), (m2, .inl (cI, 80, .inl va)), (m3, .inl (cI, 80, .inl ag)), (m4, .inl (cI, 80, .inl fi)), (m5, .inl (cI, 320, .inl re)), (m6, .inl (cZ, 80, .inl mk)), (m7, .inl (cI, 8, .inl mr)), (m8, .inl (cI, 4, .inl mw))] := hD
  refine lv_aload_n hx hb d_Mo_same_23 rfl (lv_at hl 0 rfl) ?_
  refine va_get (D := D) (ci := 5) (v := .int (nI 0)) (C := R_Mo) (T := F_Mo) (N := 12) hx hb hts i_Mo hown hK hP 0 rfl rfl 0 (by decide) (hts _ k_f_Mo_35) (fun _ h9 => h9) rfl d_Mo_same_24 ?_
  refine lv_if_ne hx hb d_Mo_same_27 (tgt := 49) (by decide) (fun h => absurd (rfl) h) (fun _ => ?_)
  refine lv_aload_n hx hb d_Mo_same_30 rfl (lv_at hl 0 rfl) ?_
  refine va_get (D := D) (ci := 5) (v := .ref m7) (C := R_Mo) (T := F_Mo) (N := 12) hx hb hts i_Mo hown hK hP 0 rfl rfl 10 (by decide) (hts _ k_f_Mo_29) (fun _ h9 => h9) rfl d_Mo_same_31 ?_
  refine lv_iload_n hx hb d_Mo_same_34 rfl (lv_at hl 1 rfl) ?_
  refine fy_iald (t0 := 0) (v := mr j) hx hb hK hP 7 rfl rfl (by omega) (by omega) (rfl) d_Mo_same_35 ?_
  refine lv_aload_n hx hb d_Mo_same_36 rfl (lv_at hl 0 rfl) ?_
  refine va_get (D := D) (ci := 5) (v := .ref m7) (C := R_Mo) (T := F_Mo) (N := 12) hx hb hts i_Mo hown hK hP 0 rfl rfl 10 (by decide) (hts _ k_f_Mo_29) (fun _ h9 => h9) rfl d_Mo_same_37 ?_
  refine lv_iload_n hx hb d_Mo_same_40 rfl (lv_at hl 2 rfl) ?_
  refine fy_iald (t0 := 0) (v := mr q) hx hb hK hP 7 rfl rfl (by omega) (by omega) (rfl) d_Mo_same_41 ?_
  refine lv_icmp_ne hx hb d_Mo_same_42 (tgt := 49) (by decide) (fun hc => ?_) (fun hc => ?_)
  · rw [hM.2.1 j q1, hM.2.1 q q2] at hc
    have hc : ¬ reg j = reg q := fun h => hc (by rw [h])
    refine lv_iconst (v := nI 0) hx hb d_Mo_same_49 (by decide) ?_
    refine fy_top (z := if reg j = reg q then nI 1 else nI 0) (by rw [if_neg hc]) ?_
    exact fy_retz hx hb hr hlocks hAe (by rw [if_neg hc]; exact Or.inl rfl) (⟨if reg j = reg q then nI 1 else nI 0, nu, va, ag, fi, re, mk, mr, mw, (fun _ => rfl), rfl, hM, rfl⟩) (List.Perm.refl _) hP hS d_Mo_same_50
  · rw [hM.2.1 j q1, hM.2.1 q q2] at hc
    have hc : reg j = reg q := (fm_o_inj (fun n hn => Nat.lt_of_lt_of_le (hI.lt n (hI.inR q1 n hn)) (by omega)) (fun n hn => Nat.lt_of_lt_of_le (hI.lt n (hI.inR q2 n hn)) (by omega))).mp hc
    refine lv_iconst (v := nI 1) hx hb d_Mo_same_45 (by decide) ?_
    refine lv_goto hx hb d_Mo_same_46 (tgt := 50) (by decide) ?_
    refine fy_top (z := if reg j = reg q then nI 1 else nI 0) (by rw [if_pos hc]) ?_
    exact fy_retz hx hb hr hlocks hAe (by rw [if_pos hc]; exact Or.inr rfl) (⟨if reg j = reg q then nI 1 else nI 0, nu, va, ag, fi, re, mk, mr, mw, (fun _ => rfl), rfl, hM, rfl⟩) (List.Perm.refl _) hP hS d_Mo_same_50
set_option maxRecDepth 20000 in
set_option maxHeartbeats 4000000 in
theorem c_Mo_clear_0 (l : Launch) (s0 : State) (D : va_G) (cI cZ cJ cW : ClassId) (hG : fy_G s0 D cI cZ cJ cW) (mo m1 m2 m3 m4 m5 m6 m7 m8 : Nat) (cd : Int32) (i : Nat) (N : Nat) (C : Nat) (L : List Nat) (val : Nat → Int32) (age : Nat → Nat) (nf : Nat → Nat) (rf : Nat → Nat → Option Nat) (reg : Nat → Option Nat) (wk : Nat → Option Nat) (nu va ag fi re mk mr mw : Nat → Int32) (hI : fm_In i N C L age nf rf reg wk) (hM : fm_Mo L val age nf rf reg wk nu va ag fi re mr mw) (a1 : Int32) (ans : Int32) (q1 : ¬ fy_ok 8 a1) : fy_Met l s0 D vwCl y_Mo_clear w_Mo_clear (fy_rm 2) 0 0 [.ref mo, .int a1] [(mo, .inr (5, [.int cd, .int (nI N), .int (nI C), .int (nI L.length), .ref m1, .ref m2, .ref m3, .ref m4, .ref m5, .ref m6, .ref m7, .ref m8])), (m1, .inl (cI, 80, .inl nu)), (m2, .inl (cI, 80, .inl va)), (m3, .inl (cI, 80, .inl ag)), (m4, .inl (cI, 80, .inl fi)), (m5, .inl (cI, 320, .inl re)), (m6, .inl (cZ, 80, .inl mk)), (m7, .inl (cI, 8, .inl mr)), (m8, .inl (cI, 4, .inl mw))] (fun r w1 => mo_post (fun b => some (.int b)) mo m1 m2 m3 m4 m5 m6 m7 m8 cI cZ 1 ans N C L val age nf rf reg wk r w1) := by
  refine fy_st (bytes := b_Mo_clear) (maxL := 3) (ret := some .boolean) hG (by decide) rfl (Nat.le_of_ble_eq_true rfl) ?_
  intro p e s m below meth c A ls hx hb hr hlocks hml hown hts hK hLa hAe hAB hA hl hP hD hS
  have hl : lv_has ls 3 [(0, .ref mo), (1, .int a1)] := hl
  refine lv_aload_n hx hb d_Mo_clear_0 rfl (lv_at hl 0 rfl) ?_
  refine lv_iload_n hx hb d_Mo_clear_1 rfl (lv_at hl 1 rfl) ?_
  refine fy_callS (As := [.int a1]) (rest := [.ref mo]) ⟨hx, hb, hml, hown, hts⟩ (c_Mo_isRegister0 l s0 D cI cZ cJ cW hG a1 (q1)) (va_cwS 1 hts g_Mo_42 rfl rfl rfl (by decide +kernel) ⟨Nat.le_of_ble_eq_true rfl, Nat.le_of_ble_eq_true rfl⟩) hLa hAB hA hP hD hS [] rfl rfl rfl hl.1 rfl (Nat.le_of_ble_eq_true rfl) d_Mo_clear_2 ⟨Nat.zero_le _, Nat.zero_le _⟩ (fun r w1 H locs hp hP hD hS => ?_)
  obtain ⟨rfl, rfl⟩ := hp
  have hP : va_P D vwCl [(mo, .inr (5, [.int cd, .int (nI N), .int (nI C), .int (nI L.length), .ref m1, .ref m2, .ref m3, .ref m4, .ref m5, .ref m6, .ref m7, .ref m8])), (m1, .inl (cI, 80, .inl nu)), (m2, .inl (cI, 80, .inl va)), (m3, .inl (cI, 80, .inl ag)), (m4, .inl (cI, 80, .inl fi)), (m5, .inl (cI, 320, .inl re)), (m6, .inl (cZ, 80, .inl mk)), (m7, .inl (cI, 8, .inl mr)), (m8, .inl (cI, 4, .inl mw))] H := hP
  have hD : va_D A [(mo, .inr (5, [.int cd, .int (nI N), .int (nI C), .int (nI L.length), .ref m1, .ref m2, .ref m3, .ref m4, .ref m5, .ref m6, .ref m7, .ref m8])), (m1, .inl (cI, 80, .inl nu)), (m2, .inl (cI, 80, .inl va)), (m3, .inl (cI, 80, .inl ag)), (m4, .inl (cI, 80, .inl fi)), (m5, .inl (cI, 320, .inl re)), (m6, .inl (cZ, 80, .inl mk)), (m7, .inl (cI, 8, .inl mr)), (m8, .inl (cI, 4, .inl mw))] := hD
  refine lv_if_eq hx hb d_Mo_clear_5 (tgt := 12) (by decide) (fun _ => ?_) (fun h => absurd (rfl) h)
  refine lv_iconst (v := nI 1) hx hb d_Mo_clear_12 (by decide) ?_
  refine va_put (D := D) (ci := 5) (v := .int (nI 1)) (ty := .int) (C := R_Mo) (T := F_Mo) (N := 12) hx hb hts i_Mo t_Mo tk_Mo n_Mo hown hK hP hD hS 0 rfl rfl 0 (by decide) (hts _ k_f_Mo_35) (fun _ h9 => h9) rfl (by decide +kernel) rfl rfl (Nat.le_of_ble_eq_true rfl) d_Mo_clear_13 (fun H locs hP hD hS => ?_)
  have hP : va_P D vwCl [(mo, .inr (5, [.int (nI 1), .int (nI N), .int (nI C), .int (nI L.length), .ref m1, .ref m2, .ref m3, .ref m4, .ref m5, .ref m6, .ref m7, .ref m8])), (m1, .inl (cI, 80, .inl nu)), (m2, .inl (cI, 80, .inl va)), (m3, .inl (cI, 80, .inl ag)), (m4, .inl (cI, 80, .inl fi)), (m5, .inl (cI, 320, .inl re)), (m6, .inl (cZ, 80, .inl mk)), (m7, .inl (cI, 8, .inl mr)), (m8, .inl (cI, 4, .inl mw))] H := hP
  have hD : va_D A [(mo, .inr (5, [.int (nI 1), .int (nI N), .int (nI C), .int (nI L.length), .ref m1, .ref m2, .ref m3, .ref m4, .ref m5, .ref m6, .ref m7, .ref m8])), (m1, .inl (cI, 80, .inl nu)), (m2, .inl (cI, 80, .inl va)), (m3, .inl (cI, 80, .inl ag)), (m4, .inl (cI, 80, .inl fi)), (m5, .inl (cI, 320, .inl re)), (m6, .inl (cZ, 80, .inl mk)), (m7, .inl (cI, 8, .inl mr)), (m8, .inl (cI, 4, .inl mw))] := hD
  refine lv_aload_n hx hb d_Mo_clear_16 rfl (lv_at hl 0 rfl) ?_
  refine va_get (D := D) (ci := 5) (v := .int (nI 1)) (C := R_Mo) (T := F_Mo) (N := 12) hx hb hts i_Mo hown hK hP 0 rfl rfl 0 (by decide) (hts _ k_f_Mo_35) (fun _ h9 => h9) rfl d_Mo_clear_17 ?_
  refine lv_if_le hx hb d_Mo_clear_20 (tgt := 25) (by decide) (fun h => absurd h (by decide)) (fun _ => ?_)
  refine lv_iconst (v := nI 0) hx hb d_Mo_clear_23 (by decide) ?_
  exact fy_retz hx hb hr hlocks hAe (by first | exact Or.inl rfl | exact Or.inr rfl) (⟨nI 0, nu, va, ag, fi, re, mk, mr, mw, (fun h => absurd h (by decide)), rfl, hM, rfl⟩) (List.Perm.refl _) hP hS d_Mo_clear_24
set_option maxRecDepth 20000 in
set_option maxHeartbeats 4000000 in
theorem c_Mo_clear_1 (l : Launch) (s0 : State) (D : va_G) (cI cZ cJ cW : ClassId) (hG : fy_G s0 D cI cZ cJ cW) (mo m1 m2 m3 m4 m5 m6 m7 m8 : Nat) (cd : Int32) (i : Nat) (N : Nat) (C : Nat) (L : List Nat) (val : Nat → Int32) (age : Nat → Nat) (nf : Nat → Nat) (rf : Nat → Nat → Option Nat) (reg : Nat → Option Nat) (wk : Nat → Option Nat) (nu va ag fi re mk mr mw : Nat → Int32) (hI : fm_In i N C L age nf rf reg wk) (hM : fm_Mo L val age nf rf reg wk nu va ag fi re mr mw) (j : Nat) (q1 : j < 8) : fy_Met l s0 D vwCl y_Mo_clear w_Mo_clear (fy_rm 2) 0 0 [.ref mo, .int (nI j)] [(mo, .inr (5, [.int cd, .int (nI N), .int (nI C), .int (nI L.length), .ref m1, .ref m2, .ref m3, .ref m4, .ref m5, .ref m6, .ref m7, .ref m8])), (m1, .inl (cI, 80, .inl nu)), (m2, .inl (cI, 80, .inl va)), (m3, .inl (cI, 80, .inl ag)), (m4, .inl (cI, 80, .inl fi)), (m5, .inl (cI, 320, .inl re)), (m6, .inl (cZ, 80, .inl mk)), (m7, .inl (cI, 8, .inl mr)), (m8, .inl (cI, 4, .inl mw))] (fun r w1 => mo_post (fun b => some (.int b)) mo m1 m2 m3 m4 m5 m6 m7 m8 cI cZ 0 (if (reg j).isSome then nI 1 else nI 0) N C L val age nf rf (va_up reg j none) wk r w1) := by
  refine fy_st (bytes := b_Mo_clear) (maxL := 3) (ret := some .boolean) hG (by decide) rfl (Nat.le_of_ble_eq_true rfl) ?_
  intro p e s m below meth c A ls hx hb hr hlocks hml hown hts hK hLa hAe hAB hA hl hP hD hS
  have hl : lv_has ls 3 [(0, .ref mo), (1, .int (nI j))] := hl
  refine lv_aload_n hx hb d_Mo_clear_0 rfl (lv_at hl 0 rfl) ?_
  refine lv_iload_n hx hb d_Mo_clear_1 rfl (lv_at hl 1 rfl) ?_
  refine fy_callS (As := [.int (nI j)]) (rest := [.ref mo]) ⟨hx, hb, hml, hown, hts⟩ (c_Mo_isRegister l s0 D cI cZ cJ cW hG j q1) (va_cwS 1 hts g_Mo_42 rfl rfl rfl (by decide +kernel) ⟨Nat.le_of_ble_eq_true rfl, Nat.le_of_ble_eq_true rfl⟩) hLa hAB hA hP hD hS [] rfl rfl rfl hl.1 rfl (Nat.le_of_ble_eq_true rfl) d_Mo_clear_2 ⟨Nat.zero_le _, Nat.zero_le _⟩ (fun r w1 H locs hp hP hD hS => ?_)
  obtain ⟨rfl, rfl⟩ := hp
  have hP : va_P D vwCl [(mo, .inr (5, [.int cd, .int (nI N), .int (nI C), .int (nI L.length), .ref m1, .ref m2, .ref m3, .ref m4, .ref m5, .ref m6, .ref m7, .ref m8])), (m1, .inl (cI, 80, .inl nu)), (m2, .inl (cI, 80, .inl va)), (m3, .inl (cI, 80, .inl ag)), (m4, .inl (cI, 80, .inl fi)), (m5, .inl (cI, 320, .inl re)), (m6, .inl (cZ, 80, .inl mk)), (m7, .inl (cI, 8, .inl mr)), (m8, .inl (cI, 4, .inl mw))] H := hP
  have hD : va_D A [(mo, .inr (5, [.int cd, .int (nI N), .int (nI C), .int (nI L.length), .ref m1, .ref m2, .ref m3, .ref m4, .ref m5, .ref m6, .ref m7, .ref m8])), (m1, .inl (cI, 80, .inl nu)), (m2, .inl (cI, 80, .inl va)), (m3, .inl (cI, 80, .inl ag)), (m4, .inl (cI, 80, .inl fi)), (m5, .inl (cI, 320, .inl re)), (m6, .inl (cZ, 80, .inl mk)), (m7, .inl (cI, 8, .inl mr)), (m8, .inl (cI, 4, .inl mw))] := hD
  refine lv_if_eq hx hb d_Mo_clear_5 (tgt := 12) (by decide) (fun h => absurd h (by decide)) (fun _ => ?_)
  refine lv_iconst (v := nI 0) hx hb d_Mo_clear_8 (by decide) ?_
  refine lv_goto hx hb d_Mo_clear_9 (tgt := 13) (by decide) ?_
  refine va_put (D := D) (ci := 5) (v := .int (nI 0)) (ty := .int) (C := R_Mo) (T := F_Mo) (N := 12) hx hb hts i_Mo t_Mo tk_Mo n_Mo hown hK hP hD hS 0 rfl rfl 0 (by decide) (hts _ k_f_Mo_35) (fun _ h9 => h9) rfl (by decide +kernel) rfl rfl (Nat.le_of_ble_eq_true rfl) d_Mo_clear_13 (fun H locs hP hD hS => ?_)
  have hP : va_P D vwCl [(mo, .inr (5, [.int (nI 0), .int (nI N), .int (nI C), .int (nI L.length), .ref m1, .ref m2, .ref m3, .ref m4, .ref m5, .ref m6, .ref m7, .ref m8])), (m1, .inl (cI, 80, .inl nu)), (m2, .inl (cI, 80, .inl va)), (m3, .inl (cI, 80, .inl ag)), (m4, .inl (cI, 80, .inl fi)), (m5, .inl (cI, 320, .inl re)), (m6, .inl (cZ, 80, .inl mk)), (m7, .inl (cI, 8, .inl mr)), (m8, .inl (cI, 4, .inl mw))] H := hP
  have hD : va_D A [(mo, .inr (5, [.int (nI 0), .int (nI N), .int (nI C), .int (nI L.length), .ref m1, .ref m2, .ref m3, .ref m4, .ref m5, .ref m6, .ref m7, .ref m8])), (m1, .inl (cI, 80, .inl nu)), (m2, .inl (cI, 80, .inl va)), (m3, .inl (cI, 80, .inl ag)), (m4, .inl (cI, 80, .inl fi)), (m5, .inl (cI, 320, .inl re)), (m6, .inl (cZ, 80, .inl mk)), (m7, .inl (cI, 8, .inl mr)), (m8, .inl (cI, 4, .inl mw))] := hD
  refine lv_aload_n hx hb d_Mo_clear_16 rfl (lv_at hl 0 rfl) ?_
  refine va_get (D := D) (ci := 5) (v := .int (nI 0)) (C := R_Mo) (T := F_Mo) (N := 12) hx hb hts i_Mo hown hK hP 0 rfl rfl 0 (by decide) (hts _ k_f_Mo_35) (fun _ h9 => h9) rfl d_Mo_clear_17 ?_
  refine lv_if_le hx hb d_Mo_clear_20 (tgt := 25) (by decide) (fun _ => ?_) (fun h => absurd (by decide) h)
  refine lv_aload_n hx hb d_Mo_clear_25 rfl (lv_at hl 0 rfl) ?_
  refine va_get (D := D) (ci := 5) (v := .ref m7) (C := R_Mo) (T := F_Mo) (N := 12) hx hb hts i_Mo hown hK hP 0 rfl rfl 10 (by decide) (hts _ k_f_Mo_29) (fun _ h9 => h9) rfl d_Mo_clear_26 ?_
  refine lv_iload_n hx hb d_Mo_clear_29 rfl (lv_at hl 1 rfl) ?_
  refine fy_iald (t0 := 0) (v := fm_o (reg j)) hx hb hK hP 7 rfl rfl (by omega) (by omega) (hM.2.1 j q1) d_Mo_clear_30 ?_
  by_cases hs9 : (reg j).isSome
  · refine lv_if_lt hx hb d_Mo_clear_31 (tgt := 38) (by decide) (fun h => absurd h (by obtain ⟨n, hn⟩ := Option.isSome_iff_exists.mp hs9; rw [hn]; exact nI_pos (by have := hI.lt n (hI.inR q1 n hn); omega))) (fun _ => ?_)
    refine lv_iconst (v := nI 1) hx hb d_Mo_clear_34 (by decide) ?_
    refine lv_goto hx hb d_Mo_clear_35 (tgt := 39) (by decide) ?_
    refine fy_top (z := if (reg j).isSome then nI 1 else nI 0) (by rw [if_pos hs9]) ?_
    refine lv_istore_n hx hb d_Mo_clear_39 rfl hl (by decide) rfl (fun ls hl => ?_)
    have hl : lv_has ls 3 [(2, .int (if (reg j).isSome then nI 1 else nI 0)), (0, .ref mo), (1, .int (nI j))] := hl
    refine lv_aload_n hx hb d_Mo_clear_40 rfl (lv_at hl 1 rfl) ?_
    refine va_get (D := D) (ci := 5) (v := .ref m7) (C := R_Mo) (T := F_Mo) (N := 12) hx hb hts i_Mo hown hK hP 0 rfl rfl 10 (by decide) (hts _ k_f_Mo_29) (fun _ h9 => h9) rfl d_Mo_clear_41 ?_
    refine lv_iload_n hx hb d_Mo_clear_44 rfl (lv_at hl 2 rfl) ?_
    refine lv_iconst (v := -1) hx hb d_Mo_clear_45 (by decide) ?_
    refine fy_iast (t0 := 0) (g := upd mr j (-1)) hx hb hK hP hD hS 7 rfl rfl (by omega) (by omega) (rfl) d_Mo_clear_46 (fun H locs hP hD hS => ?_)
    have hP : va_P D vwCl [(mo, .inr (5, [.int (nI 0), .int (nI N), .int (nI C), .int (nI L.length), .ref m1, .ref m2, .ref m3, .ref m4, .ref m5, .ref m6, .ref m7, .ref m8])), (m1, .inl (cI, 80, .inl nu)), (m2, .inl (cI, 80, .inl va)), (m3, .inl (cI, 80, .inl ag)), (m4, .inl (cI, 80, .inl fi)), (m5, .inl (cI, 320, .inl re)), (m6, .inl (cZ, 80, .inl mk)), (m7, .inl (cI, 8, .inl (upd mr j (-1)))), (m8, .inl (cI, 4, .inl mw))] H := hP
    have hD : va_D A [(mo, .inr (5, [.int (nI 0), .int (nI N), .int (nI C), .int (nI L.length), .ref m1, .ref m2, .ref m3, .ref m4, .ref m5, .ref m6, .ref m7, .ref m8])), (m1, .inl (cI, 80, .inl nu)), (m2, .inl (cI, 80, .inl va)), (m3, .inl (cI, 80, .inl ag)), (m4, .inl (cI, 80, .inl fi)), (m5, .inl (cI, 320, .inl re)), (m6, .inl (cZ, 80, .inl mk)), (m7, .inl (cI, 8, .inl (upd mr j (-1)))), (m8, .inl (cI, 4, .inl mw))] := hD
    refine lv_iload_n hx hb d_Mo_clear_47 rfl (lv_at hl 0 rfl) ?_
    exact fy_retz hx hb hr hlocks hAe (by rw [if_pos hs9]; exact Or.inr rfl) (⟨if (reg j).isSome then nI 1 else nI 0, nu, va, ag, fi, re, mk, upd mr j (-1), mw, (fun _ => rfl), rfl, hM.toR rfl, rfl⟩) (List.Perm.refl _) hP hS d_Mo_clear_48
  · have hs8 : reg j = none := by cases h9 : reg j with | none => rfl | some n => rw [h9] at hs9; exact absurd rfl hs9
    refine lv_if_lt hx hb d_Mo_clear_31 (tgt := 38) (by decide) (fun _ => ?_) (fun h => absurd (by rw [hs8]; decide) h)
    refine lv_iconst (v := nI 0) hx hb d_Mo_clear_38 (by decide) ?_
    refine fy_top (z := if (reg j).isSome then nI 1 else nI 0) (by rw [if_neg hs9]) ?_
    refine lv_istore_n hx hb d_Mo_clear_39 rfl hl (by decide) rfl (fun ls hl => ?_)
    have hl : lv_has ls 3 [(2, .int (if (reg j).isSome then nI 1 else nI 0)), (0, .ref mo), (1, .int (nI j))] := hl
    refine lv_aload_n hx hb d_Mo_clear_40 rfl (lv_at hl 1 rfl) ?_
    refine va_get (D := D) (ci := 5) (v := .ref m7) (C := R_Mo) (T := F_Mo) (N := 12) hx hb hts i_Mo hown hK hP 0 rfl rfl 10 (by decide) (hts _ k_f_Mo_29) (fun _ h9 => h9) rfl d_Mo_clear_41 ?_
    refine lv_iload_n hx hb d_Mo_clear_44 rfl (lv_at hl 2 rfl) ?_
    refine lv_iconst (v := -1) hx hb d_Mo_clear_45 (by decide) ?_
    refine fy_iast (t0 := 0) (g := upd mr j (-1)) hx hb hK hP hD hS 7 rfl rfl (by omega) (by omega) (rfl) d_Mo_clear_46 (fun H locs hP hD hS => ?_)
    have hP : va_P D vwCl [(mo, .inr (5, [.int (nI 0), .int (nI N), .int (nI C), .int (nI L.length), .ref m1, .ref m2, .ref m3, .ref m4, .ref m5, .ref m6, .ref m7, .ref m8])), (m1, .inl (cI, 80, .inl nu)), (m2, .inl (cI, 80, .inl va)), (m3, .inl (cI, 80, .inl ag)), (m4, .inl (cI, 80, .inl fi)), (m5, .inl (cI, 320, .inl re)), (m6, .inl (cZ, 80, .inl mk)), (m7, .inl (cI, 8, .inl (upd mr j (-1)))), (m8, .inl (cI, 4, .inl mw))] H := hP
    have hD : va_D A [(mo, .inr (5, [.int (nI 0), .int (nI N), .int (nI C), .int (nI L.length), .ref m1, .ref m2, .ref m3, .ref m4, .ref m5, .ref m6, .ref m7, .ref m8])), (m1, .inl (cI, 80, .inl nu)), (m2, .inl (cI, 80, .inl va)), (m3, .inl (cI, 80, .inl ag)), (m4, .inl (cI, 80, .inl fi)), (m5, .inl (cI, 320, .inl re)), (m6, .inl (cZ, 80, .inl mk)), (m7, .inl (cI, 8, .inl (upd mr j (-1)))), (m8, .inl (cI, 4, .inl mw))] := hD
    refine lv_iload_n hx hb d_Mo_clear_47 rfl (lv_at hl 0 rfl) ?_
    exact fy_retz hx hb hr hlocks hAe (by rw [if_neg hs9]; exact Or.inl rfl) (⟨if (reg j).isSome then nI 1 else nI 0, nu, va, ag, fi, re, mk, upd mr j (-1), mw, (fun _ => rfl), rfl, hM.toR rfl, rfl⟩) (List.Perm.refl _) hP hS d_Mo_clear_48
set_option maxRecDepth 20000 in
set_option maxHeartbeats 4000000 in
theorem c_Mo_write_0 (l : Launch) (s0 : State) (D : va_G) (cI cZ cJ cW : ClassId) (hG : fy_G s0 D cI cZ cJ cW) (mo m1 m2 m3 m4 m5 m6 m7 m8 : Nat) (cd : Int32) (i : Nat) (N : Nat) (C : Nat) (L : List Nat) (val : Nat → Int32) (age : Nat → Nat) (nf : Nat → Nat) (rf : Nat → Nat → Option Nat) (reg : Nat → Option Nat) (wk : Nat → Option Nat) (nu va ag fi re mk mr mw : Nat → Int32) (hI : fm_In i N C L age nf rf reg wk) (hM : fm_Mo L val age nf rf reg wk nu va ag fi re mr mw) (a1 a2 : Int32) (ans : Int32) (q1 : ¬ fy_ok 8 a1) : fy_Met l s0 D vwCl y_Mo_write w_Mo_write (fy_rm 2) 0 0 [.ref mo, .int a1, .int a2] [(mo, .inr (5, [.int cd, .int (nI N), .int (nI C), .int (nI L.length), .ref m1, .ref m2, .ref m3, .ref m4, .ref m5, .ref m6, .ref m7, .ref m8])), (m1, .inl (cI, 80, .inl nu)), (m2, .inl (cI, 80, .inl va)), (m3, .inl (cI, 80, .inl ag)), (m4, .inl (cI, 80, .inl fi)), (m5, .inl (cI, 320, .inl re)), (m6, .inl (cZ, 80, .inl mk)), (m7, .inl (cI, 8, .inl mr)), (m8, .inl (cI, 4, .inl mw))] (fun r w1 => mo_post (fun b => some (.int b)) mo m1 m2 m3 m4 m5 m6 m7 m8 cI cZ 1 ans N C L val age nf rf reg wk r w1) := by
  refine fy_st (bytes := b_Mo_write) (maxL := 5) (ret := some .int) hG (by decide) rfl (Nat.le_of_ble_eq_true rfl) ?_
  intro p e s m below meth c A ls hx hb hr hlocks hml hown hts hK hLa hAe hAB hA hl hP hD hS
  have hl : lv_has ls 5 [(0, .ref mo), (1, .int a1), (2, .int a2)] := hl
  refine lv_aload_n hx hb d_Mo_write_0 rfl (lv_at hl 0 rfl) ?_
  refine lv_iload_n hx hb d_Mo_write_1 rfl (lv_at hl 1 rfl) ?_
  refine fy_callS (As := [.int a1]) (rest := [.ref mo]) ⟨hx, hb, hml, hown, hts⟩ (c_Mo_isRegister0 l s0 D cI cZ cJ cW hG a1 (q1)) (va_cwS 1 hts g_Mo_42 rfl rfl rfl (by decide +kernel) ⟨Nat.le_of_ble_eq_true rfl, Nat.le_of_ble_eq_true rfl⟩) hLa hAB hA hP hD hS [] rfl rfl rfl hl.1 rfl (Nat.le_of_ble_eq_true rfl) d_Mo_write_2 ⟨Nat.zero_le _, Nat.zero_le _⟩ (fun r w1 H locs hp hP hD hS => ?_)
  obtain ⟨rfl, rfl⟩ := hp
  have hP : va_P D vwCl [(mo, .inr (5, [.int cd, .int (nI N), .int (nI C), .int (nI L.length), .ref m1, .ref m2, .ref m3, .ref m4, .ref m5, .ref m6, .ref m7, .ref m8])), (m1, .inl (cI, 80, .inl nu)), (m2, .inl (cI, 80, .inl va)), (m3, .inl (cI, 80, .inl ag)), (m4, .inl (cI, 80, .inl fi)), (m5, .inl (cI, 320, .inl re)), (m6, .inl (cZ, 80, .inl mk)), (m7, .inl (cI, 8, .inl mr)), (m8, .inl (cI, 4, .inl mw))] H := hP
  have hD : va_D A [(mo, .inr (5, [.int cd, .int (nI N), .int (nI C), .int (nI L.length), .ref m1, .ref m2, .ref m3, .ref m4, .ref m5, .ref m6, .ref m7, .ref m8])), (m1, .inl (cI, 80, .inl nu)), (m2, .inl (cI, 80, .inl va)), (m3, .inl (cI, 80, .inl ag)), (m4, .inl (cI, 80, .inl fi)), (m5, .inl (cI, 320, .inl re)), (m6, .inl (cZ, 80, .inl mk)), (m7, .inl (cI, 8, .inl mr)), (m8, .inl (cI, 4, .inl mw))] := hD
  refine lv_if_ne hx hb d_Mo_write_5 (tgt := 12) (by decide) (fun h => absurd (rfl) h) (fun _ => ?_)
  refine lv_iconst (v := nI 1) hx hb d_Mo_write_8 (by decide) ?_
  refine lv_goto hx hb d_Mo_write_9 (tgt := 26) (by decide) ?_
  refine va_put (D := D) (ci := 5) (v := .int (nI 1)) (ty := .int) (C := R_Mo) (T := F_Mo) (N := 12) hx hb hts i_Mo t_Mo tk_Mo n_Mo hown hK hP hD hS 0 rfl rfl 0 (by decide) (hts _ k_f_Mo_35) (fun _ h9 => h9) rfl (by decide +kernel) rfl rfl (Nat.le_of_ble_eq_true rfl) d_Mo_write_26 (fun H locs hP hD hS => ?_)
  have hP : va_P D vwCl [(mo, .inr (5, [.int (nI 1), .int (nI N), .int (nI C), .int (nI L.length), .ref m1, .ref m2, .ref m3, .ref m4, .ref m5, .ref m6, .ref m7, .ref m8])), (m1, .inl (cI, 80, .inl nu)), (m2, .inl (cI, 80, .inl va)), (m3, .inl (cI, 80, .inl ag)), (m4, .inl (cI, 80, .inl fi)), (m5, .inl (cI, 320, .inl re)), (m6, .inl (cZ, 80, .inl mk)), (m7, .inl (cI, 8, .inl mr)), (m8, .inl (cI, 4, .inl mw))] H := hP
  have hD : va_D A [(mo, .inr (5, [.int (nI 1), .int (nI N), .int (nI C), .int (nI L.length), .ref m1, .ref m2, .ref m3, .ref m4, .ref m5, .ref m6, .ref m7, .ref m8])), (m1, .inl (cI, 80, .inl nu)), (m2, .inl (cI, 80, .inl va)), (m3, .inl (cI, 80, .inl ag)), (m4, .inl (cI, 80, .inl fi)), (m5, .inl (cI, 320, .inl re)), (m6, .inl (cZ, 80, .inl mk)), (m7, .inl (cI, 8, .inl mr)), (m8, .inl (cI, 4, .inl mw))] := hD
  refine lv_aload_n hx hb d_Mo_write_29 rfl (lv_at hl 0 rfl) ?_
  refine va_get (D := D) (ci := 5) (v := .int (nI 1)) (C := R_Mo) (T := F_Mo) (N := 12) hx hb hts i_Mo hown hK hP 0 rfl rfl 0 (by decide) (hts _ k_f_Mo_35) (fun _ h9 => h9) rfl d_Mo_write_30 ?_
  refine lv_if_le hx hb d_Mo_write_33 (tgt := 38) (by decide) (fun h => absurd h (by decide)) (fun _ => ?_)
  refine lv_iconst (v := nI 0) hx hb d_Mo_write_36 (by decide) ?_
  exact fy_reti hx hb hr hlocks hAe (⟨nI 0, nu, va, ag, fi, re, mk, mr, mw, (fun h => absurd h (by decide)), rfl, hM, rfl⟩) (List.Perm.refl _) hP hS d_Mo_write_37
set_option maxRecDepth 20000 in
set_option maxHeartbeats 4000000 in
theorem c_Mo_write_1 (l : Launch) (s0 : State) (D : va_G) (cI cZ cJ cW : ClassId) (hG : fy_G s0 D cI cZ cJ cW) (mo m1 m2 m3 m4 m5 m6 m7 m8 : Nat) (cd : Int32) (i : Nat) (N : Nat) (C : Nat) (L : List Nat) (val : Nat → Int32) (age : Nat → Nat) (nf : Nat → Nat) (rf : Nat → Nat → Option Nat) (reg : Nat → Option Nat) (wk : Nat → Option Nat) (nu va ag fi re mk mr mw : Nat → Int32) (hI : fm_In i N C L age nf rf reg wk) (hM : fm_Mo L val age nf rf reg wk nu va ag fi re mr mw) (j : Nat) (a2 : Int32) (ans : Int32) (q1 : j < 8) (q2 : reg j = none) : fy_Met l s0 D vwCl y_Mo_write w_Mo_write (fy_rm 2) 0 0 [.ref mo, .int (nI j), .int a2] [(mo, .inr (5, [.int cd, .int (nI N), .int (nI C), .int (nI L.length), .ref m1, .ref m2, .ref m3, .ref m4, .ref m5, .ref m6, .ref m7, .ref m8])), (m1, .inl (cI, 80, .inl nu)), (m2, .inl (cI, 80, .inl va)), (m3, .inl (cI, 80, .inl ag)), (m4, .inl (cI, 80, .inl fi)), (m5, .inl (cI, 320, .inl re)), (m6, .inl (cZ, 80, .inl mk)), (m7, .inl (cI, 8, .inl mr)), (m8, .inl (cI, 4, .inl mw))] (fun r w1 => mo_post (fun b => some (.int b)) mo m1 m2 m3 m4 m5 m6 m7 m8 cI cZ 2 ans N C L val age nf rf reg wk r w1) := by
  refine fy_st (bytes := b_Mo_write) (maxL := 5) (ret := some .int) hG (by decide) rfl (Nat.le_of_ble_eq_true rfl) ?_
  intro p e s m below meth c A ls hx hb hr hlocks hml hown hts hK hLa hAe hAB hA hl hP hD hS
  have hl : lv_has ls 5 [(0, .ref mo), (1, .int (nI j)), (2, .int a2)] := hl
  refine lv_aload_n hx hb d_Mo_write_0 rfl (lv_at hl 0 rfl) ?_
  refine lv_iload_n hx hb d_Mo_write_1 rfl (lv_at hl 1 rfl) ?_
  refine fy_callS (As := [.int (nI j)]) (rest := [.ref mo]) ⟨hx, hb, hml, hown, hts⟩ (c_Mo_isRegister l s0 D cI cZ cJ cW hG j q1) (va_cwS 1 hts g_Mo_42 rfl rfl rfl (by decide +kernel) ⟨Nat.le_of_ble_eq_true rfl, Nat.le_of_ble_eq_true rfl⟩) hLa hAB hA hP hD hS [] rfl rfl rfl hl.1 rfl (Nat.le_of_ble_eq_true rfl) d_Mo_write_2 ⟨Nat.zero_le _, Nat.zero_le _⟩ (fun r w1 H locs hp hP hD hS => ?_)
  obtain ⟨rfl, rfl⟩ := hp
  have hP : va_P D vwCl [(mo, .inr (5, [.int cd, .int (nI N), .int (nI C), .int (nI L.length), .ref m1, .ref m2, .ref m3, .ref m4, .ref m5, .ref m6, .ref m7, .ref m8])), (m1, .inl (cI, 80, .inl nu)), (m2, .inl (cI, 80, .inl va)), (m3, .inl (cI, 80, .inl ag)), (m4, .inl (cI, 80, .inl fi)), (m5, .inl (cI, 320, .inl re)), (m6, .inl (cZ, 80, .inl mk)), (m7, .inl (cI, 8, .inl mr)), (m8, .inl (cI, 4, .inl mw))] H := hP
  have hD : va_D A [(mo, .inr (5, [.int cd, .int (nI N), .int (nI C), .int (nI L.length), .ref m1, .ref m2, .ref m3, .ref m4, .ref m5, .ref m6, .ref m7, .ref m8])), (m1, .inl (cI, 80, .inl nu)), (m2, .inl (cI, 80, .inl va)), (m3, .inl (cI, 80, .inl ag)), (m4, .inl (cI, 80, .inl fi)), (m5, .inl (cI, 320, .inl re)), (m6, .inl (cZ, 80, .inl mk)), (m7, .inl (cI, 8, .inl mr)), (m8, .inl (cI, 4, .inl mw))] := hD
  refine lv_if_ne hx hb d_Mo_write_5 (tgt := 12) (by decide) (fun _ => ?_) (fun h => absurd h (by decide))
  refine lv_aload_n hx hb d_Mo_write_12 rfl (lv_at hl 0 rfl) ?_
  refine va_get (D := D) (ci := 5) (v := .ref m7) (C := R_Mo) (T := F_Mo) (N := 12) hx hb hts i_Mo hown hK hP 0 rfl rfl 10 (by decide) (hts _ k_f_Mo_29) (fun _ h9 => h9) rfl d_Mo_write_13 ?_
  refine lv_iload_n hx hb d_Mo_write_16 rfl (lv_at hl 1 rfl) ?_
  refine fy_iald (t0 := 0) (v := -1) hx hb hK hP 7 rfl rfl (by omega) (by omega) (by rw [hM.2.1 j q1, q2]; rfl) d_Mo_write_17 ?_
  refine lv_if_ge hx hb d_Mo_write_18 (tgt := 25) (by decide) (fun h => absurd h (by decide)) (fun _ => ?_)
  refine lv_iconst (v := nI 2) hx hb d_Mo_write_21 (by decide) ?_
  refine lv_goto hx hb d_Mo_write_22 (tgt := 26) (by decide) ?_
  refine va_put (D := D) (ci := 5) (v := .int (nI 2)) (ty := .int) (C := R_Mo) (T := F_Mo) (N := 12) hx hb hts i_Mo t_Mo tk_Mo n_Mo hown hK hP hD hS 0 rfl rfl 0 (by decide) (hts _ k_f_Mo_35) (fun _ h9 => h9) rfl (by decide +kernel) rfl rfl (Nat.le_of_ble_eq_true rfl) d_Mo_write_26 (fun H locs hP hD hS => ?_)
  have hP : va_P D vwCl [(mo, .inr (5, [.int (nI 2), .int (nI N), .int (nI C), .int (nI L.length), .ref m1, .ref m2, .ref m3, .ref m4, .ref m5, .ref m6, .ref m7, .ref m8])), (m1, .inl (cI, 80, .inl nu)), (m2, .inl (cI, 80, .inl va)), (m3, .inl (cI, 80, .inl ag)), (m4, .inl (cI, 80, .inl fi)), (m5, .inl (cI, 320, .inl re)), (m6, .inl (cZ, 80, .inl mk)), (m7, .inl (cI, 8, .inl mr)), (m8, .inl (cI, 4, .inl mw))] H := hP
  have hD : va_D A [(mo, .inr (5, [.int (nI 2), .int (nI N), .int (nI C), .int (nI L.length), .ref m1, .ref m2, .ref m3, .ref m4, .ref m5, .ref m6, .ref m7, .ref m8])), (m1, .inl (cI, 80, .inl nu)), (m2, .inl (cI, 80, .inl va)), (m3, .inl (cI, 80, .inl ag)), (m4, .inl (cI, 80, .inl fi)), (m5, .inl (cI, 320, .inl re)), (m6, .inl (cZ, 80, .inl mk)), (m7, .inl (cI, 8, .inl mr)), (m8, .inl (cI, 4, .inl mw))] := hD
  refine lv_aload_n hx hb d_Mo_write_29 rfl (lv_at hl 0 rfl) ?_
  refine va_get (D := D) (ci := 5) (v := .int (nI 2)) (C := R_Mo) (T := F_Mo) (N := 12) hx hb hts i_Mo hown hK hP 0 rfl rfl 0 (by decide) (hts _ k_f_Mo_35) (fun _ h9 => h9) rfl d_Mo_write_30 ?_
  refine lv_if_le hx hb d_Mo_write_33 (tgt := 38) (by decide) (fun h => absurd h (by decide)) (fun _ => ?_)
  refine lv_iconst (v := nI 0) hx hb d_Mo_write_36 (by decide) ?_
  exact fy_reti hx hb hr hlocks hAe (⟨nI 0, nu, va, ag, fi, re, mk, mr, mw, (fun h => absurd h (by decide)), rfl, hM, rfl⟩) (List.Perm.refl _) hP hS d_Mo_write_37
set_option maxRecDepth 20000 in
set_option maxHeartbeats 4000000 in
theorem c_Mo_write_2 (l : Launch) (s0 : State) (D : va_G) (cI cZ cJ cW : ClassId) (hG : fy_G s0 D cI cZ cJ cW) (mo m1 m2 m3 m4 m5 m6 m7 m8 : Nat) (cd : Int32) (i : Nat) (N : Nat) (C : Nat) (L : List Nat) (val : Nat → Int32) (age : Nat → Nat) (nf : Nat → Nat) (rf : Nat → Nat → Option Nat) (reg : Nat → Option Nat) (wk : Nat → Option Nat) (nu va ag fi re mk mr mw : Nat → Int32) (hI : fm_In i N C L age nf rf reg wk) (hM : fm_Mo L val age nf rf reg wk nu va ag fi re mr mw) (j n : Nat) (a2 : Int32) (q1 : j < 8) (q2 : reg j = some n) : fy_Met l s0 D vwCl y_Mo_write w_Mo_write (fy_rm 2) 0 0 [.ref mo, .int (nI j), .int a2] [(mo, .inr (5, [.int cd, .int (nI N), .int (nI C), .int (nI L.length), .ref m1, .ref m2, .ref m3, .ref m4, .ref m5, .ref m6, .ref m7, .ref m8])), (m1, .inl (cI, 80, .inl nu)), (m2, .inl (cI, 80, .inl va)), (m3, .inl (cI, 80, .inl ag)), (m4, .inl (cI, 80, .inl fi)), (m5, .inl (cI, 320, .inl re)), (m6, .inl (cZ, 80, .inl mk)), (m7, .inl (cI, 8, .inl mr)), (m8, .inl (cI, 4, .inl mw))] (fun r w1 => mo_post (fun b => some (.int b)) mo m1 m2 m3 m4 m5 m6 m7 m8 cI cZ 0 (val n) N C L (va_up val n a2) age nf rf reg wk r w1) := by
  refine fy_st (bytes := b_Mo_write) (maxL := 5) (ret := some .int) hG (by decide) rfl (Nat.le_of_ble_eq_true rfl) ?_
  intro p e s m below meth c A ls hx hb hr hlocks hml hown hts hK hLa hAe hAB hA hl hP hD hS
  have hl : lv_has ls 5 [(0, .ref mo), (1, .int (nI j)), (2, .int a2)] := hl
  have hj := q1
  have hn0 := q2
  refine lv_aload_n hx hb d_Mo_write_0 rfl (lv_at hl 0 rfl) ?_
  refine lv_iload_n hx hb d_Mo_write_1 rfl (lv_at hl 1 rfl) ?_
  refine fy_callS (As := [.int (nI j)]) (rest := [.ref mo]) ⟨hx, hb, hml, hown, hts⟩ (c_Mo_isRegister l s0 D cI cZ cJ cW hG j q1) (va_cwS 1 hts g_Mo_42 rfl rfl rfl (by decide +kernel) ⟨Nat.le_of_ble_eq_true rfl, Nat.le_of_ble_eq_true rfl⟩) hLa hAB hA hP hD hS [] rfl rfl rfl hl.1 rfl (Nat.le_of_ble_eq_true rfl) d_Mo_write_2 ⟨Nat.zero_le _, Nat.zero_le _⟩ (fun r w1 H locs hp hP hD hS => ?_)
  obtain ⟨rfl, rfl⟩ := hp
  have hP : va_P D vwCl [(mo, .inr (5, [.int cd, .int (nI N), .int (nI C), .int (nI L.length), .ref m1, .ref m2, .ref m3, .ref m4, .ref m5, .ref m6, .ref m7, .ref m8])), (m1, .inl (cI, 80, .inl nu)), (m2, .inl (cI, 80, .inl va)), (m3, .inl (cI, 80, .inl ag)), (m4, .inl (cI, 80, .inl fi)), (m5, .inl (cI, 320, .inl re)), (m6, .inl (cZ, 80, .inl mk)), (m7, .inl (cI, 8, .inl mr)), (m8, .inl (cI, 4, .inl mw))] H := hP
  have hD : va_D A [(mo, .inr (5, [.int cd, .int (nI N), .int (nI C), .int (nI L.length), .ref m1, .ref m2, .ref m3, .ref m4, .ref m5, .ref m6, .ref m7, .ref m8])), (m1, .inl (cI, 80, .inl nu)), (m2, .inl (cI, 80, .inl va)), (m3, .inl (cI, 80, .inl ag)), (m4, .inl (cI, 80, .inl fi)), (m5, .inl (cI, 320, .inl re)), (m6, .inl (cZ, 80, .inl mk)), (m7, .inl (cI, 8, .inl mr)), (m8, .inl (cI, 4, .inl mw))] := hD
  refine lv_if_ne hx hb d_Mo_write_5 (tgt := 12) (by decide) (fun _ => ?_) (fun h => absurd h (by decide))
  refine lv_aload_n hx hb d_Mo_write_12 rfl (lv_at hl 0 rfl) ?_
  refine va_get (D := D) (ci := 5) (v := .ref m7) (C := R_Mo) (T := F_Mo) (N := 12) hx hb hts i_Mo hown hK hP 0 rfl rfl 10 (by decide) (hts _ k_f_Mo_29) (fun _ h9 => h9) rfl d_Mo_write_13 ?_
  refine lv_iload_n hx hb d_Mo_write_16 rfl (lv_at hl 1 rfl) ?_
  refine fy_iald (t0 := 0) (v := nI n) hx hb hK hP 7 rfl rfl (by omega) (by omega) (by rw [hM.2.1 j q1, q2]; rfl) d_Mo_write_17 ?_
  refine lv_if_ge hx hb d_Mo_write_18 (tgt := 25) (by decide) (fun _ => ?_) (fun h => absurd (nI_pos' (by have := hI.lt n (hI.inR q1 n q2); omega)) h)
  refine lv_iconst (v := nI 0) hx hb d_Mo_write_25 (by decide) ?_
  refine va_put (D := D) (ci := 5) (v := .int (nI 0)) (ty := .int) (C := R_Mo) (T := F_Mo) (N := 12) hx hb hts i_Mo t_Mo tk_Mo n_Mo hown hK hP hD hS 0 rfl rfl 0 (by decide) (hts _ k_f_Mo_35) (fun _ h9 => h9) rfl (by decide +kernel) rfl rfl (Nat.le_of_ble_eq_true rfl) d_Mo_write_26 (fun H locs hP hD hS => ?_)
  have hP : va_P D vwCl [(mo, .inr (5, [.int (nI 0), .int (nI N), .int (nI C), .int (nI L.length), .ref m1, .ref m2, .ref m3, .ref m4, .ref m5, .ref m6, .ref m7, .ref m8])), (m1, .inl (cI, 80, .inl nu)), (m2, .inl (cI, 80, .inl va)), (m3, .inl (cI, 80, .inl ag)), (m4, .inl (cI, 80, .inl fi)), (m5, .inl (cI, 320, .inl re)), (m6, .inl (cZ, 80, .inl mk)), (m7, .inl (cI, 8, .inl mr)), (m8, .inl (cI, 4, .inl mw))] H := hP
  have hD : va_D A [(mo, .inr (5, [.int (nI 0), .int (nI N), .int (nI C), .int (nI L.length), .ref m1, .ref m2, .ref m3, .ref m4, .ref m5, .ref m6, .ref m7, .ref m8])), (m1, .inl (cI, 80, .inl nu)), (m2, .inl (cI, 80, .inl va)), (m3, .inl (cI, 80, .inl ag)), (m4, .inl (cI, 80, .inl fi)), (m5, .inl (cI, 320, .inl re)), (m6, .inl (cZ, 80, .inl mk)), (m7, .inl (cI, 8, .inl mr)), (m8, .inl (cI, 4, .inl mw))] := hD
  refine lv_aload_n hx hb d_Mo_write_29 rfl (lv_at hl 0 rfl) ?_
  refine va_get (D := D) (ci := 5) (v := .int (nI 0)) (C := R_Mo) (T := F_Mo) (N := 12) hx hb hts i_Mo hown hK hP 0 rfl rfl 0 (by decide) (hts _ k_f_Mo_35) (fun _ h9 => h9) rfl d_Mo_write_30 ?_
  refine lv_if_le hx hb d_Mo_write_33 (tgt := 38) (by decide) (fun _ => ?_) (fun h => absurd (by decide) h)
  refine lv_aload_n hx hb d_Mo_write_38 rfl (lv_at hl 0 rfl) ?_
  refine lv_aload_n hx hb d_Mo_write_39 rfl (lv_at hl 0 rfl) ?_
  refine va_get (D := D) (ci := 5) (v := .ref m7) (C := R_Mo) (T := F_Mo) (N := 12) hx hb hts i_Mo hown hK hP 0 rfl rfl 10 (by decide) (hts _ k_f_Mo_29) (fun _ h9 => h9) rfl d_Mo_write_40 ?_
  refine lv_iload_n hx hb d_Mo_write_43 rfl (lv_at hl 1 rfl) ?_
  refine fy_iald (t0 := 0) (v := fm_o (some n)) hx hb hK hP 7 rfl rfl (by omega) (by omega) (by rw [hM.2.1 j hj, hn0]) d_Mo_write_44 ?_
  have hnL : n ∈ L := hI.inR hj n hn0
  refine fy_callV (As := [.int (fm_o (some n))]) (rest := []) ⟨hx, hb, hml, hown, hts⟩ (c_Mo_find l s0 D cI cZ cJ cW hG mo m1 m2 m3 m4 m5 m6 m7 m8 (nI 0) N C L nu (some n) hM.num hI.2.2.2.1 hI.len hI.lt (fun m hm => hI.lt m (by cases hm; exact hnL))) (cwV 1 hts g_Mo_53 rfl rfl rfl (by decide +kernel) ⟨Nat.le_of_ble_eq_true rfl, Nat.le_of_ble_eq_true rfl⟩) hK hLa hAB hA hP hD hS [0, 1] rfl rfl (ci := 5) rfl rfl (q0 := 0) rfl rfl hl.1 rfl (Nat.le_of_ble_eq_true rfl) d_Mo_write_45 ⟨Nat.zero_le _, Nat.zero_le _⟩ (fun r w1 H locs hp hP hD hS => ?_)
  obtain ⟨a, ha, rfl, rfl⟩ := hp
  have hP : va_P D vwCl [(mo, .inr (5, [.int (nI 0), .int (nI N), .int (nI C), .int (nI L.length), .ref m1, .ref m2, .ref m3, .ref m4, .ref m5, .ref m6, .ref m7, .ref m8])), (m1, .inl (cI, 80, .inl nu)), (m2, .inl (cI, 80, .inl va)), (m3, .inl (cI, 80, .inl ag)), (m4, .inl (cI, 80, .inl fi)), (m5, .inl (cI, 320, .inl re)), (m6, .inl (cZ, 80, .inl mk)), (m7, .inl (cI, 8, .inl mr)), (m8, .inl (cI, 4, .inl mw))] H := hP
  have hD : va_D A [(mo, .inr (5, [.int (nI 0), .int (nI N), .int (nI C), .int (nI L.length), .ref m1, .ref m2, .ref m3, .ref m4, .ref m5, .ref m6, .ref m7, .ref m8])), (m1, .inl (cI, 80, .inl nu)), (m2, .inl (cI, 80, .inl va)), (m3, .inl (cI, 80, .inl ag)), (m4, .inl (cI, 80, .inl fi)), (m5, .inl (cI, 320, .inl re)), (m6, .inl (cZ, 80, .inl mk)), (m7, .inl (cI, 8, .inl mr)), (m8, .inl (cI, 4, .inl mw))] := hD
  obtain ⟨k, rfl, hk, hkl⟩ := fm_is1 ha hnL
  have h80 := hI.len
  refine W.eq (g2 := F0 m 48 ls [.int (nI k)]) rfl ?_
  obtain ⟨e1, e2, e3, e4, e5⟩ := hM.1 k n hk
  obtain ⟨-, ea, ef⟩ := hI.2.2.2.2.2.2.1 n hnL
  refine lv_istore_n hx hb d_Mo_write_48 rfl hl (by decide) rfl (fun ls hl => ?_)
  have hl : lv_has ls 5 [(3, .int (nI k)), (0, .ref mo), (1, .int (nI j)), (2, .int a2)] := hl
  refine lv_aload_n hx hb d_Mo_write_49 rfl (lv_at hl 1 rfl) ?_
  refine va_get (D := D) (ci := 5) (v := .ref m2) (C := R_Mo) (T := F_Mo) (N := 12) hx hb hts i_Mo hown hK hP 0 rfl rfl 5 (by decide) (hts _ k_f_Mo_13) (fun _ h9 => h9) rfl d_Mo_write_50 ?_
  refine lv_iload_n hx hb d_Mo_write_53 rfl (lv_at hl 0 rfl) ?_
  refine fy_iald (t0 := 0) (v := val n) hx hb hK hP 2 rfl rfl (by omega) (by omega) (e2) d_Mo_write_54 ?_
  refine lv_istore hx hb d_Mo_write_55 hl (by decide) rfl (fun ls hl => ?_)
  have hl : lv_has ls 5 [(4, .int (val n)), (3, .int (nI k)), (0, .ref mo), (1, .int (nI j)), (2, .int a2)] := hl
  refine lv_aload_n hx hb d_Mo_write_57 rfl (lv_at hl 2 rfl) ?_
  refine va_get (D := D) (ci := 5) (v := .ref m2) (C := R_Mo) (T := F_Mo) (N := 12) hx hb hts i_Mo hown hK hP 0 rfl rfl 5 (by decide) (hts _ k_f_Mo_13) (fun _ h9 => h9) rfl d_Mo_write_58 ?_
  refine lv_iload_n hx hb d_Mo_write_61 rfl (lv_at hl 1 rfl) ?_
  refine lv_iload_n hx hb d_Mo_write_62 rfl (lv_at hl 4 rfl) ?_
  refine fy_iast (t0 := 0) (g := upd va k a2) hx hb hK hP hD hS 2 rfl rfl (by omega) (by omega) (rfl) d_Mo_write_63 (fun H locs hP hD hS => ?_)
  have hP : va_P D vwCl [(mo, .inr (5, [.int (nI 0), .int (nI N), .int (nI C), .int (nI L.length), .ref m1, .ref m2, .ref m3, .ref m4, .ref m5, .ref m6, .ref m7, .ref m8])), (m1, .inl (cI, 80, .inl nu)), (m2, .inl (cI, 80, .inl (upd va k a2))), (m3, .inl (cI, 80, .inl ag)), (m4, .inl (cI, 80, .inl fi)), (m5, .inl (cI, 320, .inl re)), (m6, .inl (cZ, 80, .inl mk)), (m7, .inl (cI, 8, .inl mr)), (m8, .inl (cI, 4, .inl mw))] H := hP
  have hD : va_D A [(mo, .inr (5, [.int (nI 0), .int (nI N), .int (nI C), .int (nI L.length), .ref m1, .ref m2, .ref m3, .ref m4, .ref m5, .ref m6, .ref m7, .ref m8])), (m1, .inl (cI, 80, .inl nu)), (m2, .inl (cI, 80, .inl (upd va k a2))), (m3, .inl (cI, 80, .inl ag)), (m4, .inl (cI, 80, .inl fi)), (m5, .inl (cI, 320, .inl re)), (m6, .inl (cZ, 80, .inl mk)), (m7, .inl (cI, 8, .inl mr)), (m8, .inl (cI, 4, .inl mw))] := hD
  refine lv_iload hx hb d_Mo_write_64 (lv_at hl 0 rfl) ?_
  exact fy_reti hx hb hr hlocks hAe (⟨val n, nu, upd va k a2, ag, fi, re, mk, mr, mw, (fun _ => rfl), rfl, hM.put hI.2.2.2.1 hk, rfl⟩) (List.Perm.refl _) hP hS d_Mo_write_66
set_option maxRecDepth 20000 in
set_option maxHeartbeats 4000000 in
theorem c_Mo_watched_0 (l : Launch) (s0 : State) (D : va_G) (cI cZ cJ cW : ClassId) (hG : fy_G s0 D cI cZ cJ cW) (mo m1 m2 m3 m4 m5 m6 m7 m8 : Nat) (cd : Int32) (i : Nat) (N : Nat) (C : Nat) (L : List Nat) (val : Nat → Int32) (age : Nat → Nat) (nf : Nat → Nat) (rf : Nat → Nat → Option Nat) (reg : Nat → Option Nat) (wk : Nat → Option Nat) (nu va ag fi re mk mr mw : Nat → Int32) (hI : fm_In i N C L age nf rf reg wk) (hM : fm_Mo L val age nf rf reg wk nu va ag fi re mr mw) (a1 : Int32) (ans : Int32) (q1 : ¬ fy_ok 4 a1) : fy_Met l s0 D vwCl y_Mo_watched w_Mo_watched (fy_rm 2) 0 0 [.ref mo, .int a1] [(mo, .inr (5, [.int cd, .int (nI N), .int (nI C), .int (nI L.length), .ref m1, .ref m2, .ref m3, .ref m4, .ref m5, .ref m6, .ref m7, .ref m8])), (m1, .inl (cI, 80, .inl nu)), (m2, .inl (cI, 80, .inl va)), (m3, .inl (cI, 80, .inl ag)), (m4, .inl (cI, 80, .inl fi)), (m5, .inl (cI, 320, .inl re)), (m6, .inl (cZ, 80, .inl mk)), (m7, .inl (cI, 8, .inl mr)), (m8, .inl (cI, 4, .inl mw))] (fun r w1 => mo_post (fun b => some (.int b)) mo m1 m2 m3 m4 m5 m6 m7 m8 cI cZ 1 ans N C L val age nf rf reg wk r w1) := by
  refine fy_st (bytes := b_Mo_watched) (maxL := 2) (ret := some .int) hG (by decide) rfl (Nat.le_of_ble_eq_true rfl) ?_
  intro p e s m below meth c A ls hx hb hr hlocks hml hown hts hK hLa hAe hAB hA hl hP hD hS
  have hl : lv_has ls 2 [(0, .ref mo), (1, .int a1)] := hl
  refine lv_aload_n hx hb d_Mo_watched_0 rfl (lv_at hl 0 rfl) ?_
  refine lv_iload_n hx hb d_Mo_watched_1 rfl (lv_at hl 1 rfl) ?_
  refine fy_callS (As := [.int a1]) (rest := [.ref mo]) ⟨hx, hb, hml, hown, hts⟩ (c_Mo_isWeak0 l s0 D cI cZ cJ cW hG a1 (q1)) (va_cwS 1 hts g_Mo_61 rfl rfl rfl (by decide +kernel) ⟨Nat.le_of_ble_eq_true rfl, Nat.le_of_ble_eq_true rfl⟩) hLa hAB hA hP hD hS [] rfl rfl rfl hl.1 rfl (Nat.le_of_ble_eq_true rfl) d_Mo_watched_2 ⟨Nat.zero_le _, Nat.zero_le _⟩ (fun r w1 H locs hp hP hD hS => ?_)
  obtain ⟨rfl, rfl⟩ := hp
  have hP : va_P D vwCl [(mo, .inr (5, [.int cd, .int (nI N), .int (nI C), .int (nI L.length), .ref m1, .ref m2, .ref m3, .ref m4, .ref m5, .ref m6, .ref m7, .ref m8])), (m1, .inl (cI, 80, .inl nu)), (m2, .inl (cI, 80, .inl va)), (m3, .inl (cI, 80, .inl ag)), (m4, .inl (cI, 80, .inl fi)), (m5, .inl (cI, 320, .inl re)), (m6, .inl (cZ, 80, .inl mk)), (m7, .inl (cI, 8, .inl mr)), (m8, .inl (cI, 4, .inl mw))] H := hP
  have hD : va_D A [(mo, .inr (5, [.int cd, .int (nI N), .int (nI C), .int (nI L.length), .ref m1, .ref m2, .ref m3, .ref m4, .ref m5, .ref m6, .ref m7, .ref m8])), (m1, .inl (cI, 80, .inl nu)), (m2, .inl (cI, 80, .inl va)), (m3, .inl (cI, 80, .inl ag)), (m4, .inl (cI, 80, .inl fi)), (m5, .inl (cI, 320, .inl re)), (m6, .inl (cZ, 80, .inl mk)), (m7, .inl (cI, 8, .inl mr)), (m8, .inl (cI, 4, .inl mw))] := hD
  refine lv_if_eq hx hb d_Mo_watched_5 (tgt := 12) (by decide) (fun _ => ?_) (fun h => absurd (rfl) h)
  refine lv_iconst (v := nI 1) hx hb d_Mo_watched_12 (by decide) ?_
  refine va_put (D := D) (ci := 5) (v := .int (nI 1)) (ty := .int) (C := R_Mo) (T := F_Mo) (N := 12) hx hb hts i_Mo t_Mo tk_Mo n_Mo hown hK hP hD hS 0 rfl rfl 0 (by decide) (hts _ k_f_Mo_35) (fun _ h9 => h9) rfl (by decide +kernel) rfl rfl (Nat.le_of_ble_eq_true rfl) d_Mo_watched_13 (fun H locs hP hD hS => ?_)
  have hP : va_P D vwCl [(mo, .inr (5, [.int (nI 1), .int (nI N), .int (nI C), .int (nI L.length), .ref m1, .ref m2, .ref m3, .ref m4, .ref m5, .ref m6, .ref m7, .ref m8])), (m1, .inl (cI, 80, .inl nu)), (m2, .inl (cI, 80, .inl va)), (m3, .inl (cI, 80, .inl ag)), (m4, .inl (cI, 80, .inl fi)), (m5, .inl (cI, 320, .inl re)), (m6, .inl (cZ, 80, .inl mk)), (m7, .inl (cI, 8, .inl mr)), (m8, .inl (cI, 4, .inl mw))] H := hP
  have hD : va_D A [(mo, .inr (5, [.int (nI 1), .int (nI N), .int (nI C), .int (nI L.length), .ref m1, .ref m2, .ref m3, .ref m4, .ref m5, .ref m6, .ref m7, .ref m8])), (m1, .inl (cI, 80, .inl nu)), (m2, .inl (cI, 80, .inl va)), (m3, .inl (cI, 80, .inl ag)), (m4, .inl (cI, 80, .inl fi)), (m5, .inl (cI, 320, .inl re)), (m6, .inl (cZ, 80, .inl mk)), (m7, .inl (cI, 8, .inl mr)), (m8, .inl (cI, 4, .inl mw))] := hD
  refine lv_aload_n hx hb d_Mo_watched_16 rfl (lv_at hl 0 rfl) ?_
  refine va_get (D := D) (ci := 5) (v := .int (nI 1)) (C := R_Mo) (T := F_Mo) (N := 12) hx hb hts i_Mo hown hK hP 0 rfl rfl 0 (by decide) (hts _ k_f_Mo_35) (fun _ h9 => h9) rfl d_Mo_watched_17 ?_
  refine lv_if_ne hx hb d_Mo_watched_20 (tgt := 32) (by decide) (fun _ => ?_) (fun h => absurd h (by decide))
  refine lv_iconst (v := nI 0) hx hb d_Mo_watched_32 (by decide) ?_
  exact fy_reti hx hb hr hlocks hAe (⟨nI 0, nu, va, ag, fi, re, mk, mr, mw, (fun h => absurd h (by decide)), rfl, hM, rfl⟩) (List.Perm.refl _) hP hS d_Mo_watched_33
set_option maxRecDepth 20000 in
set_option maxHeartbeats 4000000 in
theorem c_Mo_watched_1 (l : Launch) (s0 : State) (D : va_G) (cI cZ cJ cW : ClassId) (hG : fy_G s0 D cI cZ cJ cW) (mo m1 m2 m3 m4 m5 m6 m7 m8 : Nat) (cd : Int32) (i : Nat) (N : Nat) (C : Nat) (L : List Nat) (val : Nat → Int32) (age : Nat → Nat) (nf : Nat → Nat) (rf : Nat → Nat → Option Nat) (reg : Nat → Option Nat) (wk : Nat → Option Nat) (nu va ag fi re mk mr mw : Nat → Int32) (hI : fm_In i N C L age nf rf reg wk) (hM : fm_Mo L val age nf rf reg wk nu va ag fi re mr mw) (w : Nat) (q1 : w < 4) : fy_Met l s0 D vwCl y_Mo_watched w_Mo_watched (fy_rm 2) 0 0 [.ref mo, .int (nI w)] [(mo, .inr (5, [.int cd, .int (nI N), .int (nI C), .int (nI L.length), .ref m1, .ref m2, .ref m3, .ref m4, .ref m5, .ref m6, .ref m7, .ref m8])), (m1, .inl (cI, 80, .inl nu)), (m2, .inl (cI, 80, .inl va)), (m3, .inl (cI, 80, .inl ag)), (m4, .inl (cI, 80, .inl fi)), (m5, .inl (cI, 320, .inl re)), (m6, .inl (cZ, 80, .inl mk)), (m7, .inl (cI, 8, .inl mr)), (m8, .inl (cI, 4, .inl mw))] (fun r w1 => mo_post (fun b => some (.int b)) mo m1 m2 m3 m4 m5 m6 m7 m8 cI cZ 0 (fm_o (wk w)) N C L val age nf rf reg wk r w1) := by
  refine fy_st (bytes := b_Mo_watched) (maxL := 2) (ret := some .int) hG (by decide) rfl (Nat.le_of_ble_eq_true rfl) ?_
  intro p e s m below meth c A ls hx hb hr hlocks hml hown hts hK hLa hAe hAB hA hl hP hD hS
  have hl : lv_has ls 2 [(0, .ref mo), (1, .int (nI w))] := hl
  refine lv_aload_n hx hb d_Mo_watched_0 rfl (lv_at hl 0 rfl) ?_
  refine lv_iload_n hx hb d_Mo_watched_1 rfl (lv_at hl 1 rfl) ?_
  refine fy_callS (As := [.int (nI w)]) (rest := [.ref mo]) ⟨hx, hb, hml, hown, hts⟩ (c_Mo_isWeak l s0 D cI cZ cJ cW hG w q1) (va_cwS 1 hts g_Mo_61 rfl rfl rfl (by decide +kernel) ⟨Nat.le_of_ble_eq_true rfl, Nat.le_of_ble_eq_true rfl⟩) hLa hAB hA hP hD hS [] rfl rfl rfl hl.1 rfl (Nat.le_of_ble_eq_true rfl) d_Mo_watched_2 ⟨Nat.zero_le _, Nat.zero_le _⟩ (fun r w1 H locs hp hP hD hS => ?_)
  obtain ⟨rfl, rfl⟩ := hp
  have hP : va_P D vwCl [(mo, .inr (5, [.int cd, .int (nI N), .int (nI C), .int (nI L.length), .ref m1, .ref m2, .ref m3, .ref m4, .ref m5, .ref m6, .ref m7, .ref m8])), (m1, .inl (cI, 80, .inl nu)), (m2, .inl (cI, 80, .inl va)), (m3, .inl (cI, 80, .inl ag)), (m4, .inl (cI, 80, .inl fi)), (m5, .inl (cI, 320, .inl re)), (m6, .inl (cZ, 80, .inl mk)), (m7, .inl (cI, 8, .inl mr)), (m8, .inl (cI, 4, .inl mw))] H := hP
  have hD : va_D A [(mo, .inr (5, [.int cd, .int (nI N), .int (nI C), .int (nI L.length), .ref m1, .ref m2, .ref m3, .ref m4, .ref m5, .ref m6, .ref m7, .ref m8])), (m1, .inl (cI, 80, .inl nu)), (m2, .inl (cI, 80, .inl va)), (m3, .inl (cI, 80, .inl ag)), (m4, .inl (cI, 80, .inl fi)), (m5, .inl (cI, 320, .inl re)), (m6, .inl (cZ, 80, .inl mk)), (m7, .inl (cI, 8, .inl mr)), (m8, .inl (cI, 4, .inl mw))] := hD
  refine lv_if_eq hx hb d_Mo_watched_5 (tgt := 12) (by decide) (fun h => absurd h (by decide)) (fun _ => ?_)
  refine lv_iconst (v := nI 0) hx hb d_Mo_watched_8 (by decide) ?_
  refine lv_goto hx hb d_Mo_watched_9 (tgt := 13) (by decide) ?_
  refine va_put (D := D) (ci := 5) (v := .int (nI 0)) (ty := .int) (C := R_Mo) (T := F_Mo) (N := 12) hx hb hts i_Mo t_Mo tk_Mo n_Mo hown hK hP hD hS 0 rfl rfl 0 (by decide) (hts _ k_f_Mo_35) (fun _ h9 => h9) rfl (by decide +kernel) rfl rfl (Nat.le_of_ble_eq_true rfl) d_Mo_watched_13 (fun H locs hP hD hS => ?_)
  have hP : va_P D vwCl [(mo, .inr (5, [.int (nI 0), .int (nI N), .int (nI C), .int (nI L.length), .ref m1, .ref m2, .ref m3, .ref m4, .ref m5, .ref m6, .ref m7, .ref m8])), (m1, .inl (cI, 80, .inl nu)), (m2, .inl (cI, 80, .inl va)), (m3, .inl (cI, 80, .inl ag)), (m4, .inl (cI, 80, .inl fi)), (m5, .inl (cI, 320, .inl re)), (m6, .inl (cZ, 80, .inl mk)), (m7, .inl (cI, 8, .inl mr)), (m8, .inl (cI, 4, .inl mw))] H := hP
  have hD : va_D A [(mo, .inr (5, [.int (nI 0), .int (nI N), .int (nI C), .int (nI L.length), .ref m1, .ref m2, .ref m3, .ref m4, .ref m5, .ref m6, .ref m7, .ref m8])), (m1, .inl (cI, 80, .inl nu)), (m2, .inl (cI, 80, .inl va)), (m3, .inl (cI, 80, .inl ag)), (m4, .inl (cI, 80, .inl fi)), (m5, .inl (cI, 320, .inl re)), (m6, .inl (cZ, 80, .inl mk)), (m7, .inl (cI, 8, .inl mr)), (m8, .inl (cI, 4, .inl mw))] := hD
  refine lv_aload_n hx hb d_Mo_watched_16 rfl (lv_at hl 0 rfl) ?_
  refine va_get (D := D) (ci := 5) (v := .int (nI 0)) (C := R_Mo) (T := F_Mo) (N := 12) hx hb hts i_Mo hown hK hP 0 rfl rfl 0 (by decide) (hts _ k_f_Mo_35) (fun _ h9 => h9) rfl d_Mo_watched_17 ?_
  refine lv_if_ne hx hb d_Mo_watched_20 (tgt := 32) (by decide) (fun h => absurd (rfl) h) (fun _ => ?_)
  refine lv_aload_n hx hb d_Mo_watched_23 rfl (lv_at hl 0 rfl) ?_
  refine va_get (D := D) (ci := 5) (v := .ref m8) (C := R_Mo) (T := F_Mo) (N := 12) hx hb hts i_Mo hown hK hP 0 rfl rfl 11 (by decide) (hts _ k_f_Mo_32) (fun _ h9 => h9) rfl d_Mo_watched_24 ?_
  refine lv_iload_n hx hb d_Mo_watched_27 rfl (lv_at hl 1 rfl) ?_
  refine fy_iald (t0 := 0) (v := fm_o (wk w)) hx hb hK hP 8 rfl rfl (by omega) (by omega) (hM.2.2 w q1) d_Mo_watched_28 ?_
  refine lv_goto hx hb d_Mo_watched_29 (tgt := 33) (by decide) ?_
  exact fy_reti hx hb hr hlocks hAe (⟨fm_o (wk w), nu, va, ag, fi, re, mk, mr, mw, (fun _ => rfl), rfl, hM, rfl⟩) (List.Perm.refl _) hP hS d_Mo_watched_33
set_option maxRecDepth 20000 in
set_option maxHeartbeats 4000000 in
theorem c_Mo_about_0 (l : Launch) (s0 : State) (D : va_G) (cI cZ cJ cW : ClassId) (hG : fy_G s0 D cI cZ cJ cW) (mo m1 m2 m3 m4 m5 m6 m7 m8 : Nat) (cd : Int32) (i : Nat) (N : Nat) (C : Nat) (L : List Nat) (val : Nat → Int32) (age : Nat → Nat) (nf : Nat → Nat) (rf : Nat → Nat → Option Nat) (reg : Nat → Option Nat) (wk : Nat → Option Nat) (nu va ag fi re mk mr mw : Nat → Int32) (hI : fm_In i N C L age nf rf reg wk) (hM : fm_Mo L val age nf rf reg wk nu va ag fi re mr mw) (a1 a2 : Int32) (ans : Int32) (q1 : ¬ fy_ok 8 a1 ∨ ¬ fy_ok 4 a2) : fy_Met l s0 D vwCl y_Mo_about w_Mo_about (fy_rm 2) 0 0 [.ref mo, .int a1, .int a2] [(mo, .inr (5, [.int cd, .int (nI N), .int (nI C), .int (nI L.length), .ref m1, .ref m2, .ref m3, .ref m4, .ref m5, .ref m6, .ref m7, .ref m8])), (m1, .inl (cI, 80, .inl nu)), (m2, .inl (cI, 80, .inl va)), (m3, .inl (cI, 80, .inl ag)), (m4, .inl (cI, 80, .inl fi)), (m5, .inl (cI, 320, .inl re)), (m6, .inl (cZ, 80, .inl mk)), (m7, .inl (cI, 8, .inl mr)), (m8, .inl (cI, 4, .inl mw))] (fun r w1 => mo_post (fun b => some (.int b)) mo m1 m2 m3 m4 m5 m6 m7 m8 cI cZ 1 ans N C L val age nf rf reg wk r w1) := by
  refine fy_st (bytes := b_Mo_about) (maxL := 4) (ret := some .int) hG (by decide) rfl (Nat.le_of_ble_eq_true rfl) ?_
  intro p e s m below meth c A ls hx hb hr hlocks hml hown hts hK hLa hAe hAB hA hl hP hD hS
  have hl : lv_has ls 4 [(0, .ref mo), (1, .int a1), (2, .int a2)] := hl
  refine lv_aload_n hx hb d_Mo_about_0 rfl (lv_at hl 0 rfl) ?_
  refine lv_iload_n hx hb d_Mo_about_1 rfl (lv_at hl 1 rfl) ?_
  by_cases hr9 : fy_ok 8 a1
  · obtain ⟨k, hk, rfl⟩ := hr9.nat (by omega)
    have hf : ¬ fy_ok 4 a2 := q1.resolve_left (fun h => h hr9)
    refine fy_callS (As := [.int (nI k)]) (rest := [.ref mo]) ⟨hx, hb, hml, hown, hts⟩ (c_Mo_isRegister l s0 D cI cZ cJ cW hG k hk) (va_cwS 1 hts g_Mo_42 rfl rfl rfl (by decide +kernel) ⟨Nat.le_of_ble_eq_true rfl, Nat.le_of_ble_eq_true rfl⟩) hLa hAB hA hP hD hS [] rfl rfl rfl hl.1 rfl (Nat.le_of_ble_eq_true rfl) d_Mo_about_2 ⟨Nat.zero_le _, Nat.zero_le _⟩ (fun r w1 H locs hp hP hD hS => ?_)
    obtain ⟨rfl, rfl⟩ := hp
    have hP : va_P D vwCl [(mo, .inr (5, [.int cd, .int (nI N), .int (nI C), .int (nI L.length), .ref m1, .ref m2, .ref m3, .ref m4, .ref m5, .ref m6, .ref m7, .ref m8])), (m1, .inl (cI, 80, .inl nu)), (m2, .inl (cI, 80, .inl va)), (m3, .inl (cI, 80, .inl ag)), (m4, .inl (cI, 80, .inl fi)), (m5, .inl (cI, 320, .inl re)), (m6, .inl (cZ, 80, .inl mk)), (m7, .inl (cI, 8, .inl mr)), (m8, .inl (cI, 4, .inl mw))] H := hP
    have hD : va_D A [(mo, .inr (5, [.int cd, .int (nI N), .int (nI C), .int (nI L.length), .ref m1, .ref m2, .ref m3, .ref m4, .ref m5, .ref m6, .ref m7, .ref m8])), (m1, .inl (cI, 80, .inl nu)), (m2, .inl (cI, 80, .inl va)), (m3, .inl (cI, 80, .inl ag)), (m4, .inl (cI, 80, .inl fi)), (m5, .inl (cI, 320, .inl re)), (m6, .inl (cZ, 80, .inl mk)), (m7, .inl (cI, 8, .inl mr)), (m8, .inl (cI, 4, .inl mw))] := hD
    refine lv_if_eq hx hb d_Mo_about_5 (tgt := 17) (by decide) (fun h => absurd h (by decide)) (fun _ => ?_)
    refine lv_iload_n hx hb d_Mo_about_8 rfl (lv_at hl 2 rfl) ?_
    refine lv_if_lt hx hb d_Mo_about_9 (tgt := 17) (by decide) (fun hc => ?_) (fun hc => ?_)
    · refine lv_iconst (v := nI 1) hx hb d_Mo_about_17 (by decide) ?_
      refine lv_goto hx hb d_Mo_about_18 (tgt := 35) (by decide) ?_
      refine va_put (D := D) (ci := 5) (v := .int (nI 1)) (ty := .int) (C := R_Mo) (T := F_Mo) (N := 12) hx hb hts i_Mo t_Mo tk_Mo n_Mo hown hK hP hD hS 0 rfl rfl 0 (by decide) (hts _ k_f_Mo_35) (fun _ h9 => h9) rfl (by decide +kernel) rfl rfl (Nat.le_of_ble_eq_true rfl) d_Mo_about_35 (fun H locs hP hD hS => ?_)
      have hP : va_P D vwCl [(mo, .inr (5, [.int (nI 1), .int (nI N), .int (nI C), .int (nI L.length), .ref m1, .ref m2, .ref m3, .ref m4, .ref m5, .ref m6, .ref m7, .ref m8])), (m1, .inl (cI, 80, .inl nu)), (m2, .inl (cI, 80, .inl va)), (m3, .inl (cI, 80, .inl ag)), (m4, .inl (cI, 80, .inl fi)), (m5, .inl (cI, 320, .inl re)), (m6, .inl (cZ, 80, .inl mk)), (m7, .inl (cI, 8, .inl mr)), (m8, .inl (cI, 4, .inl mw))] H := hP
      have hD : va_D A [(mo, .inr (5, [.int (nI 1), .int (nI N), .int (nI C), .int (nI L.length), .ref m1, .ref m2, .ref m3, .ref m4, .ref m5, .ref m6, .ref m7, .ref m8])), (m1, .inl (cI, 80, .inl nu)), (m2, .inl (cI, 80, .inl va)), (m3, .inl (cI, 80, .inl ag)), (m4, .inl (cI, 80, .inl fi)), (m5, .inl (cI, 320, .inl re)), (m6, .inl (cZ, 80, .inl mk)), (m7, .inl (cI, 8, .inl mr)), (m8, .inl (cI, 4, .inl mw))] := hD
      refine lv_aload_n hx hb d_Mo_about_38 rfl (lv_at hl 0 rfl) ?_
      refine va_get (D := D) (ci := 5) (v := .int (nI 1)) (C := R_Mo) (T := F_Mo) (N := 12) hx hb hts i_Mo hown hK hP 0 rfl rfl 0 (by decide) (hts _ k_f_Mo_35) (fun _ h9 => h9) rfl d_Mo_about_39 ?_
      refine lv_if_le hx hb d_Mo_about_42 (tgt := 47) (by decide) (fun h => absurd h (by decide)) (fun _ => ?_)
      refine lv_iconst (v := nI 0) hx hb d_Mo_about_45 (by decide) ?_
      exact fy_reti hx hb hr hlocks hAe (⟨nI 0, nu, va, ag, fi, re, mk, mr, mw, (fun h => absurd h (by decide)), rfl, hM, rfl⟩) (List.Perm.refl _) hP hS d_Mo_about_46
    · refine lv_iload_n hx hb d_Mo_about_12 rfl (lv_at hl 2 rfl) ?_
      refine lv_iconst (v := nI 3) hx hb d_Mo_about_13 (by decide) ?_
      refine lv_icmp_le hx hb d_Mo_about_14 (tgt := 21) (by decide) (fun h => absurd h (fun h => hf ⟨Int32.not_lt.mp hc, fy_lt4 h⟩)) (fun _ => ?_)
      refine lv_iconst (v := nI 1) hx hb d_Mo_about_17 (by decide) ?_
      refine lv_goto hx hb d_Mo_about_18 (tgt := 35) (by decide) ?_
      refine va_put (D := D) (ci := 5) (v := .int (nI 1)) (ty := .int) (C := R_Mo) (T := F_Mo) (N := 12) hx hb hts i_Mo t_Mo tk_Mo n_Mo hown hK hP hD hS 0 rfl rfl 0 (by decide) (hts _ k_f_Mo_35) (fun _ h9 => h9) rfl (by decide +kernel) rfl rfl (Nat.le_of_ble_eq_true rfl) d_Mo_about_35 (fun H locs hP hD hS => ?_)
      have hP : va_P D vwCl [(mo, .inr (5, [.int (nI 1), .int (nI N), .int (nI C), .int (nI L.length), .ref m1, .ref m2, .ref m3, .ref m4, .ref m5, .ref m6, .ref m7, .ref m8])), (m1, .inl (cI, 80, .inl nu)), (m2, .inl (cI, 80, .inl va)), (m3, .inl (cI, 80, .inl ag)), (m4, .inl (cI, 80, .inl fi)), (m5, .inl (cI, 320, .inl re)), (m6, .inl (cZ, 80, .inl mk)), (m7, .inl (cI, 8, .inl mr)), (m8, .inl (cI, 4, .inl mw))] H := hP
      have hD : va_D A [(mo, .inr (5, [.int (nI 1), .int (nI N), .int (nI C), .int (nI L.length), .ref m1, .ref m2, .ref m3, .ref m4, .ref m5, .ref m6, .ref m7, .ref m8])), (m1, .inl (cI, 80, .inl nu)), (m2, .inl (cI, 80, .inl va)), (m3, .inl (cI, 80, .inl ag)), (m4, .inl (cI, 80, .inl fi)), (m5, .inl (cI, 320, .inl re)), (m6, .inl (cZ, 80, .inl mk)), (m7, .inl (cI, 8, .inl mr)), (m8, .inl (cI, 4, .inl mw))] := hD
      refine lv_aload_n hx hb d_Mo_about_38 rfl (lv_at hl 0 rfl) ?_
      refine va_get (D := D) (ci := 5) (v := .int (nI 1)) (C := R_Mo) (T := F_Mo) (N := 12) hx hb hts i_Mo hown hK hP 0 rfl rfl 0 (by decide) (hts _ k_f_Mo_35) (fun _ h9 => h9) rfl d_Mo_about_39 ?_
      refine lv_if_le hx hb d_Mo_about_42 (tgt := 47) (by decide) (fun h => absurd h (by decide)) (fun _ => ?_)
      refine lv_iconst (v := nI 0) hx hb d_Mo_about_45 (by decide) ?_
      exact fy_reti hx hb hr hlocks hAe (⟨nI 0, nu, va, ag, fi, re, mk, mr, mw, (fun h => absurd h (by decide)), rfl, hM, rfl⟩) (List.Perm.refl _) hP hS d_Mo_about_46
  · refine fy_callS (As := [.int a1]) (rest := [.ref mo]) ⟨hx, hb, hml, hown, hts⟩ (c_Mo_isRegister0 l s0 D cI cZ cJ cW hG a1 (hr9)) (va_cwS 1 hts g_Mo_42 rfl rfl rfl (by decide +kernel) ⟨Nat.le_of_ble_eq_true rfl, Nat.le_of_ble_eq_true rfl⟩) hLa hAB hA hP hD hS [] rfl rfl rfl hl.1 rfl (Nat.le_of_ble_eq_true rfl) d_Mo_about_2 ⟨Nat.zero_le _, Nat.zero_le _⟩ (fun r w1 H locs hp hP hD hS => ?_)
    obtain ⟨rfl, rfl⟩ := hp
    have hP : va_P D vwCl [(mo, .inr (5, [.int cd, .int (nI N), .int (nI C), .int (nI L.length), .ref m1, .ref m2, .ref m3, .ref m4, .ref m5, .ref m6, .ref m7, .ref m8])), (m1, .inl (cI, 80, .inl nu)), (m2, .inl (cI, 80, .inl va)), (m3, .inl (cI, 80, .inl ag)), (m4, .inl (cI, 80, .inl fi)), (m5, .inl (cI, 320, .inl re)), (m6, .inl (cZ, 80, .inl mk)), (m7, .inl (cI, 8, .inl mr)), (m8, .inl (cI, 4, .inl mw))] H := hP
    have hD : va_D A [(mo, .inr (5, [.int cd, .int (nI N), .int (nI C), .int (nI L.length), .ref m1, .ref m2, .ref m3, .ref m4, .ref m5, .ref m6, .ref m7, .ref m8])), (m1, .inl (cI, 80, .inl nu)), (m2, .inl (cI, 80, .inl va)), (m3, .inl (cI, 80, .inl ag)), (m4, .inl (cI, 80, .inl fi)), (m5, .inl (cI, 320, .inl re)), (m6, .inl (cZ, 80, .inl mk)), (m7, .inl (cI, 8, .inl mr)), (m8, .inl (cI, 4, .inl mw))] := hD
    refine lv_if_eq hx hb d_Mo_about_5 (tgt := 17) (by decide) (fun _ => ?_) (fun h => absurd (rfl) h)
    refine lv_iconst (v := nI 1) hx hb d_Mo_about_17 (by decide) ?_
    refine lv_goto hx hb d_Mo_about_18 (tgt := 35) (by decide) ?_
    refine va_put (D := D) (ci := 5) (v := .int (nI 1)) (ty := .int) (C := R_Mo) (T := F_Mo) (N := 12) hx hb hts i_Mo t_Mo tk_Mo n_Mo hown hK hP hD hS 0 rfl rfl 0 (by decide) (hts _ k_f_Mo_35) (fun _ h9 => h9) rfl (by decide +kernel) rfl rfl (Nat.le_of_ble_eq_true rfl) d_Mo_about_35 (fun H locs hP hD hS => ?_)
    have hP : va_P D vwCl [(mo, .inr (5, [.int (nI 1), .int (nI N), .int (nI C), .int (nI L.length), .ref m1, .ref m2, .ref m3, .ref m4, .ref m5, .ref m6, .ref m7, .ref m8])), (m1, .inl (cI, 80, .inl nu)), (m2, .inl (cI, 80, .inl va)), (m3, .inl (cI, 80, .inl ag)), (m4, .inl (cI, 80, .inl fi)), (m5, .inl (cI, 320, .inl re)), (m6, .inl (cZ, 80, .inl mk)), (m7, .inl (cI, 8, .inl mr)), (m8, .inl (cI, 4, .inl mw))] H := hP
    have hD : va_D A [(mo, .inr (5, [.int (nI 1), .int (nI N), .int (nI C), .int (nI L.length), .ref m1, .ref m2, .ref m3, .ref m4, .ref m5, .ref m6, .ref m7, .ref m8])), (m1, .inl (cI, 80, .inl nu)), (m2, .inl (cI, 80, .inl va)), (m3, .inl (cI, 80, .inl ag)), (m4, .inl (cI, 80, .inl fi)), (m5, .inl (cI, 320, .inl re)), (m6, .inl (cZ, 80, .inl mk)), (m7, .inl (cI, 8, .inl mr)), (m8, .inl (cI, 4, .inl mw))] := hD
    refine lv_aload_n hx hb d_Mo_about_38 rfl (lv_at hl 0 rfl) ?_
    refine va_get (D := D) (ci := 5) (v := .int (nI 1)) (C := R_Mo) (T := F_Mo) (N := 12) hx hb hts i_Mo hown hK hP 0 rfl rfl 0 (by decide) (hts _ k_f_Mo_35) (fun _ h9 => h9) rfl d_Mo_about_39 ?_
    refine lv_if_le hx hb d_Mo_about_42 (tgt := 47) (by decide) (fun h => absurd h (by decide)) (fun _ => ?_)
    refine lv_iconst (v := nI 0) hx hb d_Mo_about_45 (by decide) ?_
    exact fy_reti hx hb hr hlocks hAe (⟨nI 0, nu, va, ag, fi, re, mk, mr, mw, (fun h => absurd h (by decide)), rfl, hM, rfl⟩) (List.Perm.refl _) hP hS d_Mo_about_46
set_option maxRecDepth 20000 in
set_option maxHeartbeats 4000000 in
theorem c_Mo_about_1 (l : Launch) (s0 : State) (D : va_G) (cI cZ cJ cW : ClassId) (hG : fy_G s0 D cI cZ cJ cW) (mo m1 m2 m3 m4 m5 m6 m7 m8 : Nat) (cd : Int32) (i : Nat) (N : Nat) (C : Nat) (L : List Nat) (val : Nat → Int32) (age : Nat → Nat) (nf : Nat → Nat) (rf : Nat → Nat → Option Nat) (reg : Nat → Option Nat) (wk : Nat → Option Nat) (nu va ag fi re mk mr mw : Nat → Int32) (hI : fm_In i N C L age nf rf reg wk) (hM : fm_Mo L val age nf rf reg wk nu va ag fi re mr mw) (j x : Nat) (ans : Int32) (q1 : j < 8) (q2 : x < 4) (q3 : reg j = none) : fy_Met l s0 D vwCl y_Mo_about w_Mo_about (fy_rm 2) 0 0 [.ref mo, .int (nI j), .int (nI x)] [(mo, .inr (5, [.int cd, .int (nI N), .int (nI C), .int (nI L.length), .ref m1, .ref m2, .ref m3, .ref m4, .ref m5, .ref m6, .ref m7, .ref m8])), (m1, .inl (cI, 80, .inl nu)), (m2, .inl (cI, 80, .inl va)), (m3, .inl (cI, 80, .inl ag)), (m4, .inl (cI, 80, .inl fi)), (m5, .inl (cI, 320, .inl re)), (m6, .inl (cZ, 80, .inl mk)), (m7, .inl (cI, 8, .inl mr)), (m8, .inl (cI, 4, .inl mw))] (fun r w1 => mo_post (fun b => some (.int b)) mo m1 m2 m3 m4 m5 m6 m7 m8 cI cZ 2 ans N C L val age nf rf reg wk r w1) := by
  refine fy_st (bytes := b_Mo_about) (maxL := 4) (ret := some .int) hG (by decide) rfl (Nat.le_of_ble_eq_true rfl) ?_
  intro p e s m below meth c A ls hx hb hr hlocks hml hown hts hK hLa hAe hAB hA hl hP hD hS
  have hl : lv_has ls 4 [(0, .ref mo), (1, .int (nI j)), (2, .int (nI x))] := hl
  refine lv_aload_n hx hb d_Mo_about_0 rfl (lv_at hl 0 rfl) ?_
  refine lv_iload_n hx hb d_Mo_about_1 rfl (lv_at hl 1 rfl) ?_
  refine fy_callS (As := [.int (nI j)]) (rest := [.ref mo]) ⟨hx, hb, hml, hown, hts⟩ (c_Mo_isRegister l s0 D cI cZ cJ cW hG j q1) (va_cwS 1 hts g_Mo_42 rfl rfl rfl (by decide +kernel) ⟨Nat.le_of_ble_eq_true rfl, Nat.le_of_ble_eq_true rfl⟩) hLa hAB hA hP hD hS [] rfl rfl rfl hl.1 rfl (Nat.le_of_ble_eq_true rfl) d_Mo_about_2 ⟨Nat.zero_le _, Nat.zero_le _⟩ (fun r w1 H locs hp hP hD hS => ?_)
  obtain ⟨rfl, rfl⟩ := hp
  have hP : va_P D vwCl [(mo, .inr (5, [.int cd, .int (nI N), .int (nI C), .int (nI L.length), .ref m1, .ref m2, .ref m3, .ref m4, .ref m5, .ref m6, .ref m7, .ref m8])), (m1, .inl (cI, 80, .inl nu)), (m2, .inl (cI, 80, .inl va)), (m3, .inl (cI, 80, .inl ag)), (m4, .inl (cI, 80, .inl fi)), (m5, .inl (cI, 320, .inl re)), (m6, .inl (cZ, 80, .inl mk)), (m7, .inl (cI, 8, .inl mr)), (m8, .inl (cI, 4, .inl mw))] H := hP
  have hD : va_D A [(mo, .inr (5, [.int cd, .int (nI N), .int (nI C), .int (nI L.length), .ref m1, .ref m2, .ref m3, .ref m4, .ref m5, .ref m6, .ref m7, .ref m8])), (m1, .inl (cI, 80, .inl nu)), (m2, .inl (cI, 80, .inl va)), (m3, .inl (cI, 80, .inl ag)), (m4, .inl (cI, 80, .inl fi)), (m5, .inl (cI, 320, .inl re)), (m6, .inl (cZ, 80, .inl mk)), (m7, .inl (cI, 8, .inl mr)), (m8, .inl (cI, 4, .inl mw))] := hD
  refine lv_if_eq hx hb d_Mo_about_5 (tgt := 17) (by decide) (fun h => absurd h (by decide)) (fun _ => ?_)
  refine lv_iload_n hx hb d_Mo_about_8 rfl (lv_at hl 2 rfl) ?_
  refine lv_if_lt hx hb d_Mo_about_9 (tgt := 17) (by decide) (fun h => absurd h (nI_pos (by omega))) (fun _ => ?_)
  refine lv_iload_n hx hb d_Mo_about_12 rfl (lv_at hl 2 rfl) ?_
  refine lv_iconst (v := nI 3) hx hb d_Mo_about_13 (by decide) ?_
  refine lv_icmp_le hx hb d_Mo_about_14 (tgt := 21) (by decide) (fun _ => ?_) (fun h => absurd ((nI_leI (by omega) (by omega)).mpr (by omega)) h)
  refine lv_aload_n hx hb d_Mo_about_21 rfl (lv_at hl 0 rfl) ?_
  refine va_get (D := D) (ci := 5) (v := .ref m7) (C := R_Mo) (T := F_Mo) (N := 12) hx hb hts i_Mo hown hK hP 0 rfl rfl 10 (by decide) (hts _ k_f_Mo_29) (fun _ h9 => h9) rfl d_Mo_about_22 ?_
  refine lv_iload_n hx hb d_Mo_about_25 rfl (lv_at hl 1 rfl) ?_
  refine fy_iald (t0 := 0) (v := -1) hx hb hK hP 7 rfl rfl (by omega) (by omega) (by rw [hM.2.1 j q1, q3]; rfl) d_Mo_about_26 ?_
  refine lv_if_ge hx hb d_Mo_about_27 (tgt := 34) (by decide) (fun h => absurd h (by decide)) (fun _ => ?_)
  refine lv_iconst (v := nI 2) hx hb d_Mo_about_30 (by decide) ?_
  refine lv_goto hx hb d_Mo_about_31 (tgt := 35) (by decide) ?_
  refine va_put (D := D) (ci := 5) (v := .int (nI 2)) (ty := .int) (C := R_Mo) (T := F_Mo) (N := 12) hx hb hts i_Mo t_Mo tk_Mo n_Mo hown hK hP hD hS 0 rfl rfl 0 (by decide) (hts _ k_f_Mo_35) (fun _ h9 => h9) rfl (by decide +kernel) rfl rfl (Nat.le_of_ble_eq_true rfl) d_Mo_about_35 (fun H locs hP hD hS => ?_)
  have hP : va_P D vwCl [(mo, .inr (5, [.int (nI 2), .int (nI N), .int (nI C), .int (nI L.length), .ref m1, .ref m2, .ref m3, .ref m4, .ref m5, .ref m6, .ref m7, .ref m8])), (m1, .inl (cI, 80, .inl nu)), (m2, .inl (cI, 80, .inl va)), (m3, .inl (cI, 80, .inl ag)), (m4, .inl (cI, 80, .inl fi)), (m5, .inl (cI, 320, .inl re)), (m6, .inl (cZ, 80, .inl mk)), (m7, .inl (cI, 8, .inl mr)), (m8, .inl (cI, 4, .inl mw))] H := hP
  have hD : va_D A [(mo, .inr (5, [.int (nI 2), .int (nI N), .int (nI C), .int (nI L.length), .ref m1, .ref m2, .ref m3, .ref m4, .ref m5, .ref m6, .ref m7, .ref m8])), (m1, .inl (cI, 80, .inl nu)), (m2, .inl (cI, 80, .inl va)), (m3, .inl (cI, 80, .inl ag)), (m4, .inl (cI, 80, .inl fi)), (m5, .inl (cI, 320, .inl re)), (m6, .inl (cZ, 80, .inl mk)), (m7, .inl (cI, 8, .inl mr)), (m8, .inl (cI, 4, .inl mw))] := hD
  refine lv_aload_n hx hb d_Mo_about_38 rfl (lv_at hl 0 rfl) ?_
  refine va_get (D := D) (ci := 5) (v := .int (nI 2)) (C := R_Mo) (T := F_Mo) (N := 12) hx hb hts i_Mo hown hK hP 0 rfl rfl 0 (by decide) (hts _ k_f_Mo_35) (fun _ h9 => h9) rfl d_Mo_about_39 ?_
  refine lv_if_le hx hb d_Mo_about_42 (tgt := 47) (by decide) (fun h => absurd h (by decide)) (fun _ => ?_)
  refine lv_iconst (v := nI 0) hx hb d_Mo_about_45 (by decide) ?_
  exact fy_reti hx hb hr hlocks hAe (⟨nI 0, nu, va, ag, fi, re, mk, mr, mw, (fun h => absurd h (by decide)), rfl, hM, rfl⟩) (List.Perm.refl _) hP hS d_Mo_about_46
set_option maxRecDepth 20000 in
set_option maxHeartbeats 4000000 in
theorem c_Mo_about_2 (l : Launch) (s0 : State) (D : va_G) (cI cZ cJ cW : ClassId) (hG : fy_G s0 D cI cZ cJ cW) (mo m1 m2 m3 m4 m5 m6 m7 m8 : Nat) (cd : Int32) (i : Nat) (N : Nat) (C : Nat) (L : List Nat) (val : Nat → Int32) (age : Nat → Nat) (nf : Nat → Nat) (rf : Nat → Nat → Option Nat) (reg : Nat → Option Nat) (wk : Nat → Option Nat) (nu va ag fi re mk mr mw : Nat → Int32) (hI : fm_In i N C L age nf rf reg wk) (hM : fm_Mo L val age nf rf reg wk nu va ag fi re mr mw) (j n : Nat) (q1 : j < 8) (q2 : reg j = some n) : fy_Met l s0 D vwCl y_Mo_about w_Mo_about (fy_rm 2) 0 0 [.ref mo, .int (nI j), .int (nI 0)] [(mo, .inr (5, [.int cd, .int (nI N), .int (nI C), .int (nI L.length), .ref m1, .ref m2, .ref m3, .ref m4, .ref m5, .ref m6, .ref m7, .ref m8])), (m1, .inl (cI, 80, .inl nu)), (m2, .inl (cI, 80, .inl va)), (m3, .inl (cI, 80, .inl ag)), (m4, .inl (cI, 80, .inl fi)), (m5, .inl (cI, 320, .inl re)), (m6, .inl (cZ, 80, .inl mk)), (m7, .inl (cI, 8, .inl mr)), (m8, .inl (cI, 4, .inl mw))] (fun r w1 => mo_post (fun b => some (.int b)) mo m1 m2 m3 m4 m5 m6 m7 m8 cI cZ 0 (nI n) N C L val age nf rf reg wk r w1) := by
  refine fy_st (bytes := b_Mo_about) (maxL := 4) (ret := some .int) hG (by decide) rfl (Nat.le_of_ble_eq_true rfl) ?_
  intro p e s m below meth c A ls hx hb hr hlocks hml hown hts hK hLa hAe hAB hA hl hP hD hS
  have hl : lv_has ls 4 [(0, .ref mo), (1, .int (nI j)), (2, .int (nI 0))] := hl
  have hj := q1
  have hn0 := q2
  refine lv_aload_n hx hb d_Mo_about_0 rfl (lv_at hl 0 rfl) ?_
  refine lv_iload_n hx hb d_Mo_about_1 rfl (lv_at hl 1 rfl) ?_
  refine fy_callS (As := [.int (nI j)]) (rest := [.ref mo]) ⟨hx, hb, hml, hown, hts⟩ (c_Mo_isRegister l s0 D cI cZ cJ cW hG j q1) (va_cwS 1 hts g_Mo_42 rfl rfl rfl (by decide +kernel) ⟨Nat.le_of_ble_eq_true rfl, Nat.le_of_ble_eq_true rfl⟩) hLa hAB hA hP hD hS [] rfl rfl rfl hl.1 rfl (Nat.le_of_ble_eq_true rfl) d_Mo_about_2 ⟨Nat.zero_le _, Nat.zero_le _⟩ (fun r w1 H locs hp hP hD hS => ?_)
  obtain ⟨rfl, rfl⟩ := hp
  have hP : va_P D vwCl [(mo, .inr (5, [.int cd, .int (nI N), .int (nI C), .int (nI L.length), .ref m1, .ref m2, .ref m3, .ref m4, .ref m5, .ref m6, .ref m7, .ref m8])), (m1, .inl (cI, 80, .inl nu)), (m2, .inl (cI, 80, .inl va)), (m3, .inl (cI, 80, .inl ag)), (m4, .inl (cI, 80, .inl fi)), (m5, .inl (cI, 320, .inl re)), (m6, .inl (cZ, 80, .inl mk)), (m7, .inl (cI, 8, .inl mr)), (m8, .inl (cI, 4, .inl mw))] H := hP
  have hD : va_D A [(mo, .inr (5, [.int cd, .int (nI N), .int (nI C), .int (nI L.length), .ref m1, .ref m2, .ref m3, .ref m4, .ref m5, .ref m6, .ref m7, .ref m8])), (m1, .inl (cI, 80, .inl nu)), (m2, .inl (cI, 80, .inl va)), (m3, .inl (cI, 80, .inl ag)), (m4, .inl (cI, 80, .inl fi)), (m5, .inl (cI, 320, .inl re)), (m6, .inl (cZ, 80, .inl mk)), (m7, .inl (cI, 8, .inl mr)), (m8, .inl (cI, 4, .inl mw))] := hD
  refine lv_if_eq hx hb d_Mo_about_5 (tgt := 17) (by decide) (fun h => absurd h (by decide)) (fun _ => ?_)
  refine lv_iload_n hx hb d_Mo_about_8 rfl (lv_at hl 2 rfl) ?_
  refine lv_if_lt hx hb d_Mo_about_9 (tgt := 17) (by decide) (fun h => absurd h (by decide)) (fun _ => ?_)
  refine lv_iload_n hx hb d_Mo_about_12 rfl (lv_at hl 2 rfl) ?_
  refine lv_iconst (v := nI 3) hx hb d_Mo_about_13 (by decide) ?_
  refine lv_icmp_le hx hb d_Mo_about_14 (tgt := 21) (by decide) (fun _ => ?_) (fun h => absurd (by decide) h)
  refine lv_aload_n hx hb d_Mo_about_21 rfl (lv_at hl 0 rfl) ?_
  refine va_get (D := D) (ci := 5) (v := .ref m7) (C := R_Mo) (T := F_Mo) (N := 12) hx hb hts i_Mo hown hK hP 0 rfl rfl 10 (by decide) (hts _ k_f_Mo_29) (fun _ h9 => h9) rfl d_Mo_about_22 ?_
  refine lv_iload_n hx hb d_Mo_about_25 rfl (lv_at hl 1 rfl) ?_
  refine fy_iald (t0 := 0) (v := nI n) hx hb hK hP 7 rfl rfl (by omega) (by omega) (by rw [hM.2.1 j q1, q2]; rfl) d_Mo_about_26 ?_
  refine lv_if_ge hx hb d_Mo_about_27 (tgt := 34) (by decide) (fun _ => ?_) (fun h => absurd (nI_pos' (by have := hI.lt n (hI.inR q1 n q2); omega)) h)
  refine lv_iconst (v := nI 0) hx hb d_Mo_about_34 (by decide) ?_
  refine va_put (D := D) (ci := 5) (v := .int (nI 0)) (ty := .int) (C := R_Mo) (T := F_Mo) (N := 12) hx hb hts i_Mo t_Mo tk_Mo n_Mo hown hK hP hD hS 0 rfl rfl 0 (by decide) (hts _ k_f_Mo_35) (fun _ h9 => h9) rfl (by decide +kernel) rfl rfl (Nat.le_of_ble_eq_true rfl) d_Mo_about_35 (fun H locs hP hD hS => ?_)
  have hP : va_P D vwCl [(mo, .inr (5, [.int (nI 0), .int (nI N), .int (nI C), .int (nI L.length), .ref m1, .ref m2, .ref m3, .ref m4, .ref m5, .ref m6, .ref m7, .ref m8])), (m1, .inl (cI, 80, .inl nu)), (m2, .inl (cI, 80, .inl va)), (m3, .inl (cI, 80, .inl ag)), (m4, .inl (cI, 80, .inl fi)), (m5, .inl (cI, 320, .inl re)), (m6, .inl (cZ, 80, .inl mk)), (m7, .inl (cI, 8, .inl mr)), (m8, .inl (cI, 4, .inl mw))] H := hP
  have hD : va_D A [(mo, .inr (5, [.int (nI 0), .int (nI N), .int (nI C), .int (nI L.length), .ref m1, .ref m2, .ref m3, .ref m4, .ref m5, .ref m6, .ref m7, .ref m8])), (m1, .inl (cI, 80, .inl nu)), (m2, .inl (cI, 80, .inl va)), (m3, .inl (cI, 80, .inl ag)), (m4, .inl (cI, 80, .inl fi)), (m5, .inl (cI, 320, .inl re)), (m6, .inl (cZ, 80, .inl mk)), (m7, .inl (cI, 8, .inl mr)), (m8, .inl (cI, 4, .inl mw))] := hD
  refine lv_aload_n hx hb d_Mo_about_38 rfl (lv_at hl 0 rfl) ?_
  refine va_get (D := D) (ci := 5) (v := .int (nI 0)) (C := R_Mo) (T := F_Mo) (N := 12) hx hb hts i_Mo hown hK hP 0 rfl rfl 0 (by decide) (hts _ k_f_Mo_35) (fun _ h9 => h9) rfl d_Mo_about_39 ?_
  refine lv_if_le hx hb d_Mo_about_42 (tgt := 47) (by decide) (fun _ => ?_) (fun h => absurd (by decide) h)
  refine lv_aload_n hx hb d_Mo_about_47 rfl (lv_at hl 0 rfl) ?_
  refine lv_aload_n hx hb d_Mo_about_48 rfl (lv_at hl 0 rfl) ?_
  refine va_get (D := D) (ci := 5) (v := .ref m7) (C := R_Mo) (T := F_Mo) (N := 12) hx hb hts i_Mo hown hK hP 0 rfl rfl 10 (by decide) (hts _ k_f_Mo_29) (fun _ h9 => h9) rfl d_Mo_about_49 ?_
  refine lv_iload_n hx hb d_Mo_about_52 rfl (lv_at hl 1 rfl) ?_
  refine fy_iald (t0 := 0) (v := fm_o (some n)) hx hb hK hP 7 rfl rfl (by omega) (by omega) (by rw [hM.2.1 j hj, hn0]) d_Mo_about_53 ?_
  have hnL : n ∈ L := hI.inR hj n hn0
  refine fy_callV (As := [.int (fm_o (some n))]) (rest := []) ⟨hx, hb, hml, hown, hts⟩ (c_Mo_find l s0 D cI cZ cJ cW hG mo m1 m2 m3 m4 m5 m6 m7 m8 (nI 0) N C L nu (some n) hM.num hI.2.2.2.1 hI.len hI.lt (fun m hm => hI.lt m (by cases hm; exact hnL))) (cwV 1 hts g_Mo_53 rfl rfl rfl (by decide +kernel) ⟨Nat.le_of_ble_eq_true rfl, Nat.le_of_ble_eq_true rfl⟩) hK hLa hAB hA hP hD hS [0, 1] rfl rfl (ci := 5) rfl rfl (q0 := 0) rfl rfl hl.1 rfl (Nat.le_of_ble_eq_true rfl) d_Mo_about_54 ⟨Nat.zero_le _, Nat.zero_le _⟩ (fun r w1 H locs hp hP hD hS => ?_)
  obtain ⟨a, ha, rfl, rfl⟩ := hp
  have hP : va_P D vwCl [(mo, .inr (5, [.int (nI 0), .int (nI N), .int (nI C), .int (nI L.length), .ref m1, .ref m2, .ref m3, .ref m4, .ref m5, .ref m6, .ref m7, .ref m8])), (m1, .inl (cI, 80, .inl nu)), (m2, .inl (cI, 80, .inl va)), (m3, .inl (cI, 80, .inl ag)), (m4, .inl (cI, 80, .inl fi)), (m5, .inl (cI, 320, .inl re)), (m6, .inl (cZ, 80, .inl mk)), (m7, .inl (cI, 8, .inl mr)), (m8, .inl (cI, 4, .inl mw))] H := hP
  have hD : va_D A [(mo, .inr (5, [.int (nI 0), .int (nI N), .int (nI C), .int (nI L.length), .ref m1, .ref m2, .ref m3, .ref m4, .ref m5, .ref m6, .ref m7, .ref m8])), (m1, .inl (cI, 80, .inl nu)), (m2, .inl (cI, 80, .inl va)), (m3, .inl (cI, 80, .inl ag)), (m4, .inl (cI, 80, .inl fi)), (m5, .inl (cI, 320, .inl re)), (m6, .inl (cZ, 80, .inl mk)), (m7, .inl (cI, 8, .inl mr)), (m8, .inl (cI, 4, .inl mw))] := hD
  obtain ⟨k, rfl, hk, hkl⟩ := fm_is1 ha hnL
  have h80 := hI.len
  refine W.eq (g2 := F0 m 57 ls [.int (nI k)]) rfl ?_
  obtain ⟨e1, e2, e3, e4, e5⟩ := hM.1 k n hk
  obtain ⟨-, ea, ef⟩ := hI.2.2.2.2.2.2.1 n hnL
  refine lv_istore_n hx hb d_Mo_about_57 rfl hl (by decide) rfl (fun ls hl => ?_)
  have hl : lv_has ls 4 [(3, .int (nI k)), (0, .ref mo), (1, .int (nI j)), (2, .int (nI 0))] := hl
  refine lv_iload_n hx hb d_Mo_about_58 rfl (lv_at hl 3 rfl) ?_
  refine lv_if_ne hx hb d_Mo_about_59 (tgt := 71) (by decide) (fun h => absurd (rfl) h) (fun _ => ?_)
  refine lv_aload_n hx hb d_Mo_about_62 rfl (lv_at hl 1 rfl) ?_
  refine va_get (D := D) (ci := 5) (v := .ref m1) (C := R_Mo) (T := F_Mo) (N := 12) hx hb hts i_Mo hown hK hP 0 rfl rfl 4 (by decide) (hts _ k_f_Mo_7) (fun _ h9 => h9) rfl d_Mo_about_63 ?_
  refine lv_iload_n hx hb d_Mo_about_66 rfl (lv_at hl 0 rfl) ?_
  refine fy_iald (t0 := 0) (v := nI n) hx hb hK hP 1 rfl rfl (by omega) (by omega) (e1) d_Mo_about_67 ?_
  refine lv_goto hx hb d_Mo_about_68 (tgt := 105) (by decide) ?_
  exact fy_reti hx hb hr hlocks hAe (⟨nI n, nu, va, ag, fi, re, mk, mr, mw, (fun _ => rfl), rfl, hM, rfl⟩) (List.Perm.refl _) hP hS d_Mo_about_105
set_option maxRecDepth 20000 in
set_option maxHeartbeats 4000000 in
theorem c_Mo_about_3 (l : Launch) (s0 : State) (D : va_G) (cI cZ cJ cW : ClassId) (hG : fy_G s0 D cI cZ cJ cW) (mo m1 m2 m3 m4 m5 m6 m7 m8 : Nat) (cd : Int32) (i : Nat) (N : Nat) (C : Nat) (L : List Nat) (val : Nat → Int32) (age : Nat → Nat) (nf : Nat → Nat) (rf : Nat → Nat → Option Nat) (reg : Nat → Option Nat) (wk : Nat → Option Nat) (nu va ag fi re mk mr mw : Nat → Int32) (hI : fm_In i N C L age nf rf reg wk) (hM : fm_Mo L val age nf rf reg wk nu va ag fi re mr mw) (j n : Nat) (q1 : j < 8) (q2 : reg j = some n) : fy_Met l s0 D vwCl y_Mo_about w_Mo_about (fy_rm 2) 0 0 [.ref mo, .int (nI j), .int (nI 1)] [(mo, .inr (5, [.int cd, .int (nI N), .int (nI C), .int (nI L.length), .ref m1, .ref m2, .ref m3, .ref m4, .ref m5, .ref m6, .ref m7, .ref m8])), (m1, .inl (cI, 80, .inl nu)), (m2, .inl (cI, 80, .inl va)), (m3, .inl (cI, 80, .inl ag)), (m4, .inl (cI, 80, .inl fi)), (m5, .inl (cI, 320, .inl re)), (m6, .inl (cZ, 80, .inl mk)), (m7, .inl (cI, 8, .inl mr)), (m8, .inl (cI, 4, .inl mw))] (fun r w1 => mo_post (fun b => some (.int b)) mo m1 m2 m3 m4 m5 m6 m7 m8 cI cZ 0 (val n) N C L val age nf rf reg wk r w1) := by
  refine fy_st (bytes := b_Mo_about) (maxL := 4) (ret := some .int) hG (by decide) rfl (Nat.le_of_ble_eq_true rfl) ?_
  intro p e s m below meth c A ls hx hb hr hlocks hml hown hts hK hLa hAe hAB hA hl hP hD hS
  have hl : lv_has ls 4 [(0, .ref mo), (1, .int (nI j)), (2, .int (nI 1))] := hl
  have hj := q1
  have hn0 := q2
  refine lv_aload_n hx hb d_Mo_about_0 rfl (lv_at hl 0 rfl) ?_
  refine lv_iload_n hx hb d_Mo_about_1 rfl (lv_at hl 1 rfl) ?_
  refine fy_callS (As := [.int (nI j)]) (rest := [.ref mo]) ⟨hx, hb, hml, hown, hts⟩ (c_Mo_isRegister l s0 D cI cZ cJ cW hG j q1) (va_cwS 1 hts g_Mo_42 rfl rfl rfl (by decide +kernel) ⟨Nat.le_of_ble_eq_true rfl, Nat.le_of_ble_eq_true rfl⟩) hLa hAB hA hP hD hS [] rfl rfl rfl hl.1 rfl (Nat.le_of_ble_eq_true rfl) d_Mo_about_2 ⟨Nat.zero_le _, Nat.zero_le _⟩ (fun r w1 H locs hp hP hD hS => ?_)
  obtain ⟨rfl, rfl⟩ := hp
  have hP : va_P D vwCl [(mo, .inr (5, [.int cd, .int (nI N), .int (nI C), .int (nI L.length), .ref m1, .ref m2, .ref m3, .ref m4, .ref m5, .ref m6, .ref m7, .ref m8])), (m1, .inl (cI, 80, .inl nu)), (m2, .inl (cI, 80, .inl va)), (m3, .inl (cI, 80, .inl ag)), (m4, .inl (cI, 80, .inl fi)), (m5, .inl (cI, 320, .inl re)), (m6, .inl (cZ, 80, .inl mk)), (m7, .inl (cI, 8, .inl mr)), (m8, .inl (cI, 4, .inl mw))] H := hP
  have hD : va_D A [(mo, .inr (5, [.int cd, .int (nI N), .int (nI C), .int (nI L.length), .ref m1, .ref m2, .ref m3, .ref m4, .ref m5, .ref m6, .ref m7, .ref m8])), (m1, .inl (cI, 80, .inl nu)), (m2, .inl (cI, 80, .inl va)), (m3, .inl (cI, 80, .inl ag)), (m4, .inl (cI, 80, .inl fi)), (m5, .inl (cI, 320, .inl re)), (m6, .inl (cZ, 80, .inl mk)), (m7, .inl (cI, 8, .inl mr)), (m8, .inl (cI, 4, .inl mw))] := hD
  refine lv_if_eq hx hb d_Mo_about_5 (tgt := 17) (by decide) (fun h => absurd h (by decide)) (fun _ => ?_)
  refine lv_iload_n hx hb d_Mo_about_8 rfl (lv_at hl 2 rfl) ?_
  refine lv_if_lt hx hb d_Mo_about_9 (tgt := 17) (by decide) (fun h => absurd h (by decide)) (fun _ => ?_)
  refine lv_iload_n hx hb d_Mo_about_12 rfl (lv_at hl 2 rfl) ?_
  refine lv_iconst (v := nI 3) hx hb d_Mo_about_13 (by decide) ?_
  refine lv_icmp_le hx hb d_Mo_about_14 (tgt := 21) (by decide) (fun _ => ?_) (fun h => absurd (by decide) h)
  refine lv_aload_n hx hb d_Mo_about_21 rfl (lv_at hl 0 rfl) ?_
  refine va_get (D := D) (ci := 5) (v := .ref m7) (C := R_Mo) (T := F_Mo) (N := 12) hx hb hts i_Mo hown hK hP 0 rfl rfl 10 (by decide) (hts _ k_f_Mo_29) (fun _ h9 => h9) rfl d_Mo_about_22 ?_
  refine lv_iload_n hx hb d_Mo_about_25 rfl (lv_at hl 1 rfl) ?_
  refine fy_iald (t0 := 0) (v := nI n) hx hb hK hP 7 rfl rfl (by omega) (by omega) (by rw [hM.2.1 j q1, q2]; rfl) d_Mo_about_26 ?_
  refine lv_if_ge hx hb d_Mo_about_27 (tgt := 34) (by decide) (fun _ => ?_) (fun h => absurd (nI_pos' (by have := hI.lt n (hI.inR q1 n q2); omega)) h)
  refine lv_iconst (v := nI 0) hx hb d_Mo_about_34 (by decide) ?_
  refine va_put (D := D) (ci := 5) (v := .int (nI 0)) (ty := .int) (C := R_Mo) (T := F_Mo) (N := 12) hx hb hts i_Mo t_Mo tk_Mo n_Mo hown hK hP hD hS 0 rfl rfl 0 (by decide) (hts _ k_f_Mo_35) (fun _ h9 => h9) rfl (by decide +kernel) rfl rfl (Nat.le_of_ble_eq_true rfl) d_Mo_about_35 (fun H locs hP hD hS => ?_)
  have hP : va_P D vwCl [(mo, .inr (5, [.int (nI 0), .int (nI N), .int (nI C), .int (nI L.length), .ref m1, .ref m2, .ref m3, .ref m4, .ref m5, .ref m6, .ref m7, .ref m8])), (m1, .inl (cI, 80, .inl nu)), (m2, .inl (cI, 80, .inl va)), (m3, .inl (cI, 80, .inl ag)), (m4, .inl (cI, 80, .inl fi)), (m5, .inl (cI, 320, .inl re)), (m6, .inl (cZ, 80, .inl mk)), (m7, .inl (cI, 8, .inl mr)), (m8, .inl (cI, 4, .inl mw))] H := hP
  have hD : va_D A [(mo, .inr (5, [.int (nI 0), .int (nI N), .int (nI C), .int (nI L.length), .ref m1, .ref m2, .ref m3, .ref m4, .ref m5, .ref m6, .ref m7, .ref m8])), (m1, .inl (cI, 80, .inl nu)), (m2, .inl (cI, 80, .inl va)), (m3, .inl (cI, 80, .inl ag)), (m4, .inl (cI, 80, .inl fi)), (m5, .inl (cI, 320, .inl re)), (m6, .inl (cZ, 80, .inl mk)), (m7, .inl (cI, 8, .inl mr)), (m8, .inl (cI, 4, .inl mw))] := hD
  refine lv_aload_n hx hb d_Mo_about_38 rfl (lv_at hl 0 rfl) ?_
  refine va_get (D := D) (ci := 5) (v := .int (nI 0)) (C := R_Mo) (T := F_Mo) (N := 12) hx hb hts i_Mo hown hK hP 0 rfl rfl 0 (by decide) (hts _ k_f_Mo_35) (fun _ h9 => h9) rfl d_Mo_about_39 ?_
  refine lv_if_le hx hb d_Mo_about_42 (tgt := 47) (by decide) (fun _ => ?_) (fun h => absurd (by decide) h)
  refine lv_aload_n hx hb d_Mo_about_47 rfl (lv_at hl 0 rfl) ?_
  refine lv_aload_n hx hb d_Mo_about_48 rfl (lv_at hl 0 rfl) ?_
  refine va_get (D := D) (ci := 5) (v := .ref m7) (C := R_Mo) (T := F_Mo) (N := 12) hx hb hts i_Mo hown hK hP 0 rfl rfl 10 (by decide) (hts _ k_f_Mo_29) (fun _ h9 => h9) rfl d_Mo_about_49 ?_
  refine lv_iload_n hx hb d_Mo_about_52 rfl (lv_at hl 1 rfl) ?_
  refine fy_iald (t0 := 0) (v := fm_o (some n)) hx hb hK hP 7 rfl rfl (by omega) (by omega) (by rw [hM.2.1 j hj, hn0]) d_Mo_about_53 ?_
  have hnL : n ∈ L := hI.inR hj n hn0
  refine fy_callV (As := [.int (fm_o (some n))]) (rest := []) ⟨hx, hb, hml, hown, hts⟩ (c_Mo_find l s0 D cI cZ cJ cW hG mo m1 m2 m3 m4 m5 m6 m7 m8 (nI 0) N C L nu (some n) hM.num hI.2.2.2.1 hI.len hI.lt (fun m hm => hI.lt m (by cases hm; exact hnL))) (cwV 1 hts g_Mo_53 rfl rfl rfl (by decide +kernel) ⟨Nat.le_of_ble_eq_true rfl, Nat.le_of_ble_eq_true rfl⟩) hK hLa hAB hA hP hD hS [0, 1] rfl rfl (ci := 5) rfl rfl (q0 := 0) rfl rfl hl.1 rfl (Nat.le_of_ble_eq_true rfl) d_Mo_about_54 ⟨Nat.zero_le _, Nat.zero_le _⟩ (fun r w1 H locs hp hP hD hS => ?_)
  obtain ⟨a, ha, rfl, rfl⟩ := hp
  have hP : va_P D vwCl [(mo, .inr (5, [.int (nI 0), .int (nI N), .int (nI C), .int (nI L.length), .ref m1, .ref m2, .ref m3, .ref m4, .ref m5, .ref m6, .ref m7, .ref m8])), (m1, .inl (cI, 80, .inl nu)), (m2, .inl (cI, 80, .inl va)), (m3, .inl (cI, 80, .inl ag)), (m4, .inl (cI, 80, .inl fi)), (m5, .inl (cI, 320, .inl re)), (m6, .inl (cZ, 80, .inl mk)), (m7, .inl (cI, 8, .inl mr)), (m8, .inl (cI, 4, .inl mw))] H := hP
  have hD : va_D A [(mo, .inr (5, [.int (nI 0), .int (nI N), .int (nI C), .int (nI L.length), .ref m1, .ref m2, .ref m3, .ref m4, .ref m5, .ref m6, .ref m7, .ref m8])), (m1, .inl (cI, 80, .inl nu)), (m2, .inl (cI, 80, .inl va)), (m3, .inl (cI, 80, .inl ag)), (m4, .inl (cI, 80, .inl fi)), (m5, .inl (cI, 320, .inl re)), (m6, .inl (cZ, 80, .inl mk)), (m7, .inl (cI, 8, .inl mr)), (m8, .inl (cI, 4, .inl mw))] := hD
  obtain ⟨k, rfl, hk, hkl⟩ := fm_is1 ha hnL
  have h80 := hI.len
  refine W.eq (g2 := F0 m 57 ls [.int (nI k)]) rfl ?_
  obtain ⟨e1, e2, e3, e4, e5⟩ := hM.1 k n hk
  obtain ⟨-, ea, ef⟩ := hI.2.2.2.2.2.2.1 n hnL
  refine lv_istore_n hx hb d_Mo_about_57 rfl hl (by decide) rfl (fun ls hl => ?_)
  have hl : lv_has ls 4 [(3, .int (nI k)), (0, .ref mo), (1, .int (nI j)), (2, .int (nI 1))] := hl
  refine lv_iload_n hx hb d_Mo_about_58 rfl (lv_at hl 3 rfl) ?_
  refine lv_if_ne hx hb d_Mo_about_59 (tgt := 71) (by decide) (fun _ => ?_) (fun h => absurd h (by decide))
  refine lv_iload_n hx hb d_Mo_about_71 rfl (lv_at hl 3 rfl) ?_
  refine lv_iconst (v := nI 1) hx hb d_Mo_about_72 (by decide) ?_
  refine lv_icmp_ne hx hb d_Mo_about_73 (tgt := 85) (by decide) (fun h => absurd (rfl) h) (fun _ => ?_)
  refine lv_aload_n hx hb d_Mo_about_76 rfl (lv_at hl 1 rfl) ?_
  refine va_get (D := D) (ci := 5) (v := .ref m2) (C := R_Mo) (T := F_Mo) (N := 12) hx hb hts i_Mo hown hK hP 0 rfl rfl 5 (by decide) (hts _ k_f_Mo_13) (fun _ h9 => h9) rfl d_Mo_about_77 ?_
  refine lv_iload_n hx hb d_Mo_about_80 rfl (lv_at hl 0 rfl) ?_
  refine fy_iald (t0 := 0) (v := val n) hx hb hK hP 2 rfl rfl (by omega) (by omega) (e2) d_Mo_about_81 ?_
  refine lv_goto hx hb d_Mo_about_82 (tgt := 105) (by decide) ?_
  exact fy_reti hx hb hr hlocks hAe (⟨val n, nu, va, ag, fi, re, mk, mr, mw, (fun _ => rfl), rfl, hM, rfl⟩) (List.Perm.refl _) hP hS d_Mo_about_105
set_option maxRecDepth 20000 in
set_option maxHeartbeats 4000000 in
theorem c_Mo_about_4 (l : Launch) (s0 : State) (D : va_G) (cI cZ cJ cW : ClassId) (hG : fy_G s0 D cI cZ cJ cW) (mo m1 m2 m3 m4 m5 m6 m7 m8 : Nat) (cd : Int32) (i : Nat) (N : Nat) (C : Nat) (L : List Nat) (val : Nat → Int32) (age : Nat → Nat) (nf : Nat → Nat) (rf : Nat → Nat → Option Nat) (reg : Nat → Option Nat) (wk : Nat → Option Nat) (nu va ag fi re mk mr mw : Nat → Int32) (hI : fm_In i N C L age nf rf reg wk) (hM : fm_Mo L val age nf rf reg wk nu va ag fi re mr mw) (j n : Nat) (q1 : j < 8) (q2 : reg j = some n) : fy_Met l s0 D vwCl y_Mo_about w_Mo_about (fy_rm 2) 0 0 [.ref mo, .int (nI j), .int (nI 2)] [(mo, .inr (5, [.int cd, .int (nI N), .int (nI C), .int (nI L.length), .ref m1, .ref m2, .ref m3, .ref m4, .ref m5, .ref m6, .ref m7, .ref m8])), (m1, .inl (cI, 80, .inl nu)), (m2, .inl (cI, 80, .inl va)), (m3, .inl (cI, 80, .inl ag)), (m4, .inl (cI, 80, .inl fi)), (m5, .inl (cI, 320, .inl re)), (m6, .inl (cZ, 80, .inl mk)), (m7, .inl (cI, 8, .inl mr)), (m8, .inl (cI, 4, .inl mw))] (fun r w1 => mo_post (fun b => some (.int b)) mo m1 m2 m3 m4 m5 m6 m7 m8 cI cZ 0 (nI (age n)) N C L val age nf rf reg wk r w1) := by
  refine fy_st (bytes := b_Mo_about) (maxL := 4) (ret := some .int) hG (by decide) rfl (Nat.le_of_ble_eq_true rfl) ?_
  intro p e s m below meth c A ls hx hb hr hlocks hml hown hts hK hLa hAe hAB hA hl hP hD hS
  have hl : lv_has ls 4 [(0, .ref mo), (1, .int (nI j)), (2, .int (nI 2))] := hl
  have hj := q1
  have hn0 := q2
  refine lv_aload_n hx hb d_Mo_about_0 rfl (lv_at hl 0 rfl) ?_
  refine lv_iload_n hx hb d_Mo_about_1 rfl (lv_at hl 1 rfl) ?_
  refine fy_callS (As := [.int (nI j)]) (rest := [.ref mo]) ⟨hx, hb, hml, hown, hts⟩ (c_Mo_isRegister l s0 D cI cZ cJ cW hG j q1) (va_cwS 1 hts g_Mo_42 rfl rfl rfl (by decide +kernel) ⟨Nat.le_of_ble_eq_true rfl, Nat.le_of_ble_eq_true rfl⟩) hLa hAB hA hP hD hS [] rfl rfl rfl hl.1 rfl (Nat.le_of_ble_eq_true rfl) d_Mo_about_2 ⟨Nat.zero_le _, Nat.zero_le _⟩ (fun r w1 H locs hp hP hD hS => ?_)
  obtain ⟨rfl, rfl⟩ := hp
  have hP : va_P D vwCl [(mo, .inr (5, [.int cd, .int (nI N), .int (nI C), .int (nI L.length), .ref m1, .ref m2, .ref m3, .ref m4, .ref m5, .ref m6, .ref m7, .ref m8])), (m1, .inl (cI, 80, .inl nu)), (m2, .inl (cI, 80, .inl va)), (m3, .inl (cI, 80, .inl ag)), (m4, .inl (cI, 80, .inl fi)), (m5, .inl (cI, 320, .inl re)), (m6, .inl (cZ, 80, .inl mk)), (m7, .inl (cI, 8, .inl mr)), (m8, .inl (cI, 4, .inl mw))] H := hP
  have hD : va_D A [(mo, .inr (5, [.int cd, .int (nI N), .int (nI C), .int (nI L.length), .ref m1, .ref m2, .ref m3, .ref m4, .ref m5, .ref m6, .ref m7, .ref m8])), (m1, .inl (cI, 80, .inl nu)), (m2, .inl (cI, 80, .inl va)), (m3, .inl (cI, 80, .inl ag)), (m4, .inl (cI, 80, .inl fi)), (m5, .inl (cI, 320, .inl re)), (m6, .inl (cZ, 80, .inl mk)), (m7, .inl (cI, 8, .inl mr)), (m8, .inl (cI, 4, .inl mw))] := hD
  refine lv_if_eq hx hb d_Mo_about_5 (tgt := 17) (by decide) (fun h => absurd h (by decide)) (fun _ => ?_)
  refine lv_iload_n hx hb d_Mo_about_8 rfl (lv_at hl 2 rfl) ?_
  refine lv_if_lt hx hb d_Mo_about_9 (tgt := 17) (by decide) (fun h => absurd h (by decide)) (fun _ => ?_)
  refine lv_iload_n hx hb d_Mo_about_12 rfl (lv_at hl 2 rfl) ?_
  refine lv_iconst (v := nI 3) hx hb d_Mo_about_13 (by decide) ?_
  refine lv_icmp_le hx hb d_Mo_about_14 (tgt := 21) (by decide) (fun _ => ?_) (fun h => absurd (by decide) h)
  refine lv_aload_n hx hb d_Mo_about_21 rfl (lv_at hl 0 rfl) ?_
  refine va_get (D := D) (ci := 5) (v := .ref m7) (C := R_Mo) (T := F_Mo) (N := 12) hx hb hts i_Mo hown hK hP 0 rfl rfl 10 (by decide) (hts _ k_f_Mo_29) (fun _ h9 => h9) rfl d_Mo_about_22 ?_
  refine lv_iload_n hx hb d_Mo_about_25 rfl (lv_at hl 1 rfl) ?_
  refine fy_iald (t0 := 0) (v := nI n) hx hb hK hP 7 rfl rfl (by omega) (by omega) (by rw [hM.2.1 j q1, q2]; rfl) d_Mo_about_26 ?_
  refine lv_if_ge hx hb d_Mo_about_27 (tgt := 34) (by decide) (fun _ => ?_) (fun h => absurd (nI_pos' (by have := hI.lt n (hI.inR q1 n q2); omega)) h)
  refine lv_iconst (v := nI 0) hx hb d_Mo_about_34 (by decide) ?_
  refine va_put (D := D) (ci := 5) (v := .int (nI 0)) (ty := .int) (C := R_Mo) (T := F_Mo) (N := 12) hx hb hts i_Mo t_Mo tk_Mo n_Mo hown hK hP hD hS 0 rfl rfl 0 (by decide) (hts _ k_f_Mo_35) (fun _ h9 => h9) rfl (by decide +kernel) rfl rfl (Nat.le_of_ble_eq_true rfl) d_Mo_about_35 (fun H locs hP hD hS => ?_)
  have hP : va_P D vwCl [(mo, .inr (5, [.int (nI 0), .int (nI N), .int (nI C), .int (nI L.length), .ref m1, .ref m2, .ref m3, .ref m4, .ref m5, .ref m6, .ref m7, .ref m8])), (m1, .inl (cI, 80, .inl nu)), (m2, .inl (cI, 80, .inl va)), (m3, .inl (cI, 80, .inl ag)), (m4, .inl (cI, 80, .inl fi)), (m5, .inl (cI, 320, .inl re)), (m6, .inl (cZ, 80, .inl mk)), (m7, .inl (cI, 8, .inl mr)), (m8, .inl (cI, 4, .inl mw))] H := hP
  have hD : va_D A [(mo, .inr (5, [.int (nI 0), .int (nI N), .int (nI C), .int (nI L.length), .ref m1, .ref m2, .ref m3, .ref m4, .ref m5, .ref m6, .ref m7, .ref m8])), (m1, .inl (cI, 80, .inl nu)), (m2, .inl (cI, 80, .inl va)), (m3, .inl (cI, 80, .inl ag)), (m4, .inl (cI, 80, .inl fi)), (m5, .inl (cI, 320, .inl re)), (m6, .inl (cZ, 80, .inl mk)), (m7, .inl (cI, 8, .inl mr)), (m8, .inl (cI, 4, .inl mw))] := hD
  refine lv_aload_n hx hb d_Mo_about_38 rfl (lv_at hl 0 rfl) ?_
  refine va_get (D := D) (ci := 5) (v := .int (nI 0)) (C := R_Mo) (T := F_Mo) (N := 12) hx hb hts i_Mo hown hK hP 0 rfl rfl 0 (by decide) (hts _ k_f_Mo_35) (fun _ h9 => h9) rfl d_Mo_about_39 ?_
  refine lv_if_le hx hb d_Mo_about_42 (tgt := 47) (by decide) (fun _ => ?_) (fun h => absurd (by decide) h)
  refine lv_aload_n hx hb d_Mo_about_47 rfl (lv_at hl 0 rfl) ?_
  refine lv_aload_n hx hb d_Mo_about_48 rfl (lv_at hl 0 rfl) ?_
  refine va_get (D := D) (ci := 5) (v := .ref m7) (C := R_Mo) (T := F_Mo) (N := 12) hx hb hts i_Mo hown hK hP 0 rfl rfl 10 (by decide) (hts _ k_f_Mo_29) (fun _ h9 => h9) rfl d_Mo_about_49 ?_
  refine lv_iload_n hx hb d_Mo_about_52 rfl (lv_at hl 1 rfl) ?_
  refine fy_iald (t0 := 0) (v := fm_o (some n)) hx hb hK hP 7 rfl rfl (by omega) (by omega) (by rw [hM.2.1 j hj, hn0]) d_Mo_about_53 ?_
  have hnL : n ∈ L := hI.inR hj n hn0
  refine fy_callV (As := [.int (fm_o (some n))]) (rest := []) ⟨hx, hb, hml, hown, hts⟩ (c_Mo_find l s0 D cI cZ cJ cW hG mo m1 m2 m3 m4 m5 m6 m7 m8 (nI 0) N C L nu (some n) hM.num hI.2.2.2.1 hI.len hI.lt (fun m hm => hI.lt m (by cases hm; exact hnL))) (cwV 1 hts g_Mo_53 rfl rfl rfl (by decide +kernel) ⟨Nat.le_of_ble_eq_true rfl, Nat.le_of_ble_eq_true rfl⟩) hK hLa hAB hA hP hD hS [0, 1] rfl rfl (ci := 5) rfl rfl (q0 := 0) rfl rfl hl.1 rfl (Nat.le_of_ble_eq_true rfl) d_Mo_about_54 ⟨Nat.zero_le _, Nat.zero_le _⟩ (fun r w1 H locs hp hP hD hS => ?_)
  obtain ⟨a, ha, rfl, rfl⟩ := hp
  have hP : va_P D vwCl [(mo, .inr (5, [.int (nI 0), .int (nI N), .int (nI C), .int (nI L.length), .ref m1, .ref m2, .ref m3, .ref m4, .ref m5, .ref m6, .ref m7, .ref m8])), (m1, .inl (cI, 80, .inl nu)), (m2, .inl (cI, 80, .inl va)), (m3, .inl (cI, 80, .inl ag)), (m4, .inl (cI, 80, .inl fi)), (m5, .inl (cI, 320, .inl re)), (m6, .inl (cZ, 80, .inl mk)), (m7, .inl (cI, 8, .inl mr)), (m8, .inl (cI, 4, .inl mw))] H := hP
  have hD : va_D A [(mo, .inr (5, [.int (nI 0), .int (nI N), .int (nI C), .int (nI L.length), .ref m1, .ref m2, .ref m3, .ref m4, .ref m5, .ref m6, .ref m7, .ref m8])), (m1, .inl (cI, 80, .inl nu)), (m2, .inl (cI, 80, .inl va)), (m3, .inl (cI, 80, .inl ag)), (m4, .inl (cI, 80, .inl fi)), (m5, .inl (cI, 320, .inl re)), (m6, .inl (cZ, 80, .inl mk)), (m7, .inl (cI, 8, .inl mr)), (m8, .inl (cI, 4, .inl mw))] := hD
  obtain ⟨k, rfl, hk, hkl⟩ := fm_is1 ha hnL
  have h80 := hI.len
  refine W.eq (g2 := F0 m 57 ls [.int (nI k)]) rfl ?_
  obtain ⟨e1, e2, e3, e4, e5⟩ := hM.1 k n hk
  obtain ⟨-, ea, ef⟩ := hI.2.2.2.2.2.2.1 n hnL
  refine lv_istore_n hx hb d_Mo_about_57 rfl hl (by decide) rfl (fun ls hl => ?_)
  have hl : lv_has ls 4 [(3, .int (nI k)), (0, .ref mo), (1, .int (nI j)), (2, .int (nI 2))] := hl
  refine lv_iload_n hx hb d_Mo_about_58 rfl (lv_at hl 3 rfl) ?_
  refine lv_if_ne hx hb d_Mo_about_59 (tgt := 71) (by decide) (fun _ => ?_) (fun h => absurd h (by decide))
  refine lv_iload_n hx hb d_Mo_about_71 rfl (lv_at hl 3 rfl) ?_
  refine lv_iconst (v := nI 1) hx hb d_Mo_about_72 (by decide) ?_
  refine lv_icmp_ne hx hb d_Mo_about_73 (tgt := 85) (by decide) (fun _ => ?_) (fun h => absurd h (by decide))
  refine lv_iload_n hx hb d_Mo_about_85 rfl (lv_at hl 3 rfl) ?_
  refine lv_iconst (v := nI 2) hx hb d_Mo_about_86 (by decide) ?_
  refine lv_icmp_ne hx hb d_Mo_about_87 (tgt := 99) (by decide) (fun h => absurd (rfl) h) (fun _ => ?_)
  refine lv_aload_n hx hb d_Mo_about_90 rfl (lv_at hl 1 rfl) ?_
  refine va_get (D := D) (ci := 5) (v := .ref m3) (C := R_Mo) (T := F_Mo) (N := 12) hx hb hts i_Mo hown hK hP 0 rfl rfl 6 (by decide) (hts _ k_f_Mo_16) (fun _ h9 => h9) rfl d_Mo_about_91 ?_
  refine lv_iload_n hx hb d_Mo_about_94 rfl (lv_at hl 0 rfl) ?_
  refine fy_iald (t0 := 0) (v := nI (age n)) hx hb hK hP 3 rfl rfl (by omega) (by omega) (e3) d_Mo_about_95 ?_
  refine lv_goto hx hb d_Mo_about_96 (tgt := 105) (by decide) ?_
  exact fy_reti hx hb hr hlocks hAe (⟨nI (age n), nu, va, ag, fi, re, mk, mr, mw, (fun _ => rfl), rfl, hM, rfl⟩) (List.Perm.refl _) hP hS d_Mo_about_105
set_option maxRecDepth 20000 in
set_option maxHeartbeats 4000000 in
theorem c_Mo_about_5 (l : Launch) (s0 : State) (D : va_G) (cI cZ cJ cW : ClassId) (hG : fy_G s0 D cI cZ cJ cW) (mo m1 m2 m3 m4 m5 m6 m7 m8 : Nat) (cd : Int32) (i : Nat) (N : Nat) (C : Nat) (L : List Nat) (val : Nat → Int32) (age : Nat → Nat) (nf : Nat → Nat) (rf : Nat → Nat → Option Nat) (reg : Nat → Option Nat) (wk : Nat → Option Nat) (nu va ag fi re mk mr mw : Nat → Int32) (hI : fm_In i N C L age nf rf reg wk) (hM : fm_Mo L val age nf rf reg wk nu va ag fi re mr mw) (j n : Nat) (q1 : j < 8) (q2 : reg j = some n) : fy_Met l s0 D vwCl y_Mo_about w_Mo_about (fy_rm 2) 0 0 [.ref mo, .int (nI j), .int (nI 3)] [(mo, .inr (5, [.int cd, .int (nI N), .int (nI C), .int (nI L.length), .ref m1, .ref m2, .ref m3, .ref m4, .ref m5, .ref m6, .ref m7, .ref m8])), (m1, .inl (cI, 80, .inl nu)), (m2, .inl (cI, 80, .inl va)), (m3, .inl (cI, 80, .inl ag)), (m4, .inl (cI, 80, .inl fi)), (m5, .inl (cI, 320, .inl re)), (m6, .inl (cZ, 80, .inl mk)), (m7, .inl (cI, 8, .inl mr)), (m8, .inl (cI, 4, .inl mw))] (fun r w1 => mo_post (fun b => some (.int b)) mo m1 m2 m3 m4 m5 m6 m7 m8 cI cZ 0 (nI (nf n)) N C L val age nf rf reg wk r w1) := by
  refine fy_st (bytes := b_Mo_about) (maxL := 4) (ret := some .int) hG (by decide) rfl (Nat.le_of_ble_eq_true rfl) ?_
  intro p e s m below meth c A ls hx hb hr hlocks hml hown hts hK hLa hAe hAB hA hl hP hD hS
  have hl : lv_has ls 4 [(0, .ref mo), (1, .int (nI j)), (2, .int (nI 3))] := hl
  have hj := q1
  have hn0 := q2
  refine lv_aload_n hx hb d_Mo_about_0 rfl (lv_at hl 0 rfl) ?_
  refine lv_iload_n hx hb d_Mo_about_1 rfl (lv_at hl 1 rfl) ?_
  refine fy_callS (As := [.int (nI j)]) (rest := [.ref mo]) ⟨hx, hb, hml, hown, hts⟩ (c_Mo_isRegister l s0 D cI cZ cJ cW hG j q1) (va_cwS 1 hts g_Mo_42 rfl rfl rfl (by decide +kernel) ⟨Nat.le_of_ble_eq_true rfl, Nat.le_of_ble_eq_true rfl⟩) hLa hAB hA hP hD hS [] rfl rfl rfl hl.1 rfl (Nat.le_of_ble_eq_true rfl) d_Mo_about_2 ⟨Nat.zero_le _, Nat.zero_le _⟩ (fun r w1 H locs hp hP hD hS => ?_)
  obtain ⟨rfl, rfl⟩ := hp
  have hP : va_P D vwCl [(mo, .inr (5, [.int cd, .int (nI N), .int (nI C), .int (nI L.length), .ref m1, .ref m2, .ref m3, .ref m4, .ref m5, .ref m6, .ref m7, .ref m8])), (m1, .inl (cI, 80, .inl nu)), (m2, .inl (cI, 80, .inl va)), (m3, .inl (cI, 80, .inl ag)), (m4, .inl (cI, 80, .inl fi)), (m5, .inl (cI, 320, .inl re)), (m6, .inl (cZ, 80, .inl mk)), (m7, .inl (cI, 8, .inl mr)), (m8, .inl (cI, 4, .inl mw))] H := hP
  have hD : va_D A [(mo, .inr (5, [.int cd, .int (nI N), .int (nI C), .int (nI L.length), .ref m1, .ref m2, .ref m3, .ref m4, .ref m5, .ref m6, .ref m7, .ref m8])), (m1, .inl (cI, 80, .inl nu)), (m2, .inl (cI, 80, .inl va)), (m3, .inl (cI, 80, .inl ag)), (m4, .inl (cI, 80, .inl fi)), (m5, .inl (cI, 320, .inl re)), (m6, .inl (cZ, 80, .inl mk)), (m7, .inl (cI, 8, .inl mr)), (m8, .inl (cI, 4, .inl mw))] := hD
  refine lv_if_eq hx hb d_Mo_about_5 (tgt := 17) (by decide) (fun h => absurd h (by decide)) (fun _ => ?_)
  refine lv_iload_n hx hb d_Mo_about_8 rfl (lv_at hl 2 rfl) ?_
  refine lv_if_lt hx hb d_Mo_about_9 (tgt := 17) (by decide) (fun h => absurd h (by decide)) (fun _ => ?_)
  refine lv_iload_n hx hb d_Mo_about_12 rfl (lv_at hl 2 rfl) ?_
  refine lv_iconst (v := nI 3) hx hb d_Mo_about_13 (by decide) ?_
  refine lv_icmp_le hx hb d_Mo_about_14 (tgt := 21) (by decide) (fun _ => ?_) (fun h => absurd (by decide) h)
  refine lv_aload_n hx hb d_Mo_about_21 rfl (lv_at hl 0 rfl) ?_
  refine va_get (D := D) (ci := 5) (v := .ref m7) (C := R_Mo) (T := F_Mo) (N := 12) hx hb hts i_Mo hown hK hP 0 rfl rfl 10 (by decide) (hts _ k_f_Mo_29) (fun _ h9 => h9) rfl d_Mo_about_22 ?_
  refine lv_iload_n hx hb d_Mo_about_25 rfl (lv_at hl 1 rfl) ?_
  refine fy_iald (t0 := 0) (v := nI n) hx hb hK hP 7 rfl rfl (by omega) (by omega) (by rw [hM.2.1 j q1, q2]; rfl) d_Mo_about_26 ?_
  refine lv_if_ge hx hb d_Mo_about_27 (tgt := 34) (by decide) (fun _ => ?_) (fun h => absurd (nI_pos' (by have := hI.lt n (hI.inR q1 n q2); omega)) h)
  refine lv_iconst (v := nI 0) hx hb d_Mo_about_34 (by decide) ?_
  refine va_put (D := D) (ci := 5) (v := .int (nI 0)) (ty := .int) (C := R_Mo) (T := F_Mo) (N := 12) hx hb hts i_Mo t_Mo tk_Mo n_Mo hown hK hP hD hS 0 rfl rfl 0 (by decide) (hts _ k_f_Mo_35) (fun _ h9 => h9) rfl (by decide +kernel) rfl rfl (Nat.le_of_ble_eq_true rfl) d_Mo_about_35 (fun H locs hP hD hS => ?_)
  have hP : va_P D vwCl [(mo, .inr (5, [.int (nI 0), .int (nI N), .int (nI C), .int (nI L.length), .ref m1, .ref m2, .ref m3, .ref m4, .ref m5, .ref m6, .ref m7, .ref m8])), (m1, .inl (cI, 80, .inl nu)), (m2, .inl (cI, 80, .inl va)), (m3, .inl (cI, 80, .inl ag)), (m4, .inl (cI, 80, .inl fi)), (m5, .inl (cI, 320, .inl re)), (m6, .inl (cZ, 80, .inl mk)), (m7, .inl (cI, 8, .inl mr)), (m8, .inl (cI, 4, .inl mw))] H := hP
  have hD : va_D A [(mo, .inr (5, [.int (nI 0), .int (nI N), .int (nI C), .int (nI L.length), .ref m1, .ref m2, .ref m3, .ref m4, .ref m5, .ref m6, .ref m7, .ref m8])), (m1, .inl (cI, 80, .inl nu)), (m2, .inl (cI, 80, .inl va)), (m3, .inl (cI, 80, .inl ag)), (m4, .inl (cI, 80, .inl fi)), (m5, .inl (cI, 320, .inl re)), (m6, .inl (cZ, 80, .inl mk)), (m7, .inl (cI, 8, .inl mr)), (m8, .inl (cI, 4, .inl mw))] := hD
  refine lv_aload_n hx hb d_Mo_about_38 rfl (lv_at hl 0 rfl) ?_
  refine va_get (D := D) (ci := 5) (v := .int (nI 0)) (C := R_Mo) (T := F_Mo) (N := 12) hx hb hts i_Mo hown hK hP 0 rfl rfl 0 (by decide) (hts _ k_f_Mo_35) (fun _ h9 => h9) rfl d_Mo_about_39 ?_
  refine lv_if_le hx hb d_Mo_about_42 (tgt := 47) (by decide) (fun _ => ?_) (fun h => absurd (by decide) h)
  refine lv_aload_n hx hb d_Mo_about_47 rfl (lv_at hl 0 rfl) ?_
  refine lv_aload_n hx hb d_Mo_about_48 rfl (lv_at hl 0 rfl) ?_
  refine va_get (D := D) (ci := 5) (v := .ref m7) (C := R_Mo) (T := F_Mo) (N := 12) hx hb hts i_Mo hown hK hP 0 rfl rfl 10 (by decide) (hts _ k_f_Mo_29) (fun _ h9 => h9) rfl d_Mo_about_49 ?_
  refine lv_iload_n hx hb d_Mo_about_52 rfl (lv_at hl 1 rfl) ?_
  refine fy_iald (t0 := 0) (v := fm_o (some n)) hx hb hK hP 7 rfl rfl (by omega) (by omega) (by rw [hM.2.1 j hj, hn0]) d_Mo_about_53 ?_
  have hnL : n ∈ L := hI.inR hj n hn0
  refine fy_callV (As := [.int (fm_o (some n))]) (rest := []) ⟨hx, hb, hml, hown, hts⟩ (c_Mo_find l s0 D cI cZ cJ cW hG mo m1 m2 m3 m4 m5 m6 m7 m8 (nI 0) N C L nu (some n) hM.num hI.2.2.2.1 hI.len hI.lt (fun m hm => hI.lt m (by cases hm; exact hnL))) (cwV 1 hts g_Mo_53 rfl rfl rfl (by decide +kernel) ⟨Nat.le_of_ble_eq_true rfl, Nat.le_of_ble_eq_true rfl⟩) hK hLa hAB hA hP hD hS [0, 1] rfl rfl (ci := 5) rfl rfl (q0 := 0) rfl rfl hl.1 rfl (Nat.le_of_ble_eq_true rfl) d_Mo_about_54 ⟨Nat.zero_le _, Nat.zero_le _⟩ (fun r w1 H locs hp hP hD hS => ?_)
  obtain ⟨a, ha, rfl, rfl⟩ := hp
  have hP : va_P D vwCl [(mo, .inr (5, [.int (nI 0), .int (nI N), .int (nI C), .int (nI L.length), .ref m1, .ref m2, .ref m3, .ref m4, .ref m5, .ref m6, .ref m7, .ref m8])), (m1, .inl (cI, 80, .inl nu)), (m2, .inl (cI, 80, .inl va)), (m3, .inl (cI, 80, .inl ag)), (m4, .inl (cI, 80, .inl fi)), (m5, .inl (cI, 320, .inl re)), (m6, .inl (cZ, 80, .inl mk)), (m7, .inl (cI, 8, .inl mr)), (m8, .inl (cI, 4, .inl mw))] H := hP
  have hD : va_D A [(mo, .inr (5, [.int (nI 0), .int (nI N), .int (nI C), .int (nI L.length), .ref m1, .ref m2, .ref m3, .ref m4, .ref m5, .ref m6, .ref m7, .ref m8])), (m1, .inl (cI, 80, .inl nu)), (m2, .inl (cI, 80, .inl va)), (m3, .inl (cI, 80, .inl ag)), (m4, .inl (cI, 80, .inl fi)), (m5, .inl (cI, 320, .inl re)), (m6, .inl (cZ, 80, .inl mk)), (m7, .inl (cI, 8, .inl mr)), (m8, .inl (cI, 4, .inl mw))] := hD
  obtain ⟨k, rfl, hk, hkl⟩ := fm_is1 ha hnL
  have h80 := hI.len
  refine W.eq (g2 := F0 m 57 ls [.int (nI k)]) rfl ?_
  obtain ⟨e1, e2, e3, e4, e5⟩ := hM.1 k n hk
  obtain ⟨-, ea, ef⟩ := hI.2.2.2.2.2.2.1 n hnL
  refine lv_istore_n hx hb d_Mo_about_57 rfl hl (by decide) rfl (fun ls hl => ?_)
  have hl : lv_has ls 4 [(3, .int (nI k)), (0, .ref mo), (1, .int (nI j)), (2, .int (nI 3))] := hl
  refine lv_iload_n hx hb d_Mo_about_58 rfl (lv_at hl 3 rfl) ?_
  refine lv_if_ne hx hb d_Mo_about_59 (tgt := 71) (by decide) (fun _ => ?_) (fun h => absurd h (by decide))
  refine lv_iload_n hx hb d_Mo_about_71 rfl (lv_at hl 3 rfl) ?_
  refine lv_iconst (v := nI 1) hx hb d_Mo_about_72 (by decide) ?_
  refine lv_icmp_ne hx hb d_Mo_about_73 (tgt := 85) (by decide) (fun _ => ?_) (fun h => absurd h (by decide))
  refine lv_iload_n hx hb d_Mo_about_85 rfl (lv_at hl 3 rfl) ?_
  refine lv_iconst (v := nI 2) hx hb d_Mo_about_86 (by decide) ?_
  refine lv_icmp_ne hx hb d_Mo_about_87 (tgt := 99) (by decide) (fun _ => ?_) (fun h => absurd h (by decide))
  refine lv_aload_n hx hb d_Mo_about_99 rfl (lv_at hl 1 rfl) ?_
  refine va_get (D := D) (ci := 5) (v := .ref m4) (C := R_Mo) (T := F_Mo) (N := 12) hx hb hts i_Mo hown hK hP 0 rfl rfl 7 (by decide) (hts _ k_f_Mo_19) (fun _ h9 => h9) rfl d_Mo_about_100 ?_
  refine lv_iload_n hx hb d_Mo_about_103 rfl (lv_at hl 0 rfl) ?_
  refine fy_iald (t0 := 0) (v := nI (nf n)) hx hb hK hP 4 rfl rfl (by omega) (by omega) (e4) d_Mo_about_104 ?_
  exact fy_reti hx hb hr hlocks hAe (⟨nI (nf n), nu, va, ag, fi, re, mk, mr, mw, (fun _ => rfl), rfl, hM, rfl⟩) (List.Perm.refl _) hP hS d_Mo_about_105
set_option maxRecDepth 20000 in
set_option maxHeartbeats 4000000 in
theorem c_Mo_field_0 (l : Launch) (s0 : State) (D : va_G) (cI cZ cJ cW : ClassId) (hG : fy_G s0 D cI cZ cJ cW) (mo m1 m2 m3 m4 m5 m6 m7 m8 : Nat) (cd : Int32) (i : Nat) (N : Nat) (C : Nat) (L : List Nat) (val : Nat → Int32) (age : Nat → Nat) (nf : Nat → Nat) (rf : Nat → Nat → Option Nat) (reg : Nat → Option Nat) (wk : Nat → Option Nat) (nu va ag fi re mk mr mw : Nat → Int32) (hI : fm_In i N C L age nf rf reg wk) (hM : fm_Mo L val age nf rf reg wk nu va ag fi re mr mw) (a1 a2 : Int32) (ans : Int32) (q1 : ¬ fy_ok 8 a1) : fy_Met l s0 D vwCl y_Mo_field w_Mo_field (fy_rm 2) 0 0 [.ref mo, .int a1, .int a2] [(mo, .inr (5, [.int cd, .int (nI N), .int (nI C), .int (nI L.length), .ref m1, .ref m2, .ref m3, .ref m4, .ref m5, .ref m6, .ref m7, .ref m8])), (m1, .inl (cI, 80, .inl nu)), (m2, .inl (cI, 80, .inl va)), (m3, .inl (cI, 80, .inl ag)), (m4, .inl (cI, 80, .inl fi)), (m5, .inl (cI, 320, .inl re)), (m6, .inl (cZ, 80, .inl mk)), (m7, .inl (cI, 8, .inl mr)), (m8, .inl (cI, 4, .inl mw))] (fun r w1 => mo_post (fun b => some (.int b)) mo m1 m2 m3 m4 m5 m6 m7 m8 cI cZ 1 ans N C L val age nf rf reg wk r w1) := by
  refine fy_st (bytes := b_Mo_field) (maxL := 4) (ret := some .int) hG (by decide) rfl (Nat.le_of_ble_eq_true rfl) ?_
  intro p e s m below meth c A ls hx hb hr hlocks hml hown hts hK hLa hAe hAB hA hl hP hD hS
  have hl : lv_has ls 4 [(0, .ref mo), (1, .int a1), (2, .int a2)] := hl
  refine lv_aload_n hx hb d_Mo_field_0 rfl (lv_at hl 0 rfl) ?_
  refine lv_iload_n hx hb d_Mo_field_1 rfl (lv_at hl 1 rfl) ?_
  refine fy_callS (As := [.int a1]) (rest := [.ref mo]) ⟨hx, hb, hml, hown, hts⟩ (c_Mo_isRegister0 l s0 D cI cZ cJ cW hG a1 (q1)) (va_cwS 1 hts g_Mo_42 rfl rfl rfl (by decide +kernel) ⟨Nat.le_of_ble_eq_true rfl, Nat.le_of_ble_eq_true rfl⟩) hLa hAB hA hP hD hS [] rfl rfl rfl hl.1 rfl (Nat.le_of_ble_eq_true rfl) d_Mo_field_2 ⟨Nat.zero_le _, Nat.zero_le _⟩ (fun r w1 H locs hp hP hD hS => ?_)
  obtain ⟨rfl, rfl⟩ := hp
  have hP : va_P D vwCl [(mo, .inr (5, [.int cd, .int (nI N), .int (nI C), .int (nI L.length), .ref m1, .ref m2, .ref m3, .ref m4, .ref m5, .ref m6, .ref m7, .ref m8])), (m1, .inl (cI, 80, .inl nu)), (m2, .inl (cI, 80, .inl va)), (m3, .inl (cI, 80, .inl ag)), (m4, .inl (cI, 80, .inl fi)), (m5, .inl (cI, 320, .inl re)), (m6, .inl (cZ, 80, .inl mk)), (m7, .inl (cI, 8, .inl mr)), (m8, .inl (cI, 4, .inl mw))] H := hP
  have hD : va_D A [(mo, .inr (5, [.int cd, .int (nI N), .int (nI C), .int (nI L.length), .ref m1, .ref m2, .ref m3, .ref m4, .ref m5, .ref m6, .ref m7, .ref m8])), (m1, .inl (cI, 80, .inl nu)), (m2, .inl (cI, 80, .inl va)), (m3, .inl (cI, 80, .inl ag)), (m4, .inl (cI, 80, .inl fi)), (m5, .inl (cI, 320, .inl re)), (m6, .inl (cZ, 80, .inl mk)), (m7, .inl (cI, 8, .inl mr)), (m8, .inl (cI, 4, .inl mw))] := hD
  refine lv_if_eq hx hb d_Mo_field_5 (tgt := 12) (by decide) (fun _ => ?_) (fun h => absurd (rfl) h)
  refine lv_iconst (v := nI 1) hx hb d_Mo_field_12 (by decide) ?_
  refine va_put (D := D) (ci := 5) (v := .int (nI 1)) (ty := .int) (C := R_Mo) (T := F_Mo) (N := 12) hx hb hts i_Mo t_Mo tk_Mo n_Mo hown hK hP hD hS 0 rfl rfl 0 (by decide) (hts _ k_f_Mo_35) (fun _ h9 => h9) rfl (by decide +kernel) rfl rfl (Nat.le_of_ble_eq_true rfl) d_Mo_field_13 (fun H locs hP hD hS => ?_)
  have hP : va_P D vwCl [(mo, .inr (5, [.int (nI 1), .int (nI N), .int (nI C), .int (nI L.length), .ref m1, .ref m2, .ref m3, .ref m4, .ref m5, .ref m6, .ref m7, .ref m8])), (m1, .inl (cI, 80, .inl nu)), (m2, .inl (cI, 80, .inl va)), (m3, .inl (cI, 80, .inl ag)), (m4, .inl (cI, 80, .inl fi)), (m5, .inl (cI, 320, .inl re)), (m6, .inl (cZ, 80, .inl mk)), (m7, .inl (cI, 8, .inl mr)), (m8, .inl (cI, 4, .inl mw))] H := hP
  have hD : va_D A [(mo, .inr (5, [.int (nI 1), .int (nI N), .int (nI C), .int (nI L.length), .ref m1, .ref m2, .ref m3, .ref m4, .ref m5, .ref m6, .ref m7, .ref m8])), (m1, .inl (cI, 80, .inl nu)), (m2, .inl (cI, 80, .inl va)), (m3, .inl (cI, 80, .inl ag)), (m4, .inl (cI, 80, .inl fi)), (m5, .inl (cI, 320, .inl re)), (m6, .inl (cZ, 80, .inl mk)), (m7, .inl (cI, 8, .inl mr)), (m8, .inl (cI, 4, .inl mw))] := hD
  refine lv_aload_n hx hb d_Mo_field_16 rfl (lv_at hl 0 rfl) ?_
  refine va_get (D := D) (ci := 5) (v := .int (nI 1)) (C := R_Mo) (T := F_Mo) (N := 12) hx hb hts i_Mo hown hK hP 0 rfl rfl 0 (by decide) (hts _ k_f_Mo_35) (fun _ h9 => h9) rfl d_Mo_field_17 ?_
  refine lv_if_le hx hb d_Mo_field_20 (tgt := 27) (by decide) (fun h => absurd h (by decide)) (fun _ => ?_)
  refine lv_iconst (v := -1) hx hb d_Mo_field_23 (by decide) ?_
  refine lv_goto hx hb d_Mo_field_24 (tgt := 33) (by decide) ?_
  refine lv_istore_n hx hb d_Mo_field_33 rfl hl (by decide) rfl (fun ls hl => ?_)
  have hl : lv_has ls 4 [(3, .int (-1)), (0, .ref mo), (1, .int a1), (2, .int a2)] := hl
  refine lv_iload_n hx hb d_Mo_field_34 rfl (lv_at hl 0 rfl) ?_
  refine lv_if_ge hx hb d_Mo_field_35 (tgt := 42) (by decide) (fun h => absurd h (by decide)) (fun _ => ?_)
  refine lv_iconst (v := nI 0) hx hb d_Mo_field_38 (by decide) ?_
  refine lv_goto hx hb d_Mo_field_39 (tgt := 48) (by decide) ?_
  exact fy_reti hx hb hr hlocks hAe (⟨nI 0, nu, va, ag, fi, re, mk, mr, mw, (fun h => absurd h (by decide)), rfl, hM, rfl⟩) (List.Perm.refl _) hP hS d_Mo_field_48
set_option maxRecDepth 20000 in
set_option maxHeartbeats 4000000 in
theorem c_Mo_field_1 (l : Launch) (s0 : State) (D : va_G) (cI cZ cJ cW : ClassId) (hG : fy_G s0 D cI cZ cJ cW) (mo m1 m2 m3 m4 m5 m6 m7 m8 : Nat) (cd : Int32) (i : Nat) (N : Nat) (C : Nat) (L : List Nat) (val : Nat → Int32) (age : Nat → Nat) (nf : Nat → Nat) (rf : Nat → Nat → Option Nat) (reg : Nat → Option Nat) (wk : Nat → Option Nat) (nu va ag fi re mk mr mw : Nat → Int32) (hI : fm_In i N C L age nf rf reg wk) (hM : fm_Mo L val age nf rf reg wk nu va ag fi re mr mw) (j : Nat) (a2 : Int32) (ans : Int32) (q1 : j < 8) (q2 : reg j = none) : fy_Met l s0 D vwCl y_Mo_field w_Mo_field (fy_rm 2) 0 0 [.ref mo, .int (nI j), .int a2] [(mo, .inr (5, [.int cd, .int (nI N), .int (nI C), .int (nI L.length), .ref m1, .ref m2, .ref m3, .ref m4, .ref m5, .ref m6, .ref m7, .ref m8])), (m1, .inl (cI, 80, .inl nu)), (m2, .inl (cI, 80, .inl va)), (m3, .inl (cI, 80, .inl ag)), (m4, .inl (cI, 80, .inl fi)), (m5, .inl (cI, 320, .inl re)), (m6, .inl (cZ, 80, .inl mk)), (m7, .inl (cI, 8, .inl mr)), (m8, .inl (cI, 4, .inl mw))] (fun r w1 => mo_post (fun b => some (.int b)) mo m1 m2 m3 m4 m5 m6 m7 m8 cI cZ 2 ans N C L val age nf rf reg wk r w1) := by
  refine fy_st (bytes := b_Mo_field) (maxL := 4) (ret := some .int) hG (by decide) rfl (Nat.le_of_ble_eq_true rfl) ?_
  intro p e s m below meth c A ls hx hb hr hlocks hml hown hts hK hLa hAe hAB hA hl hP hD hS
  have hl : lv_has ls 4 [(0, .ref mo), (1, .int (nI j)), (2, .int a2)] := hl
  refine lv_aload_n hx hb d_Mo_field_0 rfl (lv_at hl 0 rfl) ?_
  refine lv_iload_n hx hb d_Mo_field_1 rfl (lv_at hl 1 rfl) ?_
  refine fy_callS (As := [.int (nI j)]) (rest := [.ref mo]) ⟨hx, hb, hml, hown, hts⟩ (c_Mo_isRegister l s0 D cI cZ cJ cW hG j q1) (va_cwS 1 hts g_Mo_42 rfl rfl rfl (by decide +kernel) ⟨Nat.le_of_ble_eq_true rfl, Nat.le_of_ble_eq_true rfl⟩) hLa hAB hA hP hD hS [] rfl rfl rfl hl.1 rfl (Nat.le_of_ble_eq_true rfl) d_Mo_field_2 ⟨Nat.zero_le _, Nat.zero_le _⟩ (fun r w1 H locs hp hP hD hS => ?_)
  obtain ⟨rfl, rfl⟩ := hp
  have hP : va_P D vwCl [(mo, .inr (5, [.int cd, .int (nI N), .int (nI C), .int (nI L.length), .ref m1, .ref m2, .ref m3, .ref m4, .ref m5, .ref m6, .ref m7, .ref m8])), (m1, .inl (cI, 80, .inl nu)), (m2, .inl (cI, 80, .inl va)), (m3, .inl (cI, 80, .inl ag)), (m4, .inl (cI, 80, .inl fi)), (m5, .inl (cI, 320, .inl re)), (m6, .inl (cZ, 80, .inl mk)), (m7, .inl (cI, 8, .inl mr)), (m8, .inl (cI, 4, .inl mw))] H := hP
  have hD : va_D A [(mo, .inr (5, [.int cd, .int (nI N), .int (nI C), .int (nI L.length), .ref m1, .ref m2, .ref m3, .ref m4, .ref m5, .ref m6, .ref m7, .ref m8])), (m1, .inl (cI, 80, .inl nu)), (m2, .inl (cI, 80, .inl va)), (m3, .inl (cI, 80, .inl ag)), (m4, .inl (cI, 80, .inl fi)), (m5, .inl (cI, 320, .inl re)), (m6, .inl (cZ, 80, .inl mk)), (m7, .inl (cI, 8, .inl mr)), (m8, .inl (cI, 4, .inl mw))] := hD
  refine lv_if_eq hx hb d_Mo_field_5 (tgt := 12) (by decide) (fun h => absurd h (by decide)) (fun _ => ?_)
  refine lv_iconst (v := nI 0) hx hb d_Mo_field_8 (by decide) ?_
  refine lv_goto hx hb d_Mo_field_9 (tgt := 13) (by decide) ?_
  refine va_put (D := D) (ci := 5) (v := .int (nI 0)) (ty := .int) (C := R_Mo) (T := F_Mo) (N := 12) hx hb hts i_Mo t_Mo tk_Mo n_Mo hown hK hP hD hS 0 rfl rfl 0 (by decide) (hts _ k_f_Mo_35) (fun _ h9 => h9) rfl (by decide +kernel) rfl rfl (Nat.le_of_ble_eq_true rfl) d_Mo_field_13 (fun H locs hP hD hS => ?_)
  have hP : va_P D vwCl [(mo, .inr (5, [.int (nI 0), .int (nI N), .int (nI C), .int (nI L.length), .ref m1, .ref m2, .ref m3, .ref m4, .ref m5, .ref m6, .ref m7, .ref m8])), (m1, .inl (cI, 80, .inl nu)), (m2, .inl (cI, 80, .inl va)), (m3, .inl (cI, 80, .inl ag)), (m4, .inl (cI, 80, .inl fi)), (m5, .inl (cI, 320, .inl re)), (m6, .inl (cZ, 80, .inl mk)), (m7, .inl (cI, 8, .inl mr)), (m8, .inl (cI, 4, .inl mw))] H := hP
  have hD : va_D A [(mo, .inr (5, [.int (nI 0), .int (nI N), .int (nI C), .int (nI L.length), .ref m1, .ref m2, .ref m3, .ref m4, .ref m5, .ref m6, .ref m7, .ref m8])), (m1, .inl (cI, 80, .inl nu)), (m2, .inl (cI, 80, .inl va)), (m3, .inl (cI, 80, .inl ag)), (m4, .inl (cI, 80, .inl fi)), (m5, .inl (cI, 320, .inl re)), (m6, .inl (cZ, 80, .inl mk)), (m7, .inl (cI, 8, .inl mr)), (m8, .inl (cI, 4, .inl mw))] := hD
  refine lv_aload_n hx hb d_Mo_field_16 rfl (lv_at hl 0 rfl) ?_
  refine va_get (D := D) (ci := 5) (v := .int (nI 0)) (C := R_Mo) (T := F_Mo) (N := 12) hx hb hts i_Mo hown hK hP 0 rfl rfl 0 (by decide) (hts _ k_f_Mo_35) (fun _ h9 => h9) rfl d_Mo_field_17 ?_
  refine lv_if_le hx hb d_Mo_field_20 (tgt := 27) (by decide) (fun _ => ?_) (fun h => absurd (by decide) h)
  refine lv_aload_n hx hb d_Mo_field_27 rfl (lv_at hl 0 rfl) ?_
  refine lv_iload_n hx hb d_Mo_field_28 rfl (lv_at hl 1 rfl) ?_
  refine lv_iload_n hx hb d_Mo_field_29 rfl (lv_at hl 2 rfl) ?_
  refine fy_callV (As := [.int (nI j), .int a2]) (rest := []) ⟨hx, hb, hml, hown, hts⟩ (c_Mo_fieldAt_N l s0 D cI cZ cJ cW hG mo m1 m2 m3 m4 m5 m6 m7 m8 (nI 0) i N C L val age nf rf reg wk nu va ag fi re mr mw hI hM j a2 q1 q2) (cwV 2 hts g_Mo_57 rfl rfl rfl (by decide +kernel) ⟨Nat.le_of_ble_eq_true rfl, Nat.le_of_ble_eq_true rfl⟩) hK hLa hAB hA hP hD hS [0, 1, 4, 7] rfl rfl (ci := 5) rfl rfl (q0 := 0) rfl rfl hl.1 rfl (Nat.le_of_ble_eq_true rfl) d_Mo_field_30 ⟨Nat.zero_le _, Nat.zero_le _⟩ (fun r w1 H locs hp hP hD hS => ?_)
  obtain ⟨rfl, rfl⟩ := hp
  have hP : va_P D vwCl [(mo, .inr (5, [.int (nI 2), .int (nI N), .int (nI C), .int (nI L.length), .ref m1, .ref m2, .ref m3, .ref m4, .ref m5, .ref m6, .ref m7, .ref m8])), (m1, .inl (cI, 80, .inl nu)), (m2, .inl (cI, 80, .inl va)), (m3, .inl (cI, 80, .inl ag)), (m4, .inl (cI, 80, .inl fi)), (m5, .inl (cI, 320, .inl re)), (m6, .inl (cZ, 80, .inl mk)), (m7, .inl (cI, 8, .inl mr)), (m8, .inl (cI, 4, .inl mw))] H := hP
  have hD : va_D A [(mo, .inr (5, [.int (nI 2), .int (nI N), .int (nI C), .int (nI L.length), .ref m1, .ref m2, .ref m3, .ref m4, .ref m5, .ref m6, .ref m7, .ref m8])), (m1, .inl (cI, 80, .inl nu)), (m2, .inl (cI, 80, .inl va)), (m3, .inl (cI, 80, .inl ag)), (m4, .inl (cI, 80, .inl fi)), (m5, .inl (cI, 320, .inl re)), (m6, .inl (cZ, 80, .inl mk)), (m7, .inl (cI, 8, .inl mr)), (m8, .inl (cI, 4, .inl mw))] := hD
  refine lv_istore_n hx hb d_Mo_field_33 rfl hl (by decide) rfl (fun ls hl => ?_)
  have hl : lv_has ls 4 [(3, .int (-1)), (0, .ref mo), (1, .int (nI j)), (2, .int a2)] := hl
  refine lv_iload_n hx hb d_Mo_field_34 rfl (lv_at hl 0 rfl) ?_
  refine lv_if_ge hx hb d_Mo_field_35 (tgt := 42) (by decide) (fun h => absurd h (by decide)) (fun _ => ?_)
  refine lv_iconst (v := nI 0) hx hb d_Mo_field_38 (by decide) ?_
  refine lv_goto hx hb d_Mo_field_39 (tgt := 48) (by decide) ?_
  exact fy_reti hx hb hr hlocks hAe (⟨nI 0, nu, va, ag, fi, re, mk, mr, mw, (fun h => absurd h (by decide)), rfl, hM, rfl⟩) (List.Perm.refl _) hP hS d_Mo_field_48
set_option maxRecDepth 20000 in
set_option maxHeartbeats 4000000 in
theorem c_Mo_field_2 (l : Launch) (s0 : State) (D : va_G) (cI cZ cJ cW : ClassId) (hG : fy_G s0 D cI cZ cJ cW) (mo m1 m2 m3 m4 m5 m6 m7 m8 : Nat) (cd : Int32) (i : Nat) (N : Nat) (C : Nat) (L : List Nat) (val : Nat → Int32) (age : Nat → Nat) (nf : Nat → Nat) (rf : Nat → Nat → Option Nat) (reg : Nat → Option Nat) (wk : Nat → Option Nat) (nu va ag fi re mk mr mw : Nat → Int32) (hI : fm_In i N C L age nf rf reg wk) (hM : fm_Mo L val age nf rf reg wk nu va ag fi re mr mw) (j n : Nat) (a2 : Int32) (ans : Int32) (q1 : j < 8) (q2 : reg j = some n) (q3 : ¬ fy_ok (nf n) a2) : fy_Met l s0 D vwCl y_Mo_field w_Mo_field (fy_rm 2) 0 0 [.ref mo, .int (nI j), .int a2] [(mo, .inr (5, [.int cd, .int (nI N), .int (nI C), .int (nI L.length), .ref m1, .ref m2, .ref m3, .ref m4, .ref m5, .ref m6, .ref m7, .ref m8])), (m1, .inl (cI, 80, .inl nu)), (m2, .inl (cI, 80, .inl va)), (m3, .inl (cI, 80, .inl ag)), (m4, .inl (cI, 80, .inl fi)), (m5, .inl (cI, 320, .inl re)), (m6, .inl (cZ, 80, .inl mk)), (m7, .inl (cI, 8, .inl mr)), (m8, .inl (cI, 4, .inl mw))] (fun r w1 => mo_post (fun b => some (.int b)) mo m1 m2 m3 m4 m5 m6 m7 m8 cI cZ 3 ans N C L val age nf rf reg wk r w1) := by
  refine fy_st (bytes := b_Mo_field) (maxL := 4) (ret := some .int) hG (by decide) rfl (Nat.le_of_ble_eq_true rfl) ?_
  intro p e s m below meth c A ls hx hb hr hlocks hml hown hts hK hLa hAe hAB hA hl hP hD hS
  have hl : lv_has ls 4 [(0, .ref mo), (1, .int (nI j)), (2, .int a2)] := hl
  refine lv_aload_n hx hb d_Mo_field_0 rfl (lv_at hl 0 rfl) ?_
  refine lv_iload_n hx hb d_Mo_field_1 rfl (lv_at hl 1 rfl) ?_
  refine fy_callS (As := [.int (nI j)]) (rest := [.ref mo]) ⟨hx, hb, hml, hown, hts⟩ (c_Mo_isRegister l s0 D cI cZ cJ cW hG j q1) (va_cwS 1 hts g_Mo_42 rfl rfl rfl (by decide +kernel) ⟨Nat.le_of_ble_eq_true rfl, Nat.le_of_ble_eq_true rfl⟩) hLa hAB hA hP hD hS [] rfl rfl rfl hl.1 rfl (Nat.le_of_ble_eq_true rfl) d_Mo_field_2 ⟨Nat.zero_le _, Nat.zero_le _⟩ (fun r w1 H locs hp hP hD hS => ?_)
  obtain ⟨rfl, rfl⟩ := hp
  have hP : va_P D vwCl [(mo, .inr (5, [.int cd, .int (nI N), .int (nI C), .int (nI L.length), .ref m1, .ref m2, .ref m3, .ref m4, .ref m5, .ref m6, .ref m7, .ref m8])), (m1, .inl (cI, 80, .inl nu)), (m2, .inl (cI, 80, .inl va)), (m3, .inl (cI, 80, .inl ag)), (m4, .inl (cI, 80, .inl fi)), (m5, .inl (cI, 320, .inl re)), (m6, .inl (cZ, 80, .inl mk)), (m7, .inl (cI, 8, .inl mr)), (m8, .inl (cI, 4, .inl mw))] H := hP
  have hD : va_D A [(mo, .inr (5, [.int cd, .int (nI N), .int (nI C), .int (nI L.length), .ref m1, .ref m2, .ref m3, .ref m4, .ref m5, .ref m6, .ref m7, .ref m8])), (m1, .inl (cI, 80, .inl nu)), (m2, .inl (cI, 80, .inl va)), (m3, .inl (cI, 80, .inl ag)), (m4, .inl (cI, 80, .inl fi)), (m5, .inl (cI, 320, .inl re)), (m6, .inl (cZ, 80, .inl mk)), (m7, .inl (cI, 8, .inl mr)), (m8, .inl (cI, 4, .inl mw))] := hD
  refine lv_if_eq hx hb d_Mo_field_5 (tgt := 12) (by decide) (fun h => absurd h (by decide)) (fun _ => ?_)
  refine lv_iconst (v := nI 0) hx hb d_Mo_field_8 (by decide) ?_
  refine lv_goto hx hb d_Mo_field_9 (tgt := 13) (by decide) ?_
  refine va_put (D := D) (ci := 5) (v := .int (nI 0)) (ty := .int) (C := R_Mo) (T := F_Mo) (N := 12) hx hb hts i_Mo t_Mo tk_Mo n_Mo hown hK hP hD hS 0 rfl rfl 0 (by decide) (hts _ k_f_Mo_35) (fun _ h9 => h9) rfl (by decide +kernel) rfl rfl (Nat.le_of_ble_eq_true rfl) d_Mo_field_13 (fun H locs hP hD hS => ?_)
  have hP : va_P D vwCl [(mo, .inr (5, [.int (nI 0), .int (nI N), .int (nI C), .int (nI L.length), .ref m1, .ref m2, .ref m3, .ref m4, .ref m5, .ref m6, .ref m7, .ref m8])), (m1, .inl (cI, 80, .inl nu)), (m2, .inl (cI, 80, .inl va)), (m3, .inl (cI, 80, .inl ag)), (m4, .inl (cI, 80, .inl fi)), (m5, .inl (cI, 320, .inl re)), (m6, .inl (cZ, 80, .inl mk)), (m7, .inl (cI, 8, .inl mr)), (m8, .inl (cI, 4, .inl mw))] H := hP
  have hD : va_D A [(mo, .inr (5, [.int (nI 0), .int (nI N), .int (nI C), .int (nI L.length), .ref m1, .ref m2, .ref m3, .ref m4, .ref m5, .ref m6, .ref m7, .ref m8])), (m1, .inl (cI, 80, .inl nu)), (m2, .inl (cI, 80, .inl va)), (m3, .inl (cI, 80, .inl ag)), (m4, .inl (cI, 80, .inl fi)), (m5, .inl (cI, 320, .inl re)), (m6, .inl (cZ, 80, .inl mk)), (m7, .inl (cI, 8, .inl mr)), (m8, .inl (cI, 4, .inl mw))] := hD
  refine lv_aload_n hx hb d_Mo_field_16 rfl (lv_at hl 0 rfl) ?_
  refine va_get (D := D) (ci := 5) (v := .int (nI 0)) (C := R_Mo) (T := F_Mo) (N := 12) hx hb hts i_Mo hown hK hP 0 rfl rfl 0 (by decide) (hts _ k_f_Mo_35) (fun _ h9 => h9) rfl d_Mo_field_17 ?_
  refine lv_if_le hx hb d_Mo_field_20 (tgt := 27) (by decide) (fun _ => ?_) (fun h => absurd (by decide) h)
  refine lv_aload_n hx hb d_Mo_field_27 rfl (lv_at hl 0 rfl) ?_
  refine lv_iload_n hx hb d_Mo_field_28 rfl (lv_at hl 1 rfl) ?_
  refine lv_iload_n hx hb d_Mo_field_29 rfl (lv_at hl 2 rfl) ?_
  refine fy_callV (As := [.int (nI j), .int a2]) (rest := []) ⟨hx, hb, hml, hown, hts⟩ (c_Mo_fieldAt_O l s0 D cI cZ cJ cW hG mo m1 m2 m3 m4 m5 m6 m7 m8 (nI 0) i N C L val age nf rf reg wk nu va ag fi re mr mw hI hM j n a2 q1 q2 q3) (cwV 2 hts g_Mo_57 rfl rfl rfl (by decide +kernel) ⟨Nat.le_of_ble_eq_true rfl, Nat.le_of_ble_eq_true rfl⟩) hK hLa hAB hA hP hD hS [0, 1, 4, 7] rfl rfl (ci := 5) rfl rfl (q0 := 0) rfl rfl hl.1 rfl (Nat.le_of_ble_eq_true rfl) d_Mo_field_30 ⟨Nat.zero_le _, Nat.zero_le _⟩ (fun r w1 H locs hp hP hD hS => ?_)
  obtain ⟨rfl, rfl⟩ := hp
  have hP : va_P D vwCl [(mo, .inr (5, [.int (nI 3), .int (nI N), .int (nI C), .int (nI L.length), .ref m1, .ref m2, .ref m3, .ref m4, .ref m5, .ref m6, .ref m7, .ref m8])), (m1, .inl (cI, 80, .inl nu)), (m2, .inl (cI, 80, .inl va)), (m3, .inl (cI, 80, .inl ag)), (m4, .inl (cI, 80, .inl fi)), (m5, .inl (cI, 320, .inl re)), (m6, .inl (cZ, 80, .inl mk)), (m7, .inl (cI, 8, .inl mr)), (m8, .inl (cI, 4, .inl mw))] H := hP
  have hD : va_D A [(mo, .inr (5, [.int (nI 3), .int (nI N), .int (nI C), .int (nI L.length), .ref m1, .ref m2, .ref m3, .ref m4, .ref m5, .ref m6, .ref m7, .ref m8])), (m1, .inl (cI, 80, .inl nu)), (m2, .inl (cI, 80, .inl va)), (m3, .inl (cI, 80, .inl ag)), (m4, .inl (cI, 80, .inl fi)), (m5, .inl (cI, 320, .inl re)), (m6, .inl (cZ, 80, .inl mk)), (m7, .inl (cI, 8, .inl mr)), (m8, .inl (cI, 4, .inl mw))] := hD
  refine lv_istore_n hx hb d_Mo_field_33 rfl hl (by decide) rfl (fun ls hl => ?_)
  have hl : lv_has ls 4 [(3, .int (-1)), (0, .ref mo), (1, .int (nI j)), (2, .int a2)] := hl
  refine lv_iload_n hx hb d_Mo_field_34 rfl (lv_at hl 0 rfl) ?_
  refine lv_if_ge hx hb d_Mo_field_35 (tgt := 42) (by decide) (fun h => absurd h (by decide)) (fun _ => ?_)
  refine lv_iconst (v := nI 0) hx hb d_Mo_field_38 (by decide) ?_
  refine lv_goto hx hb d_Mo_field_39 (tgt := 48) (by decide) ?_
  exact fy_reti hx hb hr hlocks hAe (⟨nI 0, nu, va, ag, fi, re, mk, mr, mw, (fun h => absurd h (by decide)), rfl, hM, rfl⟩) (List.Perm.refl _) hP hS d_Mo_field_48
set_option maxRecDepth 20000 in
set_option maxHeartbeats 4000000 in
theorem c_Mo_field_3 (l : Launch) (s0 : State) (D : va_G) (cI cZ cJ cW : ClassId) (hG : fy_G s0 D cI cZ cJ cW) (mo m1 m2 m3 m4 m5 m6 m7 m8 : Nat) (cd : Int32) (i : Nat) (N : Nat) (C : Nat) (L : List Nat) (val : Nat → Int32) (age : Nat → Nat) (nf : Nat → Nat) (rf : Nat → Nat → Option Nat) (reg : Nat → Option Nat) (wk : Nat → Option Nat) (nu va ag fi re mk mr mw : Nat → Int32) (hI : fm_In i N C L age nf rf reg wk) (hM : fm_Mo L val age nf rf reg wk nu va ag fi re mr mw) (j n f : Nat) (q1 : j < 8) (q2 : reg j = some n) (q3 : f < nf n) : fy_Met l s0 D vwCl y_Mo_field w_Mo_field (fy_rm 2) 0 0 [.ref mo, .int (nI j), .int (nI f)] [(mo, .inr (5, [.int cd, .int (nI N), .int (nI C), .int (nI L.length), .ref m1, .ref m2, .ref m3, .ref m4, .ref m5, .ref m6, .ref m7, .ref m8])), (m1, .inl (cI, 80, .inl nu)), (m2, .inl (cI, 80, .inl va)), (m3, .inl (cI, 80, .inl ag)), (m4, .inl (cI, 80, .inl fi)), (m5, .inl (cI, 320, .inl re)), (m6, .inl (cZ, 80, .inl mk)), (m7, .inl (cI, 8, .inl mr)), (m8, .inl (cI, 4, .inl mw))] (fun r w1 => mo_post (fun b => some (.int b)) mo m1 m2 m3 m4 m5 m6 m7 m8 cI cZ 0 (fm_o (rf n f)) N C L val age nf rf reg wk r w1) := by
  refine fy_st (bytes := b_Mo_field) (maxL := 4) (ret := some .int) hG (by decide) rfl (Nat.le_of_ble_eq_true rfl) ?_
  intro p e s m below meth c A ls hx hb hr hlocks hml hown hts hK hLa hAe hAB hA hl hP hD hS
  have hl : lv_has ls 4 [(0, .ref mo), (1, .int (nI j)), (2, .int (nI f))] := hl
  refine lv_aload_n hx hb d_Mo_field_0 rfl (lv_at hl 0 rfl) ?_
  refine lv_iload_n hx hb d_Mo_field_1 rfl (lv_at hl 1 rfl) ?_
  refine fy_callS (As := [.int (nI j)]) (rest := [.ref mo]) ⟨hx, hb, hml, hown, hts⟩ (c_Mo_isRegister l s0 D cI cZ cJ cW hG j q1) (va_cwS 1 hts g_Mo_42 rfl rfl rfl (by decide +kernel) ⟨Nat.le_of_ble_eq_true rfl, Nat.le_of_ble_eq_true rfl⟩) hLa hAB hA hP hD hS [] rfl rfl rfl hl.1 rfl (Nat.le_of_ble_eq_true rfl) d_Mo_field_2 ⟨Nat.zero_le _, Nat.zero_le _⟩ (fun r w1 H locs hp hP hD hS => ?_)
  obtain ⟨rfl, rfl⟩ := hp
  have hP : va_P D vwCl [(mo, .inr (5, [.int cd, .int (nI N), .int (nI C), .int (nI L.length), .ref m1, .ref m2, .ref m3, .ref m4, .ref m5, .ref m6, .ref m7, .ref m8])), (m1, .inl (cI, 80, .inl nu)), (m2, .inl (cI, 80, .inl va)), (m3, .inl (cI, 80, .inl ag)), (m4, .inl (cI, 80, .inl fi)), (m5, .inl (cI, 320, .inl re)), (m6, .inl (cZ, 80, .inl mk)), (m7, .inl (cI, 8, .inl mr)), (m8, .inl (cI, 4, .inl mw))] H := hP
  have hD : va_D A [(mo, .inr (5, [.int cd, .int (nI N), .int (nI C), .int (nI L.length), .ref m1, .ref m2, .ref m3, .ref m4, .ref m5, .ref m6, .ref m7, .ref m8])), (m1, .inl (cI, 80, .inl nu)), (m2, .inl (cI, 80, .inl va)), (m3, .inl (cI, 80, .inl ag)), (m4, .inl (cI, 80, .inl fi)), (m5, .inl (cI, 320, .inl re)), (m6, .inl (cZ, 80, .inl mk)), (m7, .inl (cI, 8, .inl mr)), (m8, .inl (cI, 4, .inl mw))] := hD
  refine lv_if_eq hx hb d_Mo_field_5 (tgt := 12) (by decide) (fun h => absurd h (by decide)) (fun _ => ?_)
  refine lv_iconst (v := nI 0) hx hb d_Mo_field_8 (by decide) ?_
  refine lv_goto hx hb d_Mo_field_9 (tgt := 13) (by decide) ?_
  refine va_put (D := D) (ci := 5) (v := .int (nI 0)) (ty := .int) (C := R_Mo) (T := F_Mo) (N := 12) hx hb hts i_Mo t_Mo tk_Mo n_Mo hown hK hP hD hS 0 rfl rfl 0 (by decide) (hts _ k_f_Mo_35) (fun _ h9 => h9) rfl (by decide +kernel) rfl rfl (Nat.le_of_ble_eq_true rfl) d_Mo_field_13 (fun H locs hP hD hS => ?_)
  have hP : va_P D vwCl [(mo, .inr (5, [.int (nI 0), .int (nI N), .int (nI C), .int (nI L.length), .ref m1, .ref m2, .ref m3, .ref m4, .ref m5, .ref m6, .ref m7, .ref m8])), (m1, .inl (cI, 80, .inl nu)), (m2, .inl (cI, 80, .inl va)), (m3, .inl (cI, 80, .inl ag)), (m4, .inl (cI, 80, .inl fi)), (m5, .inl (cI, 320, .inl re)), (m6, .inl (cZ, 80, .inl mk)), (m7, .inl (cI, 8, .inl mr)), (m8, .inl (cI, 4, .inl mw))] H := hP
  have hD : va_D A [(mo, .inr (5, [.int (nI 0), .int (nI N), .int (nI C), .int (nI L.length), .ref m1, .ref m2, .ref m3, .ref m4, .ref m5, .ref m6, .ref m7, .ref m8])), (m1, .inl (cI, 80, .inl nu)), (m2, .inl (cI, 80, .inl va)), (m3, .inl (cI, 80, .inl ag)), (m4, .inl (cI, 80, .inl fi)), (m5, .inl (cI, 320, .inl re)), (m6, .inl (cZ, 80, .inl mk)), (m7, .inl (cI, 8, .inl mr)), (m8, .inl (cI, 4, .inl mw))] := hD
  refine lv_aload_n hx hb d_Mo_field_16 rfl (lv_at hl 0 rfl) ?_
  refine va_get (D := D) (ci := 5) (v := .int (nI 0)) (C := R_Mo) (T := F_Mo) (N := 12) hx hb hts i_Mo hown hK hP 0 rfl rfl 0 (by decide) (hts _ k_f_Mo_35) (fun _ h9 => h9) rfl d_Mo_field_17 ?_
  refine lv_if_le hx hb d_Mo_field_20 (tgt := 27) (by decide) (fun _ => ?_) (fun h => absurd (by decide) h)
  refine lv_aload_n hx hb d_Mo_field_27 rfl (lv_at hl 0 rfl) ?_
  refine lv_iload_n hx hb d_Mo_field_28 rfl (lv_at hl 1 rfl) ?_
  refine lv_iload_n hx hb d_Mo_field_29 rfl (lv_at hl 2 rfl) ?_
  have ef := (hI.2.2.2.2.2.2.1 n (hI.inR q1 n q2)).2.2
  refine fy_callV (As := [.int (nI j), .int (nI f)]) (rest := []) ⟨hx, hb, hml, hown, hts⟩ (c_Mo_fieldAt_ok l s0 D cI cZ cJ cW hG mo m1 m2 m3 m4 m5 m6 m7 m8 (nI 0) i N C L val age nf rf reg wk nu va ag fi re mr mw hI hM j n f q1 q2 q3) (cwV 2 hts g_Mo_57 rfl rfl rfl (by decide +kernel) ⟨Nat.le_of_ble_eq_true rfl, Nat.le_of_ble_eq_true rfl⟩) hK hLa hAB hA hP hD hS [0, 1, 4, 7] rfl rfl (ci := 5) rfl rfl (q0 := 0) rfl rfl hl.1 rfl (Nat.le_of_ble_eq_true rfl) d_Mo_field_30 ⟨Nat.zero_le _, Nat.zero_le _⟩ (fun r w1 H locs hp hP hD hS => ?_)
  obtain ⟨k, hk, hk8, rfl, rfl⟩ := hp
  have hP : va_P D vwCl [(mo, .inr (5, [.int (nI 0), .int (nI N), .int (nI C), .int (nI L.length), .ref m1, .ref m2, .ref m3, .ref m4, .ref m5, .ref m6, .ref m7, .ref m8])), (m1, .inl (cI, 80, .inl nu)), (m2, .inl (cI, 80, .inl va)), (m3, .inl (cI, 80, .inl ag)), (m4, .inl (cI, 80, .inl fi)), (m5, .inl (cI, 320, .inl re)), (m6, .inl (cZ, 80, .inl mk)), (m7, .inl (cI, 8, .inl mr)), (m8, .inl (cI, 4, .inl mw))] H := hP
  have hD : va_D A [(mo, .inr (5, [.int (nI 0), .int (nI N), .int (nI C), .int (nI L.length), .ref m1, .ref m2, .ref m3, .ref m4, .ref m5, .ref m6, .ref m7, .ref m8])), (m1, .inl (cI, 80, .inl nu)), (m2, .inl (cI, 80, .inl va)), (m3, .inl (cI, 80, .inl ag)), (m4, .inl (cI, 80, .inl fi)), (m5, .inl (cI, 320, .inl re)), (m6, .inl (cZ, 80, .inl mk)), (m7, .inl (cI, 8, .inl mr)), (m8, .inl (cI, 4, .inl mw))] := hD
  refine lv_istore_n hx hb d_Mo_field_33 rfl hl (by decide) rfl (fun ls hl => ?_)
  have hl : lv_has ls 4 [(3, .int (nI (4 * k + f))), (0, .ref mo), (1, .int (nI j)), (2, .int (nI f))] := hl
  refine lv_iload_n hx hb d_Mo_field_34 rfl (lv_at hl 0 rfl) ?_
  refine lv_if_ge hx hb d_Mo_field_35 (tgt := 42) (by decide) (fun _ => ?_) (fun h => absurd (nI_pos' (by omega)) h)
  refine lv_aload_n hx hb d_Mo_field_42 rfl (lv_at hl 1 rfl) ?_
  refine va_get (D := D) (ci := 5) (v := .ref m5) (C := R_Mo) (T := F_Mo) (N := 12) hx hb hts i_Mo hown hK hP 0 rfl rfl 8 (by decide) (hts _ k_f_Mo_22) (fun _ h9 => h9) rfl d_Mo_field_43 ?_
  refine lv_iload_n hx hb d_Mo_field_46 rfl (lv_at hl 0 rfl) ?_
  refine fy_iald (t0 := 0) (v := fm_o (rf n f)) hx hb hK hP 5 rfl rfl (by omega) (by omega) ((hM.1 k n hk).2.2.2.2 f (by omega)) d_Mo_field_47 ?_
  exact fy_reti hx hb hr hlocks hAe (⟨fm_o (rf n f), nu, va, ag, fi, re, mk, mr, mw, (fun _ => rfl), rfl, hM, rfl⟩) (List.Perm.refl _) hP hS d_Mo_field_48
set_option maxRecDepth 20000 in
set_option maxHeartbeats 4000000 in
theorem c_Mo_figure_0 (l : Launch) (s0 : State) (D : va_G) (cI cZ cJ cW : ClassId) (hG : fy_G s0 D cI cZ cJ cW) (mo m1 m2 m3 m4 m5 m6 m7 m8 : Nat) (cd : Int32) (i : Nat) (N : Nat) (C : Nat) (L : List Nat) (val : Nat → Int32) (age : Nat → Nat) (nf : Nat → Nat) (rf : Nat → Nat → Option Nat) (reg : Nat → Option Nat) (wk : Nat → Option Nat) (nu va ag fi re mk mr mw : Nat → Int32) (hI : fm_In i N C L age nf rf reg wk) (hM : fm_Mo L val age nf rf reg wk nu va ag fi re mr mw) (a1 : Int32) (ans : Int32) (q1 : ¬ fy_ok 4 a1) : fy_Met l s0 D vwCl y_Mo_figure w_Mo_figure (fy_rm 2) 0 0 [.ref mo, .int a1] [(mo, .inr (5, [.int cd, .int (nI N), .int (nI C), .int (nI L.length), .ref m1, .ref m2, .ref m3, .ref m4, .ref m5, .ref m6, .ref m7, .ref m8])), (m1, .inl (cI, 80, .inl nu)), (m2, .inl (cI, 80, .inl va)), (m3, .inl (cI, 80, .inl ag)), (m4, .inl (cI, 80, .inl fi)), (m5, .inl (cI, 320, .inl re)), (m6, .inl (cZ, 80, .inl mk)), (m7, .inl (cI, 8, .inl mr)), (m8, .inl (cI, 4, .inl mw))] (fun r w1 => mo_post (fun b => some (.int b)) mo m1 m2 m3 m4 m5 m6 m7 m8 cI cZ 1 ans N C L val age nf rf reg wk r w1) := by
  refine fy_st (bytes := b_Mo_figure) (maxL := 2) (ret := some .int) hG (by decide) rfl (Nat.le_of_ble_eq_true rfl) ?_
  intro p e s m below meth c A ls hx hb hr hlocks hml hown hts hK hLa hAe hAB hA hl hP hD hS
  have hl : lv_has ls 2 [(0, .ref mo), (1, .int a1)] := hl
  refine lv_aload_n hx hb d_Mo_figure_0 rfl (lv_at hl 0 rfl) ?_
  refine lv_iload_n hx hb d_Mo_figure_1 rfl (lv_at hl 1 rfl) ?_
  refine lv_if_lt hx hb d_Mo_figure_2 (tgt := 10) (by decide) (fun hc => ?_) (fun hc => ?_)
  · refine lv_iconst (v := nI 1) hx hb d_Mo_figure_10 (by decide) ?_
    refine lv_goto hx hb d_Mo_figure_11 (tgt := 15) (by decide) ?_
    refine va_put (D := D) (ci := 5) (v := .int (nI 1)) (ty := .int) (C := R_Mo) (T := F_Mo) (N := 12) hx hb hts i_Mo t_Mo tk_Mo n_Mo hown hK hP hD hS 0 rfl rfl 0 (by decide) (hts _ k_f_Mo_35) (fun _ h9 => h9) rfl (by decide +kernel) rfl rfl (Nat.le_of_ble_eq_true rfl) d_Mo_figure_15 (fun H locs hP hD hS => ?_)
    have hP : va_P D vwCl [(mo, .inr (5, [.int (nI 1), .int (nI N), .int (nI C), .int (nI L.length), .ref m1, .ref m2, .ref m3, .ref m4, .ref m5, .ref m6, .ref m7, .ref m8])), (m1, .inl (cI, 80, .inl nu)), (m2, .inl (cI, 80, .inl va)), (m3, .inl (cI, 80, .inl ag)), (m4, .inl (cI, 80, .inl fi)), (m5, .inl (cI, 320, .inl re)), (m6, .inl (cZ, 80, .inl mk)), (m7, .inl (cI, 8, .inl mr)), (m8, .inl (cI, 4, .inl mw))] H := hP
    have hD : va_D A [(mo, .inr (5, [.int (nI 1), .int (nI N), .int (nI C), .int (nI L.length), .ref m1, .ref m2, .ref m3, .ref m4, .ref m5, .ref m6, .ref m7, .ref m8])), (m1, .inl (cI, 80, .inl nu)), (m2, .inl (cI, 80, .inl va)), (m3, .inl (cI, 80, .inl ag)), (m4, .inl (cI, 80, .inl fi)), (m5, .inl (cI, 320, .inl re)), (m6, .inl (cZ, 80, .inl mk)), (m7, .inl (cI, 8, .inl mr)), (m8, .inl (cI, 4, .inl mw))] := hD
    refine lv_iload_n hx hb d_Mo_figure_18 rfl (lv_at hl 1 rfl) ?_
    refine lv_tableOut hx hb (tgt := 68) d_Mo_figure_19 (fy_out4 q1) (by decide) ?_
    refine lv_iconst (v := nI 0) hx hb d_Mo_figure_68 (by decide) ?_
    exact fy_reti hx hb hr hlocks hAe (⟨nI 0, nu, va, ag, fi, re, mk, mr, mw, (fun h => absurd h (by decide)), rfl, hM, rfl⟩) (List.Perm.refl _) hP hS d_Mo_figure_69
  · refine lv_iload_n hx hb d_Mo_figure_5 rfl (lv_at hl 1 rfl) ?_
    refine lv_iconst (v := nI 3) hx hb d_Mo_figure_6 (by decide) ?_
    refine lv_icmp_le hx hb d_Mo_figure_7 (tgt := 14) (by decide) (fun h => absurd h (fun h => q1 ⟨Int32.not_lt.mp hc, fy_lt4 h⟩)) (fun _ => ?_)
    refine lv_iconst (v := nI 1) hx hb d_Mo_figure_10 (by decide) ?_
    refine lv_goto hx hb d_Mo_figure_11 (tgt := 15) (by decide) ?_
    refine va_put (D := D) (ci := 5) (v := .int (nI 1)) (ty := .int) (C := R_Mo) (T := F_Mo) (N := 12) hx hb hts i_Mo t_Mo tk_Mo n_Mo hown hK hP hD hS 0 rfl rfl 0 (by decide) (hts _ k_f_Mo_35) (fun _ h9 => h9) rfl (by decide +kernel) rfl rfl (Nat.le_of_ble_eq_true rfl) d_Mo_figure_15 (fun H locs hP hD hS => ?_)
    have hP : va_P D vwCl [(mo, .inr (5, [.int (nI 1), .int (nI N), .int (nI C), .int (nI L.length), .ref m1, .ref m2, .ref m3, .ref m4, .ref m5, .ref m6, .ref m7, .ref m8])), (m1, .inl (cI, 80, .inl nu)), (m2, .inl (cI, 80, .inl va)), (m3, .inl (cI, 80, .inl ag)), (m4, .inl (cI, 80, .inl fi)), (m5, .inl (cI, 320, .inl re)), (m6, .inl (cZ, 80, .inl mk)), (m7, .inl (cI, 8, .inl mr)), (m8, .inl (cI, 4, .inl mw))] H := hP
    have hD : va_D A [(mo, .inr (5, [.int (nI 1), .int (nI N), .int (nI C), .int (nI L.length), .ref m1, .ref m2, .ref m3, .ref m4, .ref m5, .ref m6, .ref m7, .ref m8])), (m1, .inl (cI, 80, .inl nu)), (m2, .inl (cI, 80, .inl va)), (m3, .inl (cI, 80, .inl ag)), (m4, .inl (cI, 80, .inl fi)), (m5, .inl (cI, 320, .inl re)), (m6, .inl (cZ, 80, .inl mk)), (m7, .inl (cI, 8, .inl mr)), (m8, .inl (cI, 4, .inl mw))] := hD
    refine lv_iload_n hx hb d_Mo_figure_18 rfl (lv_at hl 1 rfl) ?_
    refine lv_tableOut hx hb (tgt := 68) d_Mo_figure_19 (fy_out4 q1) (by decide) ?_
    refine lv_iconst (v := nI 0) hx hb d_Mo_figure_68 (by decide) ?_
    exact fy_reti hx hb hr hlocks hAe (⟨nI 0, nu, va, ag, fi, re, mk, mr, mw, (fun h => absurd h (by decide)), rfl, hM, rfl⟩) (List.Perm.refl _) hP hS d_Mo_figure_69
set_option maxRecDepth 20000 in
set_option maxHeartbeats 4000000 in
theorem c_Mo_figure_1 (l : Launch) (s0 : State) (D : va_G) (cI cZ cJ cW : ClassId) (hG : fy_G s0 D cI cZ cJ cW) (mo m1 m2 m3 m4 m5 m6 m7 m8 : Nat) (cd : Int32) (i : Nat) (N : Nat) (C : Nat) (L : List Nat) (val : Nat → Int32) (age : Nat → Nat) (nf : Nat → Nat) (rf : Nat → Nat → Option Nat) (reg : Nat → Option Nat) (wk : Nat → Option Nat) (nu va ag fi re mk mr mw : Nat → Int32) (hI : fm_In i N C L age nf rf reg wk) (hM : fm_Mo L val age nf rf reg wk nu va ag fi re mr mw) : fy_Met l s0 D vwCl y_Mo_figure w_Mo_figure (fy_rm 2) 0 0 [.ref mo, .int (nI 0)] [(mo, .inr (5, [.int cd, .int (nI N), .int (nI C), .int (nI L.length), .ref m1, .ref m2, .ref m3, .ref m4, .ref m5, .ref m6, .ref m7, .ref m8])), (m1, .inl (cI, 80, .inl nu)), (m2, .inl (cI, 80, .inl va)), (m3, .inl (cI, 80, .inl ag)), (m4, .inl (cI, 80, .inl fi)), (m5, .inl (cI, 320, .inl re)), (m6, .inl (cZ, 80, .inl mk)), (m7, .inl (cI, 8, .inl mr)), (m8, .inl (cI, 4, .inl mw))] (fun r w1 => mo_post (fun b => some (.int b)) mo m1 m2 m3 m4 m5 m6 m7 m8 cI cZ 0 (nI (fm_w nf L)) N C L val age nf rf reg wk r w1) := by
  refine fy_st (bytes := b_Mo_figure) (maxL := 2) (ret := some .int) hG (by decide) rfl (Nat.le_of_ble_eq_true rfl) ?_
  intro p e s m below meth c A ls hx hb hr hlocks hml hown hts hK hLa hAe hAB hA hl hP hD hS
  have hl : lv_has ls 2 [(0, .ref mo), (1, .int (nI 0))] := hl
  refine lv_aload_n hx hb d_Mo_figure_0 rfl (lv_at hl 0 rfl) ?_
  refine lv_iload_n hx hb d_Mo_figure_1 rfl (lv_at hl 1 rfl) ?_
  refine lv_if_lt hx hb d_Mo_figure_2 (tgt := 10) (by decide) (fun h => absurd h (by decide)) (fun _ => ?_)
  refine lv_iload_n hx hb d_Mo_figure_5 rfl (lv_at hl 1 rfl) ?_
  refine lv_iconst (v := nI 3) hx hb d_Mo_figure_6 (by decide) ?_
  refine lv_icmp_le hx hb d_Mo_figure_7 (tgt := 14) (by decide) (fun _ => ?_) (fun h => absurd (by decide) h)
  refine lv_iconst (v := nI 0) hx hb d_Mo_figure_14 (by decide) ?_
  refine va_put (D := D) (ci := 5) (v := .int (nI 0)) (ty := .int) (C := R_Mo) (T := F_Mo) (N := 12) hx hb hts i_Mo t_Mo tk_Mo n_Mo hown hK hP hD hS 0 rfl rfl 0 (by decide) (hts _ k_f_Mo_35) (fun _ h9 => h9) rfl (by decide +kernel) rfl rfl (Nat.le_of_ble_eq_true rfl) d_Mo_figure_15 (fun H locs hP hD hS => ?_)
  have hP : va_P D vwCl [(mo, .inr (5, [.int (nI 0), .int (nI N), .int (nI C), .int (nI L.length), .ref m1, .ref m2, .ref m3, .ref m4, .ref m5, .ref m6, .ref m7, .ref m8])), (m1, .inl (cI, 80, .inl nu)), (m2, .inl (cI, 80, .inl va)), (m3, .inl (cI, 80, .inl ag)), (m4, .inl (cI, 80, .inl fi)), (m5, .inl (cI, 320, .inl re)), (m6, .inl (cZ, 80, .inl mk)), (m7, .inl (cI, 8, .inl mr)), (m8, .inl (cI, 4, .inl mw))] H := hP
  have hD : va_D A [(mo, .inr (5, [.int (nI 0), .int (nI N), .int (nI C), .int (nI L.length), .ref m1, .ref m2, .ref m3, .ref m4, .ref m5, .ref m6, .ref m7, .ref m8])), (m1, .inl (cI, 80, .inl nu)), (m2, .inl (cI, 80, .inl va)), (m3, .inl (cI, 80, .inl ag)), (m4, .inl (cI, 80, .inl fi)), (m5, .inl (cI, 320, .inl re)), (m6, .inl (cZ, 80, .inl mk)), (m7, .inl (cI, 8, .inl mr)), (m8, .inl (cI, 4, .inl mw))] := hD
  refine lv_iload_n hx hb d_Mo_figure_18 rfl (lv_at hl 1 rfl) ?_
  refine lv_tableIn hx hb (tgt := 48) d_Mo_figure_19 (by decide) (by decide) rfl (by decide) ?_
  refine lv_aload_n hx hb d_Mo_figure_48 rfl (lv_at hl 0 rfl) ?_
  refine fy_callV (As := []) (rest := []) ⟨hx, hb, hml, hown, hts⟩ (c_Mo_words l s0 D cI cZ cJ cW hG mo m1 m2 m3 m4 m5 m6 m7 m8 (nI 0) N C L nf fi (fun k n hk => (hM.1 k n hk).2.2.2.1) hI.len) (cwV 0 hts g_Mo_46 rfl rfl rfl (by decide +kernel) ⟨Nat.le_of_ble_eq_true rfl, Nat.le_of_ble_eq_true rfl⟩) hK hLa hAB hA hP hD hS [0, 4] rfl rfl (ci := 5) rfl rfl (q0 := 0) rfl rfl hl.1 rfl (Nat.le_of_ble_eq_true rfl) d_Mo_figure_49 ⟨Nat.zero_le _, Nat.zero_le _⟩ (fun r w1 H locs hp hP hD hS => ?_)
  obtain ⟨rfl, rfl⟩ := hp
  have hP : va_P D vwCl [(mo, .inr (5, [.int (nI 0), .int (nI N), .int (nI C), .int (nI L.length), .ref m1, .ref m2, .ref m3, .ref m4, .ref m5, .ref m6, .ref m7, .ref m8])), (m1, .inl (cI, 80, .inl nu)), (m2, .inl (cI, 80, .inl va)), (m3, .inl (cI, 80, .inl ag)), (m4, .inl (cI, 80, .inl fi)), (m5, .inl (cI, 320, .inl re)), (m6, .inl (cZ, 80, .inl mk)), (m7, .inl (cI, 8, .inl mr)), (m8, .inl (cI, 4, .inl mw))] H := hP
  have hD : va_D A [(mo, .inr (5, [.int (nI 0), .int (nI N), .int (nI C), .int (nI L.length), .ref m1, .ref m2, .ref m3, .ref m4, .ref m5, .ref m6, .ref m7, .ref m8])), (m1, .inl (cI, 80, .inl nu)), (m2, .inl (cI, 80, .inl va)), (m3, .inl (cI, 80, .inl ag)), (m4, .inl (cI, 80, .inl fi)), (m5, .inl (cI, 320, .inl re)), (m6, .inl (cZ, 80, .inl mk)), (m7, .inl (cI, 8, .inl mr)), (m8, .inl (cI, 4, .inl mw))] := hD
  exact fy_reti hx hb hr hlocks hAe (⟨nI (fm_w nf L), nu, va, ag, fi, re, mk, mr, mw, (fun _ => rfl), rfl, hM, rfl⟩) (List.Perm.refl _) hP hS d_Mo_figure_52
set_option maxRecDepth 20000 in
set_option maxHeartbeats 4000000 in
theorem c_Mo_figure_2 (l : Launch) (s0 : State) (D : va_G) (cI cZ cJ cW : ClassId) (hG : fy_G s0 D cI cZ cJ cW) (mo m1 m2 m3 m4 m5 m6 m7 m8 : Nat) (cd : Int32) (i : Nat) (N : Nat) (C : Nat) (L : List Nat) (val : Nat → Int32) (age : Nat → Nat) (nf : Nat → Nat) (rf : Nat → Nat → Option Nat) (reg : Nat → Option Nat) (wk : Nat → Option Nat) (nu va ag fi re mk mr mw : Nat → Int32) (hI : fm_In i N C L age nf rf reg wk) (hM : fm_Mo L val age nf rf reg wk nu va ag fi re mr mw) : fy_Met l s0 D vwCl y_Mo_figure w_Mo_figure (fy_rm 2) 0 0 [.ref mo, .int (nI 1)] [(mo, .inr (5, [.int cd, .int (nI N), .int (nI C), .int (nI L.length), .ref m1, .ref m2, .ref m3, .ref m4, .ref m5, .ref m6, .ref m7, .ref m8])), (m1, .inl (cI, 80, .inl nu)), (m2, .inl (cI, 80, .inl va)), (m3, .inl (cI, 80, .inl ag)), (m4, .inl (cI, 80, .inl fi)), (m5, .inl (cI, 320, .inl re)), (m6, .inl (cZ, 80, .inl mk)), (m7, .inl (cI, 8, .inl mr)), (m8, .inl (cI, 4, .inl mw))] (fun r w1 => mo_post (fun b => some (.int b)) mo m1 m2 m3 m4 m5 m6 m7 m8 cI cZ 0 (nI L.length) N C L val age nf rf reg wk r w1) := by
  refine fy_st (bytes := b_Mo_figure) (maxL := 2) (ret := some .int) hG (by decide) rfl (Nat.le_of_ble_eq_true rfl) ?_
  intro p e s m below meth c A ls hx hb hr hlocks hml hown hts hK hLa hAe hAB hA hl hP hD hS
  have hl : lv_has ls 2 [(0, .ref mo), (1, .int (nI 1))] := hl
  refine lv_aload_n hx hb d_Mo_figure_0 rfl (lv_at hl 0 rfl) ?_
  refine lv_iload_n hx hb d_Mo_figure_1 rfl (lv_at hl 1 rfl) ?_
  refine lv_if_lt hx hb d_Mo_figure_2 (tgt := 10) (by decide) (fun h => absurd h (by decide)) (fun _ => ?_)
  refine lv_iload_n hx hb d_Mo_figure_5 rfl (lv_at hl 1 rfl) ?_
  refine lv_iconst (v := nI 3) hx hb d_Mo_figure_6 (by decide) ?_
  refine lv_icmp_le hx hb d_Mo_figure_7 (tgt := 14) (by decide) (fun _ => ?_) (fun h => absurd (by decide) h)
  refine lv_iconst (v := nI 0) hx hb d_Mo_figure_14 (by decide) ?_
  refine va_put (D := D) (ci := 5) (v := .int (nI 0)) (ty := .int) (C := R_Mo) (T := F_Mo) (N := 12) hx hb hts i_Mo t_Mo tk_Mo n_Mo hown hK hP hD hS 0 rfl rfl 0 (by decide) (hts _ k_f_Mo_35) (fun _ h9 => h9) rfl (by decide +kernel) rfl rfl (Nat.le_of_ble_eq_true rfl) d_Mo_figure_15 (fun H locs hP hD hS => ?_)
  have hP : va_P D vwCl [(mo, .inr (5, [.int (nI 0), .int (nI N), .int (nI C), .int (nI L.length), .ref m1, .ref m2, .ref m3, .ref m4, .ref m5, .ref m6, .ref m7, .ref m8])), (m1, .inl (cI, 80, .inl nu)), (m2, .inl (cI, 80, .inl va)), (m3, .inl (cI, 80, .inl ag)), (m4, .inl (cI, 80, .inl fi)), (m5, .inl (cI, 320, .inl re)), (m6, .inl (cZ, 80, .inl mk)), (m7, .inl (cI, 8, .inl mr)), (m8, .inl (cI, 4, .inl mw))] H := hP
  have hD : va_D A [(mo, .inr (5, [.int (nI 0), .int (nI N), .int (nI C), .int (nI L.length), .ref m1, .ref m2, .ref m3, .ref m4, .ref m5, .ref m6, .ref m7, .ref m8])), (m1, .inl (cI, 80, .inl nu)), (m2, .inl (cI, 80, .inl va)), (m3, .inl (cI, 80, .inl ag)), (m4, .inl (cI, 80, .inl fi)), (m5, .inl (cI, 320, .inl re)), (m6, .inl (cZ, 80, .inl mk)), (m7, .inl (cI, 8, .inl mr)), (m8, .inl (cI, 4, .inl mw))] := hD
  refine lv_iload_n hx hb d_Mo_figure_18 rfl (lv_at hl 1 rfl) ?_
  refine lv_tableIn hx hb (tgt := 53) d_Mo_figure_19 (by decide) (by decide) rfl (by decide) ?_
  refine lv_aload_n hx hb d_Mo_figure_53 rfl (lv_at hl 0 rfl) ?_
  refine va_get (D := D) (ci := 5) (v := .int (nI L.length)) (C := R_Mo) (T := F_Mo) (N := 12) hx hb hts i_Mo hown hK hP 0 rfl rfl 3 (by decide) (hts _ k_f_Mo_39) (fun _ h9 => h9) rfl d_Mo_figure_54 ?_
  exact fy_reti hx hb hr hlocks hAe (⟨nI L.length, nu, va, ag, fi, re, mk, mr, mw, (fun _ => rfl), rfl, hM, rfl⟩) (List.Perm.refl _) hP hS d_Mo_figure_57
set_option maxRecDepth 20000 in
set_option maxHeartbeats 4000000 in
theorem c_Mo_figure_3 (l : Launch) (s0 : State) (D : va_G) (cI cZ cJ cW : ClassId) (hG : fy_G s0 D cI cZ cJ cW) (mo m1 m2 m3 m4 m5 m6 m7 m8 : Nat) (cd : Int32) (i : Nat) (N : Nat) (C : Nat) (L : List Nat) (val : Nat → Int32) (age : Nat → Nat) (nf : Nat → Nat) (rf : Nat → Nat → Option Nat) (reg : Nat → Option Nat) (wk : Nat → Option Nat) (nu va ag fi re mk mr mw : Nat → Int32) (hI : fm_In i N C L age nf rf reg wk) (hM : fm_Mo L val age nf rf reg wk nu va ag fi re mr mw) : fy_Met l s0 D vwCl y_Mo_figure w_Mo_figure (fy_rm 2) 0 0 [.ref mo, .int (nI 2)] [(mo, .inr (5, [.int cd, .int (nI N), .int (nI C), .int (nI L.length), .ref m1, .ref m2, .ref m3, .ref m4, .ref m5, .ref m6, .ref m7, .ref m8])), (m1, .inl (cI, 80, .inl nu)), (m2, .inl (cI, 80, .inl va)), (m3, .inl (cI, 80, .inl ag)), (m4, .inl (cI, 80, .inl fi)), (m5, .inl (cI, 320, .inl re)), (m6, .inl (cZ, 80, .inl mk)), (m7, .inl (cI, 8, .inl mr)), (m8, .inl (cI, 4, .inl mw))] (fun r w1 => mo_post (fun b => some (.int b)) mo m1 m2 m3 m4 m5 m6 m7 m8 cI cZ 0 (nI C) N C L val age nf rf reg wk r w1) := by
  refine fy_st (bytes := b_Mo_figure) (maxL := 2) (ret := some .int) hG (by decide) rfl (Nat.le_of_ble_eq_true rfl) ?_
  intro p e s m below meth c A ls hx hb hr hlocks hml hown hts hK hLa hAe hAB hA hl hP hD hS
  have hl : lv_has ls 2 [(0, .ref mo), (1, .int (nI 2))] := hl
  refine lv_aload_n hx hb d_Mo_figure_0 rfl (lv_at hl 0 rfl) ?_
  refine lv_iload_n hx hb d_Mo_figure_1 rfl (lv_at hl 1 rfl) ?_
  refine lv_if_lt hx hb d_Mo_figure_2 (tgt := 10) (by decide) (fun h => absurd h (by decide)) (fun _ => ?_)
  refine lv_iload_n hx hb d_Mo_figure_5 rfl (lv_at hl 1 rfl) ?_
  refine lv_iconst (v := nI 3) hx hb d_Mo_figure_6 (by decide) ?_
  refine lv_icmp_le hx hb d_Mo_figure_7 (tgt := 14) (by decide) (fun _ => ?_) (fun h => absurd (by decide) h)
  refine lv_iconst (v := nI 0) hx hb d_Mo_figure_14 (by decide) ?_
  refine va_put (D := D) (ci := 5) (v := .int (nI 0)) (ty := .int) (C := R_Mo) (T := F_Mo) (N := 12) hx hb hts i_Mo t_Mo tk_Mo n_Mo hown hK hP hD hS 0 rfl rfl 0 (by decide) (hts _ k_f_Mo_35) (fun _ h9 => h9) rfl (by decide +kernel) rfl rfl (Nat.le_of_ble_eq_true rfl) d_Mo_figure_15 (fun H locs hP hD hS => ?_)
  have hP : va_P D vwCl [(mo, .inr (5, [.int (nI 0), .int (nI N), .int (nI C), .int (nI L.length), .ref m1, .ref m2, .ref m3, .ref m4, .ref m5, .ref m6, .ref m7, .ref m8])), (m1, .inl (cI, 80, .inl nu)), (m2, .inl (cI, 80, .inl va)), (m3, .inl (cI, 80, .inl ag)), (m4, .inl (cI, 80, .inl fi)), (m5, .inl (cI, 320, .inl re)), (m6, .inl (cZ, 80, .inl mk)), (m7, .inl (cI, 8, .inl mr)), (m8, .inl (cI, 4, .inl mw))] H := hP
  have hD : va_D A [(mo, .inr (5, [.int (nI 0), .int (nI N), .int (nI C), .int (nI L.length), .ref m1, .ref m2, .ref m3, .ref m4, .ref m5, .ref m6, .ref m7, .ref m8])), (m1, .inl (cI, 80, .inl nu)), (m2, .inl (cI, 80, .inl va)), (m3, .inl (cI, 80, .inl ag)), (m4, .inl (cI, 80, .inl fi)), (m5, .inl (cI, 320, .inl re)), (m6, .inl (cZ, 80, .inl mk)), (m7, .inl (cI, 8, .inl mr)), (m8, .inl (cI, 4, .inl mw))] := hD
  refine lv_iload_n hx hb d_Mo_figure_18 rfl (lv_at hl 1 rfl) ?_
  refine lv_tableIn hx hb (tgt := 58) d_Mo_figure_19 (by decide) (by decide) rfl (by decide) ?_
  refine lv_aload_n hx hb d_Mo_figure_58 rfl (lv_at hl 0 rfl) ?_
  refine va_get (D := D) (ci := 5) (v := .int (nI C)) (C := R_Mo) (T := F_Mo) (N := 12) hx hb hts i_Mo hown hK hP 0 rfl rfl 2 (by decide) (hts _ k_f_Mo_81) (fun _ h9 => h9) rfl d_Mo_figure_59 ?_
  exact fy_reti hx hb hr hlocks hAe (⟨nI C, nu, va, ag, fi, re, mk, mr, mw, (fun _ => rfl), rfl, hM, rfl⟩) (List.Perm.refl _) hP hS d_Mo_figure_62
set_option maxRecDepth 20000 in
set_option maxHeartbeats 4000000 in
theorem c_Mo_figure_4 (l : Launch) (s0 : State) (D : va_G) (cI cZ cJ cW : ClassId) (hG : fy_G s0 D cI cZ cJ cW) (mo m1 m2 m3 m4 m5 m6 m7 m8 : Nat) (cd : Int32) (i : Nat) (N : Nat) (C : Nat) (L : List Nat) (val : Nat → Int32) (age : Nat → Nat) (nf : Nat → Nat) (rf : Nat → Nat → Option Nat) (reg : Nat → Option Nat) (wk : Nat → Option Nat) (nu va ag fi re mk mr mw : Nat → Int32) (hI : fm_In i N C L age nf rf reg wk) (hM : fm_Mo L val age nf rf reg wk nu va ag fi re mr mw) : fy_Met l s0 D vwCl y_Mo_figure w_Mo_figure (fy_rm 2) 0 0 [.ref mo, .int (nI 3)] [(mo, .inr (5, [.int cd, .int (nI N), .int (nI C), .int (nI L.length), .ref m1, .ref m2, .ref m3, .ref m4, .ref m5, .ref m6, .ref m7, .ref m8])), (m1, .inl (cI, 80, .inl nu)), (m2, .inl (cI, 80, .inl va)), (m3, .inl (cI, 80, .inl ag)), (m4, .inl (cI, 80, .inl fi)), (m5, .inl (cI, 320, .inl re)), (m6, .inl (cZ, 80, .inl mk)), (m7, .inl (cI, 8, .inl mr)), (m8, .inl (cI, 4, .inl mw))] (fun r w1 => mo_post (fun b => some (.int b)) mo m1 m2 m3 m4 m5 m6 m7 m8 cI cZ 0 (nI N) N C L val age nf rf reg wk r w1) := by
  refine fy_st (bytes := b_Mo_figure) (maxL := 2) (ret := some .int) hG (by decide) rfl (Nat.le_of_ble_eq_true rfl) ?_
  intro p e s m below meth c A ls hx hb hr hlocks hml hown hts hK hLa hAe hAB hA hl hP hD hS
  have hl : lv_has ls 2 [(0, .ref mo), (1, .int (nI 3))] := hl
  refine lv_aload_n hx hb d_Mo_figure_0 rfl (lv_at hl 0 rfl) ?_
  refine lv_iload_n hx hb d_Mo_figure_1 rfl (lv_at hl 1 rfl) ?_
  refine lv_if_lt hx hb d_Mo_figure_2 (tgt := 10) (by decide) (fun h => absurd h (by decide)) (fun _ => ?_)
  refine lv_iload_n hx hb d_Mo_figure_5 rfl (lv_at hl 1 rfl) ?_
  refine lv_iconst (v := nI 3) hx hb d_Mo_figure_6 (by decide) ?_
  refine lv_icmp_le hx hb d_Mo_figure_7 (tgt := 14) (by decide) (fun _ => ?_) (fun h => absurd (by decide) h)
  refine lv_iconst (v := nI 0) hx hb d_Mo_figure_14 (by decide) ?_
  refine va_put (D := D) (ci := 5) (v := .int (nI 0)) (ty := .int) (C := R_Mo) (T := F_Mo) (N := 12) hx hb hts i_Mo t_Mo tk_Mo n_Mo hown hK hP hD hS 0 rfl rfl 0 (by decide) (hts _ k_f_Mo_35) (fun _ h9 => h9) rfl (by decide +kernel) rfl rfl (Nat.le_of_ble_eq_true rfl) d_Mo_figure_15 (fun H locs hP hD hS => ?_)
  have hP : va_P D vwCl [(mo, .inr (5, [.int (nI 0), .int (nI N), .int (nI C), .int (nI L.length), .ref m1, .ref m2, .ref m3, .ref m4, .ref m5, .ref m6, .ref m7, .ref m8])), (m1, .inl (cI, 80, .inl nu)), (m2, .inl (cI, 80, .inl va)), (m3, .inl (cI, 80, .inl ag)), (m4, .inl (cI, 80, .inl fi)), (m5, .inl (cI, 320, .inl re)), (m6, .inl (cZ, 80, .inl mk)), (m7, .inl (cI, 8, .inl mr)), (m8, .inl (cI, 4, .inl mw))] H := hP
  have hD : va_D A [(mo, .inr (5, [.int (nI 0), .int (nI N), .int (nI C), .int (nI L.length), .ref m1, .ref m2, .ref m3, .ref m4, .ref m5, .ref m6, .ref m7, .ref m8])), (m1, .inl (cI, 80, .inl nu)), (m2, .inl (cI, 80, .inl va)), (m3, .inl (cI, 80, .inl ag)), (m4, .inl (cI, 80, .inl fi)), (m5, .inl (cI, 320, .inl re)), (m6, .inl (cZ, 80, .inl mk)), (m7, .inl (cI, 8, .inl mr)), (m8, .inl (cI, 4, .inl mw))] := hD
  refine lv_iload_n hx hb d_Mo_figure_18 rfl (lv_at hl 1 rfl) ?_
  refine lv_tableIn hx hb (tgt := 63) d_Mo_figure_19 (by decide) (by decide) rfl (by decide) ?_
  refine lv_aload_n hx hb d_Mo_figure_63 rfl (lv_at hl 0 rfl) ?_
  refine va_get (D := D) (ci := 5) (v := .int (nI N)) (C := R_Mo) (T := F_Mo) (N := 12) hx hb hts i_Mo hown hK hP 0 rfl rfl 1 (by decide) (hts _ k_f_Mo_50) (fun _ h9 => h9) rfl d_Mo_figure_64 ?_
  exact fy_reti hx hb hr hlocks hAe (⟨nI N, nu, va, ag, fi, re, mk, mr, mw, (fun _ => rfl), rfl, hM, rfl⟩) (List.Perm.refl _) hP hS d_Mo_figure_67
set_option maxRecDepth 20000 in
set_option maxHeartbeats 4000000 in
theorem c_Mo_reach_0 (l : Launch) (s0 : State) (D : va_G) (cI cZ cJ cW : ClassId) (hG : fy_G s0 D cI cZ cJ cW) (mo m1 m2 m3 m4 m5 m6 m7 m8 : Nat) (cd : Int32) (i : Nat) (N : Nat) (C : Nat) (L : List Nat) (val : Nat → Int32) (age : Nat → Nat) (nf : Nat → Nat) (rf : Nat → Nat → Option Nat) (reg : Nat → Option Nat) (wk : Nat → Option Nat) (nu va ag fi re mk mr mw : Nat → Int32) (hI : fm_In i N C L age nf rf reg wk) (hM : fm_Mo L val age nf rf reg wk nu va ag fi re mr mw) (a1 : Int32) (ans : Int32) (q1 : ¬ fy_ok 8 a1) : fy_Met l s0 D vwCl y_Mo_reach w_Mo_reach (fy_rm 2) 0 0 [.ref mo, .int a1] [(mo, .inr (5, [.int cd, .int (nI N), .int (nI C), .int (nI L.length), .ref m1, .ref m2, .ref m3, .ref m4, .ref m5, .ref m6, .ref m7, .ref m8])), (m1, .inl (cI, 80, .inl nu)), (m2, .inl (cI, 80, .inl va)), (m3, .inl (cI, 80, .inl ag)), (m4, .inl (cI, 80, .inl fi)), (m5, .inl (cI, 320, .inl re)), (m6, .inl (cZ, 80, .inl mk)), (m7, .inl (cI, 8, .inl mr)), (m8, .inl (cI, 4, .inl mw))] (fun r w1 => mo_post (fun b => some (.int b)) mo m1 m2 m3 m4 m5 m6 m7 m8 cI cZ 1 ans N C L val age nf rf reg wk r w1) := by
  refine fy_st (bytes := b_Mo_reach) (maxL := 2) (ret := some .int) hG (by decide) rfl (Nat.le_of_ble_eq_true rfl) ?_
  intro p e s m below meth c A ls hx hb hr hlocks hml hown hts hK hLa hAe hAB hA hl hP hD hS
  have hl : lv_has ls 2 [(0, .ref mo), (1, .int a1)] := hl
  refine lv_aload_n hx hb d_Mo_reach_0 rfl (lv_at hl 0 rfl) ?_
  refine lv_iload_n hx hb d_Mo_reach_1 rfl (lv_at hl 1 rfl) ?_
  refine fy_callS (As := [.int a1]) (rest := [.ref mo]) ⟨hx, hb, hml, hown, hts⟩ (c_Mo_isRegister0 l s0 D cI cZ cJ cW hG a1 (q1)) (va_cwS 1 hts g_Mo_42 rfl rfl rfl (by decide +kernel) ⟨Nat.le_of_ble_eq_true rfl, Nat.le_of_ble_eq_true rfl⟩) hLa hAB hA hP hD hS [] rfl rfl rfl hl.1 rfl (Nat.le_of_ble_eq_true rfl) d_Mo_reach_2 ⟨Nat.zero_le _, Nat.zero_le _⟩ (fun r w1 H locs hp hP hD hS => ?_)
  obtain ⟨rfl, rfl⟩ := hp
  have hP : va_P D vwCl [(mo, .inr (5, [.int cd, .int (nI N), .int (nI C), .int (nI L.length), .ref m1, .ref m2, .ref m3, .ref m4, .ref m5, .ref m6, .ref m7, .ref m8])), (m1, .inl (cI, 80, .inl nu)), (m2, .inl (cI, 80, .inl va)), (m3, .inl (cI, 80, .inl ag)), (m4, .inl (cI, 80, .inl fi)), (m5, .inl (cI, 320, .inl re)), (m6, .inl (cZ, 80, .inl mk)), (m7, .inl (cI, 8, .inl mr)), (m8, .inl (cI, 4, .inl mw))] H := hP
  have hD : va_D A [(mo, .inr (5, [.int cd, .int (nI N), .int (nI C), .int (nI L.length), .ref m1, .ref m2, .ref m3, .ref m4, .ref m5, .ref m6, .ref m7, .ref m8])), (m1, .inl (cI, 80, .inl nu)), (m2, .inl (cI, 80, .inl va)), (m3, .inl (cI, 80, .inl ag)), (m4, .inl (cI, 80, .inl fi)), (m5, .inl (cI, 320, .inl re)), (m6, .inl (cZ, 80, .inl mk)), (m7, .inl (cI, 8, .inl mr)), (m8, .inl (cI, 4, .inl mw))] := hD
  refine lv_if_eq hx hb d_Mo_reach_5 (tgt := 12) (by decide) (fun _ => ?_) (fun h => absurd (rfl) h)
  refine lv_iconst (v := nI 1) hx hb d_Mo_reach_12 (by decide) ?_
  refine va_put (D := D) (ci := 5) (v := .int (nI 1)) (ty := .int) (C := R_Mo) (T := F_Mo) (N := 12) hx hb hts i_Mo t_Mo tk_Mo n_Mo hown hK hP hD hS 0 rfl rfl 0 (by decide) (hts _ k_f_Mo_35) (fun _ h9 => h9) rfl (by decide +kernel) rfl rfl (Nat.le_of_ble_eq_true rfl) d_Mo_reach_13 (fun H locs hP hD hS => ?_)
  have hP : va_P D vwCl [(mo, .inr (5, [.int (nI 1), .int (nI N), .int (nI C), .int (nI L.length), .ref m1, .ref m2, .ref m3, .ref m4, .ref m5, .ref m6, .ref m7, .ref m8])), (m1, .inl (cI, 80, .inl nu)), (m2, .inl (cI, 80, .inl va)), (m3, .inl (cI, 80, .inl ag)), (m4, .inl (cI, 80, .inl fi)), (m5, .inl (cI, 320, .inl re)), (m6, .inl (cZ, 80, .inl mk)), (m7, .inl (cI, 8, .inl mr)), (m8, .inl (cI, 4, .inl mw))] H := hP
  have hD : va_D A [(mo, .inr (5, [.int (nI 1), .int (nI N), .int (nI C), .int (nI L.length), .ref m1, .ref m2, .ref m3, .ref m4, .ref m5, .ref m6, .ref m7, .ref m8])), (m1, .inl (cI, 80, .inl nu)), (m2, .inl (cI, 80, .inl va)), (m3, .inl (cI, 80, .inl ag)), (m4, .inl (cI, 80, .inl fi)), (m5, .inl (cI, 320, .inl re)), (m6, .inl (cZ, 80, .inl mk)), (m7, .inl (cI, 8, .inl mr)), (m8, .inl (cI, 4, .inl mw))] := hD
  refine lv_aload_n hx hb d_Mo_reach_16 rfl (lv_at hl 0 rfl) ?_
  refine va_get (D := D) (ci := 5) (v := .int (nI 1)) (C := R_Mo) (T := F_Mo) (N := 12) hx hb hts i_Mo hown hK hP 0 rfl rfl 0 (by decide) (hts _ k_f_Mo_35) (fun _ h9 => h9) rfl d_Mo_reach_17 ?_
  refine lv_if_le hx hb d_Mo_reach_20 (tgt := 25) (by decide) (fun h => absurd h (by decide)) (fun _ => ?_)
  refine lv_iconst (v := nI 0) hx hb d_Mo_reach_23 (by decide) ?_
  exact fy_reti hx hb hr hlocks hAe (⟨nI 0, nu, va, ag, fi, re, mk, mr, mw, (fun h => absurd h (by decide)), rfl, hM, rfl⟩) (List.Perm.refl _) hP hS d_Mo_reach_24
set_option maxRecDepth 20000 in
set_option maxHeartbeats 4000000 in
theorem c_Mo_reach_1 (l : Launch) (s0 : State) (D : va_G) (cI cZ cJ cW : ClassId) (hG : fy_G s0 D cI cZ cJ cW) (mo m1 m2 m3 m4 m5 m6 m7 m8 : Nat) (cd : Int32) (i : Nat) (N : Nat) (C : Nat) (L : List Nat) (val : Nat → Int32) (age : Nat → Nat) (nf : Nat → Nat) (rf : Nat → Nat → Option Nat) (reg : Nat → Option Nat) (wk : Nat → Option Nat) (nu va ag fi re mk mr mw : Nat → Int32) (hI : fm_In i N C L age nf rf reg wk) (hM : fm_Mo L val age nf rf reg wk nu va ag fi re mr mw) (j : Nat) (q1 : j < 8) : fy_Met l s0 D vwCl y_Mo_reach w_Mo_reach (fy_rm 2) 0 0 [.ref mo, .int (nI j)] [(mo, .inr (5, [.int cd, .int (nI N), .int (nI C), .int (nI L.length), .ref m1, .ref m2, .ref m3, .ref m4, .ref m5, .ref m6, .ref m7, .ref m8])), (m1, .inl (cI, 80, .inl nu)), (m2, .inl (cI, 80, .inl va)), (m3, .inl (cI, 80, .inl ag)), (m4, .inl (cI, 80, .inl fi)), (m5, .inl (cI, 320, .inl re)), (m6, .inl (cZ, 80, .inl mk)), (m7, .inl (cI, 8, .inl mr)), (m8, .inl (cI, 4, .inl mw))] (fun r w1 => mo_post (fun b => some (.int b)) mo m1 m2 m3 m4 m5 m6 m7 m8 cI cZ 0 (nI (fm_keep L (fm_Cl nf rf (fun m => reg j = some m))).length) N C L val age nf rf reg wk r w1) := by
  refine fy_st (bytes := b_Mo_reach) (maxL := 2) (ret := some .int) hG (by decide) rfl (Nat.le_of_ble_eq_true rfl) ?_
  intro p e s m below meth c A ls hx hb hr hlocks hml hown hts hK hLa hAe hAB hA hl hP hD hS
  have hl : lv_has ls 2 [(0, .ref mo), (1, .int (nI j))] := hl
  refine lv_aload_n hx hb d_Mo_reach_0 rfl (lv_at hl 0 rfl) ?_
  refine lv_iload_n hx hb d_Mo_reach_1 rfl (lv_at hl 1 rfl) ?_
  refine fy_callS (As := [.int (nI j)]) (rest := [.ref mo]) ⟨hx, hb, hml, hown, hts⟩ (c_Mo_isRegister l s0 D cI cZ cJ cW hG j q1) (va_cwS 1 hts g_Mo_42 rfl rfl rfl (by decide +kernel) ⟨Nat.le_of_ble_eq_true rfl, Nat.le_of_ble_eq_true rfl⟩) hLa hAB hA hP hD hS [] rfl rfl rfl hl.1 rfl (Nat.le_of_ble_eq_true rfl) d_Mo_reach_2 ⟨Nat.zero_le _, Nat.zero_le _⟩ (fun r w1 H locs hp hP hD hS => ?_)
  obtain ⟨rfl, rfl⟩ := hp
  have hP : va_P D vwCl [(mo, .inr (5, [.int cd, .int (nI N), .int (nI C), .int (nI L.length), .ref m1, .ref m2, .ref m3, .ref m4, .ref m5, .ref m6, .ref m7, .ref m8])), (m1, .inl (cI, 80, .inl nu)), (m2, .inl (cI, 80, .inl va)), (m3, .inl (cI, 80, .inl ag)), (m4, .inl (cI, 80, .inl fi)), (m5, .inl (cI, 320, .inl re)), (m6, .inl (cZ, 80, .inl mk)), (m7, .inl (cI, 8, .inl mr)), (m8, .inl (cI, 4, .inl mw))] H := hP
  have hD : va_D A [(mo, .inr (5, [.int cd, .int (nI N), .int (nI C), .int (nI L.length), .ref m1, .ref m2, .ref m3, .ref m4, .ref m5, .ref m6, .ref m7, .ref m8])), (m1, .inl (cI, 80, .inl nu)), (m2, .inl (cI, 80, .inl va)), (m3, .inl (cI, 80, .inl ag)), (m4, .inl (cI, 80, .inl fi)), (m5, .inl (cI, 320, .inl re)), (m6, .inl (cZ, 80, .inl mk)), (m7, .inl (cI, 8, .inl mr)), (m8, .inl (cI, 4, .inl mw))] := hD
  refine lv_if_eq hx hb d_Mo_reach_5 (tgt := 12) (by decide) (fun h => absurd h (by decide)) (fun _ => ?_)
  refine lv_iconst (v := nI 0) hx hb d_Mo_reach_8 (by decide) ?_
  refine lv_goto hx hb d_Mo_reach_9 (tgt := 13) (by decide) ?_
  refine va_put (D := D) (ci := 5) (v := .int (nI 0)) (ty := .int) (C := R_Mo) (T := F_Mo) (N := 12) hx hb hts i_Mo t_Mo tk_Mo n_Mo hown hK hP hD hS 0 rfl rfl 0 (by decide) (hts _ k_f_Mo_35) (fun _ h9 => h9) rfl (by decide +kernel) rfl rfl (Nat.le_of_ble_eq_true rfl) d_Mo_reach_13 (fun H locs hP hD hS => ?_)
  have hP : va_P D vwCl [(mo, .inr (5, [.int (nI 0), .int (nI N), .int (nI C), .int (nI L.length), .ref m1, .ref m2, .ref m3, .ref m4, .ref m5, .ref m6, .ref m7, .ref m8])), (m1, .inl (cI, 80, .inl nu)), (m2, .inl (cI, 80, .inl va)), (m3, .inl (cI, 80, .inl ag)), (m4, .inl (cI, 80, .inl fi)), (m5, .inl (cI, 320, .inl re)), (m6, .inl (cZ, 80, .inl mk)), (m7, .inl (cI, 8, .inl mr)), (m8, .inl (cI, 4, .inl mw))] H := hP
  have hD : va_D A [(mo, .inr (5, [.int (nI 0), .int (nI N), .int (nI C), .int (nI L.length), .ref m1, .ref m2, .ref m3, .ref m4, .ref m5, .ref m6, .ref m7, .ref m8])), (m1, .inl (cI, 80, .inl nu)), (m2, .inl (cI, 80, .inl va)), (m3, .inl (cI, 80, .inl ag)), (m4, .inl (cI, 80, .inl fi)), (m5, .inl (cI, 320, .inl re)), (m6, .inl (cZ, 80, .inl mk)), (m7, .inl (cI, 8, .inl mr)), (m8, .inl (cI, 4, .inl mw))] := hD
  refine lv_aload_n hx hb d_Mo_reach_16 rfl (lv_at hl 0 rfl) ?_
  refine va_get (D := D) (ci := 5) (v := .int (nI 0)) (C := R_Mo) (T := F_Mo) (N := 12) hx hb hts i_Mo hown hK hP 0 rfl rfl 0 (by decide) (hts _ k_f_Mo_35) (fun _ h9 => h9) rfl d_Mo_reach_17 ?_
  refine lv_if_le hx hb d_Mo_reach_20 (tgt := 25) (by decide) (fun _ => ?_) (fun h => absurd (by decide) h)
  refine lv_aload_n hx hb d_Mo_reach_25 rfl (lv_at hl 0 rfl) ?_
  refine fy_callV (As := []) (rest := []) ⟨hx, hb, hml, hown, hts⟩ (c_Mo_forget l s0 D cI cZ cJ cW hG mo m1 m2 m3 m4 m5 m6 m7 m8 (nI 0) N C L mk hI.len) (cwV 0 hts g_Mo_64 rfl rfl rfl (by decide +kernel) ⟨Nat.le_of_ble_eq_true rfl, Nat.le_of_ble_eq_true rfl⟩) hK hLa hAB hA hP hD hS [0, 6] rfl rfl (ci := 5) rfl rfl (q0 := 0) rfl rfl hl.1 rfl (Nat.le_of_ble_eq_true rfl) d_Mo_reach_26 ⟨Nat.zero_le _, Nat.zero_le _⟩ (fun r w1 H locs hp hP hD hS => ?_)
  obtain ⟨rfl, mk1, hmk1, rfl⟩ := hp
  have hP : va_P D vwCl [(mo, .inr (5, [.int (nI 0), .int (nI N), .int (nI C), .int (nI L.length), .ref m1, .ref m2, .ref m3, .ref m4, .ref m5, .ref m6, .ref m7, .ref m8])), (m1, .inl (cI, 80, .inl nu)), (m2, .inl (cI, 80, .inl va)), (m3, .inl (cI, 80, .inl ag)), (m4, .inl (cI, 80, .inl fi)), (m5, .inl (cI, 320, .inl re)), (m6, .inl (cZ, 80, .inl mk1)), (m7, .inl (cI, 8, .inl mr)), (m8, .inl (cI, 4, .inl mw))] H := hP
  have hD : va_D A [(mo, .inr (5, [.int (nI 0), .int (nI N), .int (nI C), .int (nI L.length), .ref m1, .ref m2, .ref m3, .ref m4, .ref m5, .ref m6, .ref m7, .ref m8])), (m1, .inl (cI, 80, .inl nu)), (m2, .inl (cI, 80, .inl va)), (m3, .inl (cI, 80, .inl ag)), (m4, .inl (cI, 80, .inl fi)), (m5, .inl (cI, 320, .inl re)), (m6, .inl (cZ, 80, .inl mk1)), (m7, .inl (cI, 8, .inl mr)), (m8, .inl (cI, 4, .inl mw))] := hD
  refine lv_aload_n hx hb d_Mo_reach_29 rfl (lv_at hl 0 rfl) ?_
  refine lv_aload_n hx hb d_Mo_reach_30 rfl (lv_at hl 0 rfl) ?_
  refine va_get (D := D) (ci := 5) (v := .ref m7) (C := R_Mo) (T := F_Mo) (N := 12) hx hb hts i_Mo hown hK hP 0 rfl rfl 10 (by decide) (hts _ k_f_Mo_29) (fun _ h9 => h9) rfl d_Mo_reach_31 ?_
  refine lv_iload_n hx hb d_Mo_reach_34 rfl (lv_at hl 1 rfl) ?_
  refine fy_iald (t0 := 0) (v := fm_o (reg j)) hx hb hK hP 7 rfl rfl (by omega) (by omega) (hM.2.1 j q1) d_Mo_reach_35 ?_
  refine fy_callV (As := [.int (fm_o (reg j))]) (rest := []) ⟨hx, hb, hml, hown, hts⟩ (c_Mo_begin l s0 D cI cZ cJ cW hG mo m1 m2 m3 m4 m5 m6 m7 m8 (nI 0) N C L nu (reg j) hM.num hI.2.2.2.1 hI.len hI.lt [] mk1 (hI.inR q1) hmk1) (cwV 1 hts g_Mo_67 rfl rfl rfl (by decide +kernel) ⟨Nat.le_of_ble_eq_true rfl, Nat.le_of_ble_eq_true rfl⟩) hK hLa hAB hA hP hD hS [0, 1, 6] rfl rfl (ci := 5) rfl rfl (q0 := 0) rfl rfl hl.1 rfl (Nat.le_of_ble_eq_true rfl) d_Mo_reach_36 ⟨Nat.zero_le _, Nat.zero_le _⟩ (fun r w1 H locs hp hP hD hS => ?_)
  obtain ⟨rfl, mk2, hmk2, rfl⟩ := hp
  have hP : va_P D vwCl [(mo, .inr (5, [.int (nI 0), .int (nI N), .int (nI C), .int (nI L.length), .ref m1, .ref m2, .ref m3, .ref m4, .ref m5, .ref m6, .ref m7, .ref m8])), (m1, .inl (cI, 80, .inl nu)), (m2, .inl (cI, 80, .inl va)), (m3, .inl (cI, 80, .inl ag)), (m4, .inl (cI, 80, .inl fi)), (m5, .inl (cI, 320, .inl re)), (m6, .inl (cZ, 80, .inl mk2)), (m7, .inl (cI, 8, .inl mr)), (m8, .inl (cI, 4, .inl mw))] H := hP
  have hD : va_D A [(mo, .inr (5, [.int (nI 0), .int (nI N), .int (nI C), .int (nI L.length), .ref m1, .ref m2, .ref m3, .ref m4, .ref m5, .ref m6, .ref m7, .ref m8])), (m1, .inl (cI, 80, .inl nu)), (m2, .inl (cI, 80, .inl va)), (m3, .inl (cI, 80, .inl ag)), (m4, .inl (cI, 80, .inl fi)), (m5, .inl (cI, 320, .inl re)), (m6, .inl (cZ, 80, .inl mk2)), (m7, .inl (cI, 8, .inl mr)), (m8, .inl (cI, 4, .inl mw))] := hD
  refine lv_aload_n hx hb d_Mo_reach_39 rfl (lv_at hl 0 rfl) ?_
  refine fy_callV (As := []) (rest := []) ⟨hx, hb, hml, hown, hts⟩ (c_Mo_spread l s0 D cI cZ cJ cW hG mo m1 m2 m3 m4 m5 m6 m7 m8 (nI 0) N C L nf rf nu fi re mk2 (fm_add [] (reg j)) (fun m => reg j = some m) hM.num hI.2.2.2.1 hI.len hI.lt hI.2.2.2.2.1 (fun k n hk => ⟨(hM.1 k n hk).2.2.2.1, (hI.2.2.2.2.2.2.1 n (List.mem_of_getElem? hk)).2.2, (hM.1 k n hk).2.2.2.2⟩) (fm_M_add fm_M_nil (fun m hm => ⟨hI.inR q1 m hm, fm_Cl.base hm⟩)) (fun m hm => fm_mem_add.mpr (Or.inr hm)) hmk2) (cwV 0 hts g_Mo_71 rfl rfl rfl (by decide +kernel) ⟨Nat.le_of_ble_eq_true rfl, Nat.le_of_ble_eq_true rfl⟩) hK hLa hAB hA hP hD hS [0, 1, 4, 5, 6] rfl rfl (ci := 5) rfl rfl (q0 := 0) rfl rfl hl.1 rfl (Nat.le_of_ble_eq_true rfl) d_Mo_reach_40 ⟨Nat.zero_le _, Nat.zero_le _⟩ (fun r w1 H locs hp hP hD hS => ?_)
  obtain ⟨rfl, X2, mk3, hX2, hmk3, rfl⟩ := hp
  have hP : va_P D vwCl [(mo, .inr (5, [.int (nI 0), .int (nI N), .int (nI C), .int (nI L.length), .ref m1, .ref m2, .ref m3, .ref m4, .ref m5, .ref m6, .ref m7, .ref m8])), (m1, .inl (cI, 80, .inl nu)), (m2, .inl (cI, 80, .inl va)), (m3, .inl (cI, 80, .inl ag)), (m4, .inl (cI, 80, .inl fi)), (m5, .inl (cI, 320, .inl re)), (m6, .inl (cZ, 80, .inl mk3)), (m7, .inl (cI, 8, .inl mr)), (m8, .inl (cI, 4, .inl mw))] H := hP
  have hD : va_D A [(mo, .inr (5, [.int (nI 0), .int (nI N), .int (nI C), .int (nI L.length), .ref m1, .ref m2, .ref m3, .ref m4, .ref m5, .ref m6, .ref m7, .ref m8])), (m1, .inl (cI, 80, .inl nu)), (m2, .inl (cI, 80, .inl va)), (m3, .inl (cI, 80, .inl ag)), (m4, .inl (cI, 80, .inl fi)), (m5, .inl (cI, 320, .inl re)), (m6, .inl (cZ, 80, .inl mk3)), (m7, .inl (cI, 8, .inl mr)), (m8, .inl (cI, 4, .inl mw))] := hD
  refine lv_aload_n hx hb d_Mo_reach_43 rfl (lv_at hl 0 rfl) ?_
  refine fy_callV (As := []) (rest := []) ⟨hx, hb, hml, hown, hts⟩ (c_Mo_marked l s0 D cI cZ cJ cW hG mo m1 m2 m3 m4 m5 m6 m7 m8 (nI 0) N C L X2 mk3 hI.len hmk3) (cwV 0 hts g_Mo_74 rfl rfl rfl (by decide +kernel) ⟨Nat.le_of_ble_eq_true rfl, Nat.le_of_ble_eq_true rfl⟩) hK hLa hAB hA hP hD hS [0, 6] rfl rfl (ci := 5) rfl rfl (q0 := 0) rfl rfl hl.1 rfl (Nat.le_of_ble_eq_true rfl) d_Mo_reach_44 ⟨Nat.zero_le _, Nat.zero_le _⟩ (fun r w1 H locs hp hP hD hS => ?_)
  obtain ⟨rfl, rfl⟩ := hp
  have hP : va_P D vwCl [(mo, .inr (5, [.int (nI 0), .int (nI N), .int (nI C), .int (nI L.length), .ref m1, .ref m2, .ref m3, .ref m4, .ref m5, .ref m6, .ref m7, .ref m8])), (m1, .inl (cI, 80, .inl nu)), (m2, .inl (cI, 80, .inl va)), (m3, .inl (cI, 80, .inl ag)), (m4, .inl (cI, 80, .inl fi)), (m5, .inl (cI, 320, .inl re)), (m6, .inl (cZ, 80, .inl mk3)), (m7, .inl (cI, 8, .inl mr)), (m8, .inl (cI, 4, .inl mw))] H := hP
  have hD : va_D A [(mo, .inr (5, [.int (nI 0), .int (nI N), .int (nI C), .int (nI L.length), .ref m1, .ref m2, .ref m3, .ref m4, .ref m5, .ref m6, .ref m7, .ref m8])), (m1, .inl (cI, 80, .inl nu)), (m2, .inl (cI, 80, .inl va)), (m3, .inl (cI, 80, .inl ag)), (m4, .inl (cI, 80, .inl fi)), (m5, .inl (cI, 320, .inl re)), (m6, .inl (cZ, 80, .inl mk3)), (m7, .inl (cI, 8, .inl mr)), (m8, .inl (cI, 4, .inl mw))] := hD
  refine fy_top (z := nI ((fm_keep L (fm_Cl nf rf (fun m => reg j = some m))).length)) (by rw [fm_kp_end hX2]) ?_
  exact fy_reti hx hb hr hlocks hAe (⟨nI ((fm_keep L (fm_Cl nf rf (fun m => reg j = some m))).length), nu, va, ag, fi, re, mk3, mr, mw, (fun _ => rfl), rfl, hM, rfl⟩) (List.Perm.refl _) hP hS d_Mo_reach_47
