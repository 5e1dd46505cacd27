set_option maxRecDepth 20000 in
set_option maxHeartbeats 4000000 in
theorem c_Mo_spread (l : Launch) (s0 : State) (D : va_G) (cI cZ cJ cW : ClassId) (hG : fy_G s0 D cI cZ cJ cW) (mo m1 m2 m3 m4 m5 m6 m7 m8 : Nat) (cd : Int32) (N C : Nat) (L : List Nat) (nf : Nat → Nat) (rf : Nat → Nat → Option Nat) (nu fi re mk : Nat → Int32) (X : List Nat) (S : Nat → Prop) (hnu : fm_num L nu) (hd : L.Nodup) (hl80 : L.length ≤ 80) (hb5 : ∀ n ∈ L, n < 512) (hcl : fm_closed L nf rf) (hfi : ∀ k n, L[k]? = some n → fi k = nI (nf n) ∧ nf n ≤ 4 ∧ ∀ f, f < 4 → re (4 * k + f) = fm_o (rf n f)) (hM : fm_M L nf rf S X) (hSX : ∀ m, S m → m ∈ X) (hmk : fm_mk L X mk) : fy_Met l s0 D vwCl y_Mo_spread w_Mo_spread (fy_rm 1) 0 0 [.ref mo] [(mo, .inr (5, [.int cd, .int (nI N), .int (nI C), .int (nI L.length), .ref m1, .ref m2, .ref m3, .ref m4, .ref m5, .ref m6, .ref m7, .ref m8])), (m1, .inl (cI, 80, .inl nu)), (m4, .inl (cI, 80, .inl fi)), (m5, .inl (cI, 320, .inl re)), (m6, .inl (cZ, 80, .inl mk))] (fun r w1 => r = none ∧ ∃ (X2 : List Nat) (mk2 : Nat → Int32), X2.Perm (fm_keep L (fm_Cl nf rf S)) ∧ fm_mk L X2 mk2 ∧ w1 = [(mo, .inr (5, [.int cd, .int (nI N), .int (nI C), .int (nI L.length), .ref m1, .ref m2, .ref m3, .ref m4, .ref m5, .ref m6, .ref m7, .ref m8])), (m1, .inl (cI, 80, .inl nu)), (m4, .inl (cI, 80, .inl fi)), (m5, .inl (cI, 320, .inl re)), (m6, .inl (cZ, 80, .inl mk2))]) := by
  refine fy_st (bytes := b_Mo_spread) (maxL := 5) (ret := none) hG (by decide) rfl (Nat.le_of_ble_eq_true rfl) ?_
  intro p e s m below meth c A ls hx hb hr hlocks hml hown hts hK hLa hAe hAB hA hl hP hD hS
  have hl : lv_has ls 5 [(0, .ref mo)] := hl
  refine lv_iconst (v := nI 1) hx hb d_Mo_spread_0 (by decide) ?_
  refine lv_istore_n hx hb d_Mo_spread_1 rfl hl (by decide) rfl (fun ls hl => ?_)
  have hl : lv_has ls 5 [(1, .int (nI 1)), (0, .ref mo)] := hl
  refine fy_loop (σ := List Nat × Nat × (Nat → Int32)) (fun mz zz ls H locs => match zz with | (X, mo9, mk) => mz = 2 * (L.length - X.length) + mo9 ∧ (fm_M L nf rf S X) ∧ (∀ m, S m → m ∈ X) ∧ (fm_mk L X mk) ∧ (mo9 ≤ 1) ∧ (mo9 = 0 → (fm_pass L nf rf X L.length).length = X.length) ∧ lv_has ls 5 [(1, .int (nI mo9)), (0, .ref mo)] ∧ va_P D vwCl [(mo, .inr (5, [.int cd, .int (nI N), .int (nI C), .int (nI L.length), .ref m1, .ref m2, .ref m3, .ref m4, .ref m5, .ref m6, .ref m7, .ref m8])), (m1, .inl (cI, 80, .inl nu)), (m4, .inl (cI, 80, .inl fi)), (m5, .inl (cI, 320, .inl re)), (m6, .inl (cZ, 80, .inl mk))] H ∧ va_D A [(mo, .inr (5, [.int cd, .int (nI N), .int (nI C), .int (nI L.length), .ref m1, .ref m2, .ref m3, .ref m4, .ref m5, .ref m6, .ref m7, .ref m8])), (m1, .inl (cI, 80, .inl nu)), (m4, .inl (cI, 80, .inl fi)), (m5, .inl (cI, 320, .inl re)), (m6, .inl (cZ, 80, .inl mk))] ∧ va_S A s.heap H locs) ?_ _ (X, 1, mk) ⟨rfl, hM, hSX, hmk, Nat.le_refl _, fun h => absurd h (by omega), hl, hP, hD, hS⟩
  rintro mz ⟨X, mo9, mk⟩ ls H locs ⟨hmz, hM, hSX, hmk, hm1, hfx, hl, hP, hD, hS⟩ ih
  have hmz : mz = 2 * (L.length - X.length) + mo9 := hmz
  have hM : fm_M L nf rf S X := hM
  have hSX : ∀ m, S m → m ∈ X := hSX
  have hmk : fm_mk L X mk := hmk
  have hm1 : mo9 ≤ 1 := hm1
  have hfx : mo9 = 0 → (fm_pass L nf rf X L.length).length = X.length := hfx
  have hl : lv_has ls 5 [(1, .int (nI mo9)), (0, .ref mo)] := hl
  have hP : va_P D vwCl [(mo, .inr (5, [.int cd, .int (nI N), .int (nI C), .int (nI L.length), .ref m1, .ref m2, .ref m3, .ref m4, .ref m5, .ref m6, .ref m7, .ref m8])), (m1, .inl (cI, 80, .inl nu)), (m4, .inl (cI, 80, .inl fi)), (m5, .inl (cI, 320, .inl re)), (m6, .inl (cZ, 80, .inl mk))] H := hP
  have hD : va_D A [(mo, .inr (5, [.int cd, .int (nI N), .int (nI C), .int (nI L.length), .ref m1, .ref m2, .ref m3, .ref m4, .ref m5, .ref m6, .ref m7, .ref m8])), (m1, .inl (cI, 80, .inl nu)), (m4, .inl (cI, 80, .inl fi)), (m5, .inl (cI, 320, .inl re)), (m6, .inl (cZ, 80, .inl mk))] := hD
  have hXl := fm_M_len hM
  refine lv_iload_n hx hb d_Mo_spread_2 rfl (lv_at hl 0 rfl) ?_
  refine lv_if_eq hx hb d_Mo_spread_3 (tgt := 95) (by decide) (fun hc => ?_) (fun hc => ?_)
  · have hc : mo9 = 0 := (nI_eq (a := mo9) (b := 0) (by omega) (by omega)).mp hc
    exact fy_retv hx hb hr hlocks hAe (⟨rfl, X, mk, fm_M_end hM hSX hd (hfx hc), hmk, rfl⟩) (List.Perm.refl _) hP hS d_Mo_spread_95
  · have hc : mo9 = 1 := by have : ¬ mo9 = 0 := fun h => hc (by rw [h]; rfl); omega
    subst hc
    refine lv_iconst (v := nI 0) hx hb d_Mo_spread_6 (by decide) ?_
    refine lv_istore_n hx hb d_Mo_spread_7 rfl hl (by decide) rfl (fun ls hl => ?_)
    have hl : lv_has ls 5 [(1, .int (nI 0)), (0, .ref mo)] := hl
    refine lv_iconst (v := nI 0) hx hb d_Mo_spread_8 (by decide) ?_
    refine lv_istore_n hx hb d_Mo_spread_9 rfl hl (by decide) rfl (fun ls hl => ?_)
    have hl : lv_has ls 5 [(2, .int (nI 0)), (1, .int (nI 0)), (0, .ref mo)] := hl
    have hl : lv_has ls 5 [(2, .int (nI 0)), (1, .int (nI (fm_more X (fm_pass L nf rf X 0)))), (0, .ref mo)] := by rw [show fm_more X (fm_pass L nf rf X 0) = 0 from fm_more_0]; exact hl
    refine fy_loop (σ := Nat × (Nat → Int32)) (fun mz2 zz ls H locs => match zz with | (k, mk) => mz2 = L.length - k ∧ (k ≤ L.length) ∧ (fm_mk L (fm_pass L nf rf X k) mk) ∧ lv_has ls 5 [(2, .int (nI k)), (1, .int (nI (fm_more X (fm_pass L nf rf X k)))), (0, .ref mo)] ∧ va_P D vwCl [(mo, .inr (5, [.int cd, .int (nI N), .int (nI C), .int (nI L.length), .ref m1, .ref m2, .ref m3, .ref m4, .ref m5, .ref m6, .ref m7, .ref m8])), (m1, .inl (cI, 80, .inl nu)), (m4, .inl (cI, 80, .inl fi)), (m5, .inl (cI, 320, .inl re)), (m6, .inl (cZ, 80, .inl mk))] H ∧ va_D A [(mo, .inr (5, [.int cd, .int (nI N), .int (nI C), .int (nI L.length), .ref m1, .ref m2, .ref m3, .ref m4, .ref m5, .ref m6, .ref m7, .ref m8])), (m1, .inl (cI, 80, .inl nu)), (m4, .inl (cI, 80, .inl fi)), (m5, .inl (cI, 320, .inl re)), (m6, .inl (cZ, 80, .inl mk))] ∧ va_S A s.heap H locs) ?_ _ (0, mk) ⟨rfl, Nat.zero_le _, hmk, hl, hP, hD, hS⟩
    rintro mz2 ⟨k, mk⟩ ls H locs ⟨hmz2, hk, hmk, hl, hP, hD, hS⟩ ih2
    have hmz2 : mz2 = L.length - k := hmz2
    have hk : k ≤ L.length := hk
    have hmk : fm_mk L (fm_pass L nf rf X k) mk := hmk
    have hl : lv_has ls 5 [(2, .int (nI k)), (1, .int (nI (fm_more X (fm_pass L nf rf X k)))), (0, .ref mo)] := hl
    have hP : va_P D vwCl [(mo, .inr (5, [.int cd, .int (nI N), .int (nI C), .int (nI L.length), .ref m1, .ref m2, .ref m3, .ref m4, .ref m5, .ref m6, .ref m7, .ref m8])), (m1, .inl (cI, 80, .inl nu)), (m4, .inl (cI, 80, .inl fi)), (m5, .inl (cI, 320, .inl re)), (m6, .inl (cZ, 80, .inl mk))] H := hP
    have hD : va_D A [(mo, .inr (5, [.int cd, .int (nI N), .int (nI C), .int (nI L.length), .ref m1, .ref m2, .ref m3, .ref m4, .ref m5, .ref m6, .ref m7, .ref m8])), (m1, .inl (cI, 80, .inl nu)), (m4, .inl (cI, 80, .inl fi)), (m5, .inl (cI, 320, .inl re)), (m6, .inl (cZ, 80, .inl mk))] := hD
    refine lv_iload_n hx hb d_Mo_spread_10 rfl (lv_at hl 0 rfl) ?_
    refine lv_aload_n hx hb d_Mo_spread_11 rfl (lv_at hl 2 rfl) ?_
    refine va_get (D := D) (ci := 5) (v := .int (nI L.length)) (C := R_Mo) (T := F_Mo) (N := 12) hx hb hts i_Mo hown hK hP 0 rfl rfl 3 (by decide) (hts _ k_f_Mo_39) (fun _ h9 => h9) rfl d_Mo_spread_12 ?_
    refine lv_icmp_ge hx hb d_Mo_spread_15 (tgt := 92) (by decide) (fun hc2 => ?_) (fun hc2 => ?_)
    · have hc2 : k = L.length := by have := (nI_leI (by omega) (by omega)).mp hc2; omega
      subst hc2
      refine lv_goto hx hb d_Mo_spread_92 (tgt := 2) (by decide) ?_
      have hMp := fm_M_pass hM hcl L.length
      have hMl := fm_M_len hMp
      obtain ⟨Z, hZ⟩ := fm_pass_pre (L := L) (nf := nf) (rf := rf) (X := X) L.length
      have hdec : 2 * (L.length - (fm_pass L nf rf X L.length).length) + fm_more X (fm_pass L nf rf X L.length) < mz := by have h9 := congrArg List.length hZ; rw [List.length_append] at h9; unfold fm_more; split <;> omega
      have hl : lv_has ls 5 [(1, .int (nI (fm_more X (fm_pass L nf rf X L.length)))), (0, .ref mo)] := lv_sub hl [1, 2] rfl
      exact ih _ (fm_pass L nf rf X L.length, fm_more X (fm_pass L nf rf X L.length), mk) _ _ _ hdec ⟨rfl, hMp, fun m hm => by rw [hZ]; exact List.mem_append_left _ (hSX m hm), hmk, by unfold fm_more; split <;> omega, fun h => by unfold fm_more at h; split at h; (rename_i h9; rw [fm_pass_same h9]; exact h9); (exact absurd h (by omega)), hl, hP, hD, hS⟩
    · have hc2 : k < L.length := by have := mt (nI_leI (a := L.length) (b := k) (by omega) (by omega)).mpr hc2; omega
      obtain ⟨n, hn⟩ : ∃ n, L[k]? = some n := ⟨L[k], List.getElem?_eq_getElem hc2⟩
      obtain ⟨f1, f2, f3⟩ := hfi k n hn
      refine lv_iconst (v := nI 0) hx hb d_Mo_spread_18 (by decide) ?_
      refine lv_istore_n hx hb d_Mo_spread_19 rfl hl (by decide) rfl (fun ls hl => ?_)
      have hl : lv_has ls 5 [(3, .int (nI 0)), (2, .int (nI k)), (1, .int (nI (fm_more X (fm_pass L nf rf X k)))), (0, .ref mo)] := hl
      have hmk0 : fm_mk L (fm_hal rf n (fm_pass L nf rf X k) 0) mk := by rw [fm_hal_0]; exact hmk
      rw [show fm_pass L nf rf X k = fm_hal rf n (fm_pass L nf rf X k) 0 from fm_hal_0.symm] at hl
      refine fy_loop (σ := Nat × (Nat → Int32)) (fun mz3 zz ls H locs => match zz with | (f, mk) => mz3 = nf n - f ∧ (f ≤ nf n) ∧ (fm_mk L (fm_hal rf n (fm_pass L nf rf X k) f) mk) ∧ lv_has ls 5 [(3, .int (nI f)), (2, .int (nI k)), (1, .int (nI (fm_more X (fm_hal rf n (fm_pass L nf rf X k) f)))), (0, .ref mo)] ∧ va_P D vwCl [(mo, .inr (5, [.int cd, .int (nI N), .int (nI C), .int (nI L.length), .ref m1, .ref m2, .ref m3, .ref m4, .ref m5, .ref m6, .ref m7, .ref m8])), (m1, .inl (cI, 80, .inl nu)), (m4, .inl (cI, 80, .inl fi)), (m5, .inl (cI, 320, .inl re)), (m6, .inl (cZ, 80, .inl mk))] H ∧ va_D A [(mo, .inr (5, [.int cd, .int (nI N), .int (nI C), .int (nI L.length), .ref m1, .ref m2, .ref m3, .ref m4, .ref m5, .ref m6, .ref m7, .ref m8])), (m1, .inl (cI, 80, .inl nu)), (m4, .inl (cI, 80, .inl fi)), (m5, .inl (cI, 320, .inl re)), (m6, .inl (cZ, 80, .inl mk))] ∧ va_S A s.heap H locs) ?_ _ (0, mk) ⟨rfl, Nat.zero_le _, hmk0, hl, hP, hD, hS⟩
      rintro mz3 ⟨f, mk⟩ ls H locs ⟨hmz3, hf, hmk, hl, hP, hD, hS⟩ ih3
      have hmz3 : mz3 = nf n - f := hmz3
      have hf : f ≤ nf n := hf
      have hmk : fm_mk L (fm_hal rf n (fm_pass L nf rf X k) f) mk := hmk
      have hl : lv_has ls 5 [(3, .int (nI f)), (2, .int (nI k)), (1, .int (nI (fm_more X (fm_hal rf n (fm_pass L nf rf X k) f)))), (0, .ref mo)] := hl
      have hP : va_P D vwCl [(mo, .inr (5, [.int cd, .int (nI N), .int (nI C), .int (nI L.length), .ref m1, .ref m2, .ref m3, .ref m4, .ref m5, .ref m6, .ref m7, .ref m8])), (m1, .inl (cI, 80, .inl nu)), (m4, .inl (cI, 80, .inl fi)), (m5, .inl (cI, 320, .inl re)), (m6, .inl (cZ, 80, .inl mk))] H := hP
      have hD : va_D A [(mo, .inr (5, [.int cd, .int (nI N), .int (nI C), .int (nI L.length), .ref m1, .ref m2, .ref m3, .ref m4, .ref m5, .ref m6, .ref m7, .ref m8])), (m1, .inl (cI, 80, .inl nu)), (m4, .inl (cI, 80, .inl fi)), (m5, .inl (cI, 320, .inl re)), (m6, .inl (cZ, 80, .inl mk))] := hD
      refine lv_iload_n hx hb d_Mo_spread_20 rfl (lv_at hl 0 rfl) ?_
      refine lv_aload_n hx hb d_Mo_spread_21 rfl (lv_at hl 3 rfl) ?_
      refine va_get (D := D) (ci := 5) (v := .ref m4) (C := R_Mo) (T := F_Mo) (N := 12) hx hb hts i_Mo hown hK hP 0 rfl rfl 7 (by decide) (hts _ k_f_Mo_19) (fun _ h9 => h9) rfl d_Mo_spread_22 ?_
      refine lv_iload_n hx hb d_Mo_spread_25 rfl (lv_at hl 1 rfl) ?_
      refine fy_iald (t0 := 0) (v := nI (nf n)) hx hb hK hP 2 rfl rfl (by omega) (by omega) (f1) d_Mo_spread_26 ?_
      refine lv_icmp_ge hx hb d_Mo_spread_27 (tgt := 86) (by decide) (fun hc3 => ?_) (fun hc3 => ?_)
      · have hc3 : f = nf n := by have := (nI_leI (by omega) (by omega)).mp hc3; omega
        subst hc3
        rw [fm_hal_end, ← fm_pass_s hn] at hmk hl
        refine lv_iinc (v := nI (k + 1)) hx hb d_Mo_spread_86 hl (k := 1) rfl (by rw [show Int32.ofInt 1 = nI 1 from by decide]; exact nI_add _ _) (by decide) rfl (fun ls hl => ?_)
        have hl : lv_has ls 5 [(2, .int (nI (k + 1))), (3, .int (nI (nf n))), (1, .int (nI (fm_more X (fm_pass L nf rf X (k + 1))))), (0, .ref mo)] := hl
        refine lv_goto hx hb d_Mo_spread_89 (tgt := 10) (by decide) ?_
        have hl : lv_has ls 5 [(2, .int (nI (k + 1))), (1, .int (nI (fm_more X (fm_pass L nf rf X (k + 1))))), (0, .ref mo)] := lv_sub hl [0, 2, 3] rfl
        exact ih2 _ (k + 1, mk) _ _ _ (by omega) ⟨rfl, hc2, hmk, hl, hP, hD, hS⟩
      · have hc3 : f < nf n := by have := mt (nI_leI (a := nf n) (b := f) (by omega) (by omega)).mpr hc3; omega
        by_cases hnZ : n ∈ fm_hal rf n (fm_pass L nf rf X k) f
        · refine lv_aload_n hx hb d_Mo_spread_30 rfl (lv_at hl 3 rfl) ?_
          refine va_get (D := D) (ci := 5) (v := .ref m6) (C := R_Mo) (T := F_Mo) (N := 12) hx hb hts i_Mo hown hK hP 0 rfl rfl 9 (by decide) (hts _ k_f_Mo_25) (fun _ h9 => h9) rfl d_Mo_spread_31 ?_
          refine lv_iload_n hx hb d_Mo_spread_34 rfl (lv_at hl 1 rfl) ?_
          refine fy_zald (t0 := 1) (v := nI 1) hx hb hK hP 4 rfl rfl (by omega) (by omega) (by rw [hmk k n hn, if_pos hnZ]; rfl) d_Mo_spread_35 ?_
          refine lv_if_eq hx hb d_Mo_spread_36 (tgt := 86) (by decide) (fun h => absurd h (by decide)) (fun _ => ?_)
          have hnY := fm_hal_in hnZ
          have hrfL : ∀ m, rf n f = some m → m ∈ L := fun m hm => hcl n (List.mem_of_getElem? hn) f hc3 m hm
          refine lv_aload_n hx hb d_Mo_spread_39 rfl (lv_at hl 3 rfl) ?_
          refine lv_aload_n hx hb d_Mo_spread_40 rfl (lv_at hl 3 rfl) ?_
          refine va_get (D := D) (ci := 5) (v := .ref m5) (C := R_Mo) (T := F_Mo) (N := 12) hx hb hts i_Mo hown hK hP 0 rfl rfl 8 (by decide) (hts _ k_f_Mo_22) (fun _ h9 => h9) rfl d_Mo_spread_41 ?_
          refine lv_iconst (v := nI 4) hx hb d_Mo_spread_44 (by decide) ?_
          refine lv_iload_n hx hb d_Mo_spread_45 rfl (lv_at hl 1 rfl) ?_
          refine lv_imul hx hb d_Mo_spread_46 ?_
          refine fy_top (z := nI (4 * k)) (pk_mul _ _) ?_
          refine lv_iload_n hx hb d_Mo_spread_47 rfl (lv_at hl 0 rfl) ?_
          refine lv_iadd hx hb d_Mo_spread_48 ?_
          refine fy_top (z := nI ((4 * k) + f)) (nI_add _ _) ?_
          refine fy_iald (t0 := 0) (v := fm_o (rf n f)) hx hb hK hP 3 rfl rfl (by omega) (by omega) (f3 f (by omega)) d_Mo_spread_49 ?_
          refine fy_callV (As := [.int (fm_o (rf n f))]) (rest := []) ⟨hx, hb, hml, hown, hts⟩ (c_Mo_find l s0 D cI cZ cJ cW hG mo m1 m2 m3 m4 m5 m6 m7 m8 cd N C L nu (rf n f) hnu hd hl80 hb5 (fun m hm => hb5 m (hrfL m hm))) (cwV 1 hts g_Mo_53 rfl rfl rfl (by decide +kernel) ⟨Nat.le_of_ble_eq_true rfl, Nat.le_of_ble_eq_true rfl⟩) hK hLa hAB hA hP hD hS [0, 1] rfl rfl (ci := 5) rfl rfl (q0 := 0) rfl rfl hl.1 rfl (Nat.le_of_ble_eq_true rfl) d_Mo_spread_50 ⟨Nat.zero_le _, Nat.zero_le _⟩ (fun r w1 H locs hp hP hD hS => ?_)
          obtain ⟨a, ha, rfl, rfl⟩ := hp
          have hP : va_P D vwCl [(mo, .inr (5, [.int cd, .int (nI N), .int (nI C), .int (nI L.length), .ref m1, .ref m2, .ref m3, .ref m4, .ref m5, .ref m6, .ref m7, .ref m8])), (m1, .inl (cI, 80, .inl nu)), (m4, .inl (cI, 80, .inl fi)), (m5, .inl (cI, 320, .inl re)), (m6, .inl (cZ, 80, .inl mk))] H := hP
          have hD : va_D A [(mo, .inr (5, [.int cd, .int (nI N), .int (nI C), .int (nI L.length), .ref m1, .ref m2, .ref m3, .ref m4, .ref m5, .ref m6, .ref m7, .ref m8])), (m1, .inl (cI, 80, .inl nu)), (m4, .inl (cI, 80, .inl fi)), (m5, .inl (cI, 320, .inl re)), (m6, .inl (cZ, 80, .inl mk))] := hD
          refine lv_istore hx hb d_Mo_spread_53 hl (by decide) rfl (fun ls hl => ?_)
          have hl : lv_has ls 5 [(4, .int (fm_o a)), (3, .int (nI f)), (2, .int (nI k)), (1, .int (nI (fm_more X (fm_hal rf n (fm_pass L nf rf X k) f)))), (0, .ref mo)] := hl
          refine lv_iload hx hb d_Mo_spread_55 (lv_at hl 0 rfl) ?_
          cases a with
          | none =>
            have ho2 : rf n f = none := by cases ho3 : rf n f with | none => rfl | some m => exact absurd (hrfL m ho3) (fm_is_none ha m ho3)
            refine lv_if_lt hx hb d_Mo_spread_57 (tgt := 80) (by decide) (fun _ => ?_) (fun h => absurd (by decide) h)
            have hs : fm_hal rf n (fm_pass L nf rf X k) (f + 1) = fm_hal rf n (fm_pass L nf rf X k) f := by rw [fm_hal_s hnY, ho2, fm_add_none]
            rw [← hs] at hmk hl
            refine lv_iinc (v := nI (f + 1)) hx hb d_Mo_spread_80 hl (k := 1) rfl (by rw [show Int32.ofInt 1 = nI 1 from by decide]; exact nI_add _ _) (by decide) rfl (fun ls hl => ?_)
            have hl : lv_has ls 5 [(3, .int (nI (f + 1))), (4, .int (fm_o none)), (2, .int (nI k)), (1, .int (nI (fm_more X (fm_hal rf n (fm_pass L nf rf X k) (f + 1))))), (0, .ref mo)] := hl
            refine lv_goto hx hb d_Mo_spread_83 (tgt := 20) (by decide) ?_
            have hl : lv_has ls 5 [(3, .int (nI (f + 1))), (2, .int (nI k)), (1, .int (nI (fm_more X (fm_hal rf n (fm_pass L nf rf X k) (f + 1))))), (0, .ref mo)] := lv_sub hl [0, 2, 3, 4] rfl
            exact ih3 _ (f + 1, mk) _ _ _ (by omega) ⟨rfl, hc3, hmk, hl, hP, hD, hS⟩
          | some t =>
            obtain ⟨m9, hm9, ho9⟩ := fm_is_some ha
            have ht := fm_is_lt ha
            have hl : lv_has ls 5 [(4, .int (nI t)), (3, .int (nI f)), (2, .int (nI k)), (1, .int (nI (fm_more X (fm_hal rf n (fm_pass L nf rf X k) f)))), (0, .ref mo)] := hl
            refine lv_if_lt hx hb d_Mo_spread_57 (tgt := 80) (by decide) (fun h => absurd h (nI_pos (by omega))) (fun _ => ?_)
            have hs : fm_hal rf n (fm_pass L nf rf X k) (f + 1) = fm_add (fm_hal rf n (fm_pass L nf rf X k) f) (some m9) := by rw [fm_hal_s hnY, ho9]
            by_cases hm8 : m9 ∈ fm_hal rf n (fm_pass L nf rf X k) f
            · refine lv_aload_n hx hb d_Mo_spread_60 rfl (lv_at hl 4 rfl) ?_
              refine va_get (D := D) (ci := 5) (v := .ref m6) (C := R_Mo) (T := F_Mo) (N := 12) hx hb hts i_Mo hown hK hP 0 rfl rfl 9 (by decide) (hts _ k_f_Mo_25) (fun _ h9 => h9) rfl d_Mo_spread_61 ?_
              refine lv_iload hx hb d_Mo_spread_64 (lv_at hl 0 rfl) ?_
              refine fy_zald (t0 := 1) (v := nI 1) hx hb hK hP 4 rfl rfl (by omega) (by omega) (by rw [hmk t m9 hm9, if_pos hm8]; rfl) d_Mo_spread_66 ?_
              refine lv_if_ne hx hb d_Mo_spread_67 (tgt := 80) (by decide) (fun _ => ?_) (fun h => absurd h (by decide))
              rw [fm_add_in hm8] at hs
              rw [← hs] at hmk hl
              refine lv_iinc (v := nI (f + 1)) hx hb d_Mo_spread_80 hl (k := 1) rfl (by rw [show Int32.ofInt 1 = nI 1 from by decide]; exact nI_add _ _) (by decide) rfl (fun ls hl => ?_)
              have hl : lv_has ls 5 [(3, .int (nI (f + 1))), (4, .int (nI t)), (2, .int (nI k)), (1, .int (nI (fm_more X (fm_hal rf n (fm_pass L nf rf X k) (f + 1))))), (0, .ref mo)] := hl
              refine lv_goto hx hb d_Mo_spread_83 (tgt := 20) (by decide) ?_
              have hl : lv_has ls 5 [(3, .int (nI (f + 1))), (2, .int (nI k)), (1, .int (nI (fm_more X (fm_hal rf n (fm_pass L nf rf X k) (f + 1))))), (0, .ref mo)] := lv_sub hl [0, 2, 3, 4] rfl
              exact ih3 _ (f + 1, mk) _ _ _ (by omega) ⟨rfl, hc3, hmk, hl, hP, hD, hS⟩
            · refine lv_aload_n hx hb d_Mo_spread_60 rfl (lv_at hl 4 rfl) ?_
              refine va_get (D := D) (ci := 5) (v := .ref m6) (C := R_Mo) (T := F_Mo) (N := 12) hx hb hts i_Mo hown hK hP 0 rfl rfl 9 (by decide) (hts _ k_f_Mo_25) (fun _ h9 => h9) rfl d_Mo_spread_61 ?_
              refine lv_iload hx hb d_Mo_spread_64 (lv_at hl 0 rfl) ?_
              refine fy_zald (t0 := 1) (v := nI 0) hx hb hK hP 4 rfl rfl (by omega) (by omega) (by rw [hmk t m9 hm9, if_neg hm8]; rfl) d_Mo_spread_66 ?_
              refine lv_if_ne hx hb d_Mo_spread_67 (tgt := 80) (by decide) (fun h => absurd (rfl) h) (fun _ => ?_)
              have hmr : fm_more X (fm_hal rf n (fm_pass L nf rf X k) (f + 1)) = 1 := by rw [hs]; exact fm_more_s fm_hal_len hm8
              refine lv_aload_n hx hb d_Mo_spread_70 rfl (lv_at hl 4 rfl) ?_
              refine va_get (D := D) (ci := 5) (v := .ref m6) (C := R_Mo) (T := F_Mo) (N := 12) hx hb hts i_Mo hown hK hP 0 rfl rfl 9 (by decide) (hts _ k_f_Mo_25) (fun _ h9 => h9) rfl d_Mo_spread_71 ?_
              refine lv_iload hx hb d_Mo_spread_74 (lv_at hl 0 rfl) ?_
              refine lv_iconst (v := nI 1) hx hb d_Mo_spread_76 (by decide) ?_
              refine fy_zast (t0 := 1) (g := upd mk t (nI 1)) hx hb hK hP hD hS 4 rfl rfl (by omega) (by omega) (by first | exact Or.inl rfl | exact Or.inr rfl) (rfl) d_Mo_spread_77 (fun H locs hP hD hS => ?_)
              have hP : va_P D vwCl [(mo, .inr (5, [.int cd, .int (nI N), .int (nI C), .int (nI L.length), .ref m1, .ref m2, .ref m3, .ref m4, .ref m5, .ref m6, .ref m7, .ref m8])), (m1, .inl (cI, 80, .inl nu)), (m4, .inl (cI, 80, .inl fi)), (m5, .inl (cI, 320, .inl re)), (m6, .inl (cZ, 80, .inl (upd mk t (nI 1))))] H := hP
              have hD : va_D A [(mo, .inr (5, [.int cd, .int (nI N), .int (nI C), .int (nI L.length), .ref m1, .ref m2, .ref m3, .ref m4, .ref m5, .ref m6, .ref m7, .ref m8])), (m1, .inl (cI, 80, .inl nu)), (m4, .inl (cI, 80, .inl fi)), (m5, .inl (cI, 320, .inl re)), (m6, .inl (cZ, 80, .inl (upd mk t (nI 1))))] := hD
              refine lv_iconst (v := nI 1) hx hb d_Mo_spread_78 (by decide) ?_
              refine lv_istore_n hx hb d_Mo_spread_79 rfl hl (by decide) rfl (fun ls hl => ?_)
              have hl : lv_has ls 5 [(1, .int (nI 1)), (4, .int (nI t)), (3, .int (nI f)), (2, .int (nI k)), (0, .ref mo)] := hl
              refine lv_iinc (v := nI (f + 1)) hx hb d_Mo_spread_80 hl (k := 2) rfl (by rw [show Int32.ofInt 1 = nI 1 from by decide]; exact nI_add _ _) (by decide) rfl (fun ls hl => ?_)
              have hl : lv_has ls 5 [(3, .int (nI (f + 1))), (1, .int (nI 1)), (4, .int (nI t)), (2, .int (nI k)), (0, .ref mo)] := hl
              refine lv_goto hx hb d_Mo_spread_83 (tgt := 20) (by decide) ?_
              have hl : lv_has ls 5 [(3, .int (nI (f + 1))), (1, .int (nI (fm_more X (fm_hal rf n (fm_pass L nf rf X k) (f + 1))))), (4, .int (nI t)), (2, .int (nI k)), (0, .ref mo)] := by rw [hmr]; exact hl
              have hl : lv_has ls 5 [(3, .int (nI (f + 1))), (2, .int (nI k)), (1, .int (nI (fm_more X (fm_hal rf n (fm_pass L nf rf X k) (f + 1))))), (0, .ref mo)] := lv_sub hl [0, 3, 1, 4] rfl
              exact ih3 _ (f + 1, upd mk t (nI 1)) _ _ _ (by omega) ⟨rfl, hc3, by rw [hs]; exact fm_mk_add hmk hd hm9, hl, hP, hD, hS⟩
        · refine lv_aload_n hx hb d_Mo_spread_30 rfl (lv_at hl 3 rfl) ?_
          refine va_get (D := D) (ci := 5) (v := .ref m6) (C := R_Mo) (T := F_Mo) (N := 12) hx hb hts i_Mo hown hK hP 0 rfl rfl 9 (by decide) (hts _ k_f_Mo_25) (fun _ h9 => h9) rfl d_Mo_spread_31 ?_
          refine lv_iload_n hx hb d_Mo_spread_34 rfl (lv_at hl 1 rfl) ?_
          refine fy_zald (t0 := 1) (v := nI 0) hx hb hK hP 4 rfl rfl (by omega) (by omega) (by rw [hmk k n hn, if_neg hnZ]; rfl) d_Mo_spread_35 ?_
          refine lv_if_eq hx hb d_Mo_spread_36 (tgt := 86) (by decide) (fun _ => ?_) (fun h => absurd (rfl) h)
          rw [fm_hal_out hnZ, ← fm_pass_s hn] at hmk hl
          refine lv_iinc (v := nI (k + 1)) hx hb d_Mo_spread_86 hl (k := 1) rfl (by rw [show Int32.ofInt 1 = nI 1 from by decide]; exact nI_add _ _) (by decide) rfl (fun ls hl => ?_)
          have hl : lv_has ls 5 [(2, .int (nI (k + 1))), (3, .int (nI f)), (1, .int (nI (fm_more X (fm_pass L nf rf X (k + 1))))), (0, .ref mo)] := hl
          refine lv_goto hx hb d_Mo_spread_89 (tgt := 10) (by decide) ?_
          have hl : lv_has ls 5 [(2, .int (nI (k + 1))), (1, .int (nI (fm_more X (fm_pass L nf rf X (k + 1))))), (0, .ref mo)] := lv_sub hl [0, 2, 3] rfl
          exact ih2 _ (k + 1, mk) _ _ _ (by omega) ⟨rfl, hc2, hmk, hl, hP, hD, hS⟩
