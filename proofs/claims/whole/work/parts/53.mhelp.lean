theorem nI_ge9 {a b : Nat} (h : a < b) (hb : b < 2 ^ 31) : ¬ nI b ≤ nI a := fun q => by have := (nI_leI hb (by omega)).mp q; omega
set_option maxRecDepth 20000 in
set_option maxHeartbeats 4000000 in
theorem c_Mo_isRegister (l : Launch) (s0 : State) (D : va_G) (cI cZ cJ cW : ClassId) (hG : fy_G s0 D cI cZ cJ cW) (k : Nat) (hk : k < 8) : fy_Met l s0 D vwCl y_Mo_isRegister w_Mo_isRegister (fy_rm 0) 0 0 [.int (nI k)] [] (fun r w1 => r = some (.int (nI 1)) ∧ w1 = []) := by
  refine fy_st (bytes := b_Mo_isRegister) (maxL := 1) (ret := some .boolean) hG (by decide) rfl (Nat.le_of_ble_eq_true rfl) ?_
  intro p e s m below meth c A ls hx hb hr hlocks hml hown hts hK hLa hAe hAB hA hl hP hD hS
  have hl : lv_has ls 1 [(0, .int (nI k))] := hl
  refine lv_iload_n hx hb d_Mo_isRegister_0 rfl (lv_at hl 0 rfl) ?_
  refine lv_if_lt hx hb d_Mo_isRegister_1 (tgt := 14) (by decide) (fun h => absurd h (nI_pos (by omega))) (fun _ => ?_)
  refine lv_iload_n hx hb d_Mo_isRegister_4 rfl (lv_at hl 0 rfl) ?_
  refine lv_bipush (v := nI 8) hx hb d_Mo_isRegister_5 (by decide) ?_
  refine lv_icmp_ge hx hb d_Mo_isRegister_7 (tgt := 14) (by decide) (fun h => absurd h (nI_ge9 hk (by omega))) (fun _ => ?_)
  refine lv_iconst (v := nI 1) hx hb d_Mo_isRegister_10 (by decide) ?_
  refine lv_goto hx hb d_Mo_isRegister_11 (tgt := 15) (by decide) ?_
  exact fy_retz hx hb hr hlocks hAe (by first | exact Or.inl rfl | exact Or.inr rfl) (⟨rfl, rfl⟩) (List.Perm.refl _) hP hS d_Mo_isRegister_15
set_option maxRecDepth 20000 in
set_option maxHeartbeats 4000000 in
theorem c_Mo_isRegister0 (l : Launch) (s0 : State) (D : va_G) (cI cZ cJ cW : ClassId) (hG : fy_G s0 D cI cZ cJ cW) (x : Int32) (hbd : ¬ fy_ok 8 x) : fy_Met l s0 D vwCl y_Mo_isRegister w_Mo_isRegister (fy_rm 0) 0 0 [.int x] [] (fun r w1 => r = some (.int (nI 0)) ∧ w1 = []) := by
  refine fy_st (bytes := b_Mo_isRegister) (maxL := 1) (ret := some .boolean) hG (by decide) rfl (Nat.le_of_ble_eq_true rfl) ?_
  intro p e s m below meth c A ls hx hb hr hlocks hml hown hts hK hLa hAe hAB hA hl hP hD hS
  have hl : lv_has ls 1 [(0, .int x)] := hl
  refine lv_iload_n hx hb d_Mo_isRegister_0 rfl (lv_at hl 0 rfl) ?_
  refine lv_if_lt hx hb d_Mo_isRegister_1 (tgt := 14) (by decide) (fun hc => ?_) (fun hc => ?_)
  · refine lv_iconst (v := nI 0) hx hb d_Mo_isRegister_14 (by decide) ?_
    exact fy_retz hx hb hr hlocks hAe (by first | exact Or.inl rfl | exact Or.inr rfl) (⟨rfl, rfl⟩) (List.Perm.refl _) hP hS d_Mo_isRegister_15
  · refine lv_iload_n hx hb d_Mo_isRegister_4 rfl (lv_at hl 0 rfl) ?_
    refine lv_bipush (v := nI 8) hx hb d_Mo_isRegister_5 (by decide) ?_
    refine lv_icmp_ge hx hb d_Mo_isRegister_7 (tgt := 14) (by decide) (fun _ => ?_) (fun h => absurd (Int32.not_lt.mp (fun h => hbd ⟨Int32.not_lt.mp hc, h⟩)) h)
    refine lv_iconst (v := nI 0) hx hb d_Mo_isRegister_14 (by decide) ?_
    exact fy_retz hx hb hr hlocks hAe (by first | exact Or.inl rfl | exact Or.inr rfl) (⟨rfl, rfl⟩) (List.Perm.refl _) hP hS d_Mo_isRegister_15
set_option maxRecDepth 20000 in
set_option maxHeartbeats 4000000 in
theorem c_Mo_isWeak (l : Launch) (s0 : State) (D : va_G) (cI cZ cJ cW : ClassId) (hG : fy_G s0 D cI cZ cJ cW) (k : Nat) (hk : k < 4) : fy_Met l s0 D vwCl y_Mo_isWeak w_Mo_isWeak (fy_rm 0) 0 0 [.int (nI k)] [] (fun r w1 => r = some (.int (nI 1)) ∧ w1 = []) := by
  refine fy_st (bytes := b_Mo_isWeak) (maxL := 1) (ret := some .boolean) hG (by decide) rfl (Nat.le_of_ble_eq_true rfl) ?_
  intro p e s m below meth c A ls hx hb hr hlocks hml hown hts hK hLa hAe hAB hA hl hP hD hS
  have hl : lv_has ls 1 [(0, .int (nI k))] := hl
  refine lv_iload_n hx hb d_Mo_isWeak_0 rfl (lv_at hl 0 rfl) ?_
  refine lv_if_lt hx hb d_Mo_isWeak_1 (tgt := 13) (by decide) (fun h => absurd h (nI_pos (by omega))) (fun _ => ?_)
  refine lv_iload_n hx hb d_Mo_isWeak_4 rfl (lv_at hl 0 rfl) ?_
  refine lv_iconst (v := nI 4) hx hb d_Mo_isWeak_5 (by decide) ?_
  refine lv_icmp_ge hx hb d_Mo_isWeak_6 (tgt := 13) (by decide) (fun h => absurd h (nI_ge9 hk (by omega))) (fun _ => ?_)
  refine lv_iconst (v := nI 1) hx hb d_Mo_isWeak_9 (by decide) ?_
  refine lv_goto hx hb d_Mo_isWeak_10 (tgt := 14) (by decide) ?_
  exact fy_retz hx hb hr hlocks hAe (by first | exact Or.inl rfl | exact Or.inr rfl) (⟨rfl, rfl⟩) (List.Perm.refl _) hP hS d_Mo_isWeak_14
set_option maxRecDepth 20000 in
set_option maxHeartbeats 4000000 in
theorem c_Mo_isWeak0 (l : Launch) (s0 : State) (D : va_G) (cI cZ cJ cW : ClassId) (hG : fy_G s0 D cI cZ cJ cW) (x : Int32) (hbd : ¬ fy_ok 4 x) : fy_Met l s0 D vwCl y_Mo_isWeak w_Mo_isWeak (fy_rm 0) 0 0 [.int x] [] (fun r w1 => r = some (.int (nI 0)) ∧ w1 = []) := by
  refine fy_st (bytes := b_Mo_isWeak) (maxL := 1) (ret := some .boolean) hG (by decide) rfl (Nat.le_of_ble_eq_true rfl) ?_
  intro p e s m below meth c A ls hx hb hr hlocks hml hown hts hK hLa hAe hAB hA hl hP hD hS
  have hl : lv_has ls 1 [(0, .int x)] := hl
  refine lv_iload_n hx hb d_Mo_isWeak_0 rfl (lv_at hl 0 rfl) ?_
  refine lv_if_lt hx hb d_Mo_isWeak_1 (tgt := 13) (by decide) (fun hc => ?_) (fun hc => ?_)
  · refine lv_iconst (v := nI 0) hx hb d_Mo_isWeak_13 (by decide) ?_
    exact fy_retz hx hb hr hlocks hAe (by first | exact Or.inl rfl | exact Or.inr rfl) (⟨rfl, rfl⟩) (List.Perm.refl _) hP hS d_Mo_isWeak_14
  · refine lv_iload_n hx hb d_Mo_isWeak_4 rfl (lv_at hl 0 rfl) ?_
    refine lv_iconst (v := nI 4) hx hb d_Mo_isWeak_5 (by decide) ?_
    refine lv_icmp_ge hx hb d_Mo_isWeak_6 (tgt := 13) (by decide) (fun _ => ?_) (fun h => absurd (Int32.not_lt.mp (fun h => hbd ⟨Int32.not_lt.mp hc, h⟩)) h)
    refine lv_iconst (v := nI 0) hx hb d_Mo_isWeak_13 (by decide) ?_
    exact fy_retz hx hb hr hlocks hAe (by first | exact Or.inl rfl | exact Or.inr rfl) (⟨rfl, rfl⟩) (List.Perm.refl _) hP hS d_Mo_isWeak_14
set_option maxRecDepth 20000 in
set_option maxHeartbeats 4000000 in
theorem c_Mo_thrown (l : Launch) (s0 : State) (D : va_G) (cI cZ cJ cW : ClassId) (hG : fy_G s0 D cI cZ cJ cW) (mo m1 m2 m3 m4 m5 m6 m7 m8 : Nat) (cd : Int32) (N C : Nat) (L : List Nat) : fy_Met l s0 D vwCl y_Mo_thrown w_Mo_thrown (fy_rm 0) 0 0 [.ref mo] [(mo, .inr (5, [.int cd, .int (nI N), .int (nI C), .int (nI L.length), .ref m1, .ref m2, .ref m3, .ref m4, .ref m5, .ref m6, .ref m7, .ref m8]))] (fun r w1 => r = some (.int cd) ∧ w1 = [(mo, .inr (5, [.int cd, .int (nI N), .int (nI C), .int (nI L.length), .ref m1, .ref m2, .ref m3, .ref m4, .ref m5, .ref m6, .ref m7, .ref m8]))]) := by
  refine fy_st (bytes := b_Mo_thrown) (maxL := 1) (ret := some .int) hG (by decide) rfl (Nat.le_of_ble_eq_true rfl) ?_
  intro p e s m below meth c A ls hx hb hr hlocks hml hown hts hK hLa hAe hAB hA hl hP hD hS
  have hl : lv_has ls 1 [(0, .ref mo)] := hl
  refine lv_aload_n hx hb d_Mo_thrown_0 rfl (lv_at hl 0 rfl) ?_
  refine va_get (D := D) (ci := 5) (v := .int cd) (C := R_Mo) (T := F_Mo) (N := 12) hx hb hts i_Mo hown hK hP 0 rfl rfl 0 (by decide) (hts _ k_f_Mo_35) (fun _ h9 => h9) rfl d_Mo_thrown_1 ?_
  exact fy_reti hx hb hr hlocks hAe (⟨rfl, rfl⟩) (List.Perm.refl _) hP hS d_Mo_thrown_4
set_option maxRecDepth 20000 in
set_option maxHeartbeats 4000000 in
theorem c_Mo_find (l : Launch) (s0 : State) (D : va_G) (cI cZ cJ cW : ClassId) (hG : fy_G s0 D cI cZ cJ cW) (mo m1 m2 m3 m4 m5 m6 m7 m8 : Nat) (cd : Int32) (N C : Nat) (L : List Nat) (nu : Nat → Int32) (o : Option Nat) (hnu : fm_num L nu) (hd : L.Nodup) (hl80 : L.length ≤ 80) (hb5 : ∀ n ∈ L, n < 512) (ho : fm_lt o 512) : fy_Met l s0 D vwCl y_Mo_find w_Mo_find (fy_rm 0) 0 0 [.ref mo, .int (fm_o o)] [(mo, .inr (5, [.int cd, .int (nI N), .int (nI C), .int (nI L.length), .ref m1, .ref m2, .ref m3, .ref m4, .ref m5, .ref m6, .ref m7, .ref m8])), (m1, .inl (cI, 80, .inl nu))] (fun r w1 => ∃ a : Option Nat, fm_is L L.length o a ∧ r = some (.int (fm_o a)) ∧ w1 = [(mo, .inr (5, [.int cd, .int (nI N), .int (nI C), .int (nI L.length), .ref m1, .ref m2, .ref m3, .ref m4, .ref m5, .ref m6, .ref m7, .ref m8])), (m1, .inl (cI, 80, .inl nu))]) := by
  refine fy_st (bytes := b_Mo_find) (maxL := 4) (ret := some .int) hG (by decide) rfl (Nat.le_of_ble_eq_true rfl) ?_
  intro p e s m below meth c A ls hx hb hr hlocks hml hown hts hK hLa hAe hAB hA hl hP hD hS
  have hl : lv_has ls 4 [(0, .ref mo), (1, .int (fm_o o))] := hl
  refine lv_iconst (v := -1) hx hb d_Mo_find_0 (by decide) ?_
  refine lv_istore_n hx hb d_Mo_find_1 rfl hl (by decide) rfl (fun ls hl => ?_)
  have hl : lv_has ls 4 [(2, .int (-1)), (0, .ref mo), (1, .int (fm_o o))] := hl
  refine lv_iconst (v := nI 0) hx hb d_Mo_find_2 (by decide) ?_
  refine lv_istore_n hx hb d_Mo_find_3 rfl hl (by decide) rfl (fun ls hl => ?_)
  have hl : lv_has ls 4 [(3, .int (nI 0)), (2, .int (-1)), (0, .ref mo), (1, .int (fm_o o))] := hl
  refine fy_loop (σ := Nat × Option Nat) (fun mz zz ls H locs => match zz with | (i, a) => mz = L.length - i ∧ (i ≤ L.length) ∧ (fm_is L i o a) ∧ lv_has ls 4 [(3, .int (nI i)), (2, .int (fm_o a)), (0, .ref mo), (1, .int (fm_o o))] ∧ va_P D vwCl [(mo, .inr (5, [.int cd, .int (nI N), .int (nI C), .int (nI L.length), .ref m1, .ref m2, .ref m3, .ref m4, .ref m5, .ref m6, .ref m7, .ref m8])), (m1, .inl (cI, 80, .inl nu))] H ∧ va_D A [(mo, .inr (5, [.int cd, .int (nI N), .int (nI C), .int (nI L.length), .ref m1, .ref m2, .ref m3, .ref m4, .ref m5, .ref m6, .ref m7, .ref m8])), (m1, .inl (cI, 80, .inl nu))] ∧ va_S A s.heap H locs) ?_ _ (0, none) ⟨rfl, Nat.zero_le _, fm_is_0, hl, hP, hD, hS⟩
  rintro mz ⟨i, a⟩ ls H locs ⟨hmz, hi, ha, hl, hP, hD, hS⟩ ih
  have hmz : mz = L.length - i := hmz
  have hi : i ≤ L.length := hi
  have ha : fm_is L i o a := ha
  have hl : lv_has ls 4 [(3, .int (nI i)), (2, .int (fm_o a)), (0, .ref mo), (1, .int (fm_o o))] := hl
  have hP : va_P D vwCl [(mo, .inr (5, [.int cd, .int (nI N), .int (nI C), .int (nI L.length), .ref m1, .ref m2, .ref m3, .ref m4, .ref m5, .ref m6, .ref m7, .ref m8])), (m1, .inl (cI, 80, .inl nu))] H := hP
  have hD : va_D A [(mo, .inr (5, [.int cd, .int (nI N), .int (nI C), .int (nI L.length), .ref m1, .ref m2, .ref m3, .ref m4, .ref m5, .ref m6, .ref m7, .ref m8])), (m1, .inl (cI, 80, .inl nu))] := hD
  refine lv_iload_n hx hb d_Mo_find_4 rfl (lv_at hl 0 rfl) ?_
  refine lv_aload_n hx hb d_Mo_find_5 rfl (lv_at hl 2 rfl) ?_
  refine va_get (D := D) (ci := 5) (v := .int (nI L.length)) (C := R_Mo) (T := F_Mo) (N := 12) hx hb hts i_Mo hown hK hP 0 rfl rfl 3 (by decide) (hts _ k_f_Mo_39) (fun _ h9 => h9) rfl d_Mo_find_6 ?_
  refine lv_icmp_ge hx hb d_Mo_find_9 (tgt := 34) (by decide) (fun hc => ?_) (fun hc => ?_)
  · have hc : i = L.length := by have := (nI_leI (by omega) (by omega)).mp hc; omega
    refine lv_iload_n hx hb d_Mo_find_34 rfl (lv_at hl 1 rfl) ?_
    exact fy_reti hx hb hr hlocks hAe (⟨a, hc ▸ ha, rfl, rfl⟩) (List.Perm.refl _) hP hS d_Mo_find_35
  · have hc : i < L.length := by have := mt (nI_leI (a := L.length) (b := i) (by omega) (by omega)).mpr hc; omega
    obtain ⟨n, hn⟩ : ∃ n, L[i]? = some n := ⟨L[i], List.getElem?_eq_getElem hc⟩
    have hn5 := hb5 n (List.mem_of_getElem? hn)
    refine lv_aload_n hx hb d_Mo_find_12 rfl (lv_at hl 2 rfl) ?_
    refine va_get (D := D) (ci := 5) (v := .ref m1) (C := R_Mo) (T := F_Mo) (N := 12) hx hb hts i_Mo hown hK hP 0 rfl rfl 4 (by decide) (hts _ k_f_Mo_7) (fun _ h9 => h9) rfl d_Mo_find_13 ?_
    refine lv_iload_n hx hb d_Mo_find_16 rfl (lv_at hl 0 rfl) ?_
    refine fy_iald (t0 := 0) (v := nI n) hx hb hK hP 1 rfl rfl (by omega) (by omega) (hnu i n hn) d_Mo_find_17 ?_
    refine lv_iload_n hx hb d_Mo_find_18 rfl (lv_at hl 3 rfl) ?_
    refine lv_icmp_ne hx hb d_Mo_find_19 (tgt := 26) (by decide) (fun hc2 => ?_) (fun hc2 => ?_)
    · have hc2 : ¬ o = some n := fun h => hc2 (by rw [h]; rfl)
      refine lv_iload_n hx hb d_Mo_find_26 rfl (lv_at hl 1 rfl) ?_
      refine lv_istore_n hx hb d_Mo_find_27 rfl hl (by decide) rfl (fun ls hl => ?_)
      have hl : lv_has ls 4 [(2, .int (fm_o a)), (3, .int (nI i)), (0, .ref mo), (1, .int (fm_o o))] := hl
      refine lv_iinc (v := nI (i + 1)) hx hb d_Mo_find_28 hl (k := 1) rfl (by rw [show Int32.ofInt 1 = nI 1 from by decide]; exact nI_add _ _) (by decide) rfl (fun ls hl => ?_)
      have hl : lv_has ls 4 [(3, .int (nI (i + 1))), (2, .int (fm_o a)), (0, .ref mo), (1, .int (fm_o o))] := hl
      refine lv_goto hx hb d_Mo_find_31 (tgt := 4) (by decide) ?_
      have hl : lv_has ls 4 [(3, .int (nI (i + 1))), (2, .int (fm_o a)), (0, .ref mo), (1, .int (fm_o o))] := lv_sub hl [0, 1, 2, 3] rfl
      exact ih _ (i + 1, a) _ _ _ (by omega) ⟨rfl, hc, fm_is_n ha hn hc2, hl, hP, hD, hS⟩
    · have hc2 : some n = o := (fm_o_inj (fun m hm => by cases hm; omega) (ho.mono (by omega))).mp hc2
      refine lv_iload_n hx hb d_Mo_find_22 rfl (lv_at hl 0 rfl) ?_
      refine lv_goto hx hb d_Mo_find_23 (tgt := 27) (by decide) ?_
      refine lv_istore_n hx hb d_Mo_find_27 rfl hl (by decide) rfl (fun ls hl => ?_)
      have hl : lv_has ls 4 [(2, .int (nI i)), (3, .int (nI i)), (0, .ref mo), (1, .int (fm_o o))] := hl
      refine lv_iinc (v := nI (i + 1)) hx hb d_Mo_find_28 hl (k := 1) rfl (by rw [show Int32.ofInt 1 = nI 1 from by decide]; exact nI_add _ _) (by decide) rfl (fun ls hl => ?_)
      have hl : lv_has ls 4 [(3, .int (nI (i + 1))), (2, .int (nI i)), (0, .ref mo), (1, .int (fm_o o))] := hl
      refine lv_goto hx hb d_Mo_find_31 (tgt := 4) (by decide) ?_
      have hl : lv_has ls 4 [(3, .int (nI (i + 1))), (2, .int (nI i)), (0, .ref mo), (1, .int (fm_o o))] := lv_sub hl [0, 1, 2, 3] rfl
      exact ih _ (i + 1, some i) _ _ _ (by omega) ⟨rfl, hc, fm_is_y ha hn hc2.symm hd, hl, hP, hD, hS⟩
set_option maxRecDepth 20000 in
set_option maxHeartbeats 4000000 in
theorem c_Mo_words (l : Launch) (s0 : State) (D : va_G) (cI cZ cJ cW : ClassId) (hG : fy_G s0 D cI cZ cJ cW) (mo m1 m2 m3 m4 m5 m6 m7 m8 : Nat) (cd : Int32) (N C : Nat) (L : List Nat) (nf : Nat → Nat) (fi : Nat → Int32) (hfi : ∀ k n, L[k]? = some n → fi k = nI (nf n)) (hl80 : L.length ≤ 80) : fy_Met l s0 D vwCl y_Mo_words w_Mo_words (fy_rm 0) 0 0 [.ref mo] [(mo, .inr (5, [.int cd, .int (nI N), .int (nI C), .int (nI L.length), .ref m1, .ref m2, .ref m3, .ref m4, .ref m5, .ref m6, .ref m7, .ref m8])), (m4, .inl (cI, 80, .inl fi))] (fun r w1 => r = some (.int (nI (fm_w nf L))) ∧ w1 = [(mo, .inr (5, [.int cd, .int (nI N), .int (nI C), .int (nI L.length), .ref m1, .ref m2, .ref m3, .ref m4, .ref m5, .ref m6, .ref m7, .ref m8])), (m4, .inl (cI, 80, .inl fi))]) := by
  refine fy_st (bytes := b_Mo_words) (maxL := 3) (ret := some .int) hG (by decide) rfl (Nat.le_of_ble_eq_true rfl) ?_
  intro p e s m below meth c A ls hx hb hr hlocks hml hown hts hK hLa hAe hAB hA hl hP hD hS
  have hl : lv_has ls 3 [(0, .ref mo)] := hl
  refine lv_iconst (v := nI 0) hx hb d_Mo_words_0 (by decide) ?_
  refine lv_istore_n hx hb d_Mo_words_1 rfl hl (by decide) rfl (fun ls hl => ?_)
  have hl : lv_has ls 3 [(1, .int (nI 0)), (0, .ref mo)] := hl
  refine lv_iconst (v := nI 0) hx hb d_Mo_words_2 (by decide) ?_
  refine lv_istore_n hx hb d_Mo_words_3 rfl hl (by decide) rfl (fun ls hl => ?_)
  have hl : lv_has ls 3 [(2, .int (nI 0)), (1, .int (nI 0)), (0, .ref mo)] := hl
  refine fy_loop (σ := Nat) (fun mz zz ls H locs => match zz with | i => mz = L.length - i ∧ (i ≤ L.length) ∧ lv_has ls 3 [(2, .int (nI i)), (1, .int (nI (fm_w nf (L.take i)))), (0, .ref mo)] ∧ va_P D vwCl [(mo, .inr (5, [.int cd, .int (nI N), .int (nI C), .int (nI L.length), .ref m1, .ref m2, .ref m3, .ref m4, .ref m5, .ref m6, .ref m7, .ref m8])), (m4, .inl (cI, 80, .inl fi))] H ∧ va_D A [(mo, .inr (5, [.int cd, .int (nI N), .int (nI C), .int (nI L.length), .ref m1, .ref m2, .ref m3, .ref m4, .ref m5, .ref m6, .ref m7, .ref m8])), (m4, .inl (cI, 80, .inl fi))] ∧ va_S A s.heap H locs) ?_ _ 0 ⟨rfl, Nat.zero_le _, hl, hP, hD, hS⟩
  rintro mz i ls H locs ⟨hmz, hi, hl, hP, hD, hS⟩ ih
  have hmz : mz = L.length - i := hmz
  have hi : i ≤ L.length := hi
  have hl : lv_has ls 3 [(2, .int (nI i)), (1, .int (nI (fm_w nf (L.take i)))), (0, .ref mo)] := hl
  have hP : va_P D vwCl [(mo, .inr (5, [.int cd, .int (nI N), .int (nI C), .int (nI L.length), .ref m1, .ref m2, .ref m3, .ref m4, .ref m5, .ref m6, .ref m7, .ref m8])), (m4, .inl (cI, 80, .inl fi))] H := hP
  have hD : va_D A [(mo, .inr (5, [.int cd, .int (nI N), .int (nI C), .int (nI L.length), .ref m1, .ref m2, .ref m3, .ref m4, .ref m5, .ref m6, .ref m7, .ref m8])), (m4, .inl (cI, 80, .inl fi))] := hD
  refine lv_iload_n hx hb d_Mo_words_4 rfl (lv_at hl 0 rfl) ?_
  refine lv_aload_n hx hb d_Mo_words_5 rfl (lv_at hl 2 rfl) ?_
  refine va_get (D := D) (ci := 5) (v := .int (nI L.length)) (C := R_Mo) (T := F_Mo) (N := 12) hx hb hts i_Mo hown hK hP 0 rfl rfl 3 (by decide) (hts _ k_f_Mo_39) (fun _ h9 => h9) rfl d_Mo_words_6 ?_
  refine lv_icmp_ge hx hb d_Mo_words_9 (tgt := 29) (by decide) (fun hc => ?_) (fun hc => ?_)
  · have hc : i = L.length := by have := (nI_leI (by omega) (by omega)).mp hc; omega
    refine lv_iload_n hx hb d_Mo_words_29 rfl (lv_at hl 1 rfl) ?_
    refine fy_top (z := nI (fm_w nf L)) (by rw [hc, List.take_length]) ?_
    exact fy_reti hx hb hr hlocks hAe (⟨rfl, rfl⟩) (List.Perm.refl _) hP hS d_Mo_words_30
  · have hc : i < L.length := by have := mt (nI_leI (a := L.length) (b := i) (by omega) (by omega)).mpr hc; omega
    obtain ⟨n, hn⟩ : ∃ n, L[i]? = some n := ⟨L[i], List.getElem?_eq_getElem hc⟩
    refine lv_iload_n hx hb d_Mo_words_12 rfl (lv_at hl 1 rfl) ?_
    refine lv_aload_n hx hb d_Mo_words_13 rfl (lv_at hl 2 rfl) ?_
    refine va_get (D := D) (ci := 5) (v := .ref m4) (C := R_Mo) (T := F_Mo) (N := 12) hx hb hts i_Mo hown hK hP 0 rfl rfl 7 (by decide) (hts _ k_f_Mo_19) (fun _ h9 => h9) rfl d_Mo_words_14 ?_
    refine lv_iload_n hx hb d_Mo_words_17 rfl (lv_at hl 0 rfl) ?_
    refine fy_iald (t0 := 0) (v := nI (nf n)) hx hb hK hP 1 rfl rfl (by omega) (by omega) (hfi i n hn) d_Mo_words_18 ?_
    refine lv_iconst (v := nI 3) hx hb d_Mo_words_19 (by decide) ?_
    refine lv_iadd hx hb d_Mo_words_20 ?_
    refine fy_top (z := nI ((nf n) + 3)) (nI_add _ _) ?_
    refine lv_iadd hx hb d_Mo_words_21 ?_
    refine fy_top (z := nI (fm_w nf (L.take (i + 1)))) (by rw [fm_w_take hn]; exact nI_add _ _) ?_
    refine lv_istore_n hx hb d_Mo_words_22 rfl hl (by decide) rfl (fun ls hl => ?_)
    have hl : lv_has ls 3 [(1, .int (nI (fm_w nf (L.take (i + 1))))), (2, .int (nI i)), (0, .ref mo)] := hl
    refine lv_iinc (v := nI (i + 1)) hx hb d_Mo_words_23 hl (k := 1) rfl (by rw [show Int32.ofInt 1 = nI 1 from by decide]; exact nI_add _ _) (by decide) rfl (fun ls hl => ?_)
    have hl : lv_has ls 3 [(2, .int (nI (i + 1))), (1, .int (nI (fm_w nf (L.take (i + 1))))), (0, .ref mo)] := hl
    refine lv_goto hx hb d_Mo_words_26 (tgt := 4) (by decide) ?_
    have hl : lv_has ls 3 [(2, .int (nI (i + 1))), (1, .int (nI (fm_w nf (L.take (i + 1))))), (0, .ref mo)] := lv_sub hl [0, 1, 2] rfl
    exact ih _ (i + 1) _ _ _ (by omega) ⟨rfl, hc, hl, hP, hD, hS⟩
set_option maxRecDepth 20000 in
set_option maxHeartbeats 4000000 in
theorem c_Mo_forget (l : Launch) (s0 : State) (D : va_G) (cI cZ cJ cW : ClassId) (hG : fy_G s0 D cI cZ cJ cW) (mo m1 m2 m3 m4 m5 m6 m7 m8 : Nat) (cd : Int32) (N C : Nat) (L : List Nat) (mk : Nat → Int32) (hl80 : L.length ≤ 80) : fy_Met l s0 D vwCl y_Mo_forget w_Mo_forget (fy_rm 0) 0 0 [.ref mo] [(mo, .inr (5, [.int cd, .int (nI N), .int (nI C), .int (nI L.length), .ref m1, .ref m2, .ref m3, .ref m4, .ref m5, .ref m6, .ref m7, .ref m8])), (m6, .inl (cZ, 80, .inl mk))] (fun r w1 => r = none ∧ ∃ mk2 : Nat → Int32, fm_mk L [] mk2 ∧ w1 = [(mo, .inr (5, [.int cd, .int (nI N), .int (nI C), .int (nI L.length), .ref m1, .ref m2, .ref m3, .ref m4, .ref m5, .ref m6, .ref m7, .ref m8])), (m6, .inl (cZ, 80, .inl mk2))]) := by
  refine fy_st (bytes := b_Mo_forget) (maxL := 2) (ret := none) hG (by decide) rfl (Nat.le_of_ble_eq_true rfl) ?_
  intro p e s m below meth c A ls hx hb hr hlocks hml hown hts hK hLa hAe hAB hA hl hP hD hS
  have hl : lv_has ls 2 [(0, .ref mo)] := hl
  refine lv_iconst (v := nI 0) hx hb d_Mo_forget_0 (by decide) ?_
  refine lv_istore_n hx hb d_Mo_forget_1 rfl hl (by decide) rfl (fun ls hl => ?_)
  have hl : lv_has ls 2 [(1, .int (nI 0)), (0, .ref mo)] := hl
  refine fy_loop (σ := Nat × (Nat → Int32)) (fun mz zz ls H locs => match zz with | (i, mk) => mz = L.length - i ∧ (i ≤ L.length) ∧ (∀ k, k < i → mk k = 0) ∧ lv_has ls 2 [(1, .int (nI i)), (0, .ref mo)] ∧ va_P D vwCl [(mo, .inr (5, [.int cd, .int (nI N), .int (nI C), .int (nI L.length), .ref m1, .ref m2, .ref m3, .ref m4, .ref m5, .ref m6, .ref m7, .ref m8])), (m6, .inl (cZ, 80, .inl mk))] H ∧ va_D A [(mo, .inr (5, [.int cd, .int (nI N), .int (nI C), .int (nI L.length), .ref m1, .ref m2, .ref m3, .ref m4, .ref m5, .ref m6, .ref m7, .ref m8])), (m6, .inl (cZ, 80, .inl mk))] ∧ va_S A s.heap H locs) ?_ _ (0, mk) ⟨rfl, Nat.zero_le _, fun k hk => absurd hk (Nat.not_lt_zero k), hl, hP, hD, hS⟩
  rintro mz ⟨i, mk⟩ ls H locs ⟨hmz, hi, hz, hl, hP, hD, hS⟩ ih
  have hmz : mz = L.length - i := hmz
  have hi : i ≤ L.length := hi
  have hz : ∀ k, k < i → mk k = 0 := hz
  have hl : lv_has ls 2 [(1, .int (nI i)), (0, .ref mo)] := hl
  have hP : va_P D vwCl [(mo, .inr (5, [.int cd, .int (nI N), .int (nI C), .int (nI L.length), .ref m1, .ref m2, .ref m3, .ref m4, .ref m5, .ref m6, .ref m7, .ref m8])), (m6, .inl (cZ, 80, .inl mk))] H := hP
  have hD : va_D A [(mo, .inr (5, [.int cd, .int (nI N), .int (nI C), .int (nI L.length), .ref m1, .ref m2, .ref m3, .ref m4, .ref m5, .ref m6, .ref m7, .ref m8])), (m6, .inl (cZ, 80, .inl mk))] := hD
  refine lv_iload_n hx hb d_Mo_forget_2 rfl (lv_at hl 0 rfl) ?_
  refine lv_aload_n hx hb d_Mo_forget_3 rfl (lv_at hl 1 rfl) ?_
  refine va_get (D := D) (ci := 5) (v := .int (nI L.length)) (C := R_Mo) (T := F_Mo) (N := 12) hx hb hts i_Mo hown hK hP 0 rfl rfl 3 (by decide) (hts _ k_f_Mo_39) (fun _ h9 => h9) rfl d_Mo_forget_4 ?_
  refine lv_icmp_ge hx hb d_Mo_forget_7 (tgt := 23) (by decide) (fun hc => ?_) (fun hc => ?_)
  · have hc : i = L.length := by have := (nI_leI (by omega) (by omega)).mp hc; omega
    exact fy_retv hx hb hr hlocks hAe (⟨rfl, mk, fm_mk_nil (fun k hk => hz k (by omega)), rfl⟩) (List.Perm.refl _) hP hS d_Mo_forget_23
  · have hc : i < L.length := by have := mt (nI_leI (a := L.length) (b := i) (by omega) (by omega)).mpr hc; omega
    refine lv_aload_n hx hb d_Mo_forget_10 rfl (lv_at hl 1 rfl) ?_
    refine va_get (D := D) (ci := 5) (v := .ref m6) (C := R_Mo) (T := F_Mo) (N := 12) hx hb hts i_Mo hown hK hP 0 rfl rfl 9 (by decide) (hts _ k_f_Mo_25) (fun _ h9 => h9) rfl d_Mo_forget_11 ?_
    refine lv_iload_n hx hb d_Mo_forget_14 rfl (lv_at hl 0 rfl) ?_
    refine lv_iconst (v := nI 0) hx hb d_Mo_forget_15 (by decide) ?_
    refine fy_zast (t0 := 1) (g := upd mk i (nI 0)) hx hb hK hP hD hS 1 rfl rfl (by omega) (by omega) (by first | exact Or.inl rfl | exact Or.inr rfl) (rfl) d_Mo_forget_16 (fun H locs hP hD hS => ?_)
    have hP : va_P D vwCl [(mo, .inr (5, [.int cd, .int (nI N), .int (nI C), .int (nI L.length), .ref m1, .ref m2, .ref m3, .ref m4, .ref m5, .ref m6, .ref m7, .ref m8])), (m6, .inl (cZ, 80, .inl (upd mk i (nI 0))))] H := hP
    have hD : va_D A [(mo, .inr (5, [.int cd, .int (nI N), .int (nI C), .int (nI L.length), .ref m1, .ref m2, .ref m3, .ref m4, .ref m5, .ref m6, .ref m7, .ref m8])), (m6, .inl (cZ, 80, .inl (upd mk i (nI 0))))] := hD
    refine lv_iinc (v := nI (i + 1)) hx hb d_Mo_forget_17 hl (k := 0) rfl (by rw [show Int32.ofInt 1 = nI 1 from by decide]; exact nI_add _ _) (by decide) rfl (fun ls hl => ?_)
    have hl : lv_has ls 2 [(1, .int (nI (i + 1))), (0, .ref mo)] := hl
    refine lv_goto hx hb d_Mo_forget_20 (tgt := 2) (by decide) ?_
    have hl : lv_has ls 2 [(1, .int (nI (i + 1))), (0, .ref mo)] := lv_sub hl [0, 1] rfl
    exact ih _ (i + 1, upd mk i (nI 0)) _ _ _ (by omega) ⟨rfl, hc, fun k hk => by by_cases e : k = i; (subst e; exact fm_upd_self); (rw [fm_upd_ne e]; exact hz k (by omega)), hl, hP, hD, hS⟩
set_option maxRecDepth 20000 in
set_option maxHeartbeats 4000000 in
theorem c_Mo_begin (l : Launch) (s0 : State) (D : va_G) (cI cZ cJ cW : ClassId) (hG : fy_G s0 D cI cZ cJ cW) (mo m1 m2 m3 m4 m5 m6 m7 m8 : Nat) (cd : Int32) (N C : Nat) (L : List Nat) (nu : Nat → Int32) (o : Option Nat) (hnu : fm_num L nu) (hd : L.Nodup) (hl80 : L.length ≤ 80) (hb5 : ∀ n ∈ L, n < 512) (X : List Nat) (mk : Nat → Int32) (ho : ∀ n, o = some n → n ∈ L) (hmk : fm_mk L X mk) : fy_Met l s0 D vwCl y_Mo_begin w_Mo_begin (fy_rm 1) 0 0 [.ref mo, .int (fm_o o)] [(mo, .inr (5, [.int cd, .int (nI N), .int (nI C), .int (nI L.length), .ref m1, .ref m2, .ref m3, .ref m4, .ref m5, .ref m6, .ref m7, .ref m8])), (m1, .inl (cI, 80, .inl nu)), (m6, .inl (cZ, 80, .inl mk))] (fun r w1 => r = none ∧ ∃ mk2 : Nat → Int32, fm_mk L (fm_add X o) mk2 ∧ w1 = [(mo, .inr (5, [.int cd, .int (nI N), .int (nI C), .int (nI L.length), .ref m1, .ref m2, .ref m3, .ref m4, .ref m5, .ref m6, .ref m7, .ref m8])), (m1, .inl (cI, 80, .inl nu)), (m6, .inl (cZ, 80, .inl mk2))]) := by
  refine fy_st (bytes := b_Mo_begin) (maxL := 3) (ret := none) hG (by decide) rfl (Nat.le_of_ble_eq_true rfl) ?_
  intro p e s m below meth c A ls hx hb hr hlocks hml hown hts hK hLa hAe hAB hA hl hP hD hS
  have hl : lv_has ls 3 [(0, .ref mo), (1, .int (fm_o o))] := hl
  refine lv_aload_n hx hb d_Mo_begin_0 rfl (lv_at hl 0 rfl) ?_
  refine lv_iload_n hx hb d_Mo_begin_1 rfl (lv_at hl 1 rfl) ?_
  refine fy_callV (As := [.int (fm_o o)]) (rest := []) ⟨hx, hb, hml, hown, hts⟩ (c_Mo_find l s0 D cI cZ cJ cW hG mo m1 m2 m3 m4 m5 m6 m7 m8 cd N C L nu o hnu hd hl80 hb5 (fun n hn => hb5 n (ho n hn))) (cwV 1 hts g_Mo_53 rfl rfl rfl (by decide +kernel) ⟨Nat.le_of_ble_eq_true rfl, Nat.le_of_ble_eq_true rfl⟩) hK hLa hAB hA hP hD hS [0, 1] rfl rfl (ci := 5) rfl rfl (q0 := 0) rfl rfl hl.1 rfl (Nat.le_of_ble_eq_true rfl) d_Mo_begin_2 ⟨Nat.zero_le _, Nat.zero_le _⟩ (fun r w1 H locs hp hP hD hS => ?_)
  obtain ⟨a, ha, rfl, rfl⟩ := hp
  have hP : va_P D vwCl [(mo, .inr (5, [.int cd, .int (nI N), .int (nI C), .int (nI L.length), .ref m1, .ref m2, .ref m3, .ref m4, .ref m5, .ref m6, .ref m7, .ref m8])), (m1, .inl (cI, 80, .inl nu)), (m6, .inl (cZ, 80, .inl mk))] H := hP
  have hD : va_D A [(mo, .inr (5, [.int cd, .int (nI N), .int (nI C), .int (nI L.length), .ref m1, .ref m2, .ref m3, .ref m4, .ref m5, .ref m6, .ref m7, .ref m8])), (m1, .inl (cI, 80, .inl nu)), (m6, .inl (cZ, 80, .inl mk))] := hD
  refine lv_istore_n hx hb d_Mo_begin_5 rfl hl (by decide) rfl (fun ls hl => ?_)
  have hl : lv_has ls 3 [(2, .int (fm_o a)), (0, .ref mo), (1, .int (fm_o o))] := hl
  refine lv_iload_n hx hb d_Mo_begin_6 rfl (lv_at hl 0 rfl) ?_
  cases a with
  | none =>
    have ho2 : o = none := by cases o with | none => rfl | some n => exact absurd (ho n rfl) (fm_is_none ha n rfl)
    subst ho2
    refine lv_if_lt hx hb d_Mo_begin_7 (tgt := 17) (by decide) (fun _ => ?_) (fun h => absurd (by decide) h)
    exact fy_retv hx hb hr hlocks hAe (⟨rfl, mk, by rw [fm_add_none]; exact hmk, rfl⟩) (List.Perm.refl _) hP hS d_Mo_begin_17
  | some k =>
    obtain ⟨n, hn, rfl⟩ := fm_is_some ha
    have hk := fm_is_lt ha
    have hl : lv_has ls 3 [(2, .int (nI k)), (0, .ref mo), (1, .int (fm_o (some n)))] := hl
    refine lv_if_lt hx hb d_Mo_begin_7 (tgt := 17) (by decide) (fun h => absurd h (nI_pos (by omega))) (fun _ => ?_)
    refine lv_aload_n hx hb d_Mo_begin_10 rfl (lv_at hl 1 rfl) ?_
    refine va_get (D := D) (ci := 5) (v := .ref m6) (C := R_Mo) (T := F_Mo) (N := 12) hx hb hts i_Mo hown hK hP 0 rfl rfl 9 (by decide) (hts _ k_f_Mo_25) (fun _ h9 => h9) rfl d_Mo_begin_11 ?_
    refine lv_iload_n hx hb d_Mo_begin_14 rfl (lv_at hl 0 rfl) ?_
    refine lv_iconst (v := nI 1) hx hb d_Mo_begin_15 (by decide) ?_
    refine fy_zast (t0 := 1) (g := upd mk k (nI 1)) hx hb hK hP hD hS 2 rfl rfl (by omega) (by omega) (by first | exact Or.inl rfl | exact Or.inr rfl) (rfl) d_Mo_begin_16 (fun H locs hP hD hS => ?_)
    have hP : va_P D vwCl [(mo, .inr (5, [.int cd, .int (nI N), .int (nI C), .int (nI L.length), .ref m1, .ref m2, .ref m3, .ref m4, .ref m5, .ref m6, .ref m7, .ref m8])), (m1, .inl (cI, 80, .inl nu)), (m6, .inl (cZ, 80, .inl (upd mk k (nI 1))))] H := hP
    have hD : va_D A [(mo, .inr (5, [.int cd, .int (nI N), .int (nI C), .int (nI L.length), .ref m1, .ref m2, .ref m3, .ref m4, .ref m5, .ref m6, .ref m7, .ref m8])), (m1, .inl (cI, 80, .inl nu)), (m6, .inl (cZ, 80, .inl (upd mk k (nI 1))))] := hD
    exact fy_retv hx hb hr hlocks hAe (⟨rfl, _, fm_mk_add hmk hd hn, rfl⟩) (List.Perm.refl _) hP hS d_Mo_begin_17
set_option maxRecDepth 20000 in
set_option maxHeartbeats 4000000 in
theorem c_Mo_marked (l : Launch) (s0 : State) (D : va_G) (cI cZ cJ cW : ClassId) (hG : fy_G s0 D cI cZ cJ cW) (mo m1 m2 m3 m4 m5 m6 m7 m8 : Nat) (cd : Int32) (N C : Nat) (L : List Nat) (X : List Nat) (mk : Nat → Int32) (hl80 : L.length ≤ 80) (hmk : fm_mk L X mk) : fy_Met l s0 D vwCl y_Mo_marked w_Mo_marked (fy_rm 0) 0 0 [.ref mo] [(mo, .inr (5, [.int cd, .int (nI N), .int (nI C), .int (nI L.length), .ref m1, .ref m2, .ref m3, .ref m4, .ref m5, .ref m6, .ref m7, .ref m8])), (m6, .inl (cZ, 80, .inl mk))] (fun r w1 => r = some (.int (nI (fm_kp L X L.length).length)) ∧ w1 = [(mo, .inr (5, [.int cd, .int (nI N), .int (nI C), .int (nI L.length), .ref m1, .ref m2, .ref m3, .ref m4, .ref m5, .ref m6, .ref m7, .ref m8])), (m6, .inl (cZ, 80, .inl mk))]) := by
  refine fy_st (bytes := b_Mo_marked) (maxL := 3) (ret := some .int) hG (by decide) rfl (Nat.le_of_ble_eq_true rfl) ?_
  intro p e s m below meth c A ls hx hb hr hlocks hml hown hts hK hLa hAe hAB hA hl hP hD hS
  have hl : lv_has ls 3 [(0, .ref mo)] := hl
  refine lv_iconst (v := nI 0) hx hb d_Mo_marked_0 (by decide) ?_
  refine lv_istore_n hx hb d_Mo_marked_1 rfl hl (by decide) rfl (fun ls hl => ?_)
  have hl : lv_has ls 3 [(1, .int (nI 0)), (0, .ref mo)] := hl
  refine lv_iconst (v := nI 0) hx hb d_Mo_marked_2 (by decide) ?_
  refine lv_istore_n hx hb d_Mo_marked_3 rfl hl (by decide) rfl (fun ls hl => ?_)
  have hl : lv_has ls 3 [(2, .int (nI 0)), (1, .int (nI 0)), (0, .ref mo)] := hl
  refine fy_loop (σ := Nat) (fun mz zz ls H locs => match zz with | i => mz = L.length - i ∧ (i ≤ L.length) ∧ lv_has ls 3 [(2, .int (nI i)), (1, .int (nI ((fm_kp L X i).length))), (0, .ref mo)] ∧ va_P D vwCl [(mo, .inr (5, [.int cd, .int (nI N), .int (nI C), .int (nI L.length), .ref m1, .ref m2, .ref m3, .ref m4, .ref m5, .ref m6, .ref m7, .ref m8])), (m6, .inl (cZ, 80, .inl mk))] H ∧ va_D A [(mo, .inr (5, [.int cd, .int (nI N), .int (nI C), .int (nI L.length), .ref m1, .ref m2, .ref m3, .ref m4, .ref m5, .ref m6, .ref m7, .ref m8])), (m6, .inl (cZ, 80, .inl mk))] ∧ va_S A s.heap H locs) ?_ _ 0 ⟨rfl, Nat.zero_le _, hl, hP, hD, hS⟩
  rintro mz i ls H locs ⟨hmz, hi, hl, hP, hD, hS⟩ ih
  have hmz : mz = L.length - i := hmz
  have hi : i ≤ L.length := hi
  have hl : lv_has ls 3 [(2, .int (nI i)), (1, .int (nI ((fm_kp L X i).length))), (0, .ref mo)] := hl
  have hP : va_P D vwCl [(mo, .inr (5, [.int cd, .int (nI N), .int (nI C), .int (nI L.length), .ref m1, .ref m2, .ref m3, .ref m4, .ref m5, .ref m6, .ref m7, .ref m8])), (m6, .inl (cZ, 80, .inl mk))] H := hP
  have hD : va_D A [(mo, .inr (5, [.int cd, .int (nI N), .int (nI C), .int (nI L.length), .ref m1, .ref m2, .ref m3, .ref m4, .ref m5, .ref m6, .ref m7, .ref m8])), (m6, .inl (cZ, 80, .inl mk))] := hD
  refine lv_iload_n hx hb d_Mo_marked_4 rfl (lv_at hl 0 rfl) ?_
  refine lv_aload_n hx hb d_Mo_marked_5 rfl (lv_at hl 2 rfl) ?_
  refine va_get (D := D) (ci := 5) (v := .int (nI L.length)) (C := R_Mo) (T := F_Mo) (N := 12) hx hb hts i_Mo hown hK hP 0 rfl rfl 3 (by decide) (hts _ k_f_Mo_39) (fun _ h9 => h9) rfl d_Mo_marked_6 ?_
  refine lv_icmp_ge hx hb d_Mo_marked_9 (tgt := 35) (by decide) (fun hc => ?_) (fun hc => ?_)
  · have hc : i = L.length := by have := (nI_leI (by omega) (by omega)).mp hc; omega
    refine lv_iload_n hx hb d_Mo_marked_35 rfl (lv_at hl 1 rfl) ?_
    refine fy_top (z := nI ((fm_kp L X L.length).length)) (by rw [hc]) ?_
    exact fy_reti hx hb hr hlocks hAe (⟨rfl, rfl⟩) (List.Perm.refl _) hP hS d_Mo_marked_36
  · have hc : i < L.length := by have := mt (nI_leI (a := L.length) (b := i) (by omega) (by omega)).mpr hc; omega
    obtain ⟨n, hn⟩ : ∃ n, L[i]? = some n := ⟨L[i], List.getElem?_eq_getElem hc⟩
    by_cases hm : n ∈ X
    · refine lv_iload_n hx hb d_Mo_marked_12 rfl (lv_at hl 1 rfl) ?_
      refine lv_aload_n hx hb d_Mo_marked_13 rfl (lv_at hl 2 rfl) ?_
      refine va_get (D := D) (ci := 5) (v := .ref m6) (C := R_Mo) (T := F_Mo) (N := 12) hx hb hts i_Mo hown hK hP 0 rfl rfl 9 (by decide) (hts _ k_f_Mo_25) (fun _ h9 => h9) rfl d_Mo_marked_14 ?_
      refine lv_iload_n hx hb d_Mo_marked_17 rfl (lv_at hl 0 rfl) ?_
      refine fy_zald (t0 := 1) (v := nI 1) hx hb hK hP 1 rfl rfl (by omega) (by omega) (by rw [hmk i n hn, if_pos hm]; rfl) d_Mo_marked_18 ?_
      refine lv_if_eq hx hb d_Mo_marked_19 (tgt := 26) (by decide) (fun h => absurd h (by decide)) (fun _ => ?_)
      refine lv_iconst (v := nI 1) hx hb d_Mo_marked_22 (by decide) ?_
      refine lv_goto hx hb d_Mo_marked_23 (tgt := 27) (by decide) ?_
      refine lv_iadd hx hb d_Mo_marked_27 ?_
      refine fy_top (z := nI ((fm_kp L X (i + 1)).length)) (by rw [fm_kp_y hn hm, List.length_append]; exact nI_add _ _) ?_
      refine lv_istore_n hx hb d_Mo_marked_28 rfl hl (by decide) rfl (fun ls hl => ?_)
      have hl : lv_has ls 3 [(1, .int (nI ((fm_kp L X (i + 1)).length))), (2, .int (nI i)), (0, .ref mo)] := hl
      refine lv_iinc (v := nI (i + 1)) hx hb d_Mo_marked_29 hl (k := 1) rfl (by rw [show Int32.ofInt 1 = nI 1 from by decide]; exact nI_add _ _) (by decide) rfl (fun ls hl => ?_)
      have hl : lv_has ls 3 [(2, .int (nI (i + 1))), (1, .int (nI ((fm_kp L X (i + 1)).length))), (0, .ref mo)] := hl
      refine lv_goto hx hb d_Mo_marked_32 (tgt := 4) (by decide) ?_
      have hl : lv_has ls 3 [(2, .int (nI (i + 1))), (1, .int (nI ((fm_kp L X (i + 1)).length))), (0, .ref mo)] := lv_sub hl [0, 1, 2] rfl
      exact ih _ (i + 1) _ _ _ (by omega) ⟨rfl, hc, hl, hP, hD, hS⟩
    · refine lv_iload_n hx hb d_Mo_marked_12 rfl (lv_at hl 1 rfl) ?_
      refine lv_aload_n hx hb d_Mo_marked_13 rfl (lv_at hl 2 rfl) ?_
      refine va_get (D := D) (ci := 5) (v := .ref m6) (C := R_Mo) (T := F_Mo) (N := 12) hx hb hts i_Mo hown hK hP 0 rfl rfl 9 (by decide) (hts _ k_f_Mo_25) (fun _ h9 => h9) rfl d_Mo_marked_14 ?_
      refine lv_iload_n hx hb d_Mo_marked_17 rfl (lv_at hl 0 rfl) ?_
      refine fy_zald (t0 := 1) (v := nI 0) hx hb hK hP 1 rfl rfl (by omega) (by omega) (by rw [hmk i n hn, if_neg hm]; rfl) d_Mo_marked_18 ?_
      refine lv_if_eq hx hb d_Mo_marked_19 (tgt := 26) (by decide) (fun _ => ?_) (fun h => absurd (rfl) h)
      refine lv_iconst (v := nI 0) hx hb d_Mo_marked_26 (by decide) ?_
      refine lv_iadd hx hb d_Mo_marked_27 ?_
      refine fy_top (z := nI ((fm_kp L X (i + 1)).length)) (by rw [fm_kp_n hn hm]; exact nI_add _ _) ?_
      refine lv_istore_n hx hb d_Mo_marked_28 rfl hl (by decide) rfl (fun ls hl => ?_)
      have hl : lv_has ls 3 [(1, .int (nI ((fm_kp L X (i + 1)).length))), (2, .int (nI i)), (0, .ref mo)] := hl
      refine lv_iinc (v := nI (i + 1)) hx hb d_Mo_marked_29 hl (k := 1) rfl (by rw [show Int32.ofInt 1 = nI 1 from by decide]; exact nI_add _ _) (by decide) rfl (fun ls hl => ?_)
      have hl : lv_has ls 3 [(2, .int (nI (i + 1))), (1, .int (nI ((fm_kp L X (i + 1)).length))), (0, .ref mo)] := hl
      refine lv_goto hx hb d_Mo_marked_32 (tgt := 4) (by decide) ?_
      have hl : lv_has ls 3 [(2, .int (nI (i + 1))), (1, .int (nI ((fm_kp L X (i + 1)).length))), (0, .ref mo)] := lv_sub hl [0, 1, 2] rfl
      exact ih _ (i + 1) _ _ _ (by omega) ⟨rfl, hc, hl, hP, hD, hS⟩
set_option maxRecDepth 20000 in
set_option maxHeartbeats 4000000 in
theorem c_Mo_move (l : Launch) (s0 : State) (D : va_G) (cI cZ cJ cW : ClassId) (hG : fy_G s0 D cI cZ cJ cW) (mo m1 m2 m3 m4 m5 m6 m7 m8 : Nat) (cd : Int32) (N C : Nat) (L : List Nat) (nu va ag fi re : Nat → Int32) (k t : Nat) (hk8 : k < 80) (ht8 : t ≤ k) : fy_Met l s0 D vwCl y_Mo_move w_Mo_move (fy_rm 0) 0 0 [.ref mo, .int (nI k), .int (nI t)] [(mo, .inr (5, [.int cd, .int (nI N), .int (nI C), .int (nI L.length), .ref m1, .ref m2, .ref m3, .ref m4, .ref m5, .ref m6, .ref m7, .ref m8])), (m1, .inl (cI, 80, .inl nu)), (m2, .inl (cI, 80, .inl va)), (m3, .inl (cI, 80, .inl ag)), (m4, .inl (cI, 80, .inl fi)), (m5, .inl (cI, 320, .inl re))] (fun r w1 => r = none ∧ ∃ re2 : Nat → Int32, (∀ f, f < 4 → re2 (4 * t + f) = re (4 * k + f)) ∧ (∀ q, q < 4 * t ∨ 4 * t + 4 ≤ q → re2 q = re q) ∧ w1 = [(mo, .inr (5, [.int cd, .int (nI N), .int (nI C), .int (nI L.length), .ref m1, .ref m2, .ref m3, .ref m4, .ref m5, .ref m6, .ref m7, .ref m8])), (m1, .inl (cI, 80, .inl (upd nu t (nu k)))), (m2, .inl (cI, 80, .inl (upd va t (va k)))), (m3, .inl (cI, 80, .inl (upd ag t (ag k + nI 1)))), (m4, .inl (cI, 80, .inl (upd fi t (fi k)))), (m5, .inl (cI, 320, .inl re2))]) := by
  refine fy_st (bytes := b_Mo_move) (maxL := 4) (ret := none) hG (by decide) rfl (Nat.le_of_ble_eq_true rfl) ?_
  intro p e s m below meth c A ls hx hb hr hlocks hml hown hts hK hLa hAe hAB hA hl hP hD hS
  have hl : lv_has ls 4 [(0, .ref mo), (1, .int (nI k)), (2, .int (nI t))] := hl
  refine lv_aload_n hx hb d_Mo_move_0 rfl (lv_at hl 0 rfl) ?_
  refine va_get (D := D) (ci := 5) (v := .ref m1) (C := R_Mo) (T := F_Mo) (N := 12) hx hb hts i_Mo hown hK hP 0 rfl rfl 4 (by decide) (hts _ k_f_Mo_7) (fun _ h9 => h9) rfl d_Mo_move_1 ?_
  refine lv_iload_n hx hb d_Mo_move_4 rfl (lv_at hl 2 rfl) ?_
  refine lv_aload_n hx hb d_Mo_move_5 rfl (lv_at hl 0 rfl) ?_
  refine va_get (D := D) (ci := 5) (v := .ref m1) (C := R_Mo) (T := F_Mo) (N := 12) hx hb hts i_Mo hown hK hP 0 rfl rfl 4 (by decide) (hts _ k_f_Mo_7) (fun _ h9 => h9) rfl d_Mo_move_6 ?_
  refine lv_iload_n hx hb d_Mo_move_9 rfl (lv_at hl 1 rfl) ?_
  refine fy_iald (t0 := 0) (v := nu k) hx hb hK hP 1 rfl rfl (by omega) (by omega) (rfl) d_Mo_move_10 ?_
  refine fy_iast (t0 := 0) (g := upd nu t (nu k)) hx hb hK hP hD hS 1 rfl rfl (by omega) (by omega) (rfl) d_Mo_move_11 (fun H locs hP hD hS => ?_)
  have hP : va_P D vwCl [(mo, .inr (5, [.int cd, .int (nI N), .int (nI C), .int (nI L.length), .ref m1, .ref m2, .ref m3, .ref m4, .ref m5, .ref m6, .ref m7, .ref m8])), (m1, .inl (cI, 80, .inl (upd nu t (nu k)))), (m2, .inl (cI, 80, .inl va)), (m3, .inl (cI, 80, .inl ag)), (m4, .inl (cI, 80, .inl fi)), (m5, .inl (cI, 320, .inl re))] H := hP
  have hD : va_D A [(mo, .inr (5, [.int cd, .int (nI N), .int (nI C), .int (nI L.length), .ref m1, .ref m2, .ref m3, .ref m4, .ref m5, .ref m6, .ref m7, .ref m8])), (m1, .inl (cI, 80, .inl (upd nu t (nu k)))), (m2, .inl (cI, 80, .inl va)), (m3, .inl (cI, 80, .inl ag)), (m4, .inl (cI, 80, .inl fi)), (m5, .inl (cI, 320, .inl re))] := hD
  refine lv_aload_n hx hb d_Mo_move_12 rfl (lv_at hl 0 rfl) ?_
  refine va_get (D := D) (ci := 5) (v := .ref m2) (C := R_Mo) (T := F_Mo) (N := 12) hx hb hts i_Mo hown hK hP 0 rfl rfl 5 (by decide) (hts _ k_f_Mo_13) (fun _ h9 => h9) rfl d_Mo_move_13 ?_
  refine lv_iload_n hx hb d_Mo_move_16 rfl (lv_at hl 2 rfl) ?_
  refine lv_aload_n hx hb d_Mo_move_17 rfl (lv_at hl 0 rfl) ?_
  refine va_get (D := D) (ci := 5) (v := .ref m2) (C := R_Mo) (T := F_Mo) (N := 12) hx hb hts i_Mo hown hK hP 0 rfl rfl 5 (by decide) (hts _ k_f_Mo_13) (fun _ h9 => h9) rfl d_Mo_move_18 ?_
  refine lv_iload_n hx hb d_Mo_move_21 rfl (lv_at hl 1 rfl) ?_
  refine fy_iald (t0 := 0) (v := va k) hx hb hK hP 2 rfl rfl (by omega) (by omega) (rfl) d_Mo_move_22 ?_
  refine fy_iast (t0 := 0) (g := upd va t (va k)) hx hb hK hP hD hS 2 rfl rfl (by omega) (by omega) (rfl) d_Mo_move_23 (fun H locs hP hD hS => ?_)
  have hP : va_P D vwCl [(mo, .inr (5, [.int cd, .int (nI N), .int (nI C), .int (nI L.length), .ref m1, .ref m2, .ref m3, .ref m4, .ref m5, .ref m6, .ref m7, .ref m8])), (m1, .inl (cI, 80, .inl (upd nu t (nu k)))), (m2, .inl (cI, 80, .inl (upd va t (va k)))), (m3, .inl (cI, 80, .inl ag)), (m4, .inl (cI, 80, .inl fi)), (m5, .inl (cI, 320, .inl re))] H := hP
  have hD : va_D A [(mo, .inr (5, [.int cd, .int (nI N), .int (nI C), .int (nI L.length), .ref m1, .ref m2, .ref m3, .ref m4, .ref m5, .ref m6, .ref m7, .ref m8])), (m1, .inl (cI, 80, .inl (upd nu t (nu k)))), (m2, .inl (cI, 80, .inl (upd va t (va k)))), (m3, .inl (cI, 80, .inl ag)), (m4, .inl (cI, 80, .inl fi)), (m5, .inl (cI, 320, .inl re))] := hD
  refine lv_aload_n hx hb d_Mo_move_24 rfl (lv_at hl 0 rfl) ?_
  refine va_get (D := D) (ci := 5) (v := .ref m3) (C := R_Mo) (T := F_Mo) (N := 12) hx hb hts i_Mo hown hK hP 0 rfl rfl 6 (by decide) (hts _ k_f_Mo_16) (fun _ h9 => h9) rfl d_Mo_move_25 ?_
  refine lv_iload_n hx hb d_Mo_move_28 rfl (lv_at hl 2 rfl) ?_
  refine lv_aload_n hx hb d_Mo_move_29 rfl (lv_at hl 0 rfl) ?_
  refine va_get (D := D) (ci := 5) (v := .ref m3) (C := R_Mo) (T := F_Mo) (N := 12) hx hb hts i_Mo hown hK hP 0 rfl rfl 6 (by decide) (hts _ k_f_Mo_16) (fun _ h9 => h9) rfl d_Mo_move_30 ?_
  refine lv_iload_n hx hb d_Mo_move_33 rfl (lv_at hl 1 rfl) ?_
  refine fy_iald (t0 := 0) (v := ag k) hx hb hK hP 3 rfl rfl (by omega) (by omega) (rfl) d_Mo_move_34 ?_
  refine lv_iconst (v := nI 1) hx hb d_Mo_move_35 (by decide) ?_
  refine lv_iadd hx hb d_Mo_move_36 ?_
  refine fy_iast (t0 := 0) (g := upd ag t ((ag k) + (nI 1))) hx hb hK hP hD hS 3 rfl rfl (by omega) (by omega) (rfl) d_Mo_move_37 (fun H locs hP hD hS => ?_)
  have hP : va_P D vwCl [(mo, .inr (5, [.int cd, .int (nI N), .int (nI C), .int (nI L.length), .ref m1, .ref m2, .ref m3, .ref m4, .ref m5, .ref m6, .ref m7, .ref m8])), (m1, .inl (cI, 80, .inl (upd nu t (nu k)))), (m2, .inl (cI, 80, .inl (upd va t (va k)))), (m3, .inl (cI, 80, .inl (upd ag t ((ag k) + (nI 1))))), (m4, .inl (cI, 80, .inl fi)), (m5, .inl (cI, 320, .inl re))] H := hP
  have hD : va_D A [(mo, .inr (5, [.int cd, .int (nI N), .int (nI C), .int (nI L.length), .ref m1, .ref m2, .ref m3, .ref m4, .ref m5, .ref m6, .ref m7, .ref m8])), (m1, .inl (cI, 80, .inl (upd nu t (nu k)))), (m2, .inl (cI, 80, .inl (upd va t (va k)))), (m3, .inl (cI, 80, .inl (upd ag t ((ag k) + (nI 1))))), (m4, .inl (cI, 80, .inl fi)), (m5, .inl (cI, 320, .inl re))] := hD
  refine lv_aload_n hx hb d_Mo_move_38 rfl (lv_at hl 0 rfl) ?_
  refine va_get (D := D) (ci := 5) (v := .ref m4) (C := R_Mo) (T := F_Mo) (N := 12) hx hb hts i_Mo hown hK hP 0 rfl rfl 7 (by decide) (hts _ k_f_Mo_19) (fun _ h9 => h9) rfl d_Mo_move_39 ?_
  refine lv_iload_n hx hb d_Mo_move_42 rfl (lv_at hl 2 rfl) ?_
  refine lv_aload_n hx hb d_Mo_move_43 rfl (lv_at hl 0 rfl) ?_
  refine va_get (D := D) (ci := 5) (v := .ref m4) (C := R_Mo) (T := F_Mo) (N := 12) hx hb hts i_Mo hown hK hP 0 rfl rfl 7 (by decide) (hts _ k_f_Mo_19) (fun _ h9 => h9) rfl d_Mo_move_44 ?_
  refine lv_iload_n hx hb d_Mo_move_47 rfl (lv_at hl 1 rfl) ?_
  refine fy_iald (t0 := 0) (v := fi k) hx hb hK hP 4 rfl rfl (by omega) (by omega) (rfl) d_Mo_move_48 ?_
  refine fy_iast (t0 := 0) (g := upd fi t (fi k)) hx hb hK hP hD hS 4 rfl rfl (by omega) (by omega) (rfl) d_Mo_move_49 (fun H locs hP hD hS => ?_)
  have hP : va_P D vwCl [(mo, .inr (5, [.int cd, .int (nI N), .int (nI C), .int (nI L.length), .ref m1, .ref m2, .ref m3, .ref m4, .ref m5, .ref m6, .ref m7, .ref m8])), (m1, .inl (cI, 80, .inl (upd nu t (nu k)))), (m2, .inl (cI, 80, .inl (upd va t (va k)))), (m3, .inl (cI, 80, .inl (upd ag t ((ag k) + (nI 1))))), (m4, .inl (cI, 80, .inl (upd fi t (fi k)))), (m5, .inl (cI, 320, .inl re))] H := hP
  have hD : va_D A [(mo, .inr (5, [.int cd, .int (nI N), .int (nI C), .int (nI L.length), .ref m1, .ref m2, .ref m3, .ref m4, .ref m5, .ref m6, .ref m7, .ref m8])), (m1, .inl (cI, 80, .inl (upd nu t (nu k)))), (m2, .inl (cI, 80, .inl (upd va t (va k)))), (m3, .inl (cI, 80, .inl (upd ag t ((ag k) + (nI 1))))), (m4, .inl (cI, 80, .inl (upd fi t (fi k)))), (m5, .inl (cI, 320, .inl re))] := hD
  refine lv_iconst (v := nI 0) hx hb d_Mo_move_50 (by decide) ?_
  refine lv_istore_n hx hb d_Mo_move_51 rfl hl (by decide) rfl (fun ls hl => ?_)
  have hl : lv_has ls 4 [(3, .int (nI 0)), (0, .ref mo), (1, .int (nI k)), (2, .int (nI t))] := hl
  refine fy_loop (σ := Nat × (Nat → Int32)) (fun mz zz ls H locs => match zz with | (f, re2) => mz = 4 - f ∧ (f ≤ 4) ∧ (∀ g, g < f → re2 (4 * t + g) = re (4 * k + g)) ∧ (∀ q, q < 4 * t ∨ 4 * t + f ≤ q → re2 q = re q) ∧ lv_has ls 4 [(3, .int (nI f)), (0, .ref mo), (1, .int (nI k)), (2, .int (nI t))] ∧ va_P D vwCl [(mo, .inr (5, [.int cd, .int (nI N), .int (nI C), .int (nI L.length), .ref m1, .ref m2, .ref m3, .ref m4, .ref m5, .ref m6, .ref m7, .ref m8])), (m1, .inl (cI, 80, .inl (upd nu t (nu k)))), (m2, .inl (cI, 80, .inl (upd va t (va k)))), (m3, .inl (cI, 80, .inl (upd ag t (ag k + nI 1)))), (m4, .inl (cI, 80, .inl (upd fi t (fi k)))), (m5, .inl (cI, 320, .inl re2))] H ∧ va_D A [(mo, .inr (5, [.int cd, .int (nI N), .int (nI C), .int (nI L.length), .ref m1, .ref m2, .ref m3, .ref m4, .ref m5, .ref m6, .ref m7, .ref m8])), (m1, .inl (cI, 80, .inl (upd nu t (nu k)))), (m2, .inl (cI, 80, .inl (upd va t (va k)))), (m3, .inl (cI, 80, .inl (upd ag t (ag k + nI 1)))), (m4, .inl (cI, 80, .inl (upd fi t (fi k)))), (m5, .inl (cI, 320, .inl re2))] ∧ va_S A s.heap H locs) ?_ _ (0, re) ⟨rfl, Nat.zero_le _, fun g hg => absurd hg (Nat.not_lt_zero g), fun q _ => rfl, hl, hP, hD, hS⟩
  rintro mz ⟨f, re2⟩ ls H locs ⟨hmz, hf, h1, h2, hl, hP, hD, hS⟩ ih
  have hmz : mz = 4 - f := hmz
  have hf : f ≤ 4 := hf
  have h1 : ∀ g, g < f → re2 (4 * t + g) = re (4 * k + g) := h1
  have h2 : ∀ q, q < 4 * t ∨ 4 * t + f ≤ q → re2 q = re q := h2
  have hl : lv_has ls 4 [(3, .int (nI f)), (0, .ref mo), (1, .int (nI k)), (2, .int (nI t))] := hl
  have hP : va_P D vwCl [(mo, .inr (5, [.int cd, .int (nI N), .int (nI C), .int (nI L.length), .ref m1, .ref m2, .ref m3, .ref m4, .ref m5, .ref m6, .ref m7, .ref m8])), (m1, .inl (cI, 80, .inl (upd nu t (nu k)))), (m2, .inl (cI, 80, .inl (upd va t (va k)))), (m3, .inl (cI, 80, .inl (upd ag t (ag k + nI 1)))), (m4, .inl (cI, 80, .inl (upd fi t (fi k)))), (m5, .inl (cI, 320, .inl re2))] H := hP
  have hD : va_D A [(mo, .inr (5, [.int cd, .int (nI N), .int (nI C), .int (nI L.length), .ref m1, .ref m2, .ref m3, .ref m4, .ref m5, .ref m6, .ref m7, .ref m8])), (m1, .inl (cI, 80, .inl (upd nu t (nu k)))), (m2, .inl (cI, 80, .inl (upd va t (va k)))), (m3, .inl (cI, 80, .inl (upd ag t (ag k + nI 1)))), (m4, .inl (cI, 80, .inl (upd fi t (fi k)))), (m5, .inl (cI, 320, .inl re2))] := hD
  refine lv_iload_n hx hb d_Mo_move_52 rfl (lv_at hl 0 rfl) ?_
  refine lv_iconst (v := nI 4) hx hb d_Mo_move_53 (by decide) ?_
  refine lv_icmp_ge hx hb d_Mo_move_54 (tgt := 83) (by decide) (fun hc => ?_) (fun hc => ?_)
  · have hc : f = 4 := by have := (nI_leI (by omega) (by omega)).mp hc; omega
    exact fy_retv hx hb hr hlocks hAe (⟨rfl, re2, fun g hg => h1 g (by omega), fun q hq => h2 q (by omega), rfl⟩) (List.Perm.refl _) hP hS d_Mo_move_83
  · have hc : f < 4 := by have := mt (nI_leI (a := 4) (b := f) (by omega) (by omega)).mpr hc; omega
    refine lv_aload_n hx hb d_Mo_move_57 rfl (lv_at hl 1 rfl) ?_
    refine va_get (D := D) (ci := 5) (v := .ref m5) (C := R_Mo) (T := F_Mo) (N := 12) hx hb hts i_Mo hown hK hP 0 rfl rfl 8 (by decide) (hts _ k_f_Mo_22) (fun _ h9 => h9) rfl d_Mo_move_58 ?_
    refine lv_iconst (v := nI 4) hx hb d_Mo_move_61 (by decide) ?_
    refine lv_iload_n hx hb d_Mo_move_62 rfl (lv_at hl 3 rfl) ?_
    refine lv_imul hx hb d_Mo_move_63 ?_
    refine fy_top (z := nI (4 * t)) (pk_mul _ _) ?_
    refine lv_iload_n hx hb d_Mo_move_64 rfl (lv_at hl 0 rfl) ?_
    refine lv_iadd hx hb d_Mo_move_65 ?_
    refine fy_top (z := nI ((4 * t) + f)) (nI_add _ _) ?_
    refine lv_aload_n hx hb d_Mo_move_66 rfl (lv_at hl 1 rfl) ?_
    refine va_get (D := D) (ci := 5) (v := .ref m5) (C := R_Mo) (T := F_Mo) (N := 12) hx hb hts i_Mo hown hK hP 0 rfl rfl 8 (by decide) (hts _ k_f_Mo_22) (fun _ h9 => h9) rfl d_Mo_move_67 ?_
    refine lv_iconst (v := nI 4) hx hb d_Mo_move_70 (by decide) ?_
    refine lv_iload_n hx hb d_Mo_move_71 rfl (lv_at hl 2 rfl) ?_
    refine lv_imul hx hb d_Mo_move_72 ?_
    refine fy_top (z := nI (4 * k)) (pk_mul _ _) ?_
    refine lv_iload_n hx hb d_Mo_move_73 rfl (lv_at hl 0 rfl) ?_
    refine lv_iadd hx hb d_Mo_move_74 ?_
    refine fy_top (z := nI ((4 * k) + f)) (nI_add _ _) ?_
    refine fy_iald (t0 := 0) (v := re2 ((4 * k) + f)) hx hb hK hP 5 rfl rfl (by omega) (by omega) (rfl) d_Mo_move_75 ?_
    refine fy_iast (t0 := 0) (g := upd re2 ((4 * t) + f) (re2 ((4 * k) + f))) hx hb hK hP hD hS 5 rfl rfl (by omega) (by omega) (rfl) d_Mo_move_76 (fun H locs hP hD hS => ?_)
    have hP : va_P D vwCl [(mo, .inr (5, [.int cd, .int (nI N), .int (nI C), .int (nI L.length), .ref m1, .ref m2, .ref m3, .ref m4, .ref m5, .ref m6, .ref m7, .ref m8])), (m1, .inl (cI, 80, .inl (upd nu t (nu k)))), (m2, .inl (cI, 80, .inl (upd va t (va k)))), (m3, .inl (cI, 80, .inl (upd ag t (ag k + nI 1)))), (m4, .inl (cI, 80, .inl (upd fi t (fi k)))), (m5, .inl (cI, 320, .inl (upd re2 ((4 * t) + f) (re2 ((4 * k) + f)))))] H := hP
    have hD : va_D A [(mo, .inr (5, [.int cd, .int (nI N), .int (nI C), .int (nI L.length), .ref m1, .ref m2, .ref m3, .ref m4, .ref m5, .ref m6, .ref m7, .ref m8])), (m1, .inl (cI, 80, .inl (upd nu t (nu k)))), (m2, .inl (cI, 80, .inl (upd va t (va k)))), (m3, .inl (cI, 80, .inl (upd ag t (ag k + nI 1)))), (m4, .inl (cI, 80, .inl (upd fi t (fi k)))), (m5, .inl (cI, 320, .inl (upd re2 ((4 * t) + f) (re2 ((4 * k) + f)))))] := hD
    refine lv_iinc (v := nI (f + 1)) hx hb d_Mo_move_77 hl (k := 0) rfl (by rw [show Int32.ofInt 1 = nI 1 from by decide]; exact nI_add _ _) (by decide) rfl (fun ls hl => ?_)
    have hl : lv_has ls 4 [(3, .int (nI (f + 1))), (0, .ref mo), (1, .int (nI k)), (2, .int (nI t))] := hl
    refine lv_goto hx hb d_Mo_move_80 (tgt := 52) (by decide) ?_
    have hl : lv_has ls 4 [(3, .int (nI (f + 1))), (0, .ref mo), (1, .int (nI k)), (2, .int (nI t))] := lv_sub hl [0, 1, 2, 3] rfl
    exact ih _ (f + 1, upd re2 (4 * t + f) (re2 (4 * k + f))) _ _ _ (by omega) ⟨rfl, hc, fun g hg => by by_cases e : g = f; (subst e; rw [fm_upd_self]; by_cases e2 : t = k; (subst e2; exact h2 _ (by omega)); (exact h2 _ (by omega))); (rw [fm_upd_ne (by omega)]; exact h1 g (by omega)), fun q hq => by rw [fm_upd_ne (by omega)]; exact h2 q (by omega), hl, hP, hD, hS⟩
