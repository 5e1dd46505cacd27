/-! every call has its answer, and leaves the store in order: printed by a program of mine (wip/whole/ops.py, tot.py) -/
theorem ft_make {i : Nat} {N : Nat} {C : Nat} {L : List Nat} {val : Nat → Int32} {age : Nat → Nat} {nf : Nat → Nat} {rf : Nat → Nat → Option Nat} {reg : Nat → Option Nat} {wk : Nat → Option Nat} (hI : fm_In i N C L age nf rf reg wk) (hi : i < 512) (a1 a2 a3 : Int32) : ∃ (k : Nat) (ans : Int32) (N' : Nat) (C' : Nat) (L' : List Nat) (val' : Nat → Int32) (age' : Nat → Nat) (nf' : Nat → Nat) (rf' : Nat → Nat → Option Nat) (reg' : Nat → Option Nat) (wk' : Nat → Option Nat), fo_make N C L val age nf rf reg wk a1 a2 a3 k ans N' C' L' val' age' nf' rf' reg' wk' ∧ k ≤ 3 ∧ fm_In (i + 1) N' C' L' age' nf' rf' reg' wk' := by
  by_cases h1 : fy_ok 8 a1
  · by_cases h2 : fy_ok 5 a2
    · obtain ⟨j, hj, rfl⟩ := h1.nat (by omega)
      obtain ⟨fl, hf, rfl⟩ := h2.nat (by omega)
      by_cases hw : fm_w nf L + 3 + fl ≤ 240
      · exact ⟨0, nI N, N + 1, C, L ++ [N], va_up val N a3, va_up age N 0, va_up nf N fl, va_up rf N (fun _ => none), va_up reg j (some N), wk, Or.inr (Or.inr (⟨j, fl, rfl, hj, by omega, rfl, rfl, hw, rfl, rfl⟩)), by omega, hI.make hi (by omega) hw⟩
      · exact ⟨2, 0, N, C, L, val, age, nf, rf, reg, wk, Or.inr (Or.inl ⟨j, fl, rfl, hj, by omega, rfl, rfl, hw, rfl⟩), by omega, hI.up hi⟩
    · exact ⟨1, 0, N, C, L, val, age, nf, rf, reg, wk, Or.inl ⟨rfl, Or.inr h2, rfl⟩, by omega, hI.up hi⟩
  · exact ⟨1, 0, N, C, L, val, age, nf, rf, reg, wk, Or.inl ⟨rfl, Or.inl h1, rfl⟩, by omega, hI.up hi⟩
theorem ft_set {i : Nat} {N : Nat} {C : Nat} {L : List Nat} {val : Nat → Int32} {age : Nat → Nat} {nf : Nat → Nat} {rf : Nat → Nat → Option Nat} {reg : Nat → Option Nat} {wk : Nat → Option Nat} (hI : fm_In i N C L age nf rf reg wk) (hi : i < 512) (a1 a2 a3 : Int32) : ∃ (k : Nat) (ans : Int32) (N' : Nat) (C' : Nat) (L' : List Nat) (val' : Nat → Int32) (age' : Nat → Nat) (nf' : Nat → Nat) (rf' : Nat → Nat → Option Nat) (reg' : Nat → Option Nat) (wk' : Nat → Option Nat), fo_set N C L val age nf rf reg wk a1 a2 a3 k ans N' C' L' val' age' nf' rf' reg' wk' ∧ k ≤ 3 ∧ fm_In (i + 1) N' C' L' age' nf' rf' reg' wk' := by
  by_cases h1 : fy_ok 8 a1
  · by_cases h2 : fy_ok 8 a3
    · obtain ⟨j, hj, rfl⟩ := h1.nat (by omega)
      obtain ⟨q, hq, rfl⟩ := h2.nat (by omega)
      cases hr : reg j with
      | none => exact ⟨2, 0, N, C, L, val, age, nf, rf, reg, wk, Or.inr (Or.inl ⟨j, q, rfl, hj, hq, rfl, rfl, hr, rfl⟩), by omega, hI.up hi⟩
      | some n =>
        by_cases h3 : fy_ok (nf n) a2
        · obtain ⟨f, hf, rfl⟩ := h3.nat (by have := (hI.2.2.2.2.2.2.1 n (hI.inR hj n hr)).2.2; omega)
          exact ⟨0, 0, N, C, L, val, age, nf, va_up rf n (va_up (rf n) f (reg q)), reg, wk, Or.inr (Or.inr (Or.inr (⟨j, q, n, f, rfl, hj, hq, rfl, rfl, hr, hf, rfl, rfl⟩))), by omega, (hI.refer (hI.inR hq)).up hi⟩
        · exact ⟨3, 0, N, C, L, val, age, nf, rf, reg, wk, Or.inr (Or.inr (Or.inl ⟨j, q, n, rfl, hj, hq, rfl, rfl, hr, h3, rfl⟩)), by omega, hI.up hi⟩
    · exact ⟨1, 0, N, C, L, val, age, nf, rf, reg, wk, Or.inl ⟨rfl, Or.inr h2, rfl⟩, by omega, hI.up hi⟩
  · exact ⟨1, 0, N, C, L, val, age, nf, rf, reg, wk, Or.inl ⟨rfl, Or.inl h1, rfl⟩, by omega, hI.up hi⟩
theorem ft_get {i : Nat} {N : Nat} {C : Nat} {L : List Nat} {val : Nat → Int32} {age : Nat → Nat} {nf : Nat → Nat} {rf : Nat → Nat → Option Nat} {reg : Nat → Option Nat} {wk : Nat → Option Nat} (hI : fm_In i N C L age nf rf reg wk) (hi : i < 512) (a1 a2 a3 : Int32) : ∃ (k : Nat) (ans : Int32) (N' : Nat) (C' : Nat) (L' : List Nat) (val' : Nat → Int32) (age' : Nat → Nat) (nf' : Nat → Nat) (rf' : Nat → Nat → Option Nat) (reg' : Nat → Option Nat) (wk' : Nat → Option Nat), fo_get N C L val age nf rf reg wk a1 a2 a3 k ans N' C' L' val' age' nf' rf' reg' wk' ∧ k ≤ 3 ∧ fm_In (i + 1) N' C' L' age' nf' rf' reg' wk' := by
  by_cases h1 : fy_ok 8 a1
  · by_cases h2 : fy_ok 8 a3
    · obtain ⟨j, hj, rfl⟩ := h1.nat (by omega)
      obtain ⟨q, hq, rfl⟩ := h2.nat (by omega)
      cases hr : reg j with
      | none => exact ⟨2, 0, N, C, L, val, age, nf, rf, reg, wk, Or.inr (Or.inl ⟨j, q, rfl, hj, hq, rfl, rfl, hr, rfl⟩), by omega, hI.up hi⟩
      | some n =>
        by_cases h3 : fy_ok (nf n) a2
        · obtain ⟨f, hf, rfl⟩ := h3.nat (by have := (hI.2.2.2.2.2.2.1 n (hI.inR hj n hr)).2.2; omega)
          exact ⟨0, 0, N, C, L, val, age, nf, rf, va_up reg q (rf n f), wk, Or.inr (Or.inr (Or.inr (⟨j, q, n, f, rfl, hj, hq, rfl, rfl, hr, hf, rfl, rfl⟩))), by omega, (hI.toR (fun b hb => hI.2.2.2.2.1 n (hI.inR hj n hr) f hf b hb)).up hi⟩
        · exact ⟨3, 0, N, C, L, val, age, nf, rf, reg, wk, Or.inr (Or.inr (Or.inl ⟨j, q, n, rfl, hj, hq, rfl, rfl, hr, h3, rfl⟩)), by omega, hI.up hi⟩
    · exact ⟨1, 0, N, C, L, val, age, nf, rf, reg, wk, Or.inl ⟨rfl, Or.inr h2, rfl⟩, by omega, hI.up hi⟩
  · exact ⟨1, 0, N, C, L, val, age, nf, rf, reg, wk, Or.inl ⟨rfl, Or.inl h1, rfl⟩, by omega, hI.up hi⟩
theorem ft_copy {i : Nat} {N : Nat} {C : Nat} {L : List Nat} {val : Nat → Int32} {age : Nat → Nat} {nf : Nat → Nat} {rf : Nat → Nat → Option Nat} {reg : Nat → Option Nat} {wk : Nat → Option Nat} (hI : fm_In i N C L age nf rf reg wk) (hi : i < 512) (a1 a2 : Int32) : ∃ (k : Nat) (ans : Int32) (N' : Nat) (C' : Nat) (L' : List Nat) (val' : Nat → Int32) (age' : Nat → Nat) (nf' : Nat → Nat) (rf' : Nat → Nat → Option Nat) (reg' : Nat → Option Nat) (wk' : Nat → Option Nat), fo_copy N C L val age nf rf reg wk a1 a2 k ans N' C' L' val' age' nf' rf' reg' wk' ∧ k ≤ 3 ∧ fm_In (i + 1) N' C' L' age' nf' rf' reg' wk' := by
  by_cases h1 : fy_ok 8 a1
  · by_cases h2 : fy_ok 8 a2
    · obtain ⟨j, hj, rfl⟩ := h1.nat (by omega)
      obtain ⟨q, hq, rfl⟩ := h2.nat (by omega)
      exact ⟨0, 0, N, C, L, val, age, nf, rf, va_up reg q (reg j), wk, Or.inr (⟨j, q, rfl, hj, hq, rfl, rfl, rfl⟩), by omega, (hI.toR (hI.inR hj)).up hi⟩
    · exact ⟨1, 0, N, C, L, val, age, nf, rf, reg, wk, Or.inl ⟨rfl, Or.inr h2, rfl⟩, by omega, hI.up hi⟩
  · exact ⟨1, 0, N, C, L, val, age, nf, rf, reg, wk, Or.inl ⟨rfl, Or.inl h1, rfl⟩, by omega, hI.up hi⟩
theorem ft_same {i : Nat} {N : Nat} {C : Nat} {L : List Nat} {val : Nat → Int32} {age : Nat → Nat} {nf : Nat → Nat} {rf : Nat → Nat → Option Nat} {reg : Nat → Option Nat} {wk : Nat → Option Nat} (hI : fm_In i N C L age nf rf reg wk) (hi : i < 512) (a1 a2 : Int32) : ∃ (k : Nat) (ans : Int32) (N' : Nat) (C' : Nat) (L' : List Nat) (val' : Nat → Int32) (age' : Nat → Nat) (nf' : Nat → Nat) (rf' : Nat → Nat → Option Nat) (reg' : Nat → Option Nat) (wk' : Nat → Option Nat), fo_same N C L val age nf rf reg wk a1 a2 k ans N' C' L' val' age' nf' rf' reg' wk' ∧ k ≤ 3 ∧ fm_In (i + 1) N' C' L' age' nf' rf' reg' wk' := by
  by_cases h1 : fy_ok 8 a1
  · by_cases h2 : fy_ok 8 a2
    · obtain ⟨j, hj, rfl⟩ := h1.nat (by omega)
      obtain ⟨q, hq, rfl⟩ := h2.nat (by omega)
      exact ⟨0, if reg j = reg q then nI 1 else nI 0, N, C, L, val, age, nf, rf, reg, wk, Or.inr (⟨j, q, rfl, hj, hq, rfl, rfl, rfl, rfl⟩), by omega, hI.up hi⟩
    · exact ⟨1, 0, N, C, L, val, age, nf, rf, reg, wk, Or.inl ⟨rfl, Or.inr h2, rfl⟩, by omega, hI.up hi⟩
  · exact ⟨1, 0, N, C, L, val, age, nf, rf, reg, wk, Or.inl ⟨rfl, Or.inl h1, rfl⟩, by omega, hI.up hi⟩
theorem ft_watch {i : Nat} {N : Nat} {C : Nat} {L : List Nat} {val : Nat → Int32} {age : Nat → Nat} {nf : Nat → Nat} {rf : Nat → Nat → Option Nat} {reg : Nat → Option Nat} {wk : Nat → Option Nat} (hI : fm_In i N C L age nf rf reg wk) (hi : i < 512) (a1 a2 : Int32) : ∃ (k : Nat) (ans : Int32) (N' : Nat) (C' : Nat) (L' : List Nat) (val' : Nat → Int32) (age' : Nat → Nat) (nf' : Nat → Nat) (rf' : Nat → Nat → Option Nat) (reg' : Nat → Option Nat) (wk' : Nat → Option Nat), fo_watch N C L val age nf rf reg wk a1 a2 k ans N' C' L' val' age' nf' rf' reg' wk' ∧ k ≤ 3 ∧ fm_In (i + 1) N' C' L' age' nf' rf' reg' wk' := by
  by_cases h1 : fy_ok 4 a1
  · by_cases h2 : fy_ok 8 a2
    · obtain ⟨j, hj, rfl⟩ := h1.nat (by omega)
      obtain ⟨q, hq, rfl⟩ := h2.nat (by omega)
      exact ⟨0, 0, N, C, L, val, age, nf, rf, reg, va_up wk j (reg q), Or.inr (⟨j, q, rfl, hj, hq, rfl, rfl, rfl⟩), by omega, (hI.toW (hI.inR hq)).up hi⟩
    · exact ⟨1, 0, N, C, L, val, age, nf, rf, reg, wk, Or.inl ⟨rfl, Or.inr h2, rfl⟩, by omega, hI.up hi⟩
  · exact ⟨1, 0, N, C, L, val, age, nf, rf, reg, wk, Or.inl ⟨rfl, Or.inl h1, rfl⟩, by omega, hI.up hi⟩
theorem ft_revive {i : Nat} {N : Nat} {C : Nat} {L : List Nat} {val : Nat → Int32} {age : Nat → Nat} {nf : Nat → Nat} {rf : Nat → Nat → Option Nat} {reg : Nat → Option Nat} {wk : Nat → Option Nat} (hI : fm_In i N C L age nf rf reg wk) (hi : i < 512) (a1 a2 : Int32) : ∃ (k : Nat) (ans : Int32) (N' : Nat) (C' : Nat) (L' : List Nat) (val' : Nat → Int32) (age' : Nat → Nat) (nf' : Nat → Nat) (rf' : Nat → Nat → Option Nat) (reg' : Nat → Option Nat) (wk' : Nat → Option Nat), fo_revive N C L val age nf rf reg wk a1 a2 k ans N' C' L' val' age' nf' rf' reg' wk' ∧ k ≤ 3 ∧ fm_In (i + 1) N' C' L' age' nf' rf' reg' wk' := by
  by_cases h1 : fy_ok 4 a1
  · by_cases h2 : fy_ok 8 a2
    · obtain ⟨j, hj, rfl⟩ := h1.nat (by omega)
      obtain ⟨q, hq, rfl⟩ := h2.nat (by omega)
      exact ⟨0, 0, N, C, L, val, age, nf, rf, va_up reg q (wk j), wk, Or.inr (⟨j, q, rfl, hj, hq, rfl, rfl, rfl⟩), by omega, (hI.toR (hI.inW hj)).up hi⟩
    · exact ⟨1, 0, N, C, L, val, age, nf, rf, reg, wk, Or.inl ⟨rfl, Or.inr h2, rfl⟩, by omega, hI.up hi⟩
  · exact ⟨1, 0, N, C, L, val, age, nf, rf, reg, wk, Or.inl ⟨rfl, Or.inl h1, rfl⟩, by omega, hI.up hi⟩
theorem ft_clear {i : Nat} {N : Nat} {C : Nat} {L : List Nat} {val : Nat → Int32} {age : Nat → Nat} {nf : Nat → Nat} {rf : Nat → Nat → Option Nat} {reg : Nat → Option Nat} {wk : Nat → Option Nat} (hI : fm_In i N C L age nf rf reg wk) (hi : i < 512) (a1 : Int32) : ∃ (k : Nat) (ans : Int32) (N' : Nat) (C' : Nat) (L' : List Nat) (val' : Nat → Int32) (age' : Nat → Nat) (nf' : Nat → Nat) (rf' : Nat → Nat → Option Nat) (reg' : Nat → Option Nat) (wk' : Nat → Option Nat), fo_clear N C L val age nf rf reg wk a1 k ans N' C' L' val' age' nf' rf' reg' wk' ∧ k ≤ 3 ∧ fm_In (i + 1) N' C' L' age' nf' rf' reg' wk' := by
  by_cases h1 : fy_ok 8 a1
  · obtain ⟨j, hj, rfl⟩ := h1.nat (by omega)
    exact ⟨0, if (reg j).isSome then nI 1 else nI 0, N, C, L, val, age, nf, rf, va_up reg j none, wk, Or.inr (⟨j, rfl, hj, rfl, rfl, rfl⟩), by omega, (hI.toR (fun n hn => by cases hn)).up hi⟩
  · exact ⟨1, 0, N, C, L, val, age, nf, rf, reg, wk, Or.inl ⟨rfl, h1, rfl⟩, by omega, hI.up hi⟩
theorem ft_write {i : Nat} {N : Nat} {C : Nat} {L : List Nat} {val : Nat → Int32} {age : Nat → Nat} {nf : Nat → Nat} {rf : Nat → Nat → Option Nat} {reg : Nat → Option Nat} {wk : Nat → Option Nat} (hI : fm_In i N C L age nf rf reg wk) (hi : i < 512) (a1 a2 : Int32) : ∃ (k : Nat) (ans : Int32) (N' : Nat) (C' : Nat) (L' : List Nat) (val' : Nat → Int32) (age' : Nat → Nat) (nf' : Nat → Nat) (rf' : Nat → Nat → Option Nat) (reg' : Nat → Option Nat) (wk' : Nat → Option Nat), fo_write N C L val age nf rf reg wk a1 a2 k ans N' C' L' val' age' nf' rf' reg' wk' ∧ k ≤ 3 ∧ fm_In (i + 1) N' C' L' age' nf' rf' reg' wk' := by
  by_cases h1 : fy_ok 8 a1
  · obtain ⟨j, hj, rfl⟩ := h1.nat (by omega)
    cases hr : reg j with
    | none => exact ⟨2, 0, N, C, L, val, age, nf, rf, reg, wk, Or.inr (Or.inl ⟨j, rfl, hj, rfl, hr, rfl⟩), by omega, hI.up hi⟩
    | some n => exact ⟨0, val n, N, C, L, va_up val n a2, age, nf, rf, reg, wk, Or.inr (Or.inr (⟨j, n, rfl, hj, rfl, hr, rfl, rfl⟩)), by omega, hI.up hi⟩
  · exact ⟨1, 0, N, C, L, val, age, nf, rf, reg, wk, Or.inl ⟨rfl, h1, rfl⟩, by omega, hI.up hi⟩
theorem ft_watched {i : Nat} {N : Nat} {C : Nat} {L : List Nat} {val : Nat → Int32} {age : Nat → Nat} {nf : Nat → Nat} {rf : Nat → Nat → Option Nat} {reg : Nat → Option Nat} {wk : Nat → Option Nat} (hI : fm_In i N C L age nf rf reg wk) (hi : i < 512) (a1 : Int32) : ∃ (k : Nat) (ans : Int32) (N' : Nat) (C' : Nat) (L' : List Nat) (val' : Nat → Int32) (age' : Nat → Nat) (nf' : Nat → Nat) (rf' : Nat → Nat → Option Nat) (reg' : Nat → Option Nat) (wk' : Nat → Option Nat), fo_watched N C L val age nf rf reg wk a1 k ans N' C' L' val' age' nf' rf' reg' wk' ∧ k ≤ 3 ∧ fm_In (i + 1) N' C' L' age' nf' rf' reg' wk' := by
  by_cases h1 : fy_ok 4 a1
  · obtain ⟨j, hj, rfl⟩ := h1.nat (by omega)
    exact ⟨0, fm_o (wk j), N, C, L, val, age, nf, rf, reg, wk, Or.inr (⟨j, rfl, hj, rfl, rfl, rfl⟩), by omega, hI.up hi⟩
  · exact ⟨1, 0, N, C, L, val, age, nf, rf, reg, wk, Or.inl ⟨rfl, h1, rfl⟩, by omega, hI.up hi⟩
theorem ft_reach {i : Nat} {N : Nat} {C : Nat} {L : List Nat} {val : Nat → Int32} {age : Nat → Nat} {nf : Nat → Nat} {rf : Nat → Nat → Option Nat} {reg : Nat → Option Nat} {wk : Nat → Option Nat} (hI : fm_In i N C L age nf rf reg wk) (hi : i < 512) (a1 : Int32) : ∃ (k : Nat) (ans : Int32) (N' : Nat) (C' : Nat) (L' : List Nat) (val' : Nat → Int32) (age' : Nat → Nat) (nf' : Nat → Nat) (rf' : Nat → Nat → Option Nat) (reg' : Nat → Option Nat) (wk' : Nat → Option Nat), fo_reach N C L val age nf rf reg wk a1 k ans N' C' L' val' age' nf' rf' reg' wk' ∧ k ≤ 3 ∧ fm_In (i + 1) N' C' L' age' nf' rf' reg' wk' := by
  by_cases h1 : fy_ok 8 a1
  · obtain ⟨j, hj, rfl⟩ := h1.nat (by omega)
    exact ⟨0, nI (fm_keep L (fm_Cl nf rf (fun m => reg j = some m))).length, N, C, L, val, age, nf, rf, reg, wk, Or.inr (⟨j, rfl, hj, rfl, rfl, rfl⟩), by omega, hI.up hi⟩
  · exact ⟨1, 0, N, C, L, val, age, nf, rf, reg, wk, Or.inl ⟨rfl, h1, rfl⟩, by omega, hI.up hi⟩
theorem ft_about {i : Nat} {N : Nat} {C : Nat} {L : List Nat} {val : Nat → Int32} {age : Nat → Nat} {nf : Nat → Nat} {rf : Nat → Nat → Option Nat} {reg : Nat → Option Nat} {wk : Nat → Option Nat} (hI : fm_In i N C L age nf rf reg wk) (hi : i < 512) (a1 a2 : Int32) : ∃ (k : Nat) (ans : Int32) (N' : Nat) (C' : Nat) (L' : List Nat) (val' : Nat → Int32) (age' : Nat → Nat) (nf' : Nat → Nat) (rf' : Nat → Nat → Option Nat) (reg' : Nat → Option Nat) (wk' : Nat → Option Nat), fo_about N C L val age nf rf reg wk a1 a2 k ans N' C' L' val' age' nf' rf' reg' wk' ∧ k ≤ 3 ∧ fm_In (i + 1) N' C' L' age' nf' rf' reg' wk' := by
  by_cases h1 : fy_ok 8 a1
  · by_cases h2 : fy_ok 4 a2
    · obtain ⟨j, hj, rfl⟩ := h1.nat (by omega)
      obtain ⟨q, hq, rfl⟩ := h2.nat (by omega)
      cases hr : reg j with
      | none => exact ⟨2, 0, N, C, L, val, age, nf, rf, reg, wk, Or.inr (Or.inl ⟨j, q, rfl, hj, hq, rfl, rfl, hr, rfl⟩), by omega, hI.up hi⟩
      | some n =>
        rcases (show q = 0 ∨ q = 1 ∨ q = 2 ∨ q = 3 by omega) with rfl | rfl | rfl | rfl
        · exact ⟨0, nI n, N, C, L, val, age, nf, rf, reg, wk, Or.inr (Or.inr (Or.inl ⟨j, n, rfl, hj, rfl, rfl, hr, rfl, rfl⟩)), by omega, hI.up hi⟩
        · exact ⟨0, val n, N, C, L, val, age, nf, rf, reg, wk, Or.inr (Or.inr (Or.inr (Or.inl ⟨j, n, rfl, hj, rfl, rfl, hr, rfl, rfl⟩))), by omega, hI.up hi⟩
        · exact ⟨0, nI (age n), N, C, L, val, age, nf, rf, reg, wk, Or.inr (Or.inr (Or.inr (Or.inr (Or.inl ⟨j, n, rfl, hj, rfl, rfl, hr, rfl, rfl⟩)))), by omega, hI.up hi⟩
        · exact ⟨0, nI (nf n), N, C, L, val, age, nf, rf, reg, wk, Or.inr (Or.inr (Or.inr (Or.inr (Or.inr (⟨j, n, rfl, hj, rfl, rfl, hr, rfl, rfl⟩))))), by omega, hI.up hi⟩
    · exact ⟨1, 0, N, C, L, val, age, nf, rf, reg, wk, Or.inl ⟨rfl, Or.inr h2, rfl⟩, by omega, hI.up hi⟩
  · exact ⟨1, 0, N, C, L, val, age, nf, rf, reg, wk, Or.inl ⟨rfl, Or.inl h1, rfl⟩, by omega, hI.up hi⟩
theorem ft_field {i : Nat} {N : Nat} {C : Nat} {L : List Nat} {val : Nat → Int32} {age : Nat → Nat} {nf : Nat → Nat} {rf : Nat → Nat → Option Nat} {reg : Nat → Option Nat} {wk : Nat → Option Nat} (hI : fm_In i N C L age nf rf reg wk) (hi : i < 512) (a1 a2 : Int32) : ∃ (k : Nat) (ans : Int32) (N' : Nat) (C' : Nat) (L' : List Nat) (val' : Nat → Int32) (age' : Nat → Nat) (nf' : Nat → Nat) (rf' : Nat → Nat → Option Nat) (reg' : Nat → Option Nat) (wk' : Nat → Option Nat), fo_field N C L val age nf rf reg wk a1 a2 k ans N' C' L' val' age' nf' rf' reg' wk' ∧ k ≤ 3 ∧ fm_In (i + 1) N' C' L' age' nf' rf' reg' wk' := by
  by_cases h1 : fy_ok 8 a1
  · obtain ⟨j, hj, rfl⟩ := h1.nat (by omega)
    cases hr : reg j with
    | none => exact ⟨2, 0, N, C, L, val, age, nf, rf, reg, wk, Or.inr (Or.inl ⟨j, rfl, hj, rfl, hr, rfl⟩), by omega, hI.up hi⟩
    | some n =>
      by_cases h3 : fy_ok (nf n) a2
      · obtain ⟨f, hf, rfl⟩ := h3.nat (by have := (hI.2.2.2.2.2.2.1 n (hI.inR hj n hr)).2.2; omega)
        exact ⟨0, fm_o (rf n f), N, C, L, val, age, nf, rf, reg, wk, Or.inr (Or.inr (Or.inr (⟨j, n, f, rfl, hj, rfl, hr, hf, rfl, rfl, rfl⟩))), by omega, hI.up hi⟩
      · exact ⟨3, 0, N, C, L, val, age, nf, rf, reg, wk, Or.inr (Or.inr (Or.inl ⟨j, n, rfl, hj, rfl, hr, h3, rfl⟩)), by omega, hI.up hi⟩
  · exact ⟨1, 0, N, C, L, val, age, nf, rf, reg, wk, Or.inl ⟨rfl, h1, rfl⟩, by omega, hI.up hi⟩
theorem ft_figure {i : Nat} {N : Nat} {C : Nat} {L : List Nat} {val : Nat → Int32} {age : Nat → Nat} {nf : Nat → Nat} {rf : Nat → Nat → Option Nat} {reg : Nat → Option Nat} {wk : Nat → Option Nat} (hI : fm_In i N C L age nf rf reg wk) (hi : i < 512) (a1 : Int32) : ∃ (k : Nat) (ans : Int32) (N' : Nat) (C' : Nat) (L' : List Nat) (val' : Nat → Int32) (age' : Nat → Nat) (nf' : Nat → Nat) (rf' : Nat → Nat → Option Nat) (reg' : Nat → Option Nat) (wk' : Nat → Option Nat), fo_figure N C L val age nf rf reg wk a1 k ans N' C' L' val' age' nf' rf' reg' wk' ∧ k ≤ 3 ∧ fm_In (i + 1) N' C' L' age' nf' rf' reg' wk' := by
  by_cases h1 : fy_ok 4 a1
  · obtain ⟨q, hq, rfl⟩ := h1.nat (by omega)
    rcases (show q = 0 ∨ q = 1 ∨ q = 2 ∨ q = 3 by omega) with rfl | rfl | rfl | rfl
    · exact ⟨0, nI (fm_w nf L), N, C, L, val, age, nf, rf, reg, wk, Or.inr (Or.inl ⟨rfl, rfl, rfl, rfl⟩), by omega, hI.up hi⟩
    · exact ⟨0, nI L.length, N, C, L, val, age, nf, rf, reg, wk, Or.inr (Or.inr (Or.inl ⟨rfl, rfl, rfl, rfl⟩)), by omega, hI.up hi⟩
    · exact ⟨0, nI C, N, C, L, val, age, nf, rf, reg, wk, Or.inr (Or.inr (Or.inr (Or.inl ⟨rfl, rfl, rfl, rfl⟩))), by omega, hI.up hi⟩
    · exact ⟨0, nI N, N, C, L, val, age, nf, rf, reg, wk, Or.inr (Or.inr (Or.inr (Or.inr (⟨rfl, rfl, rfl, rfl⟩)))), by omega, hI.up hi⟩
  · exact ⟨1, 0, N, C, L, val, age, nf, rf, reg, wk, Or.inl ⟨rfl, h1, rfl⟩, by omega, hI.up hi⟩
theorem ft_collect {i : Nat} {N : Nat} {C : Nat} {L : List Nat} {val : Nat → Int32} {age : Nat → Nat} {nf : Nat → Nat} {rf : Nat → Nat → Option Nat} {reg : Nat → Option Nat} {wk : Nat → Option Nat} (hI : fm_In i N C L age nf rf reg wk) (hi : i < 512) (a1 a2 : Int32) : ∃ (k : Nat) (ans : Int32) (N' : Nat) (C' : Nat) (L' : List Nat) (val' : Nat → Int32) (age' : Nat → Nat) (nf' : Nat → Nat) (rf' : Nat → Nat → Option Nat) (reg' : Nat → Option Nat) (wk' : Nat → Option Nat), fo_collect N C L val age nf rf reg wk a1 a2 k ans N' C' L' val' age' nf' rf' reg' wk' ∧ k ≤ 3 ∧ fm_In (i + 1) N' C' L' age' nf' rf' reg' wk' := by
  by_cases h1 : nI 1 ≤ a1 ∧ a1 ≤ nI 4
  · have h2 : fy_ok 5 a1 := ⟨Int32.le_trans (by decide) h1.1, fy_lt5 h1.2⟩
    obtain ⟨wn, hw, rfl⟩ := h2.nat (by omega)
    have h3 : 1 ≤ wn := (nI_leI (by omega) (by omega)).mp h1.1
    exact ⟨0, nI (L.length - (fm_keep L (fm_Cl nf rf (fun m => ∃ j, j < 8 ∧ reg j = some m))).length), N, C + 1, (fm_keep L (fm_Cl nf rf (fun m => ∃ j, j < 8 ∧ reg j = some m))), val, fun n => age n + 1, nf, rf, reg, fun j => fm_wk (fm_keep L (fm_Cl nf rf (fun m => ∃ j, j < 8 ∧ reg j = some m))) (wk j), Or.inr (⟨wn, rfl, h3, by omega, rfl, rfl, rfl⟩), by omega, hI.collect hi⟩
  · exact ⟨1, 0, N, C, L, val, age, nf, rf, reg, wk, Or.inl ⟨rfl, h1, rfl⟩, by omega, hI.up hi⟩
