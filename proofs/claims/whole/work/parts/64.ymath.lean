/-! the class's rows against the store as mathematics -/
section FMY
def ya_R (reg wk : Nat → Option Nat) (pl : Nat → Nat) (G V : Nat → Int32) : Prop := (∀ j, j < 8 → G j = fm_o ((reg j).map pl)) ∧ ∀ j, j < 4 → V j = fm_o ((wk j).map pl)
variable {i N C : Nat} {L : List Nat} {val : Nat → Int32} {age nf : Nat → Nat} {rf : Nat → Nat → Option Nat} {reg wk : Nat → Option Nat} {pl : Nat → Nat} {row G V : Nat → Int32}
theorem ya_R.toR {j : Nat} {o : Option Nat} {x : Int32} (h : ya_R reg wk pl G V) (hx : x = fm_o (o.map pl)) : ya_R (va_up reg j o) wk pl (upd G j x) V := by
  refine ⟨fun q hq => ?_, h.2⟩
  by_cases e : q = j
  · subst e
    rw [fm_upd_self, va_up_self, hx]
  · rw [fm_upd_ne e, va_up_ne _ _ e]
    exact h.1 q hq
theorem ya_R.toW {j : Nat} {o : Option Nat} {x : Int32} (h : ya_R reg wk pl G V) (hx : x = fm_o (o.map pl)) : ya_R reg (va_up wk j o) pl G (upd V j x) := by
  refine ⟨h.1, fun q hq => ?_⟩
  by_cases e : q = j
  · subst e
    rw [fm_upd_self, va_up_self, hx]
  · rw [fm_upd_ne e, va_up_ne _ _ e]
    exact h.2 q hq
theorem fm_mapne {o : Option Nat} {w : Nat} (hN : N ∉ L) (ho : ∀ n, o = some n → n ∈ L) : o.map (va_up pl N w) = o.map pl := by
  cases o with
  | none => rfl
  | some n => exact congrArg some (va_up_ne _ _ (fun q => hN (q ▸ ho n rfl)))
theorem fm_In.fresh (h : fm_In i N C L age nf rf reg wk) : N ∉ L := fun q => Nat.lt_irrefl _ ((h.2.2.2.2.2.2.1 N q).1)
theorem ya_R.make {j w : Nat} (hI : fm_In i N C L age nf rf reg wk) (h : ya_R reg wk pl G V) : ya_R (va_up reg j (some N)) wk (va_up pl N w) (upd G j (nI w)) V := by
  refine ⟨fun q hq => ?_, fun q hq => ?_⟩
  · by_cases e : q = j
    · subst e
      rw [fm_upd_self, va_up_self]
      show _ = nI (va_up pl N w N)
      rw [va_up_self]
    · rw [fm_upd_ne e, va_up_ne _ _ e, fm_mapne hI.fresh (hI.inR hq)]
      exact h.1 q hq
  · rw [fm_mapne hI.fresh (hI.inW hq)]
    exact h.2 q hq
theorem fm_w_new {fl : Nat} (hN : N ∉ L) : fm_w (va_up nf N fl) (L ++ [N]) = fm_w nf L + (3 + fl) := by
  rw [fm_w_app, fm_w_one, va_up_self]
  have e : fm_w (va_up nf N fl) L = fm_w nf L := by
    unfold fm_w
    congr 1
    exact List.map_congr_left (fun n hn => by
      have hq : n ≠ N := fun q => hN (q ▸ hn)
      rw [va_up_ne _ _ hq])
  rw [e]
  omega
theorem fm_Ok.make {fl : Nat} {v : Int32} (hI : fm_In i N C L age nf rf reg wk) (hk : fm_Ok L val age nf rf pl row) (hf : fl ≤ 4) (hw : fm_w nf L + 3 + fl ≤ 240) :
    fm_Ok (L ++ [N]) (va_up val N v) (va_up age N 0) (va_up nf N fl) (va_up rf N (fun _ => none)) (va_up pl N (fm_w nf L)) (fm_lay row (fm_w nf L) (nI N) v fl) := by
  have hN := hI.fresh
  have hne : ∀ n ∈ L, n ≠ N := fun n hn q => hN (q ▸ hn)
  have hi := hI.1
  have h5 := hI.2.2.1
  have hb : ∀ n ∈ L ++ [N], n ∈ L ∨ n = N := fun n hn => by
    rcases List.mem_append.mp hn with q | q
    · exact Or.inl q
    · exact Or.inr (List.mem_singleton.mp q)
  refine ⟨?_, by rw [fm_w_new hN]; omega, ?_, ?_, ?_⟩
  · rw [fm_w_new hN, ← Nat.add_assoc]
    refine (fm_Row.lay (k := fl) (v := v) hk.1 hN).congr (fun n hn => ⟨rfl, rfl, rfl, rfl, fun f hf => ?_⟩)
    rcases hb n hn with q | q
    · rw [va_up_ne _ _ (hne n q)] at hf
      rw [va_up_ne _ _ (hne n q), va_up_ne _ _ (hne n q), fm_mapne hN (fun b hb => hk.2.2.2.1 n q f hf b hb)]
    · subst q
      rw [va_up_self, va_up_self]
      rfl
  · rw [← fm_add_new hN]
    exact fm_add_nodup hk.2.2.1
  · intro n hn f hf b hb2
    rcases hb n hn with q | q
    · rw [va_up_ne _ _ (hne n q)] at hf hb2
      exact List.mem_append_left _ (hk.2.2.2.1 n q f hf b hb2)
    · subst q
      rw [va_up_self] at hb2
      cases hb2
  · intro n hn
    rcases hb n hn with q | q
    · rw [va_up_ne _ _ (hne n q), va_up_ne _ _ (hne n q)]
      exact hk.2.2.2.2 n q
    · subst q
      rw [va_up_self, va_up_self]
      exact ⟨hf, by omega, by omega⟩
theorem fm_Ok.refer {n f : Nat} {o : Option Nat} (hk : fm_Ok L val age nf rf pl row) (hn : n ∈ L) (hf : f < nf n) (ho : ∀ b, o = some b → b ∈ L) : fm_Ok L val age nf (va_up rf n (va_up (rf n) f o)) pl (upd row (pl n + 3 + f) (fm_o (o.map pl))) := by
  refine ⟨(fm_Row.refer (o := o.map pl) hk.1 hn hf).congr (fun m hm => ⟨rfl, rfl, rfl, rfl, fun g hg => ?_⟩), hk.2.1, hk.2.2.1, ?_, hk.2.2.2.2⟩
  · by_cases e : m = n
    · subst e
      rw [va_up_self, va_up_self]
      by_cases e2 : g = f
      · subst e2
        rw [va_up_self, va_up_self]
      · rw [va_up_ne _ _ e2, va_up_ne _ _ e2]
    · rw [va_up_ne _ _ e, va_up_ne _ _ e]
  · intro m hm g hg b hb
    by_cases e : m = n
    · subst e
      rw [va_up_self] at hb
      by_cases e2 : g = f
      · subst e2
        rw [va_up_self] at hb
        exact ho b hb
      · rw [va_up_ne _ _ e2] at hb
        exact hk.2.2.2.1 m hm g hg b hb
    · rw [va_up_ne _ _ e] at hb
      exact hk.2.2.2.1 m hm g hg b hb
theorem fm_Ok.put {n : Nat} {v : Int32} (hk : fm_Ok L val age nf rf pl row) (hn : n ∈ L) : fm_Ok L (va_up val n v) age nf rf pl (upd row (pl n + 1) v) := ⟨fm_Row.put hk.1 hn, hk.2⟩
theorem fm_Ok.lt2 (hk : fm_Ok L val age nf rf pl row) {o : Option Nat} (ho : ∀ n, o = some n → n ∈ L) : fm_lt (o.map pl) (2 ^ 31) := fm_lt.map (fun n hn => by have := hk.lt n (ho n hn); omega)
theorem fm_Ok.map_inj (hk : fm_Ok L val age nf rf pl row) {o o' : Option Nat} (ho : ∀ n, o = some n → n ∈ L) (ho' : ∀ n, o' = some n → n ∈ L) : o.map pl = o'.map pl ↔ o = o' := by
  constructor
  · intro h
    cases o with
    | none => cases o' with
      | none => rfl
      | some b => cases h
    | some a => cases o' with
      | none => cases h
      | some b => exact congrArg some (hk.inj a (ho a rfl) b (ho' b rfl) (Option.some.inj h))
  · rintro rfl
    rfl
/-- the invariant of the run of calls -/
theorem fm_In.up (h : fm_In i N C L age nf rf reg wk) (hi : i < 512) : fm_In (i + 1) N C L age nf rf reg wk := ⟨by have := h.1; omega, by have := h.2.1; omega, by omega, h.2.2.2⟩
theorem fm_In.toR {j : Nat} {o : Option Nat} (h : fm_In i N C L age nf rf reg wk) (ho : ∀ n, o = some n → n ∈ L) : fm_In i N C L age nf rf (va_up reg j o) wk := ⟨h.1, h.2.1, h.2.2.1, h.2.2.2.1, h.2.2.2.2.1, h.2.2.2.2.2.1, h.2.2.2.2.2.2.1, fun q hq n hn => by
  by_cases e : q = j
  · subst e
    rw [va_up_self] at hn
    exact ho n hn
  · rw [va_up_ne _ _ e] at hn
    exact h.inR hq n hn, h.2.2.2.2.2.2.2.2⟩
theorem fm_In.toW {j : Nat} {o : Option Nat} (h : fm_In i N C L age nf rf reg wk) (ho : ∀ n, o = some n → n ∈ L) : fm_In i N C L age nf rf reg (va_up wk j o) := ⟨h.1, h.2.1, h.2.2.1, h.2.2.2.1, h.2.2.2.2.1, h.2.2.2.2.2.1, h.2.2.2.2.2.2.1, h.2.2.2.2.2.2.2.1, fun q hq n hn => by
  by_cases e : q = j
  · subst e
    rw [va_up_self] at hn
    exact ho n hn
  · rw [va_up_ne _ _ e] at hn
    exact h.inW hq n hn⟩
theorem fm_In.make {j fl : Nat} (h : fm_In i N C L age nf rf reg wk) (hi : i < 512) (hf : fl ≤ 4) (hw : fm_w nf L + 3 + fl ≤ 240) : fm_In (i + 1) (N + 1) C (L ++ [N]) (va_up age N 0) (va_up nf N fl) (va_up rf N (fun _ => none)) (va_up reg j (some N)) wk := by
  have hN := h.fresh
  have hne : ∀ n ∈ L, n ≠ N := fun n hn q => hN (q ▸ hn)
  have hb : ∀ n ∈ L ++ [N], n ∈ L ∨ n = N := fun n hn => by
    rcases List.mem_append.mp hn with q | q
    · exact Or.inl q
    · exact Or.inr (List.mem_singleton.mp q)
  refine ⟨by have := h.1; omega, by have := h.2.1; omega, by omega, by rw [← fm_add_new hN]; exact fm_add_nodup h.2.2.2.1, ?_, by rw [fm_w_new hN]; omega, ?_, ?_, ?_⟩
  · intro n hn f hf b hb2
    rcases hb n hn with q | q
    · rw [va_up_ne _ _ (hne n q)] at hf hb2
      exact List.mem_append_left _ (h.2.2.2.2.1 n q f hf b hb2)
    · subst q
      rw [va_up_self] at hb2
      cases hb2
  · intro n hn
    rcases hb n hn with q | q
    · rw [va_up_ne _ _ (hne n q), va_up_ne _ _ (hne n q)]
      have h9 := h.2.2.2.2.2.2.1 n q
      exact ⟨by omega, h9.2⟩
    · subst q
      rw [va_up_self, va_up_self]
      exact ⟨by omega, Nat.zero_le _, hf⟩
  · intro q hq n hn
    by_cases e : q = j
    · subst e
      rw [va_up_self] at hn
      cases hn
      simp
    · rw [va_up_ne _ _ e] at hn
      exact List.mem_append_left _ (h.inR hq n hn)
  · intro q hq n hn
    exact List.mem_append_left _ (h.inW hq n hn)
theorem fm_In.refer {n f : Nat} {o : Option Nat} (h : fm_In i N C L age nf rf reg wk) (ho : ∀ b, o = some b → b ∈ L) : fm_In i N C L age nf (va_up rf n (va_up (rf n) f o)) reg wk := by
  refine ⟨h.1, h.2.1, h.2.2.1, h.2.2.2.1, ?_, h.2.2.2.2.2⟩
  intro m hm g hg b hb
  by_cases e : m = n
  · subst e
    rw [va_up_self] at hb
    by_cases e2 : g = f
    · subst e2
      rw [va_up_self] at hb
      exact ho b hb
    · rw [va_up_ne _ _ e2] at hb
      exact h.2.2.2.2.1 m hm g hg b hb
  · rw [va_up_ne _ _ e] at hb
    exact h.2.2.2.2.1 m hm g hg b hb
theorem fm_In.collect (h : fm_In i N C L age nf rf reg wk) (hi : i < 512) : fm_In (i + 1) N (C + 1) (fm_keep L (fm_Cl nf rf (fun m => ∃ j, j < 8 ∧ reg j = some m))) (fun n => age n + 1) nf rf reg (fun j => fm_wk (fm_keep L (fm_Cl nf rf (fun m => ∃ j, j < 8 ∧ reg j = some m))) (wk j)) := by
  refine ⟨by have := h.1; omega, by have := h.2.1; omega, by omega, fm_keep_nodup h.2.2.2.1, ?_, Nat.le_trans (fm_w_sub (fm_keep_nodup h.2.2.2.1) (fun x hx => (fm_mem_keep.mp hx).1)) h.2.2.2.2.2.1, ?_, ?_, ?_⟩
  · intro n hn f hf b hb
    obtain ⟨h1, h2⟩ := fm_mem_keep.mp hn
    exact fm_mem_keep.mpr ⟨h.2.2.2.2.1 n h1 f hf b hb, h2.step hf hb⟩
  · intro n hn
    have h9 := h.2.2.2.2.2.2.1 n (fm_mem_keep.mp hn).1
    exact ⟨h9.1, show age n + 1 ≤ C + 1 by omega, h9.2.2⟩
  · intro j hj n hn
    exact fm_mem_keep.mpr ⟨h.inR hj n hn, fm_Cl.base ⟨j, hj, hn⟩⟩
  · intro j hj n hn
    have hn : fm_wk _ (wk j) = some n := hn
    cases hw : wk j with
    | none => rw [hw] at hn; cases hn
    | some m =>
      rw [hw] at hn
      unfold fm_wk at hn
      simp only [] at hn
      split at hn
      · cases hn; assumption
      · cases hn
end FMY
