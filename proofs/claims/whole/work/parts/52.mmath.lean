/-! the reference's rows against the store as mathematics -/
section FMM
def fm_num (L : List Nat) (nu : Nat → Int32) : Prop := ∀ k n, L[k]? = some n → nu k = nI n
def fm_Mo (L : List Nat) (val : Nat → Int32) (age nf : Nat → Nat) (rf : Nat → Nat → Option Nat) (reg wk : Nat → Option Nat) (nu va ag fi re mr mw : Nat → Int32) : Prop :=
  (∀ k n, L[k]? = some n → nu k = nI n ∧ va k = val n ∧ ag k = nI (age n) ∧ fi k = nI (nf n) ∧ ∀ f, f < 4 → re (4 * k + f) = fm_o (rf n f)) ∧ (∀ j, j < 8 → mr j = fm_o (reg j)) ∧ ∀ j, j < 4 → mw j = fm_o (wk j)
def fm_In (i N C : Nat) (L : List Nat) (age nf : Nat → Nat) (rf : Nat → Nat → Option Nat) (reg wk : Nat → Option Nat) : Prop :=
  N ≤ i ∧ C ≤ i ∧ i ≤ 512 ∧ L.Nodup ∧ fm_closed L nf rf ∧ fm_w nf L ≤ 240 ∧ (∀ n ∈ L, n < N ∧ age n ≤ C ∧ nf n ≤ 4) ∧ (∀ j, j < 8 → ∀ n, reg j = some n → n ∈ L) ∧ ∀ j, j < 4 → ∀ n, wk j = some n → n ∈ L
variable {i N C : Nat} {L : List Nat} {val : Nat → Int32} {age nf : Nat → Nat} {rf : Nat → Nat → Option Nat} {reg wk : Nat → Option Nat} {nu va ag fi re mr mw : Nat → Int32}
theorem fm_In.len (h : fm_In i N C L age nf rf reg wk) : L.length ≤ 80 := by
  have h1 := fm_w_len (nf := nf) L
  have h2 := h.2.2.2.2.2.1
  omega
theorem fm_In.lt (h : fm_In i N C L age nf rf reg wk) : ∀ n ∈ L, n < 512 := fun n hn => by
  have h1 := (h.2.2.2.2.2.2.1 n hn).1
  have h2 := h.1
  have h3 := h.2.2.1
  omega
theorem fm_In.inR (h : fm_In i N C L age nf rf reg wk) {j : Nat} (hj : j < 8) : ∀ n, reg j = some n → n ∈ L := h.2.2.2.2.2.2.2.1 j hj
theorem fm_In.inW (h : fm_In i N C L age nf rf reg wk) {j : Nat} (hj : j < 4) : ∀ n, wk j = some n → n ∈ L := h.2.2.2.2.2.2.2.2 j hj
theorem fm_Mo.num (h : fm_Mo L val age nf rf reg wk nu va ag fi re mr mw) : fm_num L nu := fun k n hn => (h.1 k n hn).1
theorem fm_inL {P : Nat → Prop} {o : Option Nat} (h : ∀ n, o = some n → n ∈ L) (hL : ∀ n ∈ L, n < 512) : fm_lt o 512 := fun n hn => hL n (h n hn)
/-- a is the place in the first i of L of the one that o names -/
def fm_is (L : List Nat) (i : Nat) (o a : Option Nat) : Prop := ∀ k, a = some k ↔ k < i ∧ ∃ n, L[k]? = some n ∧ o = some n
theorem fm_is_0 {o : Option Nat} : fm_is L 0 o none := fun k => ⟨fun h => absurd h (by simp), fun h => absurd h.1 (Nat.not_lt_zero k)⟩
theorem fm_is_y {i n : Nat} {o a : Option Nat} (h : fm_is L i o a) (hn : L[i]? = some n) (ho : o = some n) (hd : L.Nodup) : fm_is L (i + 1) o (some i) := fun k => by
  constructor
  · intro q
    cases q
    exact ⟨Nat.lt_succ_self _, n, hn, ho⟩
  · rintro ⟨h1, m, h2, h3⟩
    have hi := (List.getElem?_eq_some_iff.mp h2).1
    have e : L[k]? = L[i]? := by rw [h2, hn, ← h3, ho]
    rw [(List.getElem?_inj hi hd).mp e]
theorem fm_is_n {i n : Nat} {o a : Option Nat} (h : fm_is L i o a) (hn : L[i]? = some n) (ho : ¬ o = some n) : fm_is L (i + 1) o a := fun k => by
  rw [h k]
  constructor
  · rintro ⟨h1, h2⟩
    exact ⟨by omega, h2⟩
  · rintro ⟨h1, m, h2, h3⟩
    refine ⟨?_, m, h2, h3⟩
    by_cases q : k = i
    · subst q
      rw [hn] at h2
      exact absurd (by rw [h3, h2]) ho
    · omega
theorem fm_is_lt {i k : Nat} {o : Option Nat} (h : fm_is L i o (some k)) : k < i := ((h k).mp rfl).1
theorem fm_is_lt' {i : Nat} {o a : Option Nat} (h : fm_is L i o a) : fm_lt a i := fun k hk => ((h k).mp hk).1
theorem fm_is_none {o : Option Nat} (h : fm_is L L.length o none) : ∀ n, o = some n → n ∉ L := fun n hn hm => by
  obtain ⟨k, hk⟩ := List.getElem?_of_mem hm
  have := (h k).mpr ⟨(List.getElem?_eq_some_iff.mp hk).1, n, hk, hn⟩
  cases this
theorem fm_is_some {k : Nat} {o : Option Nat} (h : fm_is L L.length o (some k)) : ∃ n, L[k]? = some n ∧ o = some n := ((h k).mp rfl).2
theorem fm_take_s {i n : Nat} (h : L[i]? = some n) : L.take (i + 1) = L.take i ++ [n] := by rw [List.take_succ, h]; rfl
theorem fm_w_take {i n : Nat} (h : L[i]? = some n) : fm_w nf (L.take (i + 1)) = fm_w nf (L.take i) + (nf n + 3) := by rw [fm_take_s h, fm_w_app, fm_w_one]
/-- marks -/
def fm_mk (L X : List Nat) (mk : Nat → Int32) : Prop := ∀ k n, L[k]? = some n → mk k = if n ∈ X then 1 else 0
theorem fm_mk_nil {mk : Nat → Int32} (h : ∀ k, k < L.length → mk k = 0) : fm_mk L [] mk := fun k n hk => by
  rw [h k (List.getElem?_eq_some_iff.mp hk).1]
  simp
theorem fm_mk_add {X : List Nat} {mk : Nat → Int32} {k n : Nat} (h : fm_mk L X mk) (hd : L.Nodup) (hk : L[k]? = some n) : fm_mk L (fm_add X (some n)) (upd mk k 1) := fun q m hq => by
  by_cases e : q = k
  · subst e
    rw [hk] at hq
    cases hq
    rw [fm_upd_self, if_pos (fm_mem_add.mpr (Or.inr rfl))]
  · rw [fm_upd_ne e, h q m hq]
    have hm : m ≠ n := fun z => e ((List.getElem?_inj (List.getElem?_eq_some_iff.mp hq).1 hd).mp (by rw [hq, hk, z]))
    have hi : m ∈ fm_add X (some n) ↔ m ∈ X := by
      rw [fm_mem_add]
      constructor
      · rintro (z | z)
        · exact z
        · cases z; exact absurd rfl hm
      · exact Or.inl
    simp [hi]
/-- within a pass: the first f fields of n, if n is marked -/
def fm_hal (rf : Nat → Nat → Option Nat) (n : Nat) (Y : List Nat) (f : Nat) : List Nat := if n ∈ Y then fm_adds rf n Y f else Y
theorem fm_hal_0 {n : Nat} {Y : List Nat} : fm_hal rf n Y 0 = Y := by
  unfold fm_hal
  split <;> rfl
theorem fm_hal_end {n : Nat} {Y : List Nat} : fm_hal rf n Y (nf n) = fm_one nf rf Y n := rfl
theorem fm_hal_out {n f : Nat} {Y : List Nat} (h : n ∉ fm_hal rf n Y f) : fm_hal rf n Y f = fm_one nf rf Y n := by
  have hn : n ∉ Y := fun q => h (by unfold fm_hal; rw [if_pos q]; exact (fm_mem_adds f).mpr (Or.inl q))
  unfold fm_hal fm_one
  rw [if_neg hn, if_neg hn]
theorem fm_hal_in {n f : Nat} {Y : List Nat} (h : n ∈ fm_hal rf n Y f) : n ∈ Y := by
  unfold fm_hal at h
  split at h
  · assumption
  · exact h
theorem fm_hal_s {n f : Nat} {Y : List Nat} (h : n ∈ Y) : fm_hal rf n Y (f + 1) = fm_add (fm_hal rf n Y f) (rf n f) := by
  unfold fm_hal
  rw [if_pos h, if_pos h]
  rfl
theorem fm_hal_pre {n f : Nat} {Y : List Nat} : ∃ Z, fm_hal rf n Y f = Y ++ Z := by
  unfold fm_hal
  split
  · exact fm_adds_pre _
  · exact ⟨[], by simp⟩
theorem fm_hal_len {n f k : Nat} {X : List Nat} : X.length ≤ (fm_hal rf n (fm_pass L nf rf X k) f).length := by
  obtain ⟨Z, h1⟩ := fm_hal_pre (rf := rf) (n := n) (f := f) (Y := fm_pass L nf rf X k)
  obtain ⟨Z2, h2⟩ := fm_pass_pre (L := L) (nf := nf) (rf := rf) (X := X) k
  rw [h1, h2]
  simp
/-- has a pass added anything -/
def fm_more (X Y : List Nat) : Nat := if Y.length = X.length then 0 else 1
theorem fm_more_s {X Y : List Nat} {n : Nat} (h : X.length ≤ Y.length) (hn : n ∉ Y) : fm_more X (fm_add Y (some n)) = 1 := by
  unfold fm_more
  rw [fm_add_new hn, List.length_append, if_neg (by simp; omega)]
theorem fm_more_0 {X : List Nat} : fm_more X X = 0 := by simp [fm_more]
/-- the marked of the first k -/
def fm_kp (L X : List Nat) (k : Nat) : List Nat := (L.take k).filter (fun n => decide (n ∈ X))
theorem fm_kp_y {X : List Nat} {k n : Nat} (h : L[k]? = some n) (hn : n ∈ X) : fm_kp L X (k + 1) = fm_kp L X k ++ [n] := by
  unfold fm_kp
  rw [fm_take_s h, List.filter_append]
  simp [hn]
theorem fm_kp_n {X : List Nat} {k n : Nat} (h : L[k]? = some n) (hn : n ∉ X) : fm_kp L X (k + 1) = fm_kp L X k := by
  unfold fm_kp
  rw [fm_take_s h, List.filter_append]
  simp [hn]
theorem fm_kp_len {X : List Nat} {k : Nat} : (fm_kp L X k).length ≤ k := by
  unfold fm_kp
  refine Nat.le_trans (List.length_filter_le _ _) ?_
  rw [List.length_take]
  omega
theorem fm_kp_end {X : List Nat} {P : Nat → Prop} (h : X.Perm (fm_keep L P)) : fm_kp L X L.length = fm_keep L P := by
  unfold fm_kp fm_keep
  rw [List.take_length]
  refine List.filter_congr (fun n hn => ?_)
  have h1 : n ∈ X ↔ n ∈ fm_keep L P := h.mem_iff
  rw [fm_mem_keep] at h1
  have h2 : n ∈ X ↔ P n := ⟨fun q => (h1.mp q).2, fun q => h1.mpr ⟨hn, q⟩⟩
  by_cases q : P n
  · rw [decide_eq_true (h2.mpr q)]
    exact (@decide_eq_true _ (Classical.propDecidable _) q).symm
  · rw [decide_eq_false (fun z => q (h2.mp z))]
    exact (@decide_eq_false _ (Classical.propDecidable _) q).symm
/-- the rows of the reference after make -/
theorem fm_Mo.make {j fl : Nat} {v : Int32} {re2 : Nat → Int32} (hI : fm_In i N C L age nf rf reg wk) (hM : fm_Mo L val age nf rf reg wk nu va ag fi re mr mw) (h1 : ∀ g, g < 4 → re2 (4 * L.length + g) = -1) (h2 : ∀ q, q < 4 * L.length → re2 q = re q) :
    fm_Mo (L ++ [N]) (va_up val N v) (va_up age N 0) (va_up nf N fl) (va_up rf N (fun _ => none)) (va_up reg j (some N)) wk (upd nu L.length (nI N)) (upd va L.length v) (upd ag L.length (nI 0)) (upd fi L.length (nI fl)) re2 (upd mr j (nI N)) mw := by
  have hN : ∀ n ∈ L, n ≠ N := fun n hn q => by
    have h9 := (hI.2.2.2.2.2.2.1 n hn).1
    omega
  refine ⟨fun k n hk => ?_, fun q hq => ?_, hM.2.2⟩
  · by_cases e : k = L.length
    · subst e
      rw [List.getElem?_append_right (Nat.le_refl _), Nat.sub_self] at hk
      simp at hk
      subst hk
      rw [fm_upd_self, fm_upd_self, fm_upd_self, fm_upd_self, va_up_self, va_up_self, va_up_self, va_up_self]
      exact ⟨rfl, rfl, rfl, rfl, fun f hf => h1 f hf⟩
    · have hl := (List.getElem?_eq_some_iff.mp hk).1
      rw [List.length_append] at hl
      simp at hl
      rw [List.getElem?_append_left (by omega)] at hk
      have hn := hN n (List.mem_of_getElem? hk)
      rw [fm_upd_ne e, fm_upd_ne e, fm_upd_ne e, fm_upd_ne e, va_up_ne _ _ hn, va_up_ne _ _ hn, va_up_ne _ _ hn, va_up_ne _ _ hn]
      obtain ⟨a1, a2, a3, a4, a5⟩ := hM.1 k n hk
      exact ⟨a1, a2, a3, a4, fun f hf => by rw [h2 _ (by omega)]; exact a5 f hf⟩
  · by_cases e : q = j
    · subst e
      rw [fm_upd_self, va_up_self]
      rfl
    · rw [fm_upd_ne e, va_up_ne _ _ e]
      exact hM.2.1 q hq
theorem fm_Mo.set {k n f q : Nat} (hd : L.Nodup) (hM : fm_Mo L val age nf rf reg wk nu va ag fi re mr mw) (hk : L[k]? = some n) (hf : f < 4) (hq : q < 8) : fm_Mo L val age nf (va_up rf n (va_up (rf n) f (reg q))) reg wk nu va ag fi (upd re (4 * k + f) (mr q)) mr mw := by
  refine ⟨fun k2 n2 hk2 => ?_, hM.2⟩
  obtain ⟨a1, a2, a3, a4, a5⟩ := hM.1 k2 n2 hk2
  refine ⟨a1, a2, a3, a4, fun g hg => ?_⟩
  by_cases e : n2 = n
  · subst e
    have ek : k2 = k := (List.getElem?_inj (List.getElem?_eq_some_iff.mp hk2).1 hd).mp (by rw [hk2, hk])
    subst ek
    rw [va_up_self]
    by_cases eg : g = f
    · subst eg
      rw [fm_upd_self, va_up_self]
      exact hM.2.1 q hq
    · rw [fm_upd_ne (by omega), va_up_ne _ _ eg]
      exact a5 g hg
  · have ek : k2 ≠ k := fun z => e (by subst z; rw [hk] at hk2; exact (Option.some.inj hk2).symm)
    rw [va_up_ne _ _ e, fm_upd_ne (by omega)]
    exact a5 g hg
theorem fm_Mo.toR {j : Nat} {o : Option Nat} {x : Int32} (hM : fm_Mo L val age nf rf reg wk nu va ag fi re mr mw) (hx : x = fm_o o) : fm_Mo L val age nf rf (va_up reg j o) wk nu va ag fi re (upd mr j x) mw := by
  refine ⟨hM.1, fun q hq => ?_, hM.2.2⟩
  by_cases e : q = j
  · subst e
    rw [fm_upd_self, va_up_self, hx]
  · rw [fm_upd_ne e, va_up_ne _ _ e]
    exact hM.2.1 q hq
theorem fm_Mo.toW {j : Nat} {o : Option Nat} {x : Int32} (hM : fm_Mo L val age nf rf reg wk nu va ag fi re mr mw) (hx : x = fm_o o) : fm_Mo L val age nf rf reg (va_up wk j o) nu va ag fi re mr (upd mw j x) := by
  refine ⟨hM.1, hM.2.1, fun q hq => ?_⟩
  by_cases e : q = j
  · subst e
    rw [fm_upd_self, va_up_self, hx]
  · rw [fm_upd_ne e, va_up_ne _ _ e]
    exact hM.2.2 q hq
theorem fm_Mo.put {k n : Nat} {v : Int32} (hd : L.Nodup) (hM : fm_Mo L val age nf rf reg wk nu va ag fi re mr mw) (hk : L[k]? = some n) : fm_Mo L (va_up val n v) age nf rf reg wk nu (upd va k v) ag fi re mr mw := by
  refine ⟨fun k2 n2 hk2 => ?_, hM.2⟩
  obtain ⟨a1, a2, a3, a4, a5⟩ := hM.1 k2 n2 hk2
  refine ⟨a1, ?_, a3, a4, a5⟩
  by_cases e : n2 = n
  · subst e
    have ek : k2 = k := (List.getElem?_inj (List.getElem?_eq_some_iff.mp hk2).1 hd).mp (by rw [hk2, hk])
    subst ek
    rw [va_up_self, fm_upd_self]
  · have ek : k2 ≠ k := fun z => e (by subst z; rw [hk] at hk2; exact (Option.some.inj hk2).symm)
    rw [va_up_ne _ _ e, fm_upd_ne ek]
    exact a2
/-- moving those that are marked to the front -/
def fm_mv (L X : List Nat) (val : Nat → Int32) (age nf : Nat → Nat) (rf : Nat → Nat → Option Nat) (k : Nat) (nu va ag fi re : Nat → Int32) : Prop :=
  (∀ p n, (fm_kp L X k)[p]? = some n → nu p = nI n ∧ va p = val n ∧ ag p = nI (age n + 1) ∧ fi p = nI (nf n) ∧ ∀ f, f < 4 → re (4 * p + f) = fm_o (rf n f)) ∧
  ∀ p n, k ≤ p → L[p]? = some n → nu p = nI n ∧ va p = val n ∧ ag p = nI (age n) ∧ fi p = nI (nf n) ∧ ∀ f, f < 4 → re (4 * p + f) = fm_o (rf n f)
theorem fm_mv_n {X : List Nat} {k n : Nat} (h : fm_mv L X val age nf rf k nu va ag fi re) (hk : L[k]? = some n) (hn : n ∉ X) : fm_mv L X val age nf rf (k + 1) nu va ag fi re := by
  refine ⟨?_, fun p m hp hm => h.2 p m (by omega) hm⟩
  rw [fm_kp_n hk hn]
  exact h.1
theorem fm_mv_y {X : List Nat} {k n t : Nat} {re2 : Nat → Int32} (h : fm_mv L X val age nf rf k nu va ag fi re) (hk : L[k]? = some n) (hn : n ∈ X) (ht : t = (fm_kp L X k).length) (h1 : ∀ f, f < 4 → re2 (4 * t + f) = re (4 * k + f)) (h2 : ∀ q, q < 4 * t ∨ 4 * t + 4 ≤ q → re2 q = re q) :
    fm_mv L X val age nf rf (k + 1) (upd nu t (nu k)) (upd va t (va k)) (upd ag t (ag k + nI 1)) (upd fi t (fi k)) re2 := by
  have htk : t ≤ k := by rw [ht]; exact fm_kp_len
  refine ⟨fun p m hm => ?_, fun p m hp hm => ?_⟩
  · rw [fm_kp_y hk hn] at hm
    obtain ⟨b1, b2, b3, b4, b5⟩ := h.2 k n (Nat.le_refl _) hk
    by_cases e : p = t
    · subst e
      rw [ht, List.getElem?_append_right (Nat.le_refl _), Nat.sub_self] at hm
      simp at hm
      subst hm
      rw [fm_upd_self, fm_upd_self, fm_upd_self, fm_upd_self]
      exact ⟨b1, b2, by rw [b3]; exact nI_add _ _, b4, fun f hf => by rw [h1 f hf]; exact b5 f hf⟩
    · have hl := (List.getElem?_eq_some_iff.mp hm).1
      rw [List.length_append] at hl
      simp at hl
      rw [List.getElem?_append_left (by omega)] at hm
      obtain ⟨a1, a2, a3, a4, a5⟩ := h.1 p m hm
      rw [fm_upd_ne e, fm_upd_ne e, fm_upd_ne e, fm_upd_ne e]
      exact ⟨a1, a2, a3, a4, fun f hf => by rw [h2 _ (by omega)]; exact a5 f hf⟩
  · obtain ⟨a1, a2, a3, a4, a5⟩ := h.2 p m (by omega) hm
    rw [fm_upd_ne (by omega), fm_upd_ne (by omega), fm_upd_ne (by omega), fm_upd_ne (by omega)]
    exact ⟨a1, a2, a3, a4, fun f hf => by rw [h2 _ (by omega)]; exact a5 f hf⟩
end FMM
