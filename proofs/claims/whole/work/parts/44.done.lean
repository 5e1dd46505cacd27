/-! what a collection leaves -/
section FMD
theorem fm_w_eq {nf : Nat → Nat} {Q L : List Nat} (h : Q.Perm L) : fm_w nf Q = fm_w nf L := (h.map _).sum_nat
theorem fm_wk_eq {Q L : List Nat} (h : Q.Perm L) (o : Option Nat) : fm_wk Q o = fm_wk L o := by
  cases o with
  | none => rfl
  | some n => unfold fm_wk; simp [h.mem_iff]
variable {L : List Nat} {val : Nat → Int32} {age nf : Nat → Nat} {rf : Nat → Nat → Option Nat} {pl : Nat → Nat} {row : Nat → Int32}
theorem fm_Row.perm {Q : List Nat} {tr : Nat → Nat → Option Nat} {w : Nat} (h : fm_Row L val age nf tr pl row w) (hp : Q.Perm L) : fm_Row Q val age nf tr pl row w := ⟨fun n hn => h.1 n (hp.mem_iff.mp hn), fun n hn k hk => h.2 n (hp.mem_iff.mp hn) k (hp.mem_iff.mp hk)⟩
theorem fm_Ok_done {Q : List Nat} {S : Nat → Prop} {q : Nat → Nat} {row2 : Nat → Int32} (hk : fm_Ok L val age nf rf pl row) (ha : ∀ n ∈ L, age n + 1 < 2 ^ 20) (hQ : Q.Perm (fm_keep L (fm_Cl nf rf S))) (hr : fm_Row Q val (fun n => age n + 1) nf (fun x g => (rf x g).map q) q row2 (fm_w nf Q)) : fm_Ok (fm_keep L (fm_Cl nf rf S)) val (fun n => age n + 1) nf rf q row2 := by
  refine ⟨by rw [← fm_w_eq hQ]; exact hr.perm hQ.symm, Nat.le_trans (fm_w_sub (fm_keep_nodup hk.2.2.1) (fun x hx => (fm_mem_keep.mp hx).1)) hk.2.1, fm_keep_nodup hk.2.2.1, fun n hn f hf b hb => ?_, fun n hn => ?_⟩
  · obtain ⟨h1, h2⟩ := fm_mem_keep.mp hn
    exact fm_mem_keep.mpr ⟨hk.2.2.2.1 n h1 f hf b hb, h2.step hf hb⟩
  · obtain ⟨h1, -⟩ := fm_mem_keep.mp hn
    have h3 := hk.2.2.2.2 n h1
    exact ⟨h3.1, ha n h1, h3.2.2⟩
theorem fm_keep_len {P : Nat → Prop} : (fm_keep L P).length ≤ L.length := List.length_filter_le _ _
theorem fy_Pperm {D : va_G} {cl : List vw_C} {w w' : va_W} {H : Heap} (h : w'.Perm w) (hP : va_P D cl w H) : va_P D cl w' H := fun _ q hk => by
  obtain ⟨j, hj⟩ := List.getElem?_of_mem (h.mem_iff.mp (List.mem_of_getElem? hk))
  exact hP j q hj
theorem fy_Pswap {D : va_G} {cl : List vw_C} {H : Heap} (X : va_W) {a b c d : Nat × va_E} (hP : va_P D cl (X ++ [a, b, c, d]) H) : va_P D cl (X ++ [c, d, a, b]) H :=
  fy_Pperm ((List.perm_append_comm (l₁ := [c, d]) (l₂ := [a, b])).append_left X) hP
end FMD
