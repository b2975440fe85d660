/-! ROWS, ENTRIES and the newest VERSION: the same on both sides. -/
def blO (bl : List blT) : Prop := ∀ y ∈ bl, 10 ≤ bl_le y ∧ ∀ i, fits .byte (.int (bl_fn y i)) = true
theorem rel.rows {dl el kl : List blT} {ob : List obT} (h : rel dl el kl ob) (hn : mo_nd ob) (hb : bSo dl) (ho : ∀ y ∈ dl, ∀ i, fits .byte (.int (bl_fn y i)) = true) (x pt : Int32) : mW ob x pt = dW dl x pt := by
  unfold mW
  rw [h.d hn hb]
  cases hy : bFd dl x with
  | none => rw [dW_n hy]; rfl
  | some y =>
    have hm := ((bFd_mem hb).mp hy).1
    show ((dB (bsOf (bl_fn y) (bl_le y)))).filter _ = _
    rw [← dD_dB (ho y hm)]
    unfold dW
    rw [hy, Option.bind_some]
theorem rel.rd {dl el kl : List blT} {ob : List obT} (h : rel dl el kl ob) (hn : mo_nd ob) (hb : bSo el) (ho : blO el) : ∀ (n k : Nat) (F : flT), rdM ob n k F = rdE el n k F
  | 0, _, _ => rfl
  | n + 1, k, F => by
    rw [rdM, rdE, h.e hn hb]
    cases hy : bFd el (nI k) with
    | none => rfl
    | some y =>
      obtain ⟨hm, hnu⟩ := (bFd_mem hb).mp hy
      obtain ⟨h10, hf⟩ := ho y hm
      have hg : ∀ i, i < bl_le y → fnB (bsOf (bl_fn y) (bl_le y)) i = bl_fn y i := fun i hi => fnB_bs hf hi
      rw [Option.map_some, Option.bind_some, bsOf_len]
      by_cases he : enQ y
      · have he2 : enS (bl_fn y) (bl_le y) (nI k) := by rw [← hnu]; exact he
        have hL := he2.1.1
        rw [if_pos ((enS_iff (by omega) hg).mpr he2), oQ_pos he, Option.bind_some, hg 5 (by omega), apF_eq (n := ub (bl_fn y 5)) (fun i hi => hg i (by omega)) F _ (Nat.le_refl _)]
        congr 1
        funext F2
        exact rel.rd h hn hb ho n (k + 1) F2
      · rw [if_neg (fun z => he (by unfold enQ; rw [hnu]; exact (enS_iff (by omega) hg).mp z)), oQ_neg he]
        rfl
theorem rel.lt {dl el kl : List blT} {ob : List obT} (h : rel dl el kl ob) (hb : bSo el) (hnu : nuS el) : mLt ob = ltF el := by
  have hin : ∀ o ∈ ob, o.1 = 1 → ∃ y ∈ el, o.2.1 = bl_nu y := by
    intro o ho h1
    rw [h.mem_iff, List.mem_append, List.mem_append] at ho
    rcases ho with z | z | z
    · obtain ⟨y, _, rfl⟩ := List.mem_map.mp z
      exact absurd h1 (show ¬ (0 : Int32) = 1 by decide)
    · obtain ⟨y, hy, rfl⟩ := List.mem_map.mp z
      exact ⟨y, hy, rfl⟩
    · obtain ⟨y, _, rfl⟩ := List.mem_map.mp z
      exact absurd h1 (show ¬ (2 : Int32) = 1 by decide)
  unfold ltF
  cases hl : el[el.length - 1]? with
  | none =>
    have he : el = [] := by
      rw [List.getElem?_eq_none_iff] at hl
      exact List.eq_nil_of_length_eq_zero (by omega)
    show mLt ob = -1
    refine Classical.byContradiction (fun z => ?_)
    obtain ⟨o, h1, h2, _⟩ := mLt_mem z
    obtain ⟨y, hy, _⟩ := hin o h1 h2
    rw [he] at hy
    cases hy
  | some y =>
    show mLt ob = bl_nu y
    have hy := List.mem_of_getElem? hl
    have hle : bl_nu y ≤ mLt ob := mLt_le (o := kO 1 y) (h.mem_iff.mpr (List.mem_append_right _ (List.mem_append_left _ (List.mem_map.mpr ⟨y, hy, rfl⟩)))) rfl
    obtain ⟨n, hn20, hne⟩ := hnu y hy
    have hne1 : ¬ mLt ob = -1 := fun z => by
      rw [z, hne] at hle
      exact absurd (Int32.le_trans (show (0 : Int32) ≤ nI n from nI_pos' (by omega)) hle) (by decide)
    obtain ⟨o, h1, h2, h3⟩ := mLt_mem hne1
    obtain ⟨y2, hy2, h4⟩ := hin o h1 h2
    obtain ⟨i, hi⟩ := List.getElem?_of_mem hy2
    have hil := (List.getElem?_eq_some_iff.mp hi).1
    refine Int32.le_antisymm ?_ hle
    rw [h3, h4]
    by_cases e : i = el.length - 1
    · rw [e, hl] at hi
      cases hi
      exact Int32.le_refl _
    · have hm := fl_mono hb (i := i) (j := el.length - 1) (by omega) (by rw [List.length_map]; omega)
      rw [bl_getD hi, bl_getD hl] at hm
      exact Int32.le_of_lt hm
