/-! Whether an OBJECT is there; what a WRITER sees in an ENTRY; an OBJECT that comes. -/
theorem mFi_lk {ob : List obT} {s n : Int32} : mFi ob s n = none ↔ mLk ob s n = none := by
  constructor
  · exact mLk_n
  · intro h
    cases hf : mFi ob s n with
    | none => rfl
    | some k =>
      obtain ⟨o, h1, _, _⟩ := mFi_get hf
      rw [mLk_s hf h1] at h
      cases h
theorem lk_none {ob : List obT} {bl : List blT} {s n : Int32} (h : mLk ob s n = (bFd bl n).map (fun y => bsOf (bl_fn y) (bl_le y))) : mFi ob s n = none ↔ bFd bl n = none := by
  rw [mFi_lk, h, Option.map_eq_none_iff]
theorem rel.lk {dl el kl : List blT} {ob : List obT} (h : rel dl el kl ob) (hn : mo_nd ob) (hb : bSo el) (ho : blO el) (x ki pt : Int32) : lkM ob x ki pt = lkF el x ki pt := by
  unfold lkM lkF
  rw [h.e hn hb]
  cases hy : bFd el x with
  | none => rfl
  | some y =>
    obtain ⟨hm, hnu⟩ := (bFd_mem hb).mp hy
    obtain ⟨h10, hf⟩ := ho y hm
    have hg : ∀ i, i < bl_le y → fnB (bsOf (bl_fn y) (bl_le y)) i = bl_fn y i := fun i hi => fnB_bs hf hi
    rw [Option.map_some, Option.elim_some, bsOf_len]
    by_cases he : enQ y
    · have he2 : enS (bl_fn y) (bl_le y) x := by rw [← hnu]; exact he
      have hL := he2.1.1
      rw [if_pos ((enS_iff (by omega) hg).mpr he2), oQ_pos he, hg 5 (by omega)]
      have hap : ∀ k, k < ub (bl_fn y 5) → aP (fnB (bsOf (bl_fn y) (bl_le y))) k = aP (bl_fn y) k := fun k hk => (en_eq (n := ub (bl_fn y 5)) (fun i hi => hg i (by omega)) hk).2.2
      by_cases hc : ¬ ki = 0 ∧ ∃ k, k < ub (bl_fn y 5) ∧ nI (aP (bl_fn y) k) = pt
      · have hc2 : ¬ ki = 0 ∧ ∃ k, k < ub (bl_fn y 5) ∧ nI (aP (fnB (bsOf (bl_fn y) (bl_le y))) k) = pt := ⟨hc.1, by
          obtain ⟨k, k1, k2⟩ := hc.2
          exact ⟨k, k1, by rw [hap k k1]; exact k2⟩⟩
        rw [if_pos hc2]
        exact (if_pos hc).symm
      · have hc2 : ¬ (¬ ki = 0 ∧ ∃ k, k < ub (bl_fn y 5) ∧ nI (aP (fnB (bsOf (bl_fn y) (bl_le y))) k) = pt) := fun z => hc ⟨z.1, by
          obtain ⟨k, k1, k2⟩ := z.2
          exact ⟨k, k1, by rw [← hap k k1]; exact k2⟩⟩
        rw [if_neg hc2]
        exact (if_neg hc).symm
    · rw [if_neg (fun z => he (by unfold enQ; rw [hnu]; exact (enS_iff (by omega) hg).mp z)), oQ_neg he]
