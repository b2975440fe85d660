/-! FILES of a VERSION: at most 200. -/
theorem del_le (F : flT) (x : Int32) : (fl_del F x).length ≤ F.length := by
  unfold fl_del
  rw [List.length_append, List.length_take, List.length_drop]; omega
theorem len_apF {f : Nat → Int32} {F : flT} (h : F.length ≤ 200) : ∀ (n : Nat) (F2 : flT), apF f F n = some F2 → F2.length ≤ 200
  | 0, F2, h2 => by
    cases h2
    exact h
  | n + 1, F2, h2 => by
    rw [apF] at h2
    cases h3 : apF f F n with
    | none => rw [h3] at h2; cases h2
    | some F3 =>
      rw [h3, Option.bind_some, apX_A] at h2
      have ih := len_apF h n F3 h3
      unfold apX at h2
      by_cases e1 : aK f n = 2
      · rw [if_pos e1] at h2
        by_cases e2 : fl_hB F3 (aN f n) = true
        · rw [if_pos e2] at h2
          cases h2
          exact Nat.le_trans (del_le _ _) ih
        · rw [if_neg e2] at h2
          cases h2
          exact ih
      · rw [if_neg e1] at h2
        by_cases e2 : fl_hB F3 (aN f n) = true
        · rw [if_pos e2] at h2
          cases h2
          exact ih
        · rw [if_neg e2] at h2
          by_cases e3 : F3.length = 200
          · rw [if_pos e3] at h2; cases h2
          · rw [if_neg e3] at h2
            cases h2
            rw [fl_ins_len]; omega
theorem len_rdM {ob : List obT} : ∀ (n k : Nat) (F F2 : flT), F.length ≤ 200 → rdM ob n k F = some F2 → F2.length ≤ 200
  | 0, _, F, F2, h, h2 => by
    cases h2
    exact h
  | n + 1, k, F, F2, h, h2 => by
    rw [rdM] at h2
    cases hb : mLk ob 1 (nI k) with
    | none => rw [hb] at h2; cases h2
    | some bs =>
      rw [hb, Option.bind_some] at h2
      by_cases he : enS (fnB bs) bs.length (nI k)
      · rw [if_pos he] at h2
        cases h3 : apF (fnB bs) F (ub (fnB bs 5)) with
        | none => rw [h3] at h2; cases h2
        | some F3 =>
          rw [h3, Option.bind_some] at h2
          exact len_rdM n (k + 1) F3 F2 (len_apF h _ F3 h3) h2
      · rw [if_neg he] at h2; cases h2
theorem mVr_len {ob : List obT} {flo x : Int32} {F : flT} (hk : mo_ck ob) (h : mVr ob flo x = some F) : F.length ≤ 200 := by
  unfold mVr at h
  by_cases e : x = -1
  · rw [if_pos e] at h
    cases h
    exact Nat.zero_le _
  · rw [if_neg e] at h
    by_cases e2 : x < flo ∨ mLt ob < x
    · rw [if_pos e2] at h; cases h
    · rw [if_neg e2] at h
      cases hc : ckM ob (x.toNatClampNeg + 1) with
      | none =>
        rw [hc] at h
        exact len_rdM _ _ _ _ (Nat.zero_le _) h
      | some p =>
        rw [hc] at h
        have hm := (ckM_mem hc).2
        obtain ⟨k, o, _, h2, h3, _, h5⟩ := mLk_mem hm.1
        have hb := hk o (List.mem_of_getElem? h2) h3
        rw [h5] at hb
        have hf := hm.2.1.1
        exact len_rdM _ _ _ _ (by rw [ckL_len]; omega) h
/-- the bytes of a DATA object that holds these ROWS -/
noncomputable def vOf (w : rwT) : Nat → Int32 := fun j => (rwC w (j / 48)).getD (j % 48) 0
noncomputable def enW (w : rwT) : List Int8 := encB w.1 w.2.1.length (vOf w) (leF (vOf w) w.2.1.length) (grF (vOf w) w.2.1.length)
