/-! A CHECKPOINT as it was written; PARTITIONS of FILES. -/
def pts (F : flT) : Prop := ∀ q ∈ F, ∃ p : Nat, p < 8 ∧ q.2 = nI p
theorem pts_0 : pts [] := fun q h => by cases h
theorem pts_ins {F : flT} {x : Int32} {p : Nat} (h : pts F) (hp : p < 8) : pts (fl_ins F x (nI p)) := by
  intro q hq
  unfold fl_ins at hq
  rcases List.mem_append.mp hq with h1 | h1
  · exact h q (List.mem_of_mem_take h1)
  · rcases List.mem_cons.mp h1 with e | e
    · rw [e]; exact ⟨p, hp, rfl⟩
    · exact h q (List.mem_of_mem_drop e)
theorem pts_del {F : flT} {x : Int32} (h : pts F) : pts (fl_del F x) := by
  intro q hq
  unfold fl_del at hq
  rcases List.mem_append.mp hq with h1 | h1
  · exact h q (List.mem_of_mem_take h1)
  · exact h q (List.mem_of_mem_drop h1)
theorem pts_apF {f : Nat → Int32} {F : flT} (h : pts F) : ∀ (n : Nat) (F2 : flT), (∀ k, k < n → enC f k) → apF f F n = some F2 → pts F2
  | 0, F2, _, h2 => by
    cases h2
    exact h
  | n + 1, F2, hk, h2 => by
    rw [apF] at h2
    cases h3 : apF f F n with
    | none => rw [h3] at h2; cases h2
    | some F3 =>
      rw [h3, Option.bind_some, apX_A] at h2
      have ih := pts_apF h n F3 (fun k hk2 => hk k (by omega)) h3
      have hp := (hk n (by omega)).2.2.2
      unfold apX at h2
      by_cases e1 : aK f n = 2
      · rw [if_pos e1] at h2
        by_cases e2 : fl_hB F3 (aN f n) = true
        · rw [if_pos e2] at h2
          cases h2
          exact pts_del ih
        · rw [if_neg e2] at h2
          cases h2
          exact ih
      · rw [if_neg e1] at h2
        by_cases e2 : fl_hB F3 (aN f n) = true
        · rw [if_pos e2] at h2
          cases h2
          exact ih
        · rw [if_neg e2] at h2
          by_cases e3 : F3.length = 200
          · rw [if_pos e3] at h2; cases h2
          · rw [if_neg e3] at h2
            cases h2
            exact pts_ins ih hp
theorem pts_rdM {ob : List obT} : ∀ (n k : Nat) (F F2 : flT), pts F → rdM ob n k F = some F2 → pts F2
  | 0, _, F, F2, h, h2 => by
    cases h2
    exact h
  | n + 1, k, F, F2, h, h2 => by
    rw [rdM] at h2
    cases hb : mLk ob 1 (nI k) with
    | none => rw [hb] at h2; cases h2
    | some bs =>
      rw [hb, Option.bind_some] at h2
      by_cases he : enS (fnB bs) bs.length (nI k)
      · rw [if_pos he] at h2
        cases h3 : apF (fnB bs) F (ub (fnB bs 5)) with
        | none => rw [h3] at h2; cases h2
        | some F3 =>
          rw [h3, Option.bind_some] at h2
          exact pts_rdM n (k + 1) F3 F2 (pts_apF h _ F3 he.2 h3) h2
      · rw [if_neg he] at h2; cases h2
theorem pts_ckL {f : Nat → Int32} {n : Nat} (h : ∀ k, k < n → ckC f k) : pts (ckL f n) := by
  intro q hq
  unfold ckL at hq
  obtain ⟨j, hj, rfl⟩ := List.mem_map.mp hq
  exact ⟨cP f j, (h j (List.mem_range.mp hj)).2, rfl⟩
theorem pts_mVr {ob : List obT} {flo x : Int32} {F : flT} (h : mVr ob flo x = some F) : pts F := by
  unfold mVr at h
  by_cases e : x = -1
  · rw [if_pos e] at h
    cases h
    exact pts_0
  · rw [if_neg e] at h
    by_cases e2 : x < flo ∨ mLt ob < x
    · rw [if_pos e2] at h; cases h
    · rw [if_neg e2] at h
      cases hk : ckM ob (x.toNatClampNeg + 1) with
      | none =>
        rw [hk] at h
        exact pts_rdM _ _ _ _ pts_0 h
      | some p =>
        rw [hk] at h
        exact pts_rdM _ _ _ _ (pts_ckL (ckM_mem hk).2.2.2) h
