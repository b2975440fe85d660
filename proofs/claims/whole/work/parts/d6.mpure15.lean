/-! VERSIONS stay as they were when older OBJECTS go. -/
theorem mLk_iff {ob : List obT} (h : mo_nd ob) {s n : Int32} {bs : List Int8} : mLk ob s n = some bs ↔ (s, n, bs) ∈ ob := by
  constructor
  · intro hl
    obtain ⟨k, o, _, h2, h3, h4, h5⟩ := mLk_mem hl
    subst h3
    subst h4
    subst h5
    exact List.mem_of_getElem? h2
  · intro hm
    obtain ⟨k, hk⟩ := List.getElem?_of_mem hm
    exact mLk_at h hk
theorem mLk_perm {ob ob2 : List obT} {kp : obT → Bool} (h : mo_nd ob) (h2 : mo_nd ob2) (hp : ob2.Perm (ob.filter kp)) {s n : Int32} (hk : ∀ bs, (s, n, bs) ∈ ob → kp (s, n, bs) = true) : mLk ob2 s n = mLk ob s n := by
  have key : ∀ bs, mLk ob2 s n = some bs ↔ mLk ob s n = some bs := by
    intro bs
    rw [mLk_iff h, mLk_iff h2, hp.mem_iff, List.mem_filter]
    exact ⟨fun z => z.1, fun z => ⟨z, hk bs z⟩⟩
  cases h9 : mLk ob s n with
  | some bs => exact (key bs).mpr h9
  | none =>
    cases h8 : mLk ob2 s n with
    | none => rfl
    | some bs => rw [(key bs).mp h8] at h9; cases h9
theorem fold_ge (l : List obT) : ∀ v : Int32, v ≤ l.foldl (fun v o => if o.1 = 1 ∧ v < o.2.1 then o.2.1 else v) v := by
  induction l with
  | nil => intro v; exact Int32.le_refl _
  | cons o l ih =>
    intro v
    rw [List.foldl_cons]
    by_cases hc : o.1 = 1 ∧ v < o.2.1
    · rw [if_pos hc]; exact Int32.le_trans (Int32.le_of_lt hc.2) (ih _)
    · rw [if_neg hc]; exact ih _
theorem fold_mem (l : List obT) : ∀ (v : Int32) (o : obT), o ∈ l → o.1 = 1 → o.2.1 ≤ l.foldl (fun v o => if o.1 = 1 ∧ v < o.2.1 then o.2.1 else v) v := by
  induction l with
  | nil => intro v o ho; cases ho
  | cons p l ih =>
    intro v o ho h1
    rw [List.foldl_cons]
    rcases List.mem_cons.mp ho with e | e
    · subst e
      by_cases hc : o.1 = 1 ∧ v < o.2.1
      · rw [if_pos hc]; exact fold_ge l _
      · rw [if_neg hc]; exact Int32.le_trans (Int32.not_lt.mp (fun z => hc ⟨h1, z⟩)) (fold_ge l _)
    · exact ih _ o e h1
theorem fold_from (l : List obT) : ∀ v : Int32, l.foldl (fun v o => if o.1 = 1 ∧ v < o.2.1 then o.2.1 else v) v = v ∨ ∃ o ∈ l, o.1 = 1 ∧ l.foldl (fun v o => if o.1 = 1 ∧ v < o.2.1 then o.2.1 else v) v = o.2.1 := by
  induction l with
  | nil => intro v; exact Or.inl rfl
  | cons p l ih =>
    intro v
    rw [List.foldl_cons]
    by_cases hc : p.1 = 1 ∧ v < p.2.1
    · rw [if_pos hc]
      rcases ih p.2.1 with e | ⟨o, e1, e2, e3⟩
      · exact Or.inr ⟨p, List.mem_cons_self, hc.1, e⟩
      · exact Or.inr ⟨o, List.mem_cons_of_mem _ e1, e2, e3⟩
    · rw [if_neg hc]
      rcases ih v with e | ⟨o, e1, e2, e3⟩
      · exact Or.inl e
      · exact Or.inr ⟨o, List.mem_cons_of_mem _ e1, e2, e3⟩
theorem mLt_le {ob : List obT} {o : obT} (h : o ∈ ob) (h1 : o.1 = 1) : o.2.1 ≤ mLt ob := fold_mem ob (-1) o h h1
theorem mLt_mem {ob : List obT} (h : ¬ mLt ob = -1) : ∃ o ∈ ob, o.1 = 1 ∧ mLt ob = o.2.1 := (fold_from ob (-1)).resolve_left h
theorem rdM_eq {ob ob2 : List obT} : ∀ (n k : Nat) (F : flT), (∀ j, k ≤ j → j < k + n → mLk ob2 1 (nI j) = mLk ob 1 (nI j)) → rdM ob2 n k F = rdM ob n k F
  | 0, _, _, _ => rfl
  | n + 1, k, F, h => by
    rw [rdM, rdM, h k (Nat.le_refl _) (by omega)]
    congr 1
    funext bs
    by_cases he : enS (fnB bs) bs.length (nI k)
    · rw [if_pos he, if_pos he]
      congr 1
      funext F2
      exact rdM_eq n (k + 1) F2 (fun j a b => h j (by omega) (by omega))
    · rw [if_neg he, if_neg he]
theorem ckM_eq {ob ob2 : List obT} {a : Nat} (h0 : ckM ob2 a = ckM ob a) : ∀ d, (∀ j, a ≤ j → j < a + d → mLk ob2 2 (nI j) = mLk ob 2 (nI j)) → ckM ob2 (a + d) = ckM ob (a + d)
  | 0, _ => h0
  | d + 1, h => by
    rw [← Nat.add_assoc, ckM, ckM, h (a + d) (by omega) (by omega), ckM_eq h0 d (fun j x y => h j x (by omega))]
theorem ckM_ge {ob : List obT} {a : Nat} {q : Nat × List Int8} (h0 : ckM ob (a + 1) = some q) (hq : q.1 = a) : ∀ d, ∃ p, ckM ob (a + 1 + d) = some p ∧ a ≤ p.1 ∧ p.1 ≤ a + d
  | 0 => ⟨q, h0, by omega, by omega⟩
  | d + 1 => by
    obtain ⟨p, h1, h2, h3⟩ := ckM_ge h0 hq d
    cases hb : mLk ob 2 (nI (a + 1 + d)) with
    | none => exact ⟨p, by rw [← Nat.add_assoc, ckM_n hb]; exact h1, h2, by omega⟩
    | some bs =>
      by_cases hc : ckS (fnB bs) bs.length (nI (a + 1 + d))
      · exact ⟨(a + 1 + d, bs), by rw [← Nat.add_assoc]; exact ckM_y hb hc, by show a ≤ a + 1 + d; omega, by show a + 1 + d ≤ _; omega⟩
      · exact ⟨p, by rw [← Nat.add_assoc, ckM_u hb hc]; exact h1, h2, by omega⟩
