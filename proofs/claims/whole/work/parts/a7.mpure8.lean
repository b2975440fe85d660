/-! MODEL, PURE: the FILES of a version as the reference reads them. -/
def mo_nd (ob : List obT) : Prop := ∀ (i j : Nat) (o p : obT), ob[i]? = some o → ob[j]? = some p → o.1 = p.1 → o.2.1 = p.2.1 → i = j
def mo_nu (ob : List obT) : Prop := ∀ o ∈ ob, ∃ n, n < 2 ^ 20 ∧ o.2.1 = nI n
def mo_ck (ob : List obT) : Prop := ∀ o ∈ ob, o.1 = 2 → o.2.2.length ≤ 1010
def mo_in (ob : List obT) : Prop := mo_nd ob ∧ mo_nu ob ∧ mo_ck ob
theorem mFi_at {ob : List obT} {k : Nat} {o : obT} (h : mo_nd ob) (hk : ob[k]? = some o) : mFi ob o.1 o.2.1 = some k :=
  mFi_some hk ⟨rfl, rfl⟩ (fun j p hj hp z => absurd (h j k p o hp hk z.1 z.2) (by omega))
theorem mLk_at {ob : List obT} {k : Nat} {o : obT} (h : mo_nd ob) (hk : ob[k]? = some o) : mLk ob o.1 o.2.1 = some o.2.2 := mLk_s (mFi_at h hk) hk
theorem mLk_mem {ob : List obT} {s n : Int32} {bs : List Int8} (h : mLk ob s n = some bs) : ∃ (k : Nat) (o : obT), mFi ob s n = some k ∧ ob[k]? = some o ∧ o.1 = s ∧ o.2.1 = n ∧ o.2.2 = bs := by
  cases hf : mFi ob s n with
  | none => rw [mLk_n hf] at h; cases h
  | some k =>
    obtain ⟨o, h1, h2, h3⟩ := mFi_get hf
    rw [mLk_s hf h1] at h
    cases h
    exact ⟨k, o, rfl, h1, h2, h3, rfl⟩
/-- the ENTRIES read one behind the other -/
noncomputable def rdM (ob : List obT) : Nat → Nat → flT → Option flT
  | 0, _, F => some F
  | n + 1, k, F => (mLk ob 1 (nI k)).bind (fun bs => @ite _ (enS (fnB bs) bs.length (nI k)) (Classical.propDecidable _) ((apF (fnB bs) F (ub (fnB bs 5))).bind (rdM ob n (k + 1))) none)
theorem rdM_no {ob : List obT} {n k : Nat} {F : flT} (h : ∀ bs, mLk ob 1 (nI k) = some bs → ¬ enS (fnB bs) bs.length (nI k)) : rdM ob (n + 1) k F = none := by
  rw [rdM]
  cases hb : mLk ob 1 (nI k) with
  | none => rfl
  | some bs => rw [Option.bind_some]; exact if_neg (h bs hb)
theorem rdM_yes {ob : List obT} {n k : Nat} {F : flT} {bs : List Int8} (h : mLk ob 1 (nI k) = some bs) (he : enS (fnB bs) bs.length (nI k)) : rdM ob (n + 1) k F = (apF (fnB bs) F (ub (fnB bs 5))).bind (rdM ob n (k + 1)) := by
  rw [rdM, h, Option.bind_some]; exact if_pos he
theorem apF_nn {f : Nat → Int32} {F : flT} {i : Nat} (h : apF f F i = none) : ∀ d, apF f F (i + d) = none
  | 0 => h
  | d + 1 => by rw [← Nat.add_assoc, apF, apF_nn h d]; rfl
theorem en_nn {f : Nat → Int32} {n : Nat} (h : ∀ k, k < n → enC f k) : ∀ k, k < n → ¬ aN f k < 0
  | 0, hk => by
    have h1 := (h 0 hk).2.2.1
    split at h1
    · exact neg1_lt.mp h1
    · exact neg1_lt.mp h1
  | k + 1, hk => by
    have h1 := (h (k + 1) hk).2.2.1
    have h2 := en_nn h k (by omega)
    split at h1
    · exact neg1_lt.mp (Int32.lt_trans (neg1_lt.mpr h2) h1)
    · exact neg1_lt.mp h1
theorem ck_nn {f : Nat → Int32} {n : Nat} (h : ∀ k, k < n → ckC f k) : ∀ k, k < n → ¬ cN f k < 0
  | 0, hk => neg1_lt.mp (h 0 hk).1
  | k + 1, hk => neg1_lt.mp (Int32.lt_trans (neg1_lt.mpr (ck_nn h k (by omega))) (h (k + 1) hk).1)
/-- the greatest sound CHECKPOINT below a number -/
noncomputable def ckM (ob : List obT) : Nat → Option (Nat × List Int8)
  | 0 => none
  | b + 1 => (mLk ob 2 (nI b)).elim (ckM ob b) (fun bs => @ite _ (ckS (fnB bs) bs.length (nI b)) (Classical.propDecidable _) (some (b, bs)) (ckM ob b))
theorem ckM_n {ob : List obT} {b : Nat} (h : mLk ob 2 (nI b) = none) : ckM ob (b + 1) = ckM ob b := by rw [ckM, h]; rfl
theorem ckM_u {ob : List obT} {b : Nat} {bs : List Int8} (h : mLk ob 2 (nI b) = some bs) (hc : ¬ ckS (fnB bs) bs.length (nI b)) : ckM ob (b + 1) = ckM ob b := by rw [ckM, h]; exact if_neg hc
theorem ckM_y {ob : List obT} {b : Nat} {bs : List Int8} (h : mLk ob 2 (nI b) = some bs) (hc : ckS (fnB bs) bs.length (nI b)) : ckM ob (b + 1) = some (b, bs) := by rw [ckM, h]; exact if_pos hc
theorem ckM_gap {ob : List obT} {a : Nat} : ∀ d, (∀ k, a ≤ k → k < a + d → mLk ob 2 (nI k) = none) → ckM ob (a + d) = ckM ob a
  | 0, _ => rfl
  | d + 1, h => by rw [← Nat.add_assoc, ckM_n (h (a + d) (by omega) (by omega))]; exact ckM_gap d (fun k h1 h2 => h k h1 (by omega))
/-- the FILES that a CHECKPOINT tells -/
def ckL (f : Nat → Int32) (n : Nat) : flT := (List.range n).map (fun j => (cN f j, nI (cP f j)))
theorem ckL_len (f : Nat → Int32) (n : Nat) : (ckL f n).length = n := by simp [ckL]
theorem ckL_get (f : Nat → Int32) {n j : Nat} (h : j < n) : (ckL f n).getD j (0, 0) = (cN f j, nI (cP f j)) := by
  unfold ckL
  rw [List.getD_eq_getElem?_getD, List.getElem?_map, List.getElem?_range h]; rfl
theorem ckL_s (f : Nat → Int32) (n : Nat) : ckL f (n + 1) = ckL f n ++ [(cN f n, nI (cP f n))] := by simp [ckL, List.range_succ]
theorem ckL_mono {f : Nat → Int32} {n : Nat} (h : ∀ k, k < n → ckC f k) : ∀ (d i : Nat), i + d + 1 < n + 0 → cN f i < cN f (i + d + 1)
  | 0, i, hi => (h (i + 1) (by omega)).1
  | d + 1, i, hi => Int32.lt_trans (ckL_mono h d i (by omega)) (h (i + d + 1 + 1) (by omega)).1
theorem ckL_so {f : Nat → Int32} {n : Nat} (h : ∀ k, k < n → ckC f k) : fl_so (ckL f n) := by
  unfold fl_so
  rw [List.pairwise_iff_getElem]
  intro i j hi hj hij
  rw [ckL_len] at hi hj
  simp only [ckL, List.getElem_map, List.getElem_range]
  have := ckL_mono h (j - i - 1) i (by omega)
  rw [show i + (j - i - 1) + 1 = j by omega] at this
  exact this
theorem ckL_nn {f : Nat → Int32} {n : Nat} (h : ∀ k, k < n → ckC f k) : ∀ q ∈ ckL f n, ¬ q.1 < 0 := by
  intro q hq
  obtain ⟨j, hj, e⟩ := List.mem_map.mp hq
  rw [← e]; exact ck_nn h j (List.mem_range.mp hj)
theorem liF_ckL {f : Nat → Int32} : ∀ {n : Nat}, (∀ k, k < n → ckC f k) → n ≤ 200 → liF f [] n = ckL f n
  | 0, _, _ => rfl
  | n + 1, h, hn => by
    rw [liF, liF_ckL (fun k hk => h k (by omega)) (by omega), liA, ckL_s]
    have hp : plc (ckL f n) (cN f n) = n := plc_eq _ _ n (by rw [ckL_len]; exact Nat.le_refl _) (fun i hi => by
      rw [ckL_get f hi]
      have := ckL_mono (n := n + 1) h (n - i - 1) i (by omega)
      rw [show i + (n - i - 1) + 1 = n by omega] at this
      exact this) (fun z => by rw [ckL_len] at z; omega)
    rw [if_neg (by rw [fl_hB_iff]; intro z; have := z.1; rw [hp, ckL_len] at this; omega), if_neg (by rw [ckL_len]; omega)]
    unfold fl_ins
    rw [hp, List.take_of_length_le (by rw [ckL_len]; exact Nat.le_refl _), List.drop_eq_nil_of_le (by rw [ckL_len]; exact Nat.le_refl _)]
/-- the FILES of a version -/
noncomputable def mVr (ob : List obT) (flo x : Int32) : Option flT :=
  if x = -1 then some [] else if x < flo ∨ mLt ob < x then none else
  (ckM ob (x.toNatClampNeg + 1)).elim (rdM ob (x.toNatClampNeg + 1) 0 []) (fun q => rdM ob (x.toNatClampNeg - q.1) (q.1 + 1) (ckL (fnB q.2) (ub (fnB q.2 5))))
theorem mLt_small {ob : List obT} (h : mo_nu ob) : mLt ob = -1 ∨ ∃ n, n < 2 ^ 20 ∧ mLt ob = nI n := by
  unfold mLt
  have key : ∀ (l : List obT) (v : Int32), (∀ o ∈ l, ∃ n, n < 2 ^ 20 ∧ o.2.1 = nI n) → (v = -1 ∨ ∃ n, n < 2 ^ 20 ∧ v = nI n) → (l.foldl (fun v o => if o.1 = 1 ∧ v < o.2.1 then o.2.1 else v) v = -1 ∨ ∃ n, n < 2 ^ 20 ∧ l.foldl (fun v o => if o.1 = 1 ∧ v < o.2.1 then o.2.1 else v) v = nI n) := by
    intro l
    induction l with
    | nil => intro v _ hv; exact hv
    | cons o l ih =>
      intro v hl hv
      rw [List.foldl_cons]
      refine ih _ (fun p hp => hl p (List.mem_cons_of_mem _ hp)) ?_
      split
      · exact Or.inr (hl o (List.mem_cons_self ..))
      · exact hv
  exact key ob (-1) h (Or.inl rfl)
theorem ckM_mem {ob : List obT} : ∀ {b : Nat} {q : Nat × List Int8}, ckM ob b = some q → q.1 < b ∧ mLk ob 2 (nI q.1) = some q.2 ∧ ckS (fnB q.2) q.2.length (nI q.1)
  | 0, q, h => by cases h
  | b + 1, q, h => by
    cases hl : mLk ob 2 (nI b) with
    | none =>
      rw [ckM_n hl] at h
      obtain ⟨a, c, d⟩ := ckM_mem h
      exact ⟨by omega, c, d⟩
    | some bs =>
      by_cases hc : ckS (fnB bs) bs.length (nI b)
      · rw [ckM_y hl hc] at h
        cases h
        exact ⟨by omega, hl, hc⟩
      · rw [ckM_u hl hc] at h
        obtain ⟨a, c, d⟩ := ckM_mem h
        exact ⟨by omega, c, d⟩
