/-! PURE: how a column is written. -/
/-- bytes by the three ways, and the value ahead -/
def swS (s : Nat × Nat × Nat × Int32) (v : Int32) : Nat × Nat × Nat × Int32 := if v = MIS then s else (s.1 + 4, s.2.1 + (if s.1 = 0 ∨ ¬ v = s.2.2.2 then 5 else 0), s.2.2.1 + (vbs (v - s.2.2.2)).length, v)
def swF (l : List Int32) : Nat × Nat × Nat × Int32 := l.foldl swS (0, 0, 0, 0)
theorem swF_s (l : List Int32) (v : Int32) : swF (l ++ [v]) = swS (swF l) v := by simp [swF]
def swW (l : List Int32) : Nat := if (swF l).2.2.1 < min (swF l).1 (swF l).2.1 then 2 else if (swF l).2.1 < (swF l).1 then 1 else 0
theorem vbs_le (x : Int32) : (vbs x).length ≤ 5 := vb_le 4 _
theorem swS_le {s : Nat × Nat × Nat × Int32} {v : Int32} {n : Nat} (h : s.1 ≤ 4 * n ∧ s.2.1 ≤ 5 * n ∧ s.2.2.1 ≤ 5 * n) : (swS s v).1 ≤ 4 * (n + 1) ∧ (swS s v).2.1 ≤ 5 * (n + 1) ∧ (swS s v).2.2.1 ≤ 5 * (n + 1) := by
  unfold swS
  split
  · omega
  · have := vbs_le (v - s.2.2.2)
    refine ⟨?_, ?_, ?_⟩
    · show s.1 + 4 ≤ _; omega
    · show s.2.1 + (if _ then 5 else 0) ≤ _; split <;> omega
    · show s.2.2.1 + _ ≤ _; omega
theorem swF_le (V : Nat → Int32) (c : Nat) : ∀ n, (swF (col V c n)).1 ≤ 4 * n ∧ (swF (col V c n)).2.1 ≤ 5 * n ∧ (swF (col V c n)).2.2.1 ≤ 5 * n
  | 0 => ⟨Nat.le_refl _, Nat.le_refl _, Nat.le_refl _⟩
  | n + 1 => by rw [col_s, swF_s]; exact swS_le (swF_le V c n)
/-- which are MISSING, eight to a byte -/
def mbits (V : Nat → Int32) (c first : Nat) : Nat → Int32
  | 0 => 0
  | j + 1 => mbits V c first j ||| (if V (48 * c + (first + j)) = MIS then 128 >>> (nI j &&& 31) else 0)
def mBs (V : Nat → Int32) (c n t : Nat) : List Int8 := (List.range t).map (fun j => (mbits V c (8 * j) (min 8 (n - 8 * j))).toInt8)
theorem mBs_s (V : Nat → Int32) (c n t : Nat) : mBs V c n (t + 1) = mBs V c n t ++ [(mbits V c (8 * t) (min 8 (n - 8 * t))).toInt8] := by simp [mBs, List.range_succ]
theorem mBs_len (V : Nat → Int32) (c n t : Nat) : (mBs V c n t).length = t := by simp [mBs]
/-- runs -/
def rnS (s : List Int8 × Nat × Int32) (v : Int32) : List Int8 × Nat × Int32 := if v = MIS then s else if 0 < s.2.1 ∧ ¬ v = s.2.2 then (s.1 ++ [(nI s.2.1).toInt8] ++ u4b s.2.2, 1, v) else (s.1, s.2.1 + 1, v)
def rnF (l : List Int32) : List Int8 × Nat × Int32 := l.foldl rnS ([], 0, 0)
theorem rnF_s (l : List Int32) (v : Int32) : rnF (l ++ [v]) = rnS (rnF l) v := by simp [rnF]
def rnE (s : List Int8 × Nat × Int32) : List Int8 := if 0 < s.2.1 then s.1 ++ [(nI s.2.1).toInt8] ++ u4b s.2.2 else s.1
def rnB (l : List Int32) : List Int8 := rnE (rnF l)
/-- one by one -/
def obS (way : Nat) (s : List Int8 × Int32) (v : Int32) : List Int8 × Int32 := if v = MIS then s else (s.1 ++ (if way = 0 then u4b v else vbs (v - s.2)), v)
def obF (way : Nat) (l : List Int32) : List Int8 × Int32 := l.foldl (obS way) ([], 0)
theorem obF_s (way : Nat) (l : List Int32) (v : Int32) : obF way (l ++ [v]) = obS way (obF way l) v := by simp [obF]
def obB (way : Nat) (l : List Int32) : List Int8 := (obF way l).1
theorem rn_sw : ∀ (n : Nat) (V : Nat → Int32) (c : Nat), (rnE (rnF (col V c n))).length = (swF (col V c n)).2.1 ∧ (rnF (col V c n)).2.2 = (swF (col V c n)).2.2.2 ∧ ((rnF (col V c n)).2.1 = 0 ↔ (swF (col V c n)).1 = 0) ∧ (rnF (col V c n)).2.1 ≤ n ∧ (rnF (col V c n)).1.length + (if 0 < (rnF (col V c n)).2.1 then 5 else 0) = (swF (col V c n)).2.1
  | 0, V, c => ⟨rfl, rfl, ⟨fun _ => rfl, fun _ => rfl⟩, Nat.le_refl _, rfl⟩
  | n + 1, V, c => by
    obtain ⟨h1, h2, h3, h4, h5⟩ := rn_sw n V c
    rw [col_s, rnF_s, swF_s]
    generalize rnF (col V c n) = s at *
    generalize swF (col V c n) = t at *
    generalize V (48 * c + n) = v
    obtain ⟨o, len, like⟩ := s
    obtain ⟨p, r, d, a⟩ := t
    dsimp only at h1 h2 h3 h4 h5
    subst h2
    unfold rnS swS
    by_cases hv : v = MIS
    · simp only [if_pos hv]
      exact ⟨h1, trivial, h3, by omega, h5⟩
    · simp only [if_neg hv]
      by_cases hz : len = 0
      · have hp : p = 0 := h3.mp hz
        subst hz
        simp only [Nat.lt_irrefl, false_and, if_false, if_pos (Or.inl hp)]
        simp only [rnE, Nat.lt_irrefl, if_false, Nat.add_zero] at h1 h5 ⊢
        refine ⟨?_, trivial, ⟨fun z => absurd z (by omega), fun z => absurd z (by omega)⟩, by omega, ?_⟩
        · simp [u4b_len]; omega
        · simp; omega
      · have hp : ¬ p = 0 := fun z => hz (h3.mpr z)
        have hl : 0 < len := by omega
        simp only [rnE, if_pos hl] at h1 h5 ⊢
        by_cases he : v = like
        · subst he
          simp only [not_true, and_false, if_false, or_false, if_neg hp, if_pos hl] at h1 h5 ⊢
          refine ⟨?_, trivial, ⟨fun z => absurd z (by omega), fun z => absurd z (by omega)⟩, by omega, ?_⟩
          · simp [u4b_len] at h1 ⊢; omega
          · simp; omega
        · simp only [he, not_false_eq_true, and_true, if_pos hl, or_true, if_true] at h1 h5 ⊢
          refine ⟨?_, trivial, ⟨fun z => absurd z (by omega), fun z => absurd z (by omega)⟩, by omega, ?_⟩
          · simp [u4b_len] at h1 ⊢; omega
          · simp [u4b_len] at h1 ⊢; omega
theorem ob_sw (way : Nat) : ∀ (n : Nat) (V : Nat → Int32) (c : Nat), (obF way (col V c n)).2 = (swF (col V c n)).2.2.2 ∧ (obF way (col V c n)).1.length = (if way = 0 then (swF (col V c n)).1 else (swF (col V c n)).2.2.1)
  | 0, V, c => by
    refine ⟨rfl, ?_⟩
    show 0 = if way = 0 then 0 else 0
    split <;> rfl
  | n + 1, V, c => by
    obtain ⟨h1, h2⟩ := ob_sw way n V c
    rw [col_s, obF_s, swF_s]
    generalize obF way (col V c n) = s at *
    generalize swF (col V c n) = t at *
    generalize V (48 * c + n) = v
    obtain ⟨o, a⟩ := s
    obtain ⟨p, r, d, a2⟩ := t
    dsimp only at h1 h2
    subst h1
    unfold obS swS
    by_cases hv : v = MIS
    · simp only [if_pos hv]; exact ⟨trivial, h2⟩
    · simp only [if_neg hv]
      refine ⟨trivial, ?_⟩
      by_cases hw : way = 0
      · simp only [if_pos hw] at h2 ⊢; simp [u4b_len, h2]
      · simp only [if_neg hw] at h2 ⊢; simp [h2]
def pay (V : Nat → Int32) (c n : Nat) : List Int8 := if swW (col V c n) = 1 then rnB (col V c n) else obB (swW (col V c n)) (col V c n)
theorem pay_le (V : Nat → Int32) (c n : Nat) : (pay V c n).length ≤ 4 * n := by
  have h1 := (rn_sw n V c).1
  have h2 := (ob_sw (swW (col V c n)) n V c).2
  have h3 := (swF_le V c n).1
  unfold pay
  by_cases hw : swW (col V c n) = 1
  · rw [if_pos hw, rnB, h1]
    unfold swW at hw
    split at hw
    · cases hw
    · split at hw
      · omega
      · cases hw
  · rw [if_neg hw, obB, h2]
    by_cases h0 : swW (col V c n) = 0
    · rw [if_pos h0]; exact h3
    · rw [if_neg h0]
      unfold swW at hw h0
      split at hw
      · omega
      · split at hw
        · exact absurd rfl hw
        · simp_all
def encC (V le gr : Nat → Int32) (n c : Nat) : List Int8 := [(nI (swW (col V c n))).toInt8] ++ mBs V c n ((n + 7) / 8) ++ pay V c n ++ u4b (le c) ++ u4b (gr c)
theorem encC_le (V le gr : Nat → Int32) (n c : Nat) (hn : n ≤ 48) : (encC V le gr n c).length ≤ 207 := by
  have := pay_le V c n
  simp only [encC, List.length_append, List.length_singleton, mBs_len, u4b_len]
  omega
def colsE (V le gr : Nat → Int32) (n : Nat) : Nat → List Int8
  | 0 => []
  | c + 1 => colsE V le gr n c ++ encC V le gr n c
theorem colsE_le (V le gr : Nat → Int32) (n : Nat) (hn : n ≤ 48) : ∀ c, (colsE V le gr n c).length ≤ 207 * c
  | 0 => Nat.le_refl _
  | c + 1 => by
    have h1 := colsE_le V le gr n hn c
    have h2 := encC_le V le gr n c hn
    simp only [colsE, List.length_append]
    omega
def bodyB (P : Int32) (n : Nat) (V le gr : Nat → Int32) : List Int8 := [(84 : Int32).toInt8, P.toInt8, (nI n).toInt8] ++ colsE V le gr n 3
/-- a DATA object's bytes -/
def encB (P : Int32) (n : Nat) (V le gr : Nat → Int32) : List Int8 := bodyB P n V le gr ++ u4b (crc (bodyB P n V le gr))
theorem encB_le (P : Int32) (n : Nat) (V le gr : Nat → Int32) (hn : n ≤ 48) : (encB P n V le gr).length ≤ 628 := by
  have := colsE_le V le gr n hn 3
  simp only [encB, bodyB, List.length_append, u4b_len, List.length_cons, List.length_nil]
  omega
theorem sw_mono (V : Nat → Int32) (c : Nat) {i : Nat} : ∀ (k : Nat), (swF (col V c i)).1 ≤ (swF (col V c (i + k))).1 ∧ (swF (col V c i)).2.1 ≤ (swF (col V c (i + k))).2.1 ∧ (swF (col V c i)).2.2.1 ≤ (swF (col V c (i + k))).2.2.1
  | 0 => ⟨Nat.le_refl _, Nat.le_refl _, Nat.le_refl _⟩
  | k + 1 => by
    have h := sw_mono V c (i := i) k
    rw [show i + (k + 1) = (i + k) + 1 from rfl, col_s, swF_s]
    generalize swF (col V c (i + k)) = t at h ⊢
    unfold swS
    split
    · exact h
    · refine ⟨?_, ?_, ?_⟩
      · show _ ≤ t.1 + 4; omega
      · show _ ≤ t.2.1 + _; omega
      · show _ ≤ t.2.2.1 + _; omega
theorem nI_le0 {k : Nat} (hk : k < 2 ^ 31) : nI k ≤ 0 ↔ ¬ 0 < k := by
  have := nI_leI (a := k) (b := 0) hk (by omega)
  rw [show nI k ≤ 0 ↔ nI k ≤ nI 0 from Iff.rfl, this]
  omega
