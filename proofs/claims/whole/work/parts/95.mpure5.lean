/-! MODEL, PURE: a column's bytes, as its reader meets them. -/
theorem mBn_hi (V : Nat → Int32) (c n f k : Nat) : ∀ d, mBn V c n f (k + d) / 2 ^ d = mBn V c n f k
  | 0 => by simp
  | d + 1 => by
    have h1 := mB1_le V c n f (k + d)
    rw [← Nat.add_assoc, mBn, Nat.pow_succ, Nat.mul_comm (2 ^ d) 2, ← Nat.div_div_eq_div_mul, show (2 * mBn V c n f (k + d) + mB1 V c n f (k + d)) / 2 = mBn V c n f (k + d) by omega]
    exact mBn_hi V c n f k d
theorem nI_sar {m j : Nat} (hm : m < 256) (hj : j < 8) : nI m >>> (nI j &&& 31) = nI (m / 2 ^ j) := by
  have h : ∀ j, j < 8 → ∀ m, m < 256 → nI m >>> (nI j &&& 31) = nI (m / 2 ^ j) := by decide +kernel
  exact h j hj m hm
theorem bitK (V : Nat → Int32) (c n f : Nat) {k : Nat} (hk : k < 8) : (nI (mBn V c n f 8) >>> (nI (7 - k) &&& 31)) &&& 1 = nI (mB1 V c n f k) := by
  have hl := mBn_lt V c n f 8
  have h1 := mBn_hi V c n f (k + 1) (7 - k)
  rw [show k + 1 + (7 - k) = 8 by omega] at h1
  rw [nI_sar (by omega) (by omega), h1]
  have h2 : nI (mBn V c n f (k + 1)) &&& 1 = nI ((nI (mBn V c n f (k + 1))).toBitVec.toNat % 2) := pk_and _ 1 rfl
  have h3 := mBn_lt V c n f (k + 1)
  have h4 : 2 ^ (k + 1) ≤ 2 ^ 8 := Nat.pow_le_pow_right (by decide) (by omega)
  have h5 := mB1_le V c n f k
  rw [h2]
  show nI ((BitVec.ofNat 32 (mBn V c n f (k + 1))).toNat % 2) = _
  rw [BitVec.toNat_ofNat, Nat.mod_eq_of_lt (Nat.lt_of_lt_of_le (Nat.lt_of_lt_of_le h3 h4) (by decide)), mBn]
  congr 1; omega
/-- rows whose MISSING bits are read -/
def tcR (V : Nat → Int32) (c m q : Nat) (f : Nat → Int32) : Prop := (∀ r, r < m → f (3 * r + c) = (if V (48 * c + r) = MIS then MIS else 0)) ∧ q = (tf (col V c m)).length
theorem enc_len (V le gr : Nat → Int32) (N c : Nat) : (encC V le gr N c).length = 1 + (N + 7) / 8 + (pay V c N).length + 8 := by
  simp only [encC, List.length_append, List.length_singleton, mBs_len, u4b_len]
theorem enc_way {f : Nat → Int32} {a : Nat} {V le gr : Nat → Int32} {N c : Nat} (h : bat f a (encC V le gr N c)) : ub (f a) = swW (col V c N) := by
  unfold encC at h
  have h1 := h.left.left.left.left.one
  have h2 : swW (col V c N) ≤ 2 := by
    unfold swW
    split
    · exact Nat.le_refl _
    · split
      · omega
      · omega
  rw [h1, ub_8 (by omega)]
theorem enc_bits {f : Nat → Int32} {a : Nat} {V le gr : Nat → Int32} {N c : Nat} (h : bat f a (encC V le gr N c)) {t : Nat} (ht : 8 * t < N) : ub (f (a + 1 + t)) = mBn V c N (8 * t) 8 := by
  unfold encC at h
  have h1 := h.left.left.left.right
  have h2 := h1 t (by rw [mBs_len]; omega)
  rw [show a + [(nI (swW (col V c N))).toInt8].length + t = a + 1 + t from rfl] at h2
  have h3 : (mBs V c N ((N + 7) / 8)).getD t 0 = (mbits V c (8 * t) (min 8 (N - 8 * t))).toInt8 := by
    unfold mBs
    rw [List.getD_eq_getElem?_getD, List.getElem?_map, List.getElem?_range (by omega)]; rfl
  have h4 := mBn_lt V c N (8 * t) 8
  rw [h2, h3, mbits_8 V c N (8 * t) (by omega), ub_8 (by omega)]
theorem enc_pay {f : Nat → Int32} {a : Nat} {V le gr : Nat → Int32} {N c : Nat} (h : bat f a (encC V le gr N c)) : bat f (a + 1 + (N + 7) / 8) (pay V c N) := by
  unfold encC at h
  have h1 := h.left.left.right
  rw [show a + ([(nI (swW (col V c N))).toInt8] ++ mBs V c N ((N + 7) / 8)).length = a + 1 + (N + 7) / 8 by rw [List.length_append, mBs_len, List.length_singleton]; omega] at h1
  exact h1
theorem obS_pre (w : Nat) : ∀ (l : List Int32) (s : List Int8 × Int32), ∃ X, (l.foldl (obS w) s).1 = s.1 ++ X
  | [], s => ⟨[], by simp⟩
  | v :: l, s => by
    obtain ⟨X, hX⟩ := obS_pre w l (obS w s v)
    rw [List.foldl_cons, hX]
    unfold obS
    split
    · exact ⟨X, rfl⟩
    · exact ⟨_, List.append_assoc _ _ _⟩
theorem ob_pre (w : Nat) (th : List Int32) (k : Nat) : ∃ X, (obF w th).1 = (obF w (th.take k)).1 ++ X := by
  obtain ⟨X, hX⟩ := obS_pre w (th.drop k) (obF w (th.take k))
  refine ⟨X, ?_⟩
  rw [← hX]
  unfold obF
  rw [← List.foldl_append, List.take_append_drop]
/-- the next piece of a payload written one by one -/
theorem ob_next {f : Nat → Int32} {a : Nat} (w : Nat) {th : List Int32} (hm : ∀ v ∈ th, ¬ v = MIS) (h : bat f a (obF w th).1) {k : Nat} (hk : k < th.length) : bat f (a + (obF w (th.take k)).1.length) (if w = 0 then u4b (th.getD k 0) else vbs (th.getD k 0 - ahd th k)) ∧ (obF w (th.take (k + 1))).1.length = (obF w (th.take k)).1.length + (if w = 0 then u4b (th.getD k 0) else vbs (th.getD k 0 - ahd th k)).length ∧ (obF w (th.take (k + 1))).1.length ≤ (obF w th).1.length := by
  have h1 := (ob_k w hm hk).2
  obtain ⟨X, hX⟩ := ob_pre w th (k + 1)
  have h2 := h
  rw [hX, h1] at h2
  refine ⟨h2.left.right, by rw [h1, List.length_append], ?_⟩
  rw [hX, List.length_append]; omega
/-- a run's end -/
def bnd (th : List Int32) (k : Nat) : Prop := k = 0 ∨ th.length ≤ k ∨ ¬ th.getD k 0 = th.getD (k - 1) 0
theorem run_all {th : List Int32} {v : Int32} {j : Nat} (hj : j < ((th).takeWhile (fun x => decide (x = v))).length) : th.getD j 0 = v := by
  induction th generalizing j with
  | nil => simp at hj
  | cons x t ih =>
    rw [List.takeWhile_cons] at hj
    by_cases e : x = v
    · rw [if_pos (by simpa using e)] at hj
      cases j with
      | zero => simpa using e
      | succ j =>
        simp only [List.length_cons] at hj
        have := ih (j := j) (by omega)
        simpa using this
    · rw [if_neg (by simpa using e)] at hj
      simp at hj
theorem run_end {th : List Int32} {v : Int32} (h : (th.takeWhile (fun x => decide (x = v))).length < th.length) : ¬ th.getD (th.takeWhile (fun x => decide (x = v))).length 0 = v := by
  induction th with
  | nil => simp at h
  | cons x t ih =>
    rw [List.takeWhile_cons] at h ⊢
    by_cases e : x = v
    · rw [if_pos (by simpa using e)] at h ⊢
      simp only [List.length_cons] at h ⊢
      have := ih (by omega)
      simpa using this
    · rw [if_neg (by simpa using e)]
      simpa using e
theorem tw_le {th : List Int32} {v : Int32} : (th.takeWhile (fun x => decide (x = v))).length ≤ th.length := by
  induction th with
  | nil => simp
  | cons x t ih =>
    rw [List.takeWhile_cons]
    split
    · simp only [List.length_cons]; omega
    · simp
def rnM (th : List Int32) (k : Nat) : Nat := 1 + ((th.drop (k + 1)).takeWhile (fun x => decide (x = th.getD k 0))).length
theorem drop_getD2 {th : List Int32} {k j : Nat} : (th.drop k).getD j 0 = th.getD (k + j) 0 := by
  rw [List.getD_eq_getElem?_getD, List.getD_eq_getElem?_getD, List.getElem?_drop]
theorem rnM_all {th : List Int32} {k i : Nat} (hi : i < rnM th k) : th.getD (k + i) 0 = th.getD k 0 := by
  cases i with
  | zero => rfl
  | succ i =>
    unfold rnM at hi
    have := run_all (th := th.drop (k + 1)) (v := th.getD k 0) (j := i) (by omega)
    rw [drop_getD2] at this
    rw [show k + (i + 1) = k + 1 + i by omega]; exact this
theorem rnM_le {th : List Int32} {k : Nat} (hk : k < th.length) : k + rnM th k ≤ th.length := by
  unfold rnM
  have := tw_le (th := th.drop (k + 1)) (v := th.getD k 0)
  rw [List.length_drop] at this; omega
theorem rnM_bnd {th : List Int32} {k : Nat} (hk : k < th.length) : bnd th (k + rnM th k) := by
  by_cases h : th.length ≤ k + rnM th k
  · exact Or.inr (Or.inl h)
  · refine Or.inr (Or.inr ?_)
    have h1 := run_end (th := th.drop (k + 1)) (v := th.getD k 0) (by rw [List.length_drop]; unfold rnM at h; omega)
    rw [drop_getD2, show k + 1 + ((th.drop (k + 1)).takeWhile (fun x => decide (x = th.getD k 0))).length = k + rnM th k by unfold rnM; omega] at h1
    have h2 := rnM_all (th := th) (k := k) (i := rnM th k - 1) (by unfold rnM; omega)
    rw [show k + rnM th k - 1 = k + (rnM th k - 1) by unfold rnM; omega, h2]
    exact h1
theorem emR_skip {th : List Int32} {k : Nat} : ∀ (d j : Nat), j + d = rnM th k → 1 ≤ j → k + rnM th k ≤ th.length → emR (prv th (k + j)) (th.drop (k + j)) = emR (prv th (k + rnM th k)) (th.drop (k + rnM th k))
  | 0, j, h, _, _ => by rw [show j = rnM th k by omega]
  | d + 1, j, h, h1, hle => by
    have e1 := rnM_all (th := th) (k := k) (i := j) (by omega)
    have e2 := rnM_all (th := th) (k := k) (i := j - 1) (by omega)
    rw [emR_k (by omega), if_neg (by rintro (z | z); omega; exact z (by rw [e1, show k + j - 1 = k + (j - 1) by omega, e2])), List.nil_append]
    exact emR_skip d (j + 1) (by omega) (by omega) hle
/-- the next run of a payload -/
theorem rn_next {f : Nat → Int32} {a : Nat} {th : List Int32} (h : bat f a (emR none th)) {k : Nat} {E : List Int8} (hE : E ++ emR (prv th k) (th.drop k) = emR none th) (hb : bnd th k) (hk : k < th.length) : ub (f (a + E.length)) = rnM th k % 256 ∧ r4 f (a + E.length + 1) = th.getD k 0 ∧ E.length + 5 ≤ (emR none th).length ∧ (E ++ ([(nI (rnM th k)).toInt8] ++ u4b (th.getD k 0))) ++ emR (prv th (k + rnM th k)) (th.drop (k + rnM th k)) = emR none th := by
  have hc : k = 0 ∨ ¬ th.getD k 0 = th.getD (k - 1) 0 := by
    rcases hb with h1 | h1 | h1
    · exact Or.inl h1
    · omega
    · exact Or.inr h1
  have hs := emR_skip (th := th) (k := k) (rnM th k - 1) 1 (by unfold rnM; omega) (by omega) (rnM_le hk)
  have he := hE
  rw [emR_k hk, if_pos hc, hs] at he
  have hb2 := h
  rw [← he, ← List.append_assoc] at hb2
  have h3 := hb2.left.right
  have h4 := h3.one
  have h5 := h3.tl
  refine ⟨?_, r4_u4 h5, ?_, by rw [List.append_assoc]; exact he⟩
  · rw [h4]
    have e8 : (nI (1 + ((th.drop (k + 1)).takeWhile (fun x => decide (x = th.getD k 0))).length)) = nI (rnM th k) := rfl
    rw [e8]
    have : ub (nI (rnM th k)).toInt8.toInt32 = rnM th k % 256 := by
      have h9 : (nI (rnM th k)).toInt8 = (nI (rnM th k % 256)).toInt8 := by
        apply Int8.toBitVec_inj.mp
        show BitVec.signExtend 8 (BitVec.ofNat 32 _) = BitVec.signExtend 8 (BitVec.ofNat 32 _)
        rw [BitVec.signExtend_eq_setWidth_of_le _ (by decide), BitVec.signExtend_eq_setWidth_of_le _ (by decide)]
        apply BitVec.eq_of_toNat_eq
        rw [BitVec.toNat_setWidth, BitVec.toNat_setWidth, BitVec.toNat_ofNat, BitVec.toNat_ofNat]
        omega
      rw [h9, ub_8 (Nat.mod_lt _ (by decide))]
    exact this
  · have := congrArg List.length he
    simp only [List.length_append, List.length_singleton, u4b_len] at this
    omega
