/-! What is read from bytes depends on these bytes alone. -/
theorem fnB_bs {f : Nat → Int32} {L i : Nat} (hf : ∀ i, fits .byte (.int (f i)) = true) (hi : i < L) : fnB (bsOf f L) i = f i := by
  unfold fnB
  rw [bsOf_get f hi, fit_byte (hf i)]
theorem crF_eq {f g : Nat → Int32} : ∀ (n a : Nat) (c : Int32), (∀ i, a ≤ i → i < a + n → g i = f i) → crF g c a n = crF f c a n
  | 0, _, _, _ => rfl
  | n + 1, a, c, h => by
    rw [crF, crF, h a (Nat.le_refl _) (by omega)]
    exact crF_eq n (a + 1) _ (fun i x y => h i (by omega) (by omega))
theorem r4_eq {f g : Nat → Int32} {a : Nat} (h : ∀ i, a ≤ i → i < a + 4 → g i = f i) : r4 g a = r4 f a := r4_cong (fun i hi => h (a + i) (by omega) (by omega))
theorem frm_mp {f g : Nat → Int32} {L be : Nat} {mk num : Int32} (h6 : 6 ≤ L) (h : ∀ i, i < L → g i = f i) (hf : frm f L be mk num) : frm g L be mk num := by
  unfold frm at hf ⊢
  rw [h 5 (by omega)]
  have hL := hf.1
  rw [h 0 (by omega), r4_eq (f := f) (g := g) (a := 1) (fun i _ b => h i (by omega)), r4_eq (f := f) (g := g) (a := 6 + be * ub (f 5)) (fun i _ b => h i (by omega)), crF_eq (f := f) (g := g) _ 0 _ (fun i _ b => h i (by omega))]
  exact hf
theorem en_eq {f g : Nat → Int32} {n : Nat} (h : ∀ i, i < 6 + 6 * n → g i = f i) {k : Nat} (hk : k < n) : aK g k = aK f k ∧ aN g k = aN f k ∧ aP g k = aP f k := by
  unfold aK aN aP
  exact ⟨by rw [h _ (by omega)], r4_eq (fun i a b => h i (by omega)), by rw [h _ (by omega)]⟩
theorem enC_mp {f g : Nat → Int32} {n : Nat} (h : ∀ i, i < 6 + 6 * n → g i = f i) {k : Nat} (hk : k < n) (hc : enC f k) : enC g k := by
  obtain ⟨e1, e2, e3⟩ := en_eq h hk
  have e4 : aKa g k = aKa f k ∧ aNa g k = aNa f k := by
    cases k with
    | zero => exact ⟨rfl, rfl⟩
    | succ k =>
      obtain ⟨d1, d2, _⟩ := en_eq h (show k < n by omega)
      exact ⟨d1, d2⟩
  unfold enC at hc ⊢
  rw [e1, e2, e3, e4.1, e4.2]
  exact hc
theorem enS_mp {f g : Nat → Int32} {L : Nat} {num : Int32} (h6 : 6 ≤ L) (h : ∀ i, i < L → g i = f i) (hf : enS f L num) : enS g L num := by
  have hL := hf.1.1
  refine ⟨frm_mp h6 h hf.1, ?_⟩
  rw [h 5 (by omega)]
  intro k hk
  exact enC_mp (n := ub (f 5)) (fun i hi => h i (by omega)) hk (hf.2 k hk)
theorem enS_iff {f g : Nat → Int32} {L : Nat} {num : Int32} (h6 : 6 ≤ L) (h : ∀ i, i < L → g i = f i) : enS g L num ↔ enS f L num := ⟨enS_mp h6 (fun i hi => (h i hi).symm), enS_mp h6 h⟩
theorem apF_eq {f g : Nat → Int32} {n : Nat} (h : ∀ i, i < 6 + 6 * n → g i = f i) (F : flT) : ∀ k, k ≤ n → apF g F k = apF f F k
  | 0, _ => rfl
  | k + 1, hk => by
    obtain ⟨e1, e2, e3⟩ := en_eq h (show k < n by omega)
    rw [apF, apF, apF_eq h F k (by omega)]
    congr 1
    funext F2
    rw [apX_A, apX_A, e1, e2, e3]
theorem ck_eq {f g : Nat → Int32} {n : Nat} (h : ∀ i, i < 6 + 5 * n → g i = f i) {k : Nat} (hk : k < n) : cN g k = cN f k ∧ cP g k = cP f k := by
  unfold cN cP
  exact ⟨r4_eq (fun i a b => h i (by omega)), by rw [h _ (by omega)]⟩
theorem ckS_mp {f g : Nat → Int32} {L : Nat} {num : Int32} (h6 : 6 ≤ L) (h : ∀ i, i < L → g i = f i) (hf : ckS f L num) : ckS g L num := by
  have hL := hf.1.1
  refine ⟨frm_mp h6 h hf.1, ?_⟩
  rw [h 5 (by omega)]
  intro k hk
  have hh : ∀ i, i < 6 + 5 * ub (f 5) → g i = f i := fun i hi => h i (by omega)
  obtain ⟨e1, e2⟩ := ck_eq hh hk
  have hc := hf.2 k hk
  have e3 : cNa g k = cNa f k := by
    cases k with
    | zero => rfl
    | succ k => exact (ck_eq hh (show k < ub (f 5) by omega)).1
  unfold ckC at hc ⊢
  rw [e1, e2, e3]
  exact hc
theorem ckS_iff {f g : Nat → Int32} {L : Nat} {num : Int32} (h6 : 6 ≤ L) (h : ∀ i, i < L → g i = f i) : ckS g L num ↔ ckS f L num := ⟨ckS_mp h6 (fun i hi => (h i hi).symm), ckS_mp h6 h⟩
theorem ckL_eq {f g : Nat → Int32} {n : Nat} (h : ∀ i, i < 6 + 5 * n → g i = f i) : ckL g n = ckL f n := by
  unfold ckL
  apply List.map_congr_left
  intro j hj
  obtain ⟨e1, e2⟩ := ck_eq h (List.mem_range.mp hj)
  rw [e1, e2]
