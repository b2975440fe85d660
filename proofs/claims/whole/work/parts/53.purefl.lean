/-! PURE: FILES by their numbers. -/
abbrev flT : Type := List (Int32 × Int32)
def fl_at (N Pt : Nat → Int32) (F : flT) : Prop := ∀ i, i < F.length → N i = (F.getD i (0, 0)).1 ∧ Pt i = (F.getD i (0, 0)).2
def fl_so (F : flT) : Prop := F.Pairwise (fun a b => a.1 < b.1)
/-- the first place whose number is not below this one -/
def plc (F : flT) (x : Int32) : Nat := (F.takeWhile (fun q => decide (q.1 < x))).length
theorem plc_le : ∀ (F : flT) (x : Int32), plc F x ≤ F.length
  | [], x => Nat.le_refl _
  | q :: F, x => by
    unfold plc
    rw [List.takeWhile_cons]
    split
    · have := plc_le F x
      unfold plc at this
      simp only [List.length_cons]; omega
    · exact Nat.zero_le _
theorem plc_eq : ∀ (F : flT) (x : Int32) (p : Nat), p ≤ F.length → (∀ i, i < p → (F.getD i (0, 0)).1 < x) → (p < F.length → ¬ (F.getD p (0, 0)).1 < x) → plc F x = p
  | [], x, p, h, _, _ => by simp only [List.length_nil] at h; simp [plc]; omega
  | q :: F, x, p, h, h1, h2 => by
    unfold plc
    rw [List.takeWhile_cons]
    cases p with
    | zero =>
      have := h2 (by simp)
      simp only [List.getD_cons_zero] at this
      rw [if_neg (by simpa using this)]
      rfl
    | succ p =>
      have h0 := h1 0 (by omega)
      simp only [List.getD_cons_zero] at h0
      rw [if_pos (by simpa using h0)]
      have := plc_eq F x p (by simp only [List.length_cons] at h; omega) (fun i hi => by simpa using h1 (i + 1) (by omega)) (fun hp => by simpa using h2 (by simp only [List.length_cons]; omega))
      unfold plc at this
      simp [this]
theorem fl_mono {F : flT} (h : fl_so F) {i j : Nat} (hij : i < j) (hj : j < F.length) : (F.getD i (0, 0)).1 < (F.getD j (0, 0)).1 := by
  have := (List.pairwise_iff_getElem.mp h) i j (by omega) hj hij
  simpa [List.getD_eq_getElem?_getD, (by omega : i < F.length), hj] using this
def fl_has (F : flT) (x : Int32) : Prop := plc F x < F.length ∧ (F.getD (plc F x) (0, 0)).1 = x
abbrev flW (Z : zT) (h qn qp m : Nat) (N Pt : Nat → Int32) : va_W := [(h, .inr (4, [.ref qn, .ref qp, .int (nI m)])), (qn, aI Z 200 N), (qp, aI Z 200 Pt)]
def fl_ins (F : flT) (x pt : Int32) : flT := F.take (plc F x) ++ (x, pt) :: F.drop (plc F x)
def fl_del (F : flT) (x : Int32) : flT := F.take (plc F x) ++ F.drop (plc F x + 1)
theorem fl_ins_len (F : flT) (x pt : Int32) : (fl_ins F x pt).length = F.length + 1 := by
  have := plc_le F x
  simp only [fl_ins, List.length_append, List.length_take, List.length_cons, List.length_drop]; omega
theorem fl_del_len {F : flT} {x : Int32} (h : plc F x < F.length) : (fl_del F x).length + 1 = F.length := by
  simp only [fl_del, List.length_append, List.length_take, List.length_drop]; omega
theorem fl_ins_at {F : flT} {x pt : Int32} {N Pt N2 P2 : Nat → Int32} (h : fl_at N Pt F) (hN : ∀ i, i ≤ F.length → N2 i = if i < plc F x then N i else if i = plc F x then x else N (i - 1)) (hP : ∀ i, i ≤ F.length → P2 i = if i < plc F x then Pt i else if i = plc F x then pt else Pt (i - 1)) : fl_at N2 P2 (fl_ins F x pt) := by
  intro i hi
  rw [fl_ins_len] at hi
  have hp := plc_le F x
  rw [hN i (by omega), hP i (by omega)]
  have e : (fl_ins F x pt).getD i (0, 0) = if i < plc F x then F.getD i (0, 0) else if i = plc F x then (x, pt) else F.getD (i - 1) (0, 0) := by
    simp only [fl_ins, List.getD_eq_getElem?_getD]
    by_cases a : i < plc F x
    · rw [if_pos a, List.getElem?_append_left (by rw [List.length_take]; omega), List.getElem?_take_of_lt a]
    · rw [if_neg a, List.getElem?_append_right (by rw [List.length_take]; omega), List.length_take, Nat.min_eq_left hp]
      by_cases b : i = plc F x
      · subst b; simp
      · rw [if_neg b]
        obtain ⟨j, hj⟩ : ∃ j, i - plc F x = j + 1 := ⟨i - plc F x - 1, by omega⟩
        rw [hj, List.getElem?_cons_succ, List.getElem?_drop, show plc F x + j = i - 1 by omega]
  rw [e]
  by_cases a : i < plc F x
  · simp only [if_pos a]; exact h i (by omega)
  · by_cases b : i = plc F x
    · simp only [if_neg a, if_pos b]; exact ⟨trivial, trivial⟩
    · simp only [if_neg a, if_neg b]; exact h (i - 1) (by omega)
theorem fl_del_at {F : flT} {x : Int32} {N Pt N2 P2 : Nat → Int32} (h : fl_at N Pt F) (hp : plc F x < F.length) (hN : ∀ i, i + 1 < F.length → N2 i = if i < plc F x then N i else N (i + 1)) (hP : ∀ i, i + 1 < F.length → P2 i = if i < plc F x then Pt i else Pt (i + 1)) : fl_at N2 P2 (fl_del F x) := by
  intro i hi
  have hl := fl_del_len hp
  rw [hN i (by omega), hP i (by omega)]
  have e : (fl_del F x).getD i (0, 0) = if i < plc F x then F.getD i (0, 0) else F.getD (i + 1) (0, 0) := by
    simp only [fl_del, List.getD_eq_getElem?_getD]
    by_cases a : i < plc F x
    · rw [if_pos a, List.getElem?_append_left (by rw [List.length_take]; omega), List.getElem?_take_of_lt a]
    · rw [if_neg a, List.getElem?_append_right (by rw [List.length_take]; omega), List.length_take, Nat.min_eq_left (by omega), List.getElem?_drop, show plc F x + 1 + (i - plc F x) = i + 1 by omega]
  rw [e]
  by_cases a : i < plc F x
  · simp only [if_pos a]; exact h i (by omega)
  · simp only [if_neg a]; exact h (i + 1) (by omega)
/-- a checkpoint's bytes, ahead of the CHECK -/
def ckF (F : flT) : List Int8 := F.flatMap (fun q => u4b q.1 ++ [q.2.toInt8])
def ckB (v : Int32) (F : flT) : List Int8 := [(67 : Int32).toInt8] ++ u4b v ++ [(nI F.length).toInt8] ++ ckF F
def ckE (v : Int32) (F : flT) : List Int8 := ckB v F ++ u4b (crc (ckB v F))
theorem ckF_len : ∀ (F : flT), (ckF F).length = 5 * F.length
  | [] => rfl
  | q :: F => by
    have := ckF_len F
    simp only [ckF, List.flatMap_cons, List.length_append, u4b_len, List.length_cons, List.length_nil] at this ⊢
    omega
theorem ckF_s (F : flT) (i : Nat) (h : i < F.length) : ckF (F.take (i + 1)) = ckF (F.take i) ++ (u4b (F.getD i (0, 0)).1 ++ [(F.getD i (0, 0)).2.toInt8]) := by
  rw [List.take_succ, ckF, List.flatMap_append]
  simp [ckF, List.getD_eq_getElem?_getD, h]
