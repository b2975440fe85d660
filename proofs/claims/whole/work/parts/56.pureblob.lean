/-! PURE: ENTRIES and CHECKPOINTS as they are read. -/
def ub (x : Int32) : Nat := x.toBitVec.toNat % 256
theorem ub_lt (x : Int32) : ub x < 256 := Nat.mod_lt _ (by omega)
theorem ub_and (x : Int32) : x &&& 255 = nI (ub x) := pk_and x 8 rfl
abbrev bbW (Z : zT) (b q L : Nat) (num ex so : Int32) (bt : Option Nat) (wt : Int32) (f : Nat → Int32) : va_W := [(b, .inr (2, [.int num, .ref q, .int ex, .int so, va_rf bt, .int wt])), (q, aB Z L f)]
/-- the frame of an ENTRY or a CHECKPOINT: its length, its mark, its number, its CHECK -/
def frm (f : Nat → Int32) (L be : Nat) (mk num : Int32) : Prop := L = 6 + be * ub (f 5) + 4 ∧ nI (ub (f 0)) = mk ∧ r4 f 1 = num ∧ r4 f (6 + be * ub (f 5)) = crF f (-1) 0 (6 + be * ub (f 5)) ^^^ (-1)
def aK (f : Nat → Int32) (k : Nat) : Nat := ub (f (6 + 6 * k))
def aN (f : Nat → Int32) (k : Nat) : Int32 := r4 f (6 + 6 * k + 1)
def aP (f : Nat → Int32) (k : Nat) : Nat := ub (f (6 + 6 * k + 5))
/-- the kind ahead, the number ahead -/
def aKa (f : Nat → Int32) : Nat → Nat
  | 0 => 2
  | k + 1 => aK f k
def aNa (f : Nat → Int32) : Nat → Int32
  | 0 => -1
  | k + 1 => aN f k
/-- an action of an ENTRY is in its place -/
def enC (f : Nat → Int32) (k : Nat) : Prop := 1 ≤ aK f k ∧ aK f k ≤ aKa f k ∧ (if aK f k = aKa f k then aNa f k else -1) < aN f k ∧ aP f k < 8
def cN (f : Nat → Int32) (k : Nat) : Int32 := r4 f (6 + 5 * k)
def cP (f : Nat → Int32) (k : Nat) : Nat := ub (f (6 + 5 * k + 4))
def cNa (f : Nat → Int32) : Nat → Int32
  | 0 => -1
  | k + 1 => cN f k
def ckC (f : Nat → Int32) (k : Nat) : Prop := cNa f k < cN f k ∧ cP f k < 8
theorem isP_nI {k : Nat} (h : k < 256) : (0 ≤ nI k ∧ nI k < 8) ↔ k < 8 := by
  constructor
  · intro z; exact (nI_ltI (b := 8) (by omega) (by omega)).mp z.2
  · intro z; exact ⟨nI_pos' (by omega), nI_lt (b := 8) z (by omega)⟩
def fl_hB (F : flT) (x : Int32) : Bool := decide (plc F x < F.length) && decide ((F.getD (plc F x) (0, 0)).1 = x)
theorem fl_hB_iff {F : flT} {x : Int32} : fl_hB F x = true ↔ fl_has F x := by simp [fl_hB, fl_has]
/-- an action carried out -/
def apA (f : Nat → Int32) (k : Nat) (F : flT) : Option flT :=
  if aK f k = 2 then some (if fl_hB F (aN f k) = true then fl_del F (aN f k) else F)
  else if fl_hB F (aN f k) = true then some F else if F.length = 200 then none else some (fl_ins F (aN f k) (nI (aP f k)))
def apF (f : Nat → Int32) (F : flT) : Nat → Option flT
  | 0 => some F
  | k + 1 => (apF f F k).bind (apA f k)
/-- a FILE of a CHECKPOINT taken over -/
def liA (f : Nat → Int32) (k : Nat) (F : flT) : flT := if fl_hB F (cN f k) = true then F else if F.length = 200 then F else fl_ins F (cN f k) (nI (cP f k))
def liF (f : Nat → Int32) (F : flT) : Nat → flT
  | 0 => F
  | k + 1 => liA f k (liF f F k)
theorem plc_lo : ∀ {F : flT} {x : Int32} (i : Nat), i < plc F x → (F.getD i (0, 0)).1 < x
  | [], x, i, h => absurd h (by simp [plc])
  | q :: F, x, i, h => by
    unfold plc at h
    rw [List.takeWhile_cons] at h
    by_cases z : q.1 < x
    · rw [if_pos (by simpa using z)] at h
      cases i with
      | zero => simpa using z
      | succ i =>
        have := plc_lo (F := F) (x := x) i (by unfold plc; simp only [List.length_cons] at h; omega)
        simpa using this
    · rw [if_neg (by simpa using z)] at h
      exact absurd h (by simp)
theorem plc_hi : ∀ {F : flT} {x : Int32}, plc F x < F.length → ¬ (F.getD (plc F x) (0, 0)).1 < x
  | [], x, h => absurd h (by simp)
  | q :: F, x, h => by
    unfold plc at h ⊢
    rw [List.takeWhile_cons] at h ⊢
    by_cases z : q.1 < x
    · rw [if_pos (by simpa using z)] at h ⊢
      have := plc_hi (F := F) (x := x) (by unfold plc; simp only [List.length_cons] at h; omega)
      unfold plc at this
      simpa using this
    · rw [if_neg (by simpa using z)]
      simpa using z
theorem fl_so_ins {F : flT} {x pt : Int32} (h : fl_so F) (hn : ¬ fl_has F x) : fl_so (fl_ins F x pt) := by
  unfold fl_so fl_ins
  have e : F = F.take (plc F x) ++ F.drop (plc F x) := (List.take_append_drop _ _).symm
  have h0 := h
  unfold fl_so at h0
  rw [e, List.pairwise_append] at h0
  have hlo : ∀ a ∈ F.take (plc F x), a.1 < x := by
    intro a ha
    obtain ⟨i, hi, rfl⟩ := List.mem_iff_getElem.mp ha
    have h1 := List.length_take (i := plc F x) (l := F)
    have := plc_lo (F := F) (x := x) i (by omega)
    rw [List.getElem_take]
    simpa [List.getD_eq_getElem?_getD, (by omega : i < F.length)] using this
  have hhi : ∀ a ∈ F.drop (plc F x), x < a.1 := by
    intro a ha
    obtain ⟨i, hi, rfl⟩ := List.mem_iff_getElem.mp ha
    rw [List.length_drop] at hi
    rw [List.getElem_drop]
    have h1 : ¬ (F.getD (plc F x) (0, 0)).1 < x := plc_hi (by omega)
    have h2 : ¬ (F.getD (plc F x) (0, 0)).1 = x := fun z => hn ⟨by omega, z⟩
    have h3 : x < (F.getD (plc F x) (0, 0)).1 := Int32.lt_of_le_of_ne (Int32.not_lt.mp h1) (fun z => h2 z.symm)
    have h4 : x < (F.getD (plc F x + i) (0, 0)).1 := by
      cases i with
      | zero => exact h3
      | succ i => exact Int32.lt_trans h3 (fl_mono h (by omega) (by omega))
    simpa [List.getD_eq_getElem?_getD, (by omega : plc F x + i < F.length)] using h4
  rw [List.pairwise_append]
  refine ⟨h0.1, List.pairwise_cons.mpr ⟨hhi, h0.2.1⟩, ?_⟩
  intro a ha b hb
  rcases List.mem_cons.mp hb with rfl | hb
  · exact hlo a ha
  · exact h0.2.2 a ha b hb
theorem fl_so_del {F : flT} {x : Int32} (h : fl_so F) : fl_so (fl_del F x) := by
  refine List.Pairwise.sublist ?_ h
  unfold fl_del
  have e : F = F.take (plc F x) ++ F.drop (plc F x) := (List.take_append_drop _ _).symm
  conv => rhs; rw [e]
  refine List.Sublist.append (List.Sublist.refl _) ?_
  rw [← List.drop_drop]
  exact List.drop_sublist _ _
theorem aP_lt (f : Nat → Int32) (k : Nat) : aP f k < 256 := ub_lt _
theorem cP_lt (f : Nat → Int32) (k : Nat) : cP f k < 256 := ub_lt _
