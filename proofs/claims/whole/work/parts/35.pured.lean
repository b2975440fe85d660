/-! PURE: how a DATA object is read, as the class goes. -/
abbrev lcm (x y : Int64) : Int32 := lg_cmp x y
theorem lcm_z (x y : Int64) : lcm x y = 0 ↔ x = y := by
  unfold lcm lg_cmp
  by_cases h1 : y < x
  · rw [if_pos h1]
    constructor
    · intro h; exact absurd h (by decide)
    · intro h; rw [h] at h1; exact absurd h1 (fun z => Int64.lt_irrefl z)
  · rw [if_neg h1]
    by_cases h2 : x = y
    · rw [if_pos h2]; exact ⟨fun _ => h2, fun _ => rfl⟩
    · rw [if_neg h2]; exact ⟨fun h => absurd h (by decide), fun h => absurd h h2⟩
abbrev rS : Type := Nat × Int32
def rdU1 (f : Nat → Int32) (E : Nat) (s : rS) : Int32 × rS := if s.1 < E then (f s.1 &&& 255, (s.1 + 1, s.2)) else (0, (s.1, 1))
def rdU4 (f : Nat → Int32) (E : Nat) (s : rS) : Int32 × rS := if s.1 + 4 ≤ E then (r4 f s.1, (s.1 + 4, s.2)) else (0, (s.1, 1))
def rdV (f : Nat → Int32) (E : Nat) (s : rS) : Int32 × rS := ((rvL f E s.2 5 0 0 s.1).1, ((rvL f E s.2 5 0 0 s.1).2.1, (rvL f E s.2 5 0 0 s.1).2.2))
theorem rdU1_le {f : Nat → Int32} {E : Nat} {s : rS} (h : s.1 ≤ E) : (rdU1 f E s).2.1 ≤ E := by
  unfold rdU1; split
  · show s.1 + 1 ≤ E; omega
  · exact h
theorem rdU4_le {f : Nat → Int32} {E : Nat} {s : rS} (h : s.1 ≤ E) : (rdU4 f E s).2.1 ≤ E := by
  unfold rdU4; split
  · show s.1 + 4 ≤ E; omega
  · exact h
theorem rvL_le {f : Nat → Int32} {E : Nat} {br : Int32} : ∀ (n i : Nat) (z : Int32) (k : Nat), k ≤ E → (rvL f E br n i z k).2.1 ≤ E
  | 0, i, z, k, h => h
  | n + 1, i, z, k, h => by
    unfold rvL
    split
    · split
      · exact rvL_le n _ _ _ (by omega)
      · show k + 1 ≤ E; omega
    · exact h
theorem rdV_le {f : Nat → Int32} {E : Nat} {s : rS} (h : s.1 ≤ E) : (rdV f E s).2.1 ≤ E := rvL_le 5 0 0 s.1 h
/-- which are MISSING: the bytes one behind the other -/
def rcM (f : Nat → Int32) (E : Nat) : Nat → rS → Int64 → Int64 × rS
  | 0, s, ms => (ms, s)
  | t + 1, s, ms => rcM f E t (rdU1 f E s).2 ((ms <<< ((8 : Int32).toInt64 &&& 63)) ||| (rdU1 f E s).1.toInt64)
theorem rcM_le {f : Nat → Int32} {E : Nat} : ∀ (t : Nat) (s : rS) (ms : Int64), s.1 ≤ E → (rcM f E t s ms).2.1 ≤ E
  | 0, _, _, h => h
  | t + 1, _, _, h => rcM_le t _ _ (rdU1_le h)
/-- the next value: how many are left of a run, it, where the reading stands -/
def rcN (f : Nat → Int32) (E : Nat) (way : Int32) (s : rS) (left v : Int32) : Int32 × Int32 × rS :=
  if way = 0 then (left, (rdU4 f E s).1, (rdU4 f E s).2)
  else if way = 2 then (left, v + (rdV f E s).1, (rdV f E s).2)
  else if left = 0 then ((rdU1 f E s).1, (rdU4 f E (rdU1 f E s).2).1, (rdU4 f E (rdU1 f E s).2).2)
  else (left, v, s)
theorem rcN_le {f : Nat → Int32} {E : Nat} {way left v : Int32} {s : rS} (h : s.1 ≤ E) : (rcN f E way s left v).2.2.1 ≤ E := by
  unfold rcN
  split
  · exact rdU4_le h
  · split
    · exact rdV_le h
    · split
      · exact rdU4_le (rdU1_le h)
      · exact h
abbrev bitM (ms : Int64) (nb i : Nat) : Int64 := (ms >>> ((nI nb - 1 - nI i).toInt64 &&& 63)) &&& 1
/-- the rows of a column: where the reading stands, the values, how many were taken -/
def rcR (f : Nat → Int32) (E : Nat) (way : Int32) (ms : Int64) (nb c : Nat) : Nat → Nat → rS → Int32 → Int32 → (Nat → Int32) → rS × (Nat → Int32) × Nat
  | 0, i, s, _, _, V => (s, V, i)
  | k + 1, i, s, left, v, V => if ¬ s.2 = 0 then (s, V, i) else if bitM ms nb i = 1 then rcR f E way ms nb c k (i + 1) s left v (upd V (48 * c + i) MIS)
    else rcR f E way ms nb c k (i + 1) (rcN f E way s left v).2.2 (if (rcN f E way s left v).1 - 1 < 0 then 0 else (rcN f E way s left v).1 - 1) (rcN f E way s left v).2.1 (upd V (48 * c + i) (rcN f E way s left v).2.1)
theorem rcR_le {f : Nat → Int32} {E : Nat} {way : Int32} {ms : Int64} {nb c : Nat} : ∀ (k i : Nat) (s : rS) (left v : Int32) (V : Nat → Int32), s.1 ≤ E → (rcR f E way ms nb c k i s left v V).1.1 ≤ E ∧ (rcR f E way ms nb c k i s left v V).2.2 ≤ i + k
  | 0, i, s, left, v, V, h => ⟨h, Nat.le_refl _⟩
  | k + 1, i, s, left, v, V, h => by
    unfold rcR
    split
    · exact ⟨h, by show i ≤ _; omega⟩
    · split
      · have := rcR_le (f := f) (way := way) (ms := ms) (nb := nb) (c := c) k (i + 1) s left v (upd V (48 * c + i) MIS) h
        exact ⟨this.1, by omega⟩
      · have := rcR_le (f := f) (way := way) (ms := ms) (nb := nb) (c := c) k (i + 1) (rcN f E way s left v).2.2 (if (rcN f E way s left v).1 - 1 < 0 then 0 else (rcN f E way s left v).1 - 1) (rcN f E way s left v).2.1 (upd V (48 * c + i) (rcN f E way s left v).2.1) (rcN_le (left := left) (v := v) h)
        exact ⟨this.1, by omega⟩
/-- a column: the answer, where the reading stands, the values, how many were taken -/
def rcA (f : Nat → Int32) (E n c : Nat) (s : rS) (V : Nat → Int32) : rS × (Nat → Int32) × Nat :=
  rcR f E (rdU1 f E s).1 (rcM f E ((n + 7) / 8) (rdU1 f E s).2 0).1 (8 * ((n + 7) / 8)) c n 0 (rcM f E ((n + 7) / 8) (rdU1 f E s).2 0).2 0 0 V
def rcE (f : Nat → Int32) (E n c : Nat) (s : rS) (V : Nat → Int32) : rS := (rdU4 f E (rdU4 f E (rcA f E n c s V).1).2).2
def rcOk (f : Nat → Int32) (E n c : Nat) (s : rS) (V : Nat → Int32) : Prop := (rdU1 f E s).1 ≤ 2 ∧ (rcE f E n c s V).2 = 0
