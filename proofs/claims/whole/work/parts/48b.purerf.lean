/-! PURE: how a whole DATA object is read. -/
theorem rdU4_br {f : Nat → Int32} {E : Nat} {s : rS} (h : (rdU4 f E s).2.2 = 0) : s.2 = 0 := by
  unfold rdU4 at h
  split at h
  · exact h
  · exact absurd (show (1 : Int32) = 0 from h) (by decide)
theorem rcR_all {f : Nat → Int32} {E : Nat} {way : Int32} {ms : Int64} {nb c : Nat} : ∀ (k i : Nat) (s : rS) (left v : Int32) (V : Nat → Int32), (rcR f E way ms nb c k i s left v V).1.2 = 0 → (rcR f E way ms nb c k i s left v V).2.2 = i + k
  | 0, i, s, left, v, V, _ => rfl
  | k + 1, i, s, left, v, V, h => by
    unfold rcR at h ⊢
    split at h
    · rename_i h1
      exact absurd h h1
    · rename_i h1
      rw [if_neg h1]
      split at h
      · rename_i h2
        rw [if_pos h2, rcR_all k (i + 1) s left v _ h]; omega
      · rename_i h2
        rw [if_neg h2, rcR_all k (i + 1) _ _ _ _ h]; omega
theorem rcA_all {f : Nat → Int32} {E n c : Nat} {s : rS} {V : Nat → Int32} (h : (rcE f E n c s V).2 = 0) : (rcA f E n c s V).2.2 = n := by
  have := rcR_all (f := f) n 0 _ 0 0 V (rdU4_br (rdU4_br h))
  rw [Nat.zero_add] at this
  exact this
theorem rcE_le {f : Nat → Int32} {E n c : Nat} {s : rS} {V : Nat → Int32} (h : s.1 ≤ E) : (rcE f E n c s V).1 ≤ E :=
  rdU4_le (rdU4_le (rcR_le (f := f) n 0 _ 0 0 V (rcM_le _ _ _ (rdU1_le h))).1)
def rfC (f : Nat → Int32) (E : Nat) (P : Int32) (n : Nat) : Nat → Nat → rS → (Nat → Int32) → Option (Int32 × Nat × (Nat → Int32))
  | 0, _, s, V => if s.2 = 0 ∧ s.1 = E then some (P, n, V) else none
  | k + 1, c, s, V => if (rdU1 f E s).1 ≤ 2 ∧ (rcE f E n c s V).2 = 0 then rfC f E P n k (c + 1) (rcE f E n c s V) (rcA f E n c s V).2.1 else none
def rfM (f : Nat → Int32) (E : Nat) : Int32 × rS := rdU1 f E (0, 0)
def rfP (f : Nat → Int32) (E : Nat) : Int32 × rS := rdU1 f E (rfM f E).2
def rfT (f : Nat → Int32) (E : Nat) : Int32 × rS := rdU1 f E (rfP f E).2
/-- what a DATA object's bytes tell: PARTITION, how many, the values; none where they can't tell any -/
def rfD (f : Nat → Int32) (E : Nat) (V : Nat → Int32) : Option (Int32 × Nat × (Nat → Int32)) :=
  if ¬ (rfM f E).1 = 84 ∨ ¬ (0 ≤ (rfP f E).1 ∧ (rfP f E).1 < 8) ∨ (rfT f E).1 < 1 ∨ 48 < (rfT f E).1 then none
  else rfC f E (rfP f E).1 (rfT f E).1.toNatClampNeg 3 0 (rfT f E).2 V
