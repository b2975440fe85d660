/-! PURE: a DATA object that is sound, and its ROWS. -/
def bsOf (f : Nat → Int32) (L : Nat) : List Int8 := (List.range L).map (fun i => (f i).toInt8)
theorem bsOf_len (f : Nat → Int32) (L : Nat) : (bsOf f L).length = L := by simp [bsOf]
theorem bsOf_get (f : Nat → Int32) {L i : Nat} (h : i < L) : (bsOf f L).getD i 0 = (f i).toInt8 := by
  simp [bsOf, List.getD_eq_getElem?_getD, h]
theorem fit_byte {x : Int32} (h : fits .byte (.int x) = true) : x.toInt8.toInt32 = x := by
  have h1 : (-128 : Int32).toInt = -128 := by decide
  have h2 : (127 : Int32).toInt = 127 := by decide
  simp only [fits, Bool.and_eq_true, decide_eq_true_eq, Int32.le_iff_toInt_le, h1, h2] at h
  apply Int32.toInt_inj.mp
  rw [Int8.toInt_toInt32, Int32.toInt_toInt8]
  show Int.bmod x.toInt 256 = _
  unfold Int.bmod
  simp only
  split <;> omega
theorem by_of {f : Nat → Int32} (h : ∀ i, fits .byte (.int (f i)) = true) (L : Nat) : by_at f (bsOf f L) := by
  refine ⟨fun i hi => ?_, h⟩
  rw [bsOf_len] at hi
  rw [bsOf_get f hi, fit_byte (h i)]
theorem by_bs {f : Nat → Int32} {bs : List Int8} (h : by_at f bs) : bsOf f bs.length = bs := by
  apply List.ext_getElem?
  intro i
  by_cases hi : i < bs.length
  · have h1 := h.1 i hi
    rw [bsOf, List.getElem?_map, List.getElem?_range hi, Option.map_some, h1]
    simp [List.getD_eq_getElem?_getD, hi]
  · rw [List.getElem?_eq_none (by rw [bsOf_len]; omega), List.getElem?_eq_none (by omega)]
theorem rcR_cong {f : Nat → Int32} {E : Nat} {way : Int32} {ms : Int64} {nb c : Nat} : ∀ (k i : Nat) (s : rS) (left v : Int32) (V V2 : Nat → Int32), (rcR f E way ms nb c k i s left v V).1 = (rcR f E way ms nb c k i s left v V2).1 ∧ (rcR f E way ms nb c k i s left v V).2.2 = (rcR f E way ms nb c k i s left v V2).2.2 ∧ ∀ j, (V j = V2 j ∨ (48 * c + i ≤ j ∧ j < 48 * c + (rcR f E way ms nb c k i s left v V).2.2)) → (rcR f E way ms nb c k i s left v V).2.1 j = (rcR f E way ms nb c k i s left v V2).2.1 j
  | 0, i, s, left, v, V, V2 => by
    refine ⟨rfl, rfl, fun j hj => ?_⟩
    rcases hj with h | h
    · exact h
    · exact absurd h.2 (by show ¬ j < 48 * c + i; omega)
  | k + 1, i, s, left, v, V, V2 => by
    unfold rcR
    by_cases h1 : ¬ s.2 = 0
    · rw [if_pos h1, if_pos h1]
      refine ⟨rfl, rfl, fun j hj => ?_⟩
      rcases hj with h | h
      · exact h
      · exact absurd h.2 (by show ¬ j < 48 * c + i; omega)
    · rw [if_neg h1, if_neg h1]
      by_cases h2 : bitM ms nb i = 1
      · rw [if_pos h2, if_pos h2]
        have ih := rcR_cong (f := f) (E := E) (way := way) (ms := ms) (nb := nb) (c := c) k (i + 1) s left v (upd V (48 * c + i) MIS) (upd V2 (48 * c + i) MIS)
        refine ⟨ih.1, ih.2.1, fun j hj => ih.2.2 j ?_⟩
        by_cases e : j = 48 * c + i
        · left; subst e; rw [pk_us, pk_us]
        · rcases hj with h | h
          · left; rw [pk_un e, pk_un e]; exact h
          · right; exact ⟨by omega, h.2⟩
      · rw [if_neg h2, if_neg h2]
        have ih := rcR_cong (f := f) (E := E) (way := way) (ms := ms) (nb := nb) (c := c) k (i + 1) (rcN f E way s left v).2.2 (if (rcN f E way s left v).1 - 1 < 0 then 0 else (rcN f E way s left v).1 - 1) (rcN f E way s left v).2.1 (upd V (48 * c + i) (rcN f E way s left v).2.1) (upd V2 (48 * c + i) (rcN f E way s left v).2.1)
        refine ⟨ih.1, ih.2.1, fun j hj => ih.2.2 j ?_⟩
        by_cases e : j = 48 * c + i
        · left; subst e; rw [pk_us, pk_us]
        · rcases hj with h | h
          · left; rw [pk_un e, pk_un e]; exact h
          · right; exact ⟨by omega, h.2⟩
theorem rcE_cong {f : Nat → Int32} {E n c : Nat} {s : rS} (V V2 : Nat → Int32) : rcE f E n c s V = rcE f E n c s V2 := by
  unfold rcE
  rw [show (rcA f E n c s V).1 = (rcA f E n c s V2).1 from (rcR_cong n 0 _ 0 0 V V2).1]
theorem col_eq {V V2 : Nat → Int32} {c n : Nat} : col V c n = col V2 c n ↔ ∀ r, r < n → V (48 * c + r) = V2 (48 * c + r) := by
  constructor
  · intro h r hr
    have := congrArg (fun l => l.getD r 0) h
    simpa [col, List.getD_eq_getElem?_getD, hr] using this
  · intro h
    apply List.map_congr_left
    intro r hr
    exact h r (List.mem_range.mp hr)
theorem rfC_cong {f : Nat → Int32} {E : Nat} {P : Int32} {n : Nat} (hn : n ≤ 48) : ∀ (k c : Nat) (s : rS) (V V2 : Nat → Int32), (∀ d, d < c → col V d n = col V2 d n) → (rfC f E P n k c s V = none ∧ rfC f E P n k c s V2 = none) ∨ ∃ V3 V4, rfC f E P n k c s V = some (P, n, V3) ∧ rfC f E P n k c s V2 = some (P, n, V4) ∧ ∀ d, d < c + k → col V3 d n = col V4 d n
  | 0, c, s, V, V2, hd => by
    unfold rfC
    by_cases h : s.2 = 0 ∧ s.1 = E
    · rw [if_pos h, if_pos h]
      exact Or.inr ⟨V, V2, rfl, rfl, fun d h1 => hd d (by omega)⟩
    · rw [if_neg h, if_neg h]
      exact Or.inl ⟨rfl, rfl⟩
  | k + 1, c, s, V, V2, hd => by
    unfold rfC
    rw [← rcE_cong V V2]
    by_cases h : (rdU1 f E s).1 ≤ 2 ∧ (rcE f E n c s V).2 = 0
    · rw [if_pos h, if_pos h]
      have hg := rcR_cong (f := f) (E := E) (way := (rdU1 f E s).1) (ms := (rcM f E ((n + 7) / 8) (rdU1 f E s).2 0).1) (nb := 8 * ((n + 7) / 8)) (c := c) n 0 (rcM f E ((n + 7) / 8) (rdU1 f E s).2 0).2 0 0 V V2
      have hall := rcA_all h.2
      have := rfC_cong (f := f) (E := E) (P := P) hn k (c + 1) (rcE f E n c s V) (rcA f E n c s V).2.1 (rcA f E n c s V2).2.1 (fun d h1 => by
        rw [col_eq]
        intro r hr
        refine hg.2.2 _ ?_
        by_cases e : d = c
        · right
          subst e
          refine ⟨by omega, ?_⟩
          rw [show (rcR f E (rdU1 f E s).1 (rcM f E ((n + 7) / 8) (rdU1 f E s).2 0).1 (8 * ((n + 7) / 8)) d n 0 (rcM f E ((n + 7) / 8) (rdU1 f E s).2 0).2 0 0 V).2.2 = n from hall]
          omega
        · left
          exact col_eq.mp (hd d (by omega)) r hr)
      rcases this with h2 | ⟨V3, V4, a, b, h3⟩
      · exact Or.inl h2
      · exact Or.inr ⟨V3, V4, a, b, fun d h1 => h3 d (by omega)⟩
    · rw [if_neg h, if_neg h]
      exact Or.inl ⟨rfl, rfl⟩
theorem clamp_le {x : Int32} {n : Nat} (hn : n < 2 ^ 31) (h : ¬ nI n < x) : x.toNatClampNeg ≤ n := by
  have h1 := Int32.not_lt.mp h
  rw [Int32.le_iff_toInt_le, nI_toInt hn] at h1
  show x.toInt.toNat ≤ n
  omega
theorem rfD_cong {f : Nat → Int32} {E : Nat} (V V2 : Nat → Int32) : (rfD f E V = none ∧ rfD f E V2 = none) ∨ ∃ P n V3 V4, rfD f E V = some (P, n, V3) ∧ rfD f E V2 = some (P, n, V4) ∧ n ≤ 48 ∧ ∀ d, d < 3 → col V3 d n = col V4 d n := by
  unfold rfD
  by_cases h : ¬ (rfM f E).1 = 84 ∨ ¬ (0 ≤ (rfP f E).1 ∧ (rfP f E).1 < 8) ∨ (rfT f E).1 < 1 ∨ 48 < (rfT f E).1
  · rw [if_pos h, if_pos h]; exact Or.inl ⟨rfl, rfl⟩
  · rw [if_neg h, if_neg h]
    have hn : (rfT f E).1.toNatClampNeg ≤ 48 := clamp_le (by omega) (fun z => h (Or.inr (Or.inr (Or.inr z))))
    rcases rfC_cong (f := f) (E := E) (P := (rfP f E).1) hn 3 0 (rfT f E).2 V V2 (fun d hd => absurd hd (by omega)) with h1 | ⟨V3, V4, a, b, h2⟩
    · exact Or.inl h1
    · exact Or.inr ⟨_, _, V3, V4, a, b, hn, fun d hd => h2 d (by omega)⟩
theorem mbits_cong {V V2 : Nat → Int32} {c n : Nat} (h : col V c n = col V2 c n) (first : Nat) : ∀ j, first + j ≤ n → mbits V c first j = mbits V2 c first j
  | 0, _ => rfl
  | j + 1, hj => by rw [mbits, mbits, mbits_cong h first j (by omega), col_eq.mp h (first + j) (by omega)]
theorem mBs_cong {V V2 : Nat → Int32} {c n : Nat} (h : col V c n = col V2 c n) : mBs V c n ((n + 7) / 8) = mBs V2 c n ((n + 7) / 8) := by
  unfold mBs
  apply List.map_congr_left
  intro j hj
  have hj2 := List.mem_range.mp hj
  rw [mbits_cong h (8 * j) (min 8 (n - 8 * j)) (by omega)]
theorem encC_cong {V V2 le le2 gr gr2 : Nat → Int32} {n c : Nat} (h : col V c n = col V2 c n) (hl : le c = le2 c) (hg : gr c = gr2 c) : encC V le gr n c = encC V2 le2 gr2 n c := by
  unfold encC
  rw [mBs_cong h, hl, hg]
  unfold pay
  rw [h]
theorem encB_cong {P : Int32} {n : Nat} {V V2 le le2 gr gr2 : Nat → Int32} (h : ∀ c, c < 3 → col V c n = col V2 c n) (hl : ∀ c, c < 3 → le c = le2 c) (hg : ∀ c, c < 3 → gr c = gr2 c) : encB P n V le gr = encB P n V2 le2 gr2 := by
  have hc : ∀ c, c ≤ 3 → colsE V le gr n c = colsE V2 le2 gr2 n c := by
    intro c
    induction c with
    | zero => intro _; rfl
    | succ c ih =>
      intro hc
      rw [colsE, colsE, ih (by omega), encC_cong (h c (by omega)) (hl c (by omega)) (hg c (by omega))]
  unfold encB bodyB
  rw [hc 3 (Nat.le_refl _)]
def leF (V : Nat → Int32) (n : Nat) : Nat → Int32 := fun c => (stF (col V c n)).2.1
def grF (V : Nat → Int32) (n : Nat) : Nat → Int32 := fun c => (stF (col V c n)).2.2
theorem encB_ok {P : Int32} {n : Nat} {V pr le gr : Nat → Int32} (h : bt_ok V pr le gr (fun _ => n)) : encB P n V le gr = encB P n V (leF V n) (grF V n) := encB_cong (fun _ _ => rfl) (fun c hc => (h c hc).2.1) (fun c hc => (h c hc).2.2)
theorem encF_cong {P : Int32} {n : Nat} {V V2 : Nat → Int32} (h : ∀ c, c < 3 → col V c n = col V2 c n) : encB P n V (leF V n) (grF V n) = encB P n V2 (leF V2 n) (grF V2 n) := encB_cong h (fun c hc => by unfold leF; rw [h c hc]) (fun c hc => by unfold grF; rw [h c hc])
/-- ROWS: PARTITION and columns -/
abbrev rwT : Type := Int32 × List Int32 × List Int32 × List Int32
def rwOf (P : Int32) (n : Nat) (V : Nat → Int32) : rwT := (P, col V 0 n, col V 1 n, col V 2 n)
theorem rwOf_cong {P : Int32} {n : Nat} {V V2 : Nat → Int32} (h : ∀ c, c < 3 → col V c n = col V2 c n) : rwOf P n V = rwOf P n V2 := by
  unfold rwOf; rw [h 0 (by omega), h 1 (by omega), h 2 (by omega)]
/-- the ROWS that a sound DATA object holds -/
noncomputable def dD (f : Nat → Int32) (L : Nat) : Option rwT := (rfD f (L - 4) (fun _ => 0)).bind (fun q => if encB q.1 q.2.1 q.2.2 (leF q.2.2 q.2.1) (grF q.2.2 q.2.1) = bsOf f L then some (rwOf q.1 q.2.1 q.2.2) else none)
theorem dD_none {f : Nat → Int32} {L : Nat} {V : Nat → Int32} (h : rfD f (L - 4) V = none) : dD f L = none := by
  rcases rfD_cong (f := f) (E := L - 4) V (fun _ => 0) with ⟨_, h2⟩ | ⟨P, n, V3, V4, a, _⟩
  · unfold dD; rw [h2]; rfl
  · rw [h] at a; cases a
theorem dD_some {f : Nat → Int32} {L : Nat} {V V2 : Nat → Int32} {P : Int32} {n : Nat} (h : rfD f (L - 4) V = some (P, n, V2)) : dD f L = if encB P n V2 (leF V2 n) (grF V2 n) = bsOf f L then some (rwOf P n V2) else none := by
  rcases rfD_cong (f := f) (E := L - 4) V (fun _ => 0) with ⟨h1, _⟩ | ⟨P2, n2, V3, V4, a, b, hn, hc⟩
  · rw [h] at h1; cases h1
  · rw [h] at a
    cases a
    unfold dD
    rw [b]
    simp only [Option.bind_some]
    rw [encF_cong (V := V4) (V2 := V2) (fun c hc2 => (hc c hc2).symm), rwOf_cong (V := V4) (V2 := V2) (fun c hc2 => (hc c hc2).symm)]
noncomputable def sD (f : Nat → Int32) (L : Nat) : Int32 := if (dD f L).isSome = true then 1 else 0
