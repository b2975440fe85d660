/-! PURE: a sound DATA object is one that was written. -/
def isE (bs : List Int8) (w : rwT) : Prop := ∃ (p N : Nat) (V : Nat → Int32), p < 8 ∧ 1 ≤ N ∧ N ≤ 48 ∧ bs = encB (nI p) N V (leF V N) (grF V N) ∧ w = rwOf (nI p) N V
theorem rfD_enc {f : Nat → Int32} {p N : Nat} {V le gr W : Nat → Int32} {E : Nat} (hf : ∀ i, fits .byte (.int (f i)) = true) (hp : p < 8) (h1 : 1 ≤ N) (hN : N ≤ 48) (hb : bat f 0 (encB (nI p) N V le gr)) (hE : E + 4 = (encB (nI p) N V le gr).length) : ∃ V2, rfD f E W = some (nI p, N, V2) ∧ ∀ c, c < 3 → col V2 c N = col V c N := by
  obtain ⟨b1, b2, b3, b4, b5, b6⟩ := encB_bat (by omega) (by omega) hb
  rw [Nat.zero_add] at b2 b3 b4 b5 b6
  have hl := encB_len (nI p) N V le gr
  rw [hl] at hE
  have m1 : rfM f E = (nI 84, (1, 0)) := by
    show rdU1 f E (0, 0) = _
    rw [rdU1_at (by omega), b1]
  have m2 : rfP f E = (nI p, (2, 0)) := by
    unfold rfP; rw [m1]
    show rdU1 f E (1, 0) = _
    rw [rdU1_at (by omega), b2]
  have m3 : rfT f E = (nI N, (3, 0)) := by
    unfold rfT; rw [m2]
    show rdU1 f E (2, 0) = _
    rw [rdU1_at (by omega), b3]
  unfold rfD
  rw [m1, m2, m3]
  rw [if_neg (by
    rintro (z | z | z | z)
    · exact z rfl
    · exact z ⟨nI_pos' (by omega), nI_lt (b := 8) hp (by omega)⟩
    · exact absurd (nb_lt (b := 1) z (by omega) (by omega)) (by omega)
    · exact absurd (nb_lt (a := 48) z (by omega) (by omega)) (by omega))]
  dsimp only
  rw [nI_clamp (by omega)]
  obtain ⟨x1, x2, x3, x4⟩ := rcA_enc (W := W) hf hN b4 (show 3 + (encC V le gr N 0).length ≤ E by omega)
  rw [rfC, x2, if_pos ⟨x1, rfl⟩]
  generalize hW1 : (rcA f E N 0 (3, 0) W).2.1 = W1 at x3 x4
  obtain ⟨y1, y2, y3, y4⟩ := rcA_enc (E := E) (W := W1) hf hN b5 (by omega)
  rw [rfC, y2, if_pos ⟨y1, rfl⟩]
  generalize hW2 : (rcA f E N 1 (3 + (encC V le gr N 0).length, 0) W1).2.1 = W2 at y3 y4
  obtain ⟨z1, z2, z3, z4⟩ := rcA_enc (E := E) (W := W2) hf hN b6 (by omega)
  rw [rfC, z2, if_pos ⟨z1, rfl⟩, rfC, if_pos ⟨rfl, by show 3 + (encC V le gr N 0).length + (encC V le gr N 1).length + (encC V le gr N 2).length = E; omega⟩]
  refine ⟨_, rfl, fun c hc => ?_⟩
  rw [col_eq]
  intro r hr
  rcases (show c = 0 ∨ c = 1 ∨ c = 2 by omega) with e | e | e
  · subst e
    rw [z4 _ (by omega), y4 _ (by omega)]; exact x3 r hr
  · subst e
    rw [z4 _ (by omega)]; exact y3 r hr
  · subst e; exact z3 r hr
theorem bs_bat {f : Nat → Int32} (hf : ∀ i, fits .byte (.int (f i)) = true) (L : Nat) : bat f 0 (bsOf f L) := fun i hi => by
  rw [Nat.zero_add]; exact (by_of hf L).1 i hi
theorem dD_iff {f : Nat → Int32} {L : Nat} {w : rwT} (hf : ∀ i, fits .byte (.int (f i)) = true) : dD f L = some w ↔ isE (bsOf f L) w := by
  constructor
  · intro h
    unfold dD at h
    cases hr : rfD f (L - 4) (fun _ => 0) with
    | none => rw [hr] at h; cases h
    | some q =>
      rw [hr, Option.bind_some] at h
      obtain ⟨P, n, V⟩ := q
      dsimp only at h
      by_cases he : encB P n V (leF V n) (grF V n) = bsOf f L
      · rw [if_pos he] at h
        cases h
        unfold rfD at hr
        by_cases hg : ¬ (rfM f (L - 4)).1 = 84 ∨ ¬ (0 ≤ (rfP f (L - 4)).1 ∧ (rfP f (L - 4)).1 < 8) ∨ (rfT f (L - 4)).1 < 1 ∨ 48 < (rfT f (L - 4)).1
        · rw [if_pos hg] at hr; cases hr
        · rw [if_neg hg] at hr
          have hk : ∀ (k c : Nat) (s : rS) (W : Nat → Int32) (P0 : Int32) (n0 : Nat) (q : Int32 × Nat × (Nat → Int32)), rfC f (L - 4) P0 n0 k c s W = some q → q.1 = P0 ∧ q.2.1 = n0 := by
            intro k
            induction k with
            | zero =>
              intro c s W P0 n0 q hq
              rw [rfC] at hq
              split at hq
              · cases hq; exact ⟨rfl, rfl⟩
              · cases hq
            | succ k ih =>
              intro c s W P0 n0 q hq
              rw [rfC] at hq
              split at hq
              · exact ih _ _ _ _ _ _ hq
              · cases hq
          obtain ⟨e1, e2⟩ := hk _ _ _ _ _ _ _ hr
          dsimp only at e1 e2
          have g1 : 0 ≤ P ∧ P < 8 := by
            rw [e1]
            exact Classical.byContradiction (fun z => hg (Or.inr (Or.inl z)))
          have g2 : ¬ (rfT f (L - 4)).1 < 1 := fun z => hg (Or.inr (Or.inr (Or.inl z)))
          have g3 : ¬ 48 < (rfT f (L - 4)).1 := fun z => hg (Or.inr (Or.inr (Or.inr z)))
          obtain ⟨p, hp, ep⟩ := nI_of (x := P) (Int32.not_lt.mpr g1.1)
          subst ep
          have hp8 : p < 8 := nb_lt (b := 8) g1.2 hp (by omega)
          have hn0 : ¬ (rfT f (L - 4)).1 < 0 := fun z => g2 (Int32.lt_trans z (by decide))
          obtain ⟨t, ht, et⟩ := nI_of hn0
          rw [et] at g2 g3 e2
          rw [nI_clamp ht] at e2
          have t1 := nb_nlt (a := t) (b := 1) g2 ht (by omega)
          have t2 := nb_nlt (a := 48) (b := t) g3 (by omega) ht
          exact ⟨p, n, V, hp8, by omega, by omega, he.symm, rfl⟩
      · rw [if_neg he] at h; cases h
  · rintro ⟨p, N, V, hp, h1, hN, hb, rfl⟩
    have hl := encB_len (nI p) N V (leF V N) (grF V N)
    have hlen : L = (encB (nI p) N V (leF V N) (grF V N)).length := by rw [← hb, bsOf_len]
    obtain ⟨V2, r1, r2⟩ := rfD_enc (W := fun _ => 0) (E := L - 4) hf hp h1 hN (by rw [← hb]; exact bs_bat hf L) (by omega)
    rw [dD_some r1, if_pos (by rw [encF_cong r2, hb]), rwOf_cong r2]
/-- the ROWS of bytes -/
noncomputable def dB (bs : List Int8) : Option rwT := dD (fnB bs) bs.length
theorem dB_iff {bs : List Int8} {w : rwT} : dB bs = some w ↔ isE bs w := by
  unfold dB
  rw [dD_iff (f := fnB bs) (fun _ => by_fit _), by_bs (fnB_by bs)]
theorem dD_dB {f : Nat → Int32} {L : Nat} (hf : ∀ i, fits .byte (.int (f i)) = true) : dD f L = dB (bsOf f L) := by
  apply Option.ext
  intro w
  rw [dD_iff hf, dB_iff]
theorem dB_none {bs : List Int8} (h : ∀ (p N : Nat) (V : Nat → Int32), p < 8 → 1 ≤ N → N ≤ 48 → ¬ bs = encB (nI p) N V (leF V N) (grF V N)) : dB bs = none := by
  cases hd : dB bs with
  | none => rfl
  | some w =>
    obtain ⟨p, N, V, a, b, c, d, _⟩ := dB_iff.mp hd
    exact absurd d (h p N V a b c)
/-- the bytes of an OBJECT -/
def mLk (ob : List obT) (s n : Int32) : Option (List Int8) := (mFi ob s n).bind (fun k => (ob[k]?).map (fun o => o.2.2))
theorem mLk_n {ob : List obT} {s n : Int32} (h : mFi ob s n = none) : mLk ob s n = none := by unfold mLk; rw [h]; rfl
theorem mLk_s {ob : List obT} {s n : Int32} {k : Nat} {o : obT} (h : mFi ob s n = some k) (hk : ob[k]? = some o) : mLk ob s n = some o.2.2 := by unfold mLk; rw [h, Option.bind_some, hk]; rfl
/-- the ROWS of a FILE that the log tells with a PARTITION -/
noncomputable def mW (ob : List obT) (x pt : Int32) : Option rwT := ((mLk ob 0 x).bind dB).filter (fun w => decide (w.1 = pt))
theorem plR_cases (ob : List obT) (s n : Int32) : (mFi ob s n = none ∧ plR (mFi ob s n) = -1) ∨ ∃ k o, mFi ob s n = some k ∧ ob[k]? = some o ∧ o.1 = s ∧ o.2.1 = n ∧ plR (mFi ob s n) = nI k := by
  cases h : mFi ob s n with
  | none => exact Or.inl ⟨rfl, rfl⟩
  | some k =>
    obtain ⟨o, h1, h2, h3⟩ := mFi_get h
    exact Or.inr ⟨k, o, rfl, h1, h2, h3, rfl⟩
