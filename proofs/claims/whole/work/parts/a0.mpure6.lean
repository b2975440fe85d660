/-! PURE: what the class reads out of a DATA object that was written. -/
theorem rdU1_at {f : Nat → Int32} {E a : Nat} (h : a < E) : rdU1 f E (a, 0) = (nI (ub (f a)), (a + 1, 0)) := by
  unfold rdU1
  rw [if_pos h, ub_and]
theorem rdU4_at {f : Nat → Int32} {E a : Nat} (h : a + 4 ≤ E) : rdU4 f E (a, 0) = (r4 f a, (a + 4, 0)) := by
  unfold rdU4
  rw [if_pos h]
/-- the bits that are read -/
theorem rcM_bits {f : Nat → Int32} {E a : Nat} {V : Nat → Int32} {c N : Nat} : ∀ (n t : Nat) (ms : Int64), (∀ i, t ≤ i → i < t + n → ub (f (a + i)) = mBn V c N (8 * i) 8) → a + t + n ≤ E → t + n ≤ 7 → (∀ j, j < 8 * t → ms.toBitVec.getLsbD j = (mBn V c N (8 * (t - 1 - j / 8)) 8).testBit (j % 8)) → (rcM f E n (a + t, 0) ms).2 = (a + t + n, 0) ∧ ∀ j, j < 8 * (t + n) → (rcM f E n (a + t, 0) ms).1.toBitVec.getLsbD j = (mBn V c N (8 * (t + n - 1 - j / 8)) 8).testBit (j % 8)
  | 0, t, ms, _, _, _, h => ⟨rfl, h⟩
  | n + 1, t, ms, hb, hE, h7, h => by
    have h1 := rdU1_at (f := f) (E := E) (a := a + t) (by omega)
    have h2 := hb t (Nat.le_refl _) (by omega)
    rw [rcM, h1, h2]
    have hl := mBn_lt V c N (8 * t) 8
    have := rcM_bits (f := f) (E := E) (a := a) (V := V) (c := c) (N := N) n (t + 1) ((ms <<< ((8 : Int32).toInt64 &&& 63)) ||| (nI (mBn V c N (8 * t) 8)).toInt64) (fun i h3 h4 => hb i (by omega) (by omega)) (by omega) (by omega) (fun j hj => by
      rw [Int64.toBitVec_or, BitVec.getLsbD_or, ls8_bit]
      by_cases h8 : j < 8
      · rw [sx_bit _ j (by omega)]
        have e1 : (nI (mBn V c N (8 * t) 8)).toBitVec.getLsbD j = (mBn V c N (8 * t) 8).testBit j := by
          show (BitVec.ofNat 32 _).getLsbD j = _
          rw [BitVec.getLsbD_ofNat]; simp [show j < 32 by omega]
        rw [e1, show t + 1 - 1 - j / 8 = t by omega, show j % 8 = j by omega]
        simp [h8]
      · have e2 : (nI (mBn V c N (8 * t) 8)).toInt64.toBitVec.getLsbD j = false := by
          show (BitVec.signExtend 64 (nI (mBn V c N (8 * t) 8)).toBitVec).getLsbD j = _
          rw [BitVec.getLsbD_signExtend]
          have hbit : ∀ i, 8 ≤ i → (nI (mBn V c N (8 * t) 8)).toBitVec.getLsbD i = false := by
            intro i hi
            show (BitVec.ofNat 32 _).getLsbD i = _
            rw [BitVec.getLsbD_ofNat, Nat.testBit_lt_two_pow (Nat.lt_of_lt_of_le hl (Nat.pow_le_pow_right (by decide) hi))]; simp
          by_cases h32 : j < 32
          · rw [if_pos h32, hbit j (by omega)]; simp
          · rw [if_neg h32, BitVec.msb_eq_getLsbD_last, hbit 31 (by omega)]; simp
        rw [e2, h (j - 8) (by omega), show t + 1 - 1 - j / 8 = t - 1 - (j - 8) / 8 by omega, show (j - 8) % 8 = j % 8 by omega]
        simp [h8, show j < 64 by omega])
    rw [show a + t + 1 = a + (t + 1) by omega, show a + t + (n + 1) = a + (t + 1) + n by omega, show t + (n + 1) = t + 1 + n by omega]
    exact this
theorem and1_bitL (c : Int64) : c &&& 1 = 1 ↔ c.toBitVec.getLsbD 0 = true := by
  constructor
  · intro h
    have h1 := congrArg (fun z : Int64 => z.toBitVec.getLsbD 0) h
    simp only [Int64.toBitVec_and, BitVec.getLsbD_and] at h1
    simpa using h1
  · intro h
    apply Int64.toBitVec_inj.mp
    apply BitVec.eq_of_getLsbD_eq
    intro i hi
    rw [Int64.toBitVec_and, BitVec.getLsbD_and]
    show (c.toBitVec.getLsbD i && (1#64).getLsbD i) = (1#64).getLsbD i
    by_cases e : i = 0
    · subst e; rw [h]; rfl
    · rw [show (1#64).getLsbD i = false by simp [BitVec.getLsbD_one, e]]; simp
theorem sm64 : ∀ d, d < 56 → (((nI d).toInt64 &&& 63).toBitVec.smod 64).toNat = d := by decide +kernel
theorem bitM_row {ms : Int64} {V : Nat → Int32} {c N T i : Nat} (hT : T ≤ 6) (hi : i < 8 * T) (hN : i < N) (h : ∀ j, j < 8 * T → ms.toBitVec.getLsbD j = (mBn V c N (8 * (T - 1 - j / 8)) 8).testBit (j % 8)) : bitM ms (8 * T) i = 1 ↔ V (48 * c + i) = MIS := by
  unfold bitM
  have e : nI (8 * T) - 1 - nI i = nI (8 * T - 1 - i) := by
    rw [show (1 : Int32) = nI 1 from rfl, pk_sub (by omega), pk_sub (by omega)]
  rw [e, and1_bitL, sar_bit ms _ (8 * T - 1 - i) 0 (sm64 _ (by omega)) (by omega), Nat.add_zero, h _ (by omega)]
  have e1 : T - 1 - (8 * T - 1 - i) / 8 = i / 8 := by omega
  have e2 : (8 * T - 1 - i) % 8 = 7 - i % 8 := by omega
  rw [e1, e2]
  have h1 := mBn_hi V c N (8 * (i / 8)) (i % 8 + 1) (7 - i % 8)
  rw [show i % 8 + 1 + (7 - i % 8) = 8 by omega] at h1
  rw [Nat.testBit_eq_decide_div_mod_eq, h1, mBn]
  have e3 : 8 * (i / 8) + i % 8 = i := by omega
  unfold mB1
  rw [e3]
  by_cases hv : V (48 * c + i) = MIS
  · rw [if_pos ⟨hN, hv⟩]
    simp only [hv, iff_true, decide_eq_true_eq]; omega
  · rw [if_neg (fun z => hv z.2)]
    simp only [hv, iff_false, decide_eq_true_eq]; omega
/-- the rows of a column, by what holds between them -/
theorem rcR_gen {f : Nat → Int32} {E : Nat} {way : Int32} {ms : Int64} {nb c N : Nat} {V : Nat → Int32} (I : Nat → rS → Int32 → Int32 → Prop) (hbit : ∀ i, i < N → (bitM ms nb i = 1 ↔ V (48 * c + i) = MIS))
    (hI : ∀ (q : Nat) (s : rS) (left v : Int32), q < (tf (col V c N)).length → I q s left v → s.2 = 0 ∧ (rcN f E way s left v).2.1 = (tf (col V c N)).getD q 0 ∧ I (q + 1) (rcN f E way s left v).2.2 (if (rcN f E way s left v).1 - 1 < 0 then 0 else (rcN f E way s left v).1 - 1) (rcN f E way s left v).2.1) (hz : ∀ q s left v, I q s left v → s.2 = 0) :
    ∀ (k i : Nat) (s : rS) (left v : Int32) (W : Nat → Int32), i + k = N → I (tf (col V c i)).length s left v → (∀ r, r < i → W (48 * c + r) = V (48 * c + r)) →
      (∃ left2 v2, I (tf (col V c N)).length (rcR f E way ms nb c k i s left v W).1 left2 v2) ∧ (∀ r, r < N → (rcR f E way ms nb c k i s left v W).2.1 (48 * c + r) = V (48 * c + r)) ∧ ∀ j, (j < 48 * c ∨ 48 * c + N ≤ j) → (rcR f E way ms nb c k i s left v W).2.1 j = W j := by
  intro k
  induction k with
  | zero =>
    intro i s left v W hi h1 h2
    have : i = N := by omega
    subst this
    exact ⟨⟨left, v, h1⟩, h2, fun _ _ => rfl⟩
  | succ k ih =>
    intro i s left v W hi h1 h2
    rw [rcR, if_neg (fun z => z (hz _ _ _ _ h1))]
    by_cases hm : V (48 * c + i) = MIS
    · rw [if_pos ((hbit i (by omega)).mpr hm)]
      obtain ⟨a1, a2, a3⟩ := ih (i + 1) s left v (upd W (48 * c + i) MIS) (by omega) (by rw [col_s, tf_n hm]; exact h1) (fun r hr => by
        by_cases e : r = i
        · subst e; rw [pk_us]; exact hm.symm
        · rw [pk_un (by omega)]; exact h2 r (by omega))
      exact ⟨a1, a2, fun j hj => by rw [a3 j hj, pk_un (by omega)]⟩
    · rw [if_neg (fun z => hm ((hbit i (by omega)).mp z))]
      have hq : (tf (col V c i)).length < (tf (col V c N)).length := by
        have h5 := tf_mono (V := V) (c := c) (r := i + 1) (N := N) (by omega)
        rw [col_s, tf_y hm, List.length_append, List.length_singleton] at h5; omega
      obtain ⟨_, b2, b3⟩ := hI _ s left v hq h1
      have b4 := tf_col_get (N := N) (show i < N by omega) hm
      obtain ⟨a1, a2, a3⟩ := ih (i + 1) (rcN f E way s left v).2.2 (if (rcN f E way s left v).1 - 1 < 0 then 0 else (rcN f E way s left v).1 - 1) (rcN f E way s left v).2.1 (upd W (48 * c + i) (rcN f E way s left v).2.1) (by omega) (by rw [col_s, tf_y hm, List.length_append]; exact b3) (fun r hr => by
        by_cases e : r = i
        · subst e; rw [pk_us, b2, b4]
        · rw [pk_un (by omega)]; exact h2 r (by omega))
      exact ⟨a1, a2, fun j hj => by rw [a3 j hj, pk_un (by omega)]⟩
/-- a column that was written is read as it was -/
theorem rcA_enc {f : Nat → Int32} {E a N c : Nat} {V le gr W : Nat → Int32} (hf : ∀ i, fits .byte (.int (f i)) = true) (hN : N ≤ 48) (hb : bat f a (encC V le gr N c)) (hE : a + (encC V le gr N c).length ≤ E) : (rdU1 f E (a, 0)).1 ≤ 2 ∧ rcE f E N c (a, 0) W = (a + (encC V le gr N c).length, 0) ∧ (∀ r, r < N → (rcA f E N c (a, 0) W).2.1 (48 * c + r) = V (48 * c + r)) ∧ ∀ j, (j < 48 * c ∨ 48 * c + N ≤ j) → (rcA f E N c (a, 0) W).2.1 j = W j := by
  have hlen := enc_len V le gr N c
  have h1 := rdU1_at (f := f) (E := E) (a := a) (by omega)
  have hw := enc_way hb
  have hw2 := swW_le (col V c N)
  have hp := enc_pay hb
  obtain ⟨m1, m2⟩ := rcM_bits (f := f) (E := E) (a := a + 1) (V := V) (c := c) (N := N) ((N + 7) / 8) 0 0 (fun i _ hi => by
    have h9 := enc_bits hb (t := i) (by omega)
    exact h9) (by omega) (by omega) (fun j hj => absurd hj (by omega))
  rw [Nat.add_zero] at m1 m2
  rw [Nat.zero_add] at m2
  have hbit : ∀ i, i < N → (bitM (rcM f E ((N + 7) / 8) (a + 1, 0) 0).1 (8 * ((N + 7) / 8)) i = 1 ↔ V (48 * c + i) = MIS) := fun i hi => bitM_row (by omega) (by omega) hi m2
  obtain ⟨aP, haP⟩ : ∃ aP, aP = a + 1 + (N + 7) / 8 := ⟨_, rfl⟩
  rw [← haP] at hp m1
  have hmm : ∀ v ∈ tf (col V c N), ¬ v = MIS := fun v hv => tf_mem hv
  have key : ∃ s : rS, s = (aP + (pay V c N).length, 0) ∧ (rcA f E N c (a, 0) W).1 = s ∧ (∀ r, r < N → (rcA f E N c (a, 0) W).2.1 (48 * c + r) = V (48 * c + r)) ∧ ∀ j, (j < 48 * c ∨ 48 * c + N ≤ j) → (rcA f E N c (a, 0) W).2.1 j = W j := by
    unfold rcA
    rw [h1, hw]
    dsimp only
    rw [m1]
    rcases (show swW (col V c N) = 0 ∨ swW (col V c N) = 1 ∨ swW (col V c N) = 2 by omega) with h9 | h9 | h9
    · rw [h9]
      have hpy : pay V c N = (obF 0 (tf (col V c N))).1 := by unfold pay; rw [h9, if_neg (by decide), tf_ob]; rfl
      obtain ⟨⟨l1, v1, a1⟩, a2, a3⟩ := rcR_gen (f := f) (E := E) (way := nI 0) (V := V) (c := c) (N := N) (fun q s _ _ => s = (aP + (obF 0 ((tf (col V c N)).take q)).1.length, (0 : Int32))) hbit (fun q s left v hq hs => by
        subst hs
        obtain ⟨n1, n2, n3⟩ := ob_next 0 hmm (by rw [← hpy]; exact hp) hq
        rw [if_pos rfl] at n1 n2
        rw [u4b_len] at n2
        have hE2 : aP + (obF 0 ((tf (col V c N)).take q)).1.length + 4 ≤ E := by rw [hpy] at hlen; omega
        have e1 := rdU4_at (f := f) hE2
        have e2 : rcN f E (nI 0) (aP + (obF 0 ((tf (col V c N)).take q)).1.length, 0) left v = (left, r4 f (aP + (obF 0 ((tf (col V c N)).take q)).1.length), (aP + (obF 0 ((tf (col V c N)).take q)).1.length + 4, 0)) := by
          unfold rcN
          rw [if_pos (show nI 0 = (0 : Int32) from rfl), e1]
        rw [e2]
        exact ⟨rfl, r4_u4 n1, by rw [n2, ← Nat.add_assoc]⟩) (fun q s _ _ hs => by rw [hs]) N 0 (aP, 0) 0 0 W (by omega) (by show (aP, (0 : Int32)) = _; rw [show (tf (col V c 0)).length = 0 from rfl]; rfl) (fun r hr => absurd hr (by omega))
      refine ⟨_, ?_, rfl, a2, a3⟩
      rw [a1, hpy, List.take_length]
    · rw [h9]
      have hpy : pay V c N = emR none (tf (col V c N)) := by unfold pay; rw [h9, if_pos rfl, ← emR_B hmm]; unfold rnB; rw [tf_rn]
      have hth : (tf (col V c N)).length ≤ 48 := by have h8 := tf_len (col V c N); rw [col_len] at h8; omega
      rw [hpy] at hp
      obtain ⟨⟨l1, v1, a1⟩, a2, a3⟩ := rcR_gen (f := f) (E := E) (way := nI 1) (V := V) (c := c) (N := N) (fun q s left v => ∃ (l : Nat) (E0 : List Int8), left = nI l ∧ q + l ≤ (tf (col V c N)).length ∧ bnd (tf (col V c N)) (q + l) ∧ E0 ++ emR (prv (tf (col V c N)) (q + l)) ((tf (col V c N)).drop (q + l)) = emR none (tf (col V c N)) ∧ (∀ i, i < l → (tf (col V c N)).getD (q + i) 0 = v) ∧ s = (aP + E0.length, (0 : Int32))) hbit (fun q s left v hq hs => by
        obtain ⟨l, E0, b1, b2, b3, b4, b5, b6⟩ := hs
        subst b6
        by_cases hl : l = 0
        · subst hl
          rw [Nat.add_zero] at b2 b3 b4
          obtain ⟨r1, r2, r3, r4_⟩ := rn_next hp b4 b3 hq
          have rM := rnM_le (th := tf (col V c N)) (k := q) hq
          have rG : 1 ≤ rnM (tf (col V c N)) q := by unfold rnM; omega
          have hE2 : aP + E0.length + 5 ≤ E := by rw [hpy] at hlen; omega
          have e1 := rdU1_at (f := f) (E := E) (a := aP + E0.length) (by omega)
          have e2 := rdU4_at (f := f) (E := E) (a := aP + E0.length + 1) (by omega)
          rw [r1, Nat.mod_eq_of_lt (by omega)] at e1
          have e3 : rcN f E (nI 1) (aP + E0.length, 0) left v = (nI (rnM (tf (col V c N)) q), (tf (col V c N)).getD q 0, (aP + E0.length + 1 + 4, 0)) := by
            unfold rcN
            rw [if_neg (by decide), if_neg (by decide), if_pos (by rw [b1]; rfl), e1]
            dsimp only
            rw [e2, r2]
          rw [e3]
          refine ⟨rfl, rfl, rnM (tf (col V c N)) q - 1, E0 ++ ([(nI (rnM (tf (col V c N)) q)).toInt8] ++ u4b ((tf (col V c N)).getD q 0)), ?_, by omega, ?_, ?_, fun i hi => ?_, ?_⟩
          · dsimp only
            rw [show (1 : Int32) = nI 1 from rfl, pk_sub (by omega), if_neg (nI_pos (by omega))]
          · rw [show q + 1 + (rnM (tf (col V c N)) q - 1) = q + rnM (tf (col V c N)) q by omega]; exact rnM_bnd hq
          · rw [show q + 1 + (rnM (tf (col V c N)) q - 1) = q + rnM (tf (col V c N)) q by omega]; exact r4_
          · have h7 := rnM_all (th := tf (col V c N)) (k := q) (i := i + 1) (by omega)
            rw [show q + 1 + i = q + (i + 1) by omega]; exact h7
          · dsimp only
            rw [List.length_append, List.length_append, List.length_singleton, u4b_len, show aP + E0.length + 1 + 4 = aP + (E0.length + (1 + 4)) by omega]
        · have e3 : rcN f E (nI 1) (aP + E0.length, 0) left v = (left, v, (aP + E0.length, 0)) := by
            unfold rcN
            rw [if_neg (by decide), if_neg (by decide), if_neg (by rw [b1]; intro z; exact hl ((nI_eq (b := 0) (by omega) (by omega)).mp z))]
          rw [e3]
          refine ⟨rfl, ?_, l - 1, E0, ?_, by omega, ?_, ?_, fun i hi => ?_, rfl⟩
          · have h7 := b5 0 (by omega); exact h7.symm
          · dsimp only
            rw [b1, show (1 : Int32) = nI 1 from rfl, pk_sub (by omega), if_neg (nI_pos (by omega))]
          · rw [show q + 1 + (l - 1) = q + l by omega]; exact b3
          · rw [show q + 1 + (l - 1) = q + l by omega]; exact b4
          · have h7 := b5 (i + 1) (by omega)
            rw [show q + 1 + i = q + (i + 1) by omega]; exact h7) (fun q s _ _ hs => by obtain ⟨l, E0, _, _, _, _, _, b6⟩ := hs; rw [b6]) N 0 (aP, 0) 0 0 W (by omega) ⟨0, [], rfl, Nat.zero_le _, Or.inl rfl, rfl, fun i hi => absurd hi (by omega), rfl⟩ (fun r hr => absurd hr (by omega))
      refine ⟨_, ?_, rfl, a2, a3⟩
      obtain ⟨l, E0, _, b2, _, b4, _, b6⟩ := a1
      have hl : l = 0 := by omega
      subst hl
      rw [Nat.add_zero, List.drop_length, emR, List.append_nil] at b4
      rw [b6, hpy, b4]
    · rw [h9]
      have hpy : pay V c N = (obF 2 (tf (col V c N))).1 := by unfold pay; rw [h9, if_neg (by decide), tf_ob]; rfl
      obtain ⟨⟨l1, v1, a1⟩, a2, a3⟩ := rcR_gen (f := f) (E := E) (way := nI 2) (V := V) (c := c) (N := N) (fun q s _ v => s = (aP + (obF 2 ((tf (col V c N)).take q)).1.length, (0 : Int32)) ∧ v = ahd (tf (col V c N)) q) hbit (fun q s left v hq hs => by
        obtain ⟨hs, hv⟩ := hs
        subst hs
        obtain ⟨n1, n2, n3⟩ := ob_next 2 hmm (by rw [← hpy]; exact hp) hq
        rw [if_neg (by decide)] at n1 n2
        have e1 := rdV_vb (E := E) hf n1 (by rw [hpy] at hlen; omega)
        have e2 : rcN f E (nI 2) (aP + (obF 2 ((tf (col V c N)).take q)).1.length, 0) left v = (left, (tf (col V c N)).getD q 0, (aP + (obF 2 ((tf (col V c N)).take q)).1.length + (vbs ((tf (col V c N)).getD q 0 - ahd (tf (col V c N)) q)).length, 0)) := by
          unfold rcN
          rw [if_neg (by decide), if_pos (show nI 2 = (2 : Int32) from rfl), e1, hv, Int32.add_comm, Int32.sub_add_cancel]
        rw [e2]
        refine ⟨rfl, rfl, by rw [n2, ← Nat.add_assoc], ?_⟩
        have h6 : ahd (tf (col V c N)) (q + 1) = (tf (col V c N)).getD q 0 := by unfold ahd; rw [if_neg (by omega), Nat.add_sub_cancel]
        exact h6.symm) (fun q s _ _ hs => by rw [hs.1]) N 0 (aP, 0) 0 0 W (by omega) ⟨by show (aP, (0 : Int32)) = _; rw [show (tf (col V c 0)).length = 0 from rfl]; rfl, rfl⟩ (fun r hr => absurd hr (by omega))
      refine ⟨_, ?_, rfl, a2, a3⟩
      rw [a1.1, hpy, List.take_length]
  obtain ⟨s, hs, k1, k2, k3⟩ := key
  refine ⟨?_, ?_, k2, k3⟩
  · rw [h1, hw]
    exact nI_le (b := 2) hw2 (by omega)
  · unfold rcE
    rw [k1, hs, rdU4_at (by omega), rdU4_at (by omega), hlen, haP]
    rw [show a + 1 + (N + 7) / 8 + (pay V c N).length + 4 + 4 = a + (1 + (N + 7) / 8 + (pay V c N).length + 8) by omega]
