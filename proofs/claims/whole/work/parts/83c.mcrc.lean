/-! MODEL, PURE: the CHECK by bits is the CHECK by half bytes. -/
def sB (c : BitVec 32) : BitVec 32 := (c >>> 1) ^^^ (if c.getLsbD 0 then 0xEDB88320#32 else 0#32)
theorem and1_bit (c : Int32) : c &&& 1 = 1 ↔ c.toBitVec.getLsbD 0 = true := by
  constructor
  · intro h
    have h1 := congrArg (fun z : Int32 => z.toBitVec.getLsbD 0) h
    simp only [Int32.toBitVec_and, BitVec.getLsbD_and] at h1
    simpa using h1
  · intro h
    apply Int32.toBitVec_inj.mp
    apply BitVec.eq_of_getLsbD_eq
    intro i hi
    rw [Int32.toBitVec_and, BitVec.getLsbD_and]
    show (c.toBitVec.getLsbD i && (1#32).getLsbD i) = (1#32).getLsbD i
    by_cases e : i = 0
    · subst e; rw [h]; rfl
    · rw [show (1#32).getLsbD i = false by simp [BitVec.getLsbD_one, e]]; simp
theorem ush_1 (c : Int32) : (ush c 1).toBitVec = c.toBitVec >>> 1 := rfl
theorem ush_4 (c : Int32) : (ush c 4).toBitVec = c.toBitVec >>> 4 := rfl
theorem cr1_sB (c : Int32) : (cr1 c).toBitVec = sB c.toBitVec := by
  unfold cr1 sB
  by_cases h : c &&& 1 = 1
  · rw [if_pos h, if_pos ((and1_bit c).mp h), Int32.toBitVec_xor, ush_1]; rfl
  · rw [if_neg h, if_neg (fun z => h ((and1_bit c).mpr z)), ush_1, BitVec.xor_zero]
theorem sB_xor (x y : BitVec 32) : sB (x ^^^ y) = sB x ^^^ sB y := by
  unfold sB
  apply BitVec.eq_of_getLsbD_eq
  intro i hi
  simp only [BitVec.getLsbD_xor, BitVec.getLsbD_ushiftRight]
  cases x.getLsbD 0 <;> cases y.getLsbD 0 <;> simp <;> cases x.getLsbD (1 + i) <;> cases y.getLsbD (1 + i) <;> simp
def s4 (c : BitVec 32) : BitVec 32 := sB (sB (sB (sB c)))
theorem s4_xor (x y : BitVec 32) : s4 (x ^^^ y) = s4 x ^^^ s4 y := by
  unfold s4
  rw [sB_xor, sB_xor, sB_xor, sB_xor]
theorem sB_ev {c : BitVec 32} (h : c.getLsbD 0 = false) : sB c = c >>> 1 := by
  unfold sB
  rw [h]; simp
theorem s4_hi (c : BitVec 32) : s4 ((c >>> 4) <<< 4) = c >>> 4 := by
  have hb : ∀ j, ((c >>> 4) <<< 4 : BitVec 32).getLsbD j = (decide (j < 32) && !decide (j < 4) && c.getLsbD (4 + (j - 4))) := by
    intro j
    rw [BitVec.getLsbD_shiftLeft, BitVec.getLsbD_ushiftRight]
  unfold s4
  rw [sB_ev (c := (c >>> 4) <<< 4) (by rw [hb]; rfl), sB_ev (c := ((c >>> 4) <<< 4) >>> 1) (by rw [BitVec.getLsbD_ushiftRight, hb]; rfl), sB_ev (c := ((c >>> 4) <<< 4) >>> 1 >>> 1) (by rw [BitVec.getLsbD_ushiftRight, BitVec.getLsbD_ushiftRight, hb]; rfl), sB_ev (c := ((c >>> 4) <<< 4) >>> 1 >>> 1 >>> 1) (by rw [BitVec.getLsbD_ushiftRight, BitVec.getLsbD_ushiftRight, BitVec.getLsbD_ushiftRight, hb]; rfl)]
  apply BitVec.eq_of_getLsbD_eq
  intro i hi
  rw [BitVec.getLsbD_ushiftRight, BitVec.getLsbD_ushiftRight, BitVec.getLsbD_ushiftRight, BitVec.getLsbD_ushiftRight, hb, BitVec.getLsbD_ushiftRight]
  by_cases h : i + 4 < 32
  · simp only [show 1 + (1 + (1 + (1 + i))) < 32 by omega, show ¬ 1 + (1 + (1 + (1 + i))) < 4 by omega, decide_true, decide_false, Bool.not_false, Bool.true_and]
    congr 1; omega
  · simp only [show ¬ 1 + (1 + (1 + (1 + i))) < 32 by omega, decide_false, Bool.false_and]
    rw [BitVec.getLsbD_of_ge _ _ (by omega)]
theorem b15 (i : Nat) : (15#32).getLsbD i = decide (i < 4) := by
  by_cases h : i < 4
  · rcases (show i = 0 ∨ i = 1 ∨ i = 2 ∨ i = 3 by omega) with e | e | e | e <;> subst e <;> rfl
  · rw [decide_eq_false h]
    apply Nat.testBit_lt_two_pow
    exact Nat.lt_of_lt_of_le (show 15 < 2 ^ 4 by decide) (Nat.pow_le_pow_right (by decide) (by omega))
theorem split4 (c : BitVec 32) : c = ((c >>> 4) <<< 4) ^^^ (c &&& 15#32) := by
  apply BitVec.eq_of_getLsbD_eq
  intro i hi
  rw [BitVec.getLsbD_xor, BitVec.getLsbD_and, BitVec.getLsbD_shiftLeft, BitVec.getLsbD_ushiftRight, b15]
  by_cases h : i < 4
  · simp [h, hi]
  · simp only [h, hi, decide_true, decide_false, Bool.not_false, Bool.true_and, Bool.and_false, Bool.xor_false]
    congr 1; omega
theorem s4_tab : ∀ v : Fin 16, s4 (BitVec.ofNat 32 v.val) = (hbT.getD v.val 0).toBitVec := by decide +kernel
theorem and15 (c : Int32) : (c &&& 15).toNatClampNeg = (c.toBitVec &&& 15#32).toNat ∧ (c.toBitVec &&& 15#32).toNat < 16 := by
  have h : c &&& 15 = nI (c.toBitVec.toNat % 16) := pk_and c 4 rfl
  have h2 : (c.toBitVec &&& 15#32).toNat = c.toBitVec.toNat % 16 := by
    rw [BitVec.toNat_and]; exact Nat.and_two_pow_sub_one_eq_mod _ 4
  refine ⟨?_, by rw [h2]; exact Nat.mod_lt _ (by decide)⟩
  rw [h, nI_clamp (by omega), h2]
theorem crN_4 (c : Int32) : crN 4 c = ush c 4 ^^^ hbT.getD (c &&& 15).toNatClampNeg 0 := by
  apply Int32.toBitVec_inj.mp
  have h1 : (crN 4 c).toBitVec = s4 c.toBitVec := by
    show (cr1 (cr1 (cr1 (cr1 c)))).toBitVec = _
    rw [cr1_sB, cr1_sB, cr1_sB, cr1_sB]; rfl
  rw [h1, Int32.toBitVec_xor, ush_4]
  conv => lhs; rw [split4 c.toBitVec]
  rw [s4_xor, s4_hi]
  congr 1
  obtain ⟨h2, h3⟩ := and15 c
  rw [h2]
  have h4 := s4_tab ⟨(c.toBitVec &&& 15#32).toNat, h3⟩
  simp only [BitVec.ofNat_toNat, BitVec.setWidth_eq] at h4
  exact h4
theorem b255 (i : Nat) : (255#32).getLsbD i = decide (i < 8) := by
  by_cases h : i < 8
  · rcases (show i = 0 ∨ i = 1 ∨ i = 2 ∨ i = 3 ∨ i = 4 ∨ i = 5 ∨ i = 6 ∨ i = 7 by omega) with e | e | e | e | e | e | e | e <;> subst e <;> rfl
  · rw [decide_eq_false h]
    apply Nat.testBit_lt_two_pow
    exact Nat.lt_of_lt_of_le (show 255 < 2 ^ 8 by decide) (Nat.pow_le_pow_right (by decide) (by omega))
theorem and15_bits {x y : Int32} (h : ∀ i, i < 4 → x.toBitVec.getLsbD i = y.toBitVec.getLsbD i) : x &&& 15 = y &&& 15 := by
  apply Int32.toBitVec_inj.mp
  apply BitVec.eq_of_getLsbD_eq
  intro i hi
  rw [Int32.toBitVec_and, Int32.toBitVec_and, BitVec.getLsbD_and, BitVec.getLsbD_and]
  show (_ && (15#32).getLsbD i) = (_ && (15#32).getLsbD i)
  rw [b15]
  by_cases h4 : i < 4
  · rw [h i h4]
  · rw [decide_eq_false h4, Bool.and_false, Bool.and_false]
theorem ush_xor (x y : Int32) : ush (x ^^^ y) 4 = ush x 4 ^^^ ush y 4 := by
  apply Int32.toBitVec_inj.mp
  rw [Int32.toBitVec_xor, ush_4, ush_4, ush_4, Int32.toBitVec_xor, BitVec.ushiftRight_xor_distrib]
theorem e_bit (b : Int32) (i : Nat) : (ush (b &&& 255) 4).toBitVec.getLsbD i = (decide (i < 4) && b.toBitVec.getLsbD (4 + i)) := by
  rw [ush_4, BitVec.getLsbD_ushiftRight, Int32.toBitVec_and, BitVec.getLsbD_and]
  show (_ && (255#32).getLsbD (4 + i)) = _
  rw [b255, Bool.and_comm]
  congr 1
  exact decide_eq_decide.mpr (by omega)
theorem sar4_bit (b : Int32) (i : Nat) (h : i < 4) : (b >>> ((4 : Int32) &&& 31)).toBitVec.getLsbD i = b.toBitVec.getLsbD (4 + i) := by
  show (b.toBitVec.sshiftRight' (((4 : Int32) &&& 31).toBitVec.smod 32)).getLsbD i = _
  rw [BitVec.sshiftRight', show (((4 : Int32) &&& 31).toBitVec.smod 32).toNat = 4 by decide, BitVec.getLsbD_sshiftRight]
  simp [show 4 + i < 32 by omega, show ¬ 32 ≤ i by omega]
theorem cr8 (c b : Int32) : crN 8 (c ^^^ (b &&& 255)) = crS c b := by
  have h0 : crN 8 (c ^^^ (b &&& 255)) = crN 4 (crN 4 (c ^^^ (b &&& 255))) := rfl
  have h1 : (c ^^^ (b &&& 255)) &&& 15 = (c ^^^ b) &&& 15 := and15_bits (fun i hi => by
    rw [Int32.toBitVec_xor, Int32.toBitVec_xor, BitVec.getLsbD_xor, BitVec.getLsbD_xor, Int32.toBitVec_and, BitVec.getLsbD_and]
    show (_ ^^ (_ && (255#32).getLsbD i)) = _
    rw [b255, decide_eq_true (show i < 8 by omega), Bool.and_true])
  have h2 : crN 4 (c ^^^ (b &&& 255)) = (ush c 4 ^^^ hbT.getD ((c ^^^ b) &&& 15).toNatClampNeg 0) ^^^ ush (b &&& 255) 4 := by
    rw [crN_4, h1, ush_xor, Int32.xor_assoc, Int32.xor_assoc, Int32.xor_comm (ush (b &&& 255) 4)]
  rw [h0, h2]
  unfold crS
  generalize ush c 4 ^^^ hbT.getD ((c ^^^ b) &&& 15).toNatClampNeg 0 = c1
  have h3 : (c1 ^^^ ush (b &&& 255) 4) &&& 15 = (c1 ^^^ (b >>> ((4 : Int32) &&& 31))) &&& 15 := and15_bits (fun i hi => by
    rw [Int32.toBitVec_xor, Int32.toBitVec_xor, BitVec.getLsbD_xor, BitVec.getLsbD_xor, e_bit, sar4_bit b i hi, decide_eq_true hi, Bool.true_and])
  have h4 : ush (ush (b &&& 255) 4) 4 = 0 := by
    apply Int32.toBitVec_inj.mp
    apply BitVec.eq_of_getLsbD_eq
    intro i hi
    rw [ush_4, BitVec.getLsbD_ushiftRight, e_bit]
    show _ = (0#32).getLsbD i
    rw [decide_eq_false (show ¬ 4 + i < 4 by omega), Bool.false_and, BitVec.getLsbD_zero]
  rw [crN_4, h3, ush_xor, h4, Int32.xor_zero]
theorem crM_F (f : Nat → Int32) : ∀ (n a : Nat) (c : Int32), crM f c a n = crF f c a n
  | 0, _, _ => rfl
  | n + 1, a, c => by rw [crM, crF, cr8]; exact crM_F f n (a + 1) _
theorem crM_by {f : Nat → Int32} {bs : List Int8} (h : by_at f bs) : crM f (-1) 0 bs.length ^^^ (-1) = crc bs := by
  have h1 := crF_by h (-1) (Nat.zero_le bs.length)
  rw [Nat.sub_zero, List.drop_zero] at h1
  rw [crM_F, h1]; rfl
theorem top_x (w : BitVec 32) : (w ^^^ 0x80000000#32).toNat = if w.toNat < 2147483648 then w.toNat + 2147483648 else w.toNat - 2147483648 := by
  have hw := w.isLt
  have hp : (2147483648 : Nat) = 2 ^ 31 := by decide
  rw [BitVec.toNat_xor, show (0x80000000#32).toNat = 2147483648 from rfl, hp]
  apply Nat.eq_of_testBit_eq
  intro i
  rw [Nat.testBit_xor, Nat.testBit_two_pow]
  by_cases hlt : w.toNat < 2 ^ 31
  · rw [if_pos hlt]
    by_cases e : 31 = i
    · subst e
      rw [Nat.add_comm, Nat.testBit_two_pow_add_eq, decide_eq_true rfl, Bool.xor_true]
    · rw [decide_eq_false e, Bool.xor_false]
      by_cases hi : i < 31
      · rw [Nat.add_comm, Nat.testBit_two_pow_add_gt hi]
      · rw [Nat.testBit_lt_two_pow (Nat.lt_of_lt_of_le hlt (Nat.pow_le_pow_right (by decide) (by omega))), Nat.testBit_lt_two_pow (Nat.lt_of_lt_of_le (show w.toNat + 2 ^ 31 < 2 ^ 32 by omega) (Nat.pow_le_pow_right (by decide) (by omega)))]
  · rw [if_neg hlt]
    obtain ⟨t, ht⟩ : ∃ t, w.toNat = 2 ^ 31 + t := ⟨w.toNat - 2 ^ 31, by omega⟩
    have htl : t < 2 ^ 31 := by omega
    rw [ht, Nat.add_sub_cancel_left]
    by_cases e : 31 = i
    · subst e
      rw [Nat.testBit_two_pow_add_eq, decide_eq_true rfl, Bool.xor_true, Bool.not_not]
    · rw [decide_eq_false e, Bool.xor_false]
      by_cases hi : i < 31
      · rw [Nat.testBit_two_pow_add_gt hi]
      · rw [Nat.testBit_lt_two_pow (Nat.lt_of_lt_of_le (show 2 ^ 31 + t < 2 ^ 32 by omega) (Nat.pow_le_pow_right (by decide) (by omega))), Nat.testBit_lt_two_pow (Nat.lt_of_lt_of_le htl (Nat.pow_le_pow_right (by decide) (by omega)))]
theorem isB (x y : Int32) : (x ^^^ (-2147483648)) < (y ^^^ (-2147483648)) ↔ x.toBitVec.toNat < y.toBitVec.toNat := by
  have hc : (-2147483648 : Int32).toBitVec = 0x80000000#32 := by decide
  have h : ∀ z : Int32, (z ^^^ (-2147483648)).toInt = (z.toBitVec.toNat : Int) - 2147483648 := by
    intro z
    have hz := z.toBitVec.isLt
    have h1 := top_x z.toBitVec
    show (z ^^^ (-2147483648)).toBitVec.toInt = _
    rw [Int32.toBitVec_xor, hc, BitVec.toInt_eq_toNat_cond, h1]
    by_cases hm : z.toBitVec.toNat < 2147483648
    · rw [if_pos hm, if_neg (by omega)]; omega
    · rw [if_neg hm, if_pos (by omega)]; omega
  rw [Int32.lt_iff_toInt_lt, h, h]
  omega
