/-! MODEL, PURE: bytes that stand at a place; reading them back. -/
def bat (f : Nat → Int32) (a : Nat) (bs : List Int8) : Prop := ∀ i, i < bs.length → f (a + i) = (bs.getD i 0).toInt32
theorem bat.left {f : Nat → Int32} {a : Nat} {x y : List Int8} (h : bat f a (x ++ y)) : bat f a x := fun i hi => by
  rw [h i (by rw [List.length_append]; omega), List.getD_eq_getElem?_getD, List.getD_eq_getElem?_getD, List.getElem?_append_left hi]
theorem bat.right {f : Nat → Int32} {a : Nat} {x y : List Int8} (h : bat f a (x ++ y)) : bat f (a + x.length) y := fun i hi => by
  rw [Nat.add_assoc, h (x.length + i) (by rw [List.length_append]; omega), List.getD_eq_getElem?_getD, List.getD_eq_getElem?_getD, List.getElem?_append_right (by omega), Nat.add_sub_cancel_left]
theorem bat.one {f : Nat → Int32} {a : Nat} {b : Int8} {y : List Int8} (h : bat f a (b :: y)) : f a = b.toInt32 := by
  have := h 0 (by simp)
  simpa using this
theorem bat.tl {f : Nat → Int32} {a : Nat} {b : Int8} {y : List Int8} (h : bat f a (b :: y)) : bat f (a + 1) y := bat.right (x := [b]) (y := y) h
theorem ub_8 {n : Nat} (h : n < 256) : ub (nI n).toInt8.toInt32 = n := by
  unfold ub
  have h1 : (nI n).toInt8.toInt32.toBitVec.toNat % 256 = (nI n).toInt8.toBitVec.toNat := by
    have h2 : ∀ b : BitVec 8, (b.signExtend 32).toNat % 256 = b.toNat := by decide +kernel
    exact h2 _
  rw [h1]
  show (BitVec.signExtend 8 (BitVec.ofNat 32 n)).toNat = n
  rw [BitVec.signExtend_eq_setWidth_of_le _ (by decide), BitVec.toNat_setWidth, BitVec.toNat_ofNat]
  omega
theorem ub_neg {x : Int32} (h : fits .byte (.int x) = true) : x < 0 ↔ 128 ≤ ub x := by
  have h1 : (-128 : Int32).toInt = -128 := by decide
  have h2 : (127 : Int32).toInt = 127 := by decide
  have h0 : (0 : Int32).toInt = 0 := by decide
  simp only [fits, Bool.and_eq_true, decide_eq_true_eq, Int32.le_iff_toInt_le, h1, h2] at h
  rw [Int32.lt_iff_toInt_lt, h0]
  unfold ub
  have h3 : x.toInt = x.toBitVec.toInt := rfl
  have h4 := BitVec.toInt_eq_toNat_cond x.toBitVec
  have h5 := x.toBitVec.isLt
  rw [h3] at h ⊢
  split at h4 <;> omega
theorem ub_127 (x : Int32) : nI (ub x) &&& 127 = x &&& 127 := by
  rw [← ub_and, Int32.and_assoc]; rfl
/-- a number of four bytes there and back -/
theorem r4_u4 {f : Nat → Int32} {a : Nat} {x : Int32} (h : bat f a (u4b x)) : r4 f a = x := by
  have h0 := h 0 (by rw [u4b_len]; omega)
  have h1 := h 1 (by rw [u4b_len]; omega)
  have h2 := h 2 (by rw [u4b_len]; omega)
  have h3 := h 3 (by rw [u4b_len]; omega)
  simp only [Nat.add_zero] at h0
  unfold r4
  rw [h0, h1, h2, h3]
  show (((ush x 24).toInt8.toInt32 &&& 255) <<< ((24 : Int32) &&& 31)) ||| (((ush x 16).toInt8.toInt32 &&& 255) <<< ((16 : Int32) &&& 31)) ||| (((ush x 8).toInt8.toInt32 &&& 255) <<< ((8 : Int32) &&& 31)) ||| (x.toInt8.toInt32 &&& 255) = x
  have hb : ∀ (y : Int32) (i : Nat), (y.toInt8.toInt32 &&& 255).toBitVec.getLsbD i = (decide (i < 8) && y.toBitVec.getLsbD i) := by
    intro y i
    rw [bi_bit]
    by_cases h : i < 8
    · rw [decide_eq_true h, Bool.true_and, Bool.true_and]
      show (BitVec.signExtend 32 (BitVec.signExtend 8 y.toBitVec)).getLsbD i = _
      rw [BitVec.getLsbD_signExtend, BitVec.getLsbD_signExtend]
      simp [h, show i < 32 by omega]
    · rw [decide_eq_false h, Bool.false_and, Bool.false_and]
  apply Int32.toBitVec_inj.mp
  apply BitVec.eq_of_getLsbD_eq
  intro i hi
  simp only [Int32.toBitVec_or, BitVec.getLsbD_or]
  rw [lsI_bit _ 24 24 i (by decide), lsI_bit _ 16 16 i (by decide), lsI_bit _ 8 8 i (by decide), hb, hb, hb, hb, ush_bit x 24 24 _ (by decide), ush_bit x 16 16 _ (by decide), ush_bit x 8 8 _ (by decide)]
  by_cases h8 : i < 8
  · simp [h8, hi, show i < 16 by omega, show i < 24 by omega]
  · by_cases h16 : i < 16
    · simp [h8, h16, hi, show i < 24 by omega, show i - 8 < 8 by omega, show 8 + (i - 8) = i by omega]
    · by_cases h24 : i < 24
      · simp [h8, h16, h24, hi, show i - 16 < 8 by omega, show ¬ i - 8 < 8 by omega, show 16 + (i - 16) = i by omega]
      · simp [h8, h16, h24, hi, show i - 24 < 8 by omega, show ¬ i - 16 < 8 by omega, show ¬ i - 8 < 8 by omega, show 24 + (i - 24) = i by omega]
/-- a VARINT there and back -/
theorem vz_back (x : Int32) : ush (vzI x) 1 ^^^ -(vzI x &&& 1) = x := by
  have hz : ∀ i, (vzI x).toBitVec.getLsbD i = ((decide (i < 32) && !decide (i < 1) && x.toBitVec.getLsbD (i - 1)) ^^ (decide (i < 32) && x.toBitVec.getLsbD 31)) := by
    intro i
    show ((x <<< ((1 : Int32) &&& 31)) ^^^ (x >>> ((31 : Int32) &&& 31))).toBitVec.getLsbD i = _
    rw [Int32.toBitVec_xor, BitVec.getLsbD_xor, lsI_bit _ 1 1 i (by decide)]
    congr 1
    show (x.toBitVec.sshiftRight' (((31 : Int32) &&& 31).toBitVec.smod 32)).getLsbD i = _
    rw [BitVec.sshiftRight', show (((31 : Int32) &&& 31).toBitVec.smod 32).toNat = 31 by decide, BitVec.getLsbD_sshiftRight]
    by_cases h : i < 32
    · by_cases h0 : i = 0
      · subst h0; simp
      · simp [h, show ¬ 31 + i < 32 by omega, BitVec.msb_eq_getLsbD_last]
    · simp [h, show 32 ≤ i by omega]
  have hs : (vzI x &&& 1) = if x.toBitVec.getLsbD 31 = true then 1 else 0 := by
    by_cases h : x.toBitVec.getLsbD 31 = true
    · rw [if_pos h, and1_bit, hz, h]; rfl
    · rw [if_neg h]
      have h1 : ¬ (vzI x &&& 1 = 1) := by
        rw [and1_bit, hz, (Bool.not_eq_true _).mp h]; simp
      apply Int32.toBitVec_inj.mp
      apply BitVec.eq_of_getLsbD_eq
      intro i hi
      rw [Int32.toBitVec_and, BitVec.getLsbD_and]
      show (_ && (1#32).getLsbD i) = (0#32).getLsbD i
      rw [BitVec.getLsbD_zero]
      by_cases e : i = 0
      · subst e
        have h2 : (vzI x).toBitVec.getLsbD 0 = false := by
          cases hq : (vzI x).toBitVec.getLsbD 0 with
          | false => rfl
          | true => exact absurd ((and1_bit _).mpr hq) h1
        rw [h2]; rfl
      · rw [show (1#32).getLsbD i = false by simp [BitVec.getLsbD_one, e]]; simp
  apply Int32.toBitVec_inj.mp
  apply BitVec.eq_of_getLsbD_eq
  intro i hi
  rw [Int32.toBitVec_xor, BitVec.getLsbD_xor, ush_bit _ 1 1 i (by decide), hz, hs]
  by_cases h : x.toBitVec.getLsbD 31 = true
  · rw [if_pos h, show (-(1 : Int32)).toBitVec = BitVec.allOnes 32 by decide, BitVec.getLsbD_allOnes]
    rw [h]
    by_cases h31 : i = 31
    · subst h31; rw [h]; simp
    · simp [hi, show 1 + i < 32 by omega]
  · rw [if_neg h, show (-(0 : Int32)).toBitVec = 0#32 by decide, BitVec.getLsbD_zero]
    rw [(Bool.not_eq_true _).mp h]
    by_cases h31 : i = 31
    · subst h31; rw [(Bool.not_eq_true _).mp h]; simp
    · simp [show 1 + i < 32 by omega]
theorem nI_128 {n : Nat} : ub (nI n &&& 127 ||| 128).toInt8.toInt32 = n % 128 + 128 := by
  have h1 : nI n &&& 127 = nI (n % 128) := by
    have h2 : nI n &&& 127 = nI ((nI n).toBitVec.toNat % 128) := pk_and (nI n) 7 rfl
    rw [h2]
    show nI ((BitVec.ofNat 32 n).toNat % 128) = _
    rw [BitVec.toNat_ofNat]
    congr 1; omega
  have h3 := nI_or (a := 1) (b := n % 128) (k := 7) (Nat.mod_lt _ (by decide))
  rw [h1, Int32.or_comm]
  rw [show nI (2 ^ 7 * 1) = (128 : Int32) from rfl] at h3
  rw [h3, ub_8 (by have := Nat.mod_lt n (show 0 < 128 by decide); omega)]
  omega
/-- the next seven bits put on top -/
theorem nI_top {w b j : Nat} (hw : w < 2 ^ (7 * j)) (hj : 7 * j < 32) : nI w ||| (nI b <<< ((7 * nI j) &&& 31)) = nI (w + 2 ^ (7 * j) * b) := by
  have hs : ∀ j, j < 5 → (((7 * nI j : Int32) &&& 31).toBitVec.smod 32).toNat = 7 * j := by decide
  have h1 : nI b <<< ((7 * nI j) &&& 31) = nI (2 ^ (7 * j) * b) := by
    apply Int32.toBitVec_inj.mp
    show (BitVec.ofNat 32 b) <<< (((7 * nI j : Int32) &&& 31).toBitVec.smod 32) = BitVec.ofNat 32 _
    rw [BitVec.shiftLeft_eq', hs j (by omega)]
    apply BitVec.eq_of_toNat_eq
    rw [BitVec.toNat_shiftLeft, BitVec.toNat_ofNat, BitVec.toNat_ofNat, Nat.shiftLeft_eq, Nat.mod_mul_mod, Nat.mul_comm]
  rw [h1, Int32.or_comm, nI_or hw, Nat.add_comm]
theorem rvL_vb {f : Nat → Int32} {E : Nat} {x : Int32} (hf : ∀ i, fits .byte (.int (f i)) = true) : ∀ (k j w z a : Nat), j + k = 4 → z < 16 * 128 ^ k → w < 2 ^ (7 * j) → w + 2 ^ (7 * j) * z = vzN x → bat f a (vb k z) → a + (vb k z).length ≤ E → rvL f E 0 (k + 1) j (nI w) a = (x, a + (vb k z).length, 0)
  | 0, j, w, z, a, hj, hz, hw, hv, hb, hE => by
    have hj4 : j = 4 := by omega
    rw [vb_0] at hb hE
    have h1 := hb.one
    simp only [List.length_singleton] at hE
    rw [rvL, if_pos (by omega), vb_0]
    have hz16 : z < 16 := by simpa using hz
    have h2 : ub (f a) = z := by rw [h1, ub_8 (by omega)]
    rw [if_neg (fun q => absurd ((ub_neg (hf a)).mp q) (by omega)), ← ub_127, h2]
    have h3 : nI z &&& 127 = nI z := by
      have h4 : nI z &&& 127 = nI ((nI z).toBitVec.toNat % 128) := pk_and (nI z) 7 rfl
      rw [h4]
      show nI ((BitVec.ofNat 32 z).toNat % 128) = _
      rw [BitVec.toNat_ofNat]
      congr 1; omega
    rw [h3, nI_top hw (by omega), hv, ← vzI_nI, vz_back]; rfl
  | k + 1, j, w, z, a, hj, hz, hw, hv, hb, hE => by
    by_cases hd : z / 128 = 0
    · rw [vb_1 hd] at hb hE
      have h1 := hb.one
      simp only [List.length_singleton] at hE
      rw [rvL, if_pos (by omega), vb_1 hd]
      have h2 : ub (f a) = z := by rw [h1, ub_8 (by omega)]
      rw [if_neg (fun q => absurd ((ub_neg (hf a)).mp q) (by omega)), ← ub_127, h2]
      have h3 : nI z &&& 127 = nI z := by
        have h4 : nI z &&& 127 = nI ((nI z).toBitVec.toNat % 128) := pk_and (nI z) 7 rfl
        rw [h4]
        show nI ((BitVec.ofNat 32 z).toNat % 128) = _
        rw [BitVec.toNat_ofNat]
        congr 1; omega
      rw [h3, nI_top hw (by omega), hv, ← vzI_nI, vz_back]; rfl
    · rw [vb_2 hd] at hb hE
      have h1 := hb.one
      have hl : (vb (k + 1) z).length = (vb k (z / 128)).length + 1 := by rw [vb_2 hd]; rfl
      simp only [List.length_cons] at hE
      have h2 : ub (f a) = z % 128 + 128 := by rw [h1, nI_128]
      rw [rvL, if_pos (by omega), if_pos ((ub_neg (hf a)).mpr (by omega)), ← ub_127, h2]
      have h3 : nI (z % 128 + 128) &&& 127 = nI (z % 128) := by
        have h4 : nI (z % 128 + 128) &&& 127 = nI ((nI (z % 128 + 128)).toBitVec.toNat % 128) := pk_and _ 7 rfl
        rw [h4]
        show nI ((BitVec.ofNat 32 (z % 128 + 128)).toNat % 128) = _
        rw [BitVec.toNat_ofNat]
        congr 1; omega
      rw [h3, nI_top hw (by omega)]
      have e1 : 2 ^ (7 * (j + 1)) = 2 ^ (7 * j) * 128 := by rw [show 7 * (j + 1) = 7 * j + 7 by omega, Nat.pow_add]
      have e2 : z = z / 128 * 128 + z % 128 := by omega
      have e3 : 2 ^ (7 * j) * z = 2 ^ (7 * j) * (z % 128) + 2 ^ (7 * j) * 128 * (z / 128) := by
        conv => lhs; rw [e2]
        rw [Nat.mul_add, Nat.mul_comm (z / 128) 128, ← Nat.mul_assoc]
        exact Nat.add_comm _ _
      have := rvL_vb (E := E) (x := x) hf k (j + 1) (w + 2 ^ (7 * j) * (z % 128)) (z / 128) (a + 1) (by omega) (p128 k z hz) (by
        rw [e1]
        have hm : z % 128 ≤ 127 := by omega
        have := Nat.mul_le_mul_left (2 ^ (7 * j)) hm
        omega) (by
        rw [e1, ← hv, e3]; omega) hb.tl (by omega)
      rw [this, hl, show a + 1 + (vb k (z / 128)).length = a + ((vb k (z / 128)).length + 1) by omega]
theorem rdV_vb {f : Nat → Int32} {E a : Nat} {x : Int32} (hf : ∀ i, fits .byte (.int (f i)) = true) (hb : bat f a (vbs x)) (hE : a + (vbs x).length ≤ E) : rdV f E (a, 0) = (x, (a + (vbs x).length, 0)) := by
  have h := rvL_vb (x := x) hf 4 0 0 (vzN x) a (by omega) (Nat.lt_of_lt_of_le (vzN_lt x) (by decide)) (by decide) (by simp) hb hE
  unfold rdV
  have h0 : (nI 0 : Int32) = 0 := rfl
  rw [h0] at h
  show ((rvL f E 0 5 0 0 a).1, (rvL f E 0 5 0 0 a).2.1, (rvL f E 0 5 0 0 a).2.2) = _
  rw [h]; rfl
