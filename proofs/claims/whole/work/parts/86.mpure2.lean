/-! MODEL, PURE: OBJECTS put and taken away; bytes read. -/
theorem oSz_app (ob : List obT) (o : obT) : oSz (ob ++ [o]) = oSz ob + o.2.2.length := by simp [oSz]
theorem oSz_le {av : avT} {ob : List obT} (h : mo_at av ob) : oSz ob ≤ 1400 * ob.length := by
  have h1 : ∀ o ∈ ob, o.2.2.length ≤ 1400 := by
    intro o ho
    obtain ⟨k, hk⟩ := List.getElem?_of_mem ho
    exact (h.1 k o hk).2.2.2.2.1
  clear h
  induction ob with
  | nil => exact Nat.le_refl _
  | cons o ob ih =>
    have h2 := h1 o (List.mem_cons_self ..)
    have h3 := ih (fun o ho => h1 o (List.mem_cons_of_mem _ ho))
    simp only [oSz, List.map_cons, List.sum_cons, List.length_cons] at h3 ⊢
    omega
theorem app_get {ob : List obT} {o q : obT} {k : Nat} (h : (ob ++ [o])[k]? = some q) : (ob[k]? = some q ∧ k < ob.length) ∨ (k = ob.length ∧ q = o) := by
  by_cases hk : k < ob.length
  · rw [List.getElem?_append_left hk] at h; exact Or.inl ⟨h, hk⟩
  · rw [List.getElem?_append_right (by omega)] at h
    by_cases e : k - ob.length = 0
    · rw [e] at h
      simp only [List.getElem?_cons_zero, Option.some.injEq] at h
      exact Or.inr ⟨by omega, h.symm⟩
    · rw [List.getElem?_eq_none (by simp only [List.length_singleton]; omega)] at h; cases h
/-- one more OBJECT -/
theorem mo_at.put {av av2 : avT} {ob : List obT} {s n : Int32} {bs : List Int8} (h : mo_at av ob) (hl : ob.length < 100) (h10 : 10 ≤ bs.length) (h14 : bs.length ≤ 1400) (e0 : av2 0 = upd (av 0) ob.length s) (e1 : av2 1 = upd (av 1) ob.length n) (e2 : av2 2 = upd (av 2) ob.length (nI bs.length)) (e3 : ∀ i, i < 1400 * ob.length → av2 3 i = av 3 i) (e4 : ∀ i, i < bs.length → av2 3 (1400 * ob.length + i) = (bs.getD i 0).toInt32) (hf : ∀ i, fits .byte (.int (av2 3 i)) = true) : mo_at av2 (ob ++ [(s, n, bs)]) := by
  refine ⟨fun k o hk => ?_, hf⟩
  rw [e0, e1, e2]
  rcases app_get hk with ⟨h1, h2⟩ | ⟨h1, h2⟩
  · obtain ⟨a, b, c, d, e, f⟩ := h.1 k o h1
    have hne : k ≠ ob.length := by omega
    refine ⟨by rw [pk_un hne]; exact a, by rw [pk_un hne]; exact b, by rw [pk_un hne]; exact c, d, e, fun i hi => ?_⟩
    rw [e3 _ (by omega)]; exact f i hi
  · subst h1; subst h2
    exact ⟨pk_us, pk_us, pk_us, h10, h14, e4⟩
def swR (ob : List obT) (k : Nat) : List obT := (ob.set k (ob.getD (ob.length - 1) (0, 0, []))).dropLast
theorem swR_len (ob : List obT) (k : Nat) : (swR ob k).length = ob.length - 1 := by simp [swR]
theorem swR_get {ob : List obT} {k j : Nat} {q : obT} (hk : k < ob.length) (h : (swR ob k)[j]? = some q) : (j = k ∧ ob[ob.length - 1]? = some q ∧ j < ob.length - 1) ∨ (j ≠ k ∧ ob[j]? = some q ∧ j < ob.length - 1) := by
  have hj : j < ob.length - 1 := by
    have := (List.getElem?_eq_some_iff.mp h).1
    rwa [swR_len] at this
  unfold swR at h
  rw [List.getElem?_dropLast, List.length_set, if_pos hj] at h
  by_cases e : j = k
  · subst e
    rw [List.getElem?_set_self hk] at h
    refine Or.inl ⟨rfl, ?_, hj⟩
    rw [List.getElem?_eq_getElem (by omega)]
    rw [List.getD_eq_getElem?_getD, List.getElem?_eq_getElem (by omega)] at h
    exact h
  · rw [List.getElem?_set_ne (Ne.symm e)] at h
    exact Or.inr ⟨e, h, hj⟩
theorem oSz_perm {a b : List obT} (h : a.Perm b) : oSz a = oSz b := (h.map _).sum_nat
theorem last_split {ob : List obT} (h : 0 < ob.length) : ob = ob.dropLast ++ [ob.getD (ob.length - 1) (0, 0, [])] := by
  have hne : ob ≠ [] := List.ne_nil_of_length_pos h
  have h1 := List.dropLast_concat_getLast hne
  rw [List.getLast_eq_getElem] at h1
  rw [List.getD_eq_getElem?_getD, List.getElem?_eq_getElem (by omega)]
  exact h1.symm
theorem swR_perm {ob : List obT} {k : Nat} {o : obT} (hk : ob[k]? = some o) : ob.Perm (o :: swR ob k) := by
  have hlt := (List.getElem?_eq_some_iff.mp hk).1
  have hls := last_split (ob := ob) (by omega)
  generalize hq : ob.getD (ob.length - 1) (0, 0, []) = q at hls
  have hsw : swR ob k = (ob.set k q).dropLast := by unfold swR; rw [hq]
  have hdl : ob.dropLast.length = ob.length - 1 := List.length_dropLast
  by_cases e : k = ob.length - 1
  · have h1 : o = q := by
      rw [List.getD_eq_getElem?_getD, ← e, hk] at hq; exact hq
    rw [hsw]
    have h2 : ob.set k q = ob := by
      apply List.ext_getElem?
      intro i
      by_cases hi : i = k
      · subst hi; rw [List.getElem?_set_self hlt, hk, h1]
      · rw [List.getElem?_set_ne (Ne.symm hi)]
    rw [h2, h1]
    conv => lhs; rw [hls]
    exact List.perm_append_comm
  · have h3 : (ob.set k q).dropLast = ob.dropLast.set k q := by
      apply List.ext_getElem?
      intro i
      rw [List.getElem?_dropLast, List.length_set]
      by_cases hi : i < ob.length - 1
      · rw [if_pos hi]
        by_cases ei : i = k
        · subst ei; rw [List.getElem?_set_self hlt, List.getElem?_set_self (by omega)]
        · rw [List.getElem?_set_ne (Ne.symm ei), List.getElem?_set_ne (Ne.symm ei), List.getElem?_dropLast, if_pos hi]
      · rw [if_neg hi, List.getElem?_eq_none (by rw [List.length_set]; omega)]
    have hk2 : ob.dropLast[k]? = some o := by rw [List.getElem?_dropLast, if_pos (by omega), hk]
    rw [hsw, h3]
    have h4 := perm_erG hk2
    have h5 := perm_stG (x2 := q) hk2
    conv => lhs; rw [hls]
    refine (List.perm_append_comm).trans ?_
    refine (h4.cons q).trans ?_
    refine (List.Perm.swap o q _).trans ?_
    exact (h5.symm).cons o
theorem mo_at.del {av av2 : avT} {ob : List obT} {k : Nat} {q : obT} (h : mo_at av ob) (hk : k < ob.length) (hq : ob[ob.length - 1]? = some q) (e0 : av2 0 = upd (av 0) k q.1) (e1 : av2 1 = upd (av 1) k q.2.1) (e2 : av2 2 = upd (av 2) k (nI q.2.2.length)) (e3 : ∀ i, (i < 1400 * k ∨ 1400 * k + q.2.2.length ≤ i) → av2 3 i = av 3 i) (e4 : ∀ i, i < q.2.2.length → av2 3 (1400 * k + i) = (q.2.2.getD i 0).toInt32) (hf : ∀ i, fits .byte (.int (av2 3 i)) = true) : mo_at av2 (swR ob k) := by
  refine ⟨fun j o hj => ?_, hf⟩
  rw [e0, e1, e2]
  have hql := (h.1 _ q hq).2.2.2
  rcases swR_get hk hj with ⟨h1, h2, h3⟩ | ⟨h1, h2, h3⟩
  · subst h1
    rw [hq] at h2
    cases h2
    exact ⟨pk_us, pk_us, pk_us, hql.1, hql.2.1, e4⟩
  · obtain ⟨a, b, c, d, e, f⟩ := h.1 j o h2
    refine ⟨by rw [pk_un h1]; exact a, by rw [pk_un h1]; exact b, by rw [pk_un h1]; exact c, d, e, fun i hi => ?_⟩
    rw [e3 _ (by omega)]; exact f i hi
/-- bytes as an array's front -/
def fnB (bs : List Int8) : Nat → Int32 := fun i => (bs.getD i 0).toInt32
theorem fnB_by (bs : List Int8) : by_at (fnB bs) bs := ⟨fun _ _ => rfl, fun _ => by_fit _⟩
theorem r4_cong {f g : Nat → Int32} {a b : Nat} (h : ∀ i, i < 4 → f (a + i) = g (b + i)) : r4 f a = r4 g b := by
  unfold r4
  have h0 := h 0 (by omega)
  have h1 := h 1 (by omega)
  have h2 := h 2 (by omega)
  have h3 := h 3 (by omega)
  simp only [Nat.add_zero] at h0
  rw [h0, h1, h2, h3]
/-- the CHECK at the end is that of all ahead -/
def okC (bs : List Int8) : Prop := crc (bs.take (bs.length - 4)) = r4 (fnB bs) (bs.length - 4)
theorem mo_crc {av : avT} {ob : List obT} {k : Nat} {o : obT} (h : mo_at av ob) (hk : ob[k]? = some o) : crM (av 3) (-1) (1400 * k) (o.2.2.length - 4) ^^^ (-1) = crc (o.2.2.take (o.2.2.length - 4)) := by
  have hb := (h.1 k o hk).2.2.2.2.2
  have hl : (o.2.2.take (o.2.2.length - 4)).length = o.2.2.length - 4 := by rw [List.length_take]; omega
  have h1 := crF_L (o.2.2.take (o.2.2.length - 4)) (av 3) (-1) (1400 * k) (fun i hi => by
    rw [hl] at hi
    rw [hb i (by omega), List.getD_eq_getElem?_getD, List.getD_eq_getElem?_getD, List.getElem?_take_of_lt hi])
  rw [hl] at h1
  rw [crM_F, h1]; rfl
theorem mo_r4 {av : avT} {ob : List obT} {k : Nat} {o : obT} (h : mo_at av ob) (hk : ob[k]? = some o) {i : Nat} (hi : i + 4 ≤ o.2.2.length) : r4 (av 3) (1400 * k + i) = r4 (fnB o.2.2) i := by
  have hb := (h.1 k o hk).2.2.2.2.2
  refine r4_cong (fun j hj => ?_)
  rw [Nat.add_assoc, hb (i + j) (by omega)]; rfl
/-- a long of four bytes -/
def tk4 (f : Nat → Int32) (a : Nat) : Int64 := (((0 <<< ((8 : Int32).toInt64 &&& 63) ||| ((f a).toInt64 &&& 255)) <<< ((8 : Int32).toInt64 &&& 63) ||| ((f (a + 1)).toInt64 &&& 255)) <<< ((8 : Int32).toInt64 &&& 63) ||| ((f (a + 2)).toInt64 &&& 255)) <<< ((8 : Int32).toInt64 &&& 63) ||| ((f (a + 3)).toInt64 &&& 255)
theorem b255l (i : Nat) : (255#64).getLsbD i = decide (i < 8) := by
  by_cases h : i < 8
  · rcases (show i = 0 ∨ i = 1 ∨ i = 2 ∨ i = 3 ∨ i = 4 ∨ i = 5 ∨ i = 6 ∨ i = 7 by omega) with e | e | e | e | e | e | e | e <;> subst e <;> rfl
  · rw [decide_eq_false h]
    apply Nat.testBit_lt_two_pow
    exact Nat.lt_of_lt_of_le (show 255 < 2 ^ 8 by decide) (Nat.pow_le_pow_right (by decide) (by omega))
theorem bl_bit (x : Int32) (i : Nat) : (x.toInt64 &&& 255).toBitVec.getLsbD i = (decide (i < 8) && x.toBitVec.getLsbD i) := by
  rw [Int64.toBitVec_and, BitVec.getLsbD_and]
  show (_ && (255#64).getLsbD i) = _
  rw [b255l]
  by_cases h : i < 8
  · rw [sx_bit x i (by omega), Bool.and_comm]
  · rw [decide_eq_false h, Bool.and_false, Bool.false_and]
theorem bi_bit (x : Int32) (i : Nat) : (x &&& 255).toBitVec.getLsbD i = (decide (i < 8) && x.toBitVec.getLsbD i) := by
  rw [Int32.toBitVec_and, BitVec.getLsbD_and]
  show (_ && (255#32).getLsbD i) = _
  rw [b255, Bool.and_comm]
theorem ls8_bit (y : Int64) (i : Nat) : (y <<< ((8 : Int32).toInt64 &&& 63)).toBitVec.getLsbD i = (decide (i < 64) && !decide (i < 8) && y.toBitVec.getLsbD (i - 8)) := by
  show (y.toBitVec <<< (((8 : Int32).toInt64 &&& 63).toBitVec.smod 64)).getLsbD i = _
  rw [BitVec.shiftLeft_eq', show (((8 : Int32).toInt64 &&& 63).toBitVec.smod 64).toNat = 8 by decide, BitVec.getLsbD_shiftLeft]
theorem lsI_bit (y : Int32) (s : Int32) (k i : Nat) (hs : ((s &&& 31).toBitVec.smod 32).toNat = k) : (y <<< (s &&& 31)).toBitVec.getLsbD i = (decide (i < 32) && !decide (i < k) && y.toBitVec.getLsbD (i - k)) := by
  show (y.toBitVec <<< ((s &&& 31).toBitVec.smod 32)).getLsbD i = _
  rw [BitVec.shiftLeft_eq', hs, BitVec.getLsbD_shiftLeft]
theorem tk4_r4 (f : Nat → Int32) (a : Nat) : (tk4 f a).toInt32 = r4 f a := by
  apply Int32.toBitVec_inj.mp
  apply BitVec.eq_of_getLsbD_eq
  intro i hi
  show (BitVec.signExtend 32 (tk4 f a).toBitVec).getLsbD i = _
  rw [BitVec.getLsbD_signExtend]
  simp only [hi, decide_true, Bool.true_and, show i < 64 by omega, if_true]
  unfold tk4 r4
  simp only [Int64.toBitVec_or, Int32.toBitVec_or, BitVec.getLsbD_or, ls8_bit, bl_bit]
  rw [lsI_bit _ 24 24 i (by decide), lsI_bit _ 16 16 i (by decide), lsI_bit _ 8 8 i (by decide), bi_bit, bi_bit, bi_bit, bi_bit]
  have h0 : (0 : Int64).toBitVec.getLsbD (i - 8 - 8 - 8 - 8) = false := BitVec.getLsbD_zero
  rw [h0]
  by_cases h8 : i < 8
  · simp [h8, hi, show i < 16 by omega, show i < 24 by omega, show i < 64 by omega]
  · by_cases h16 : i < 16
    · simp [h8, h16, hi, show i < 24 by omega, show i < 64 by omega, show i - 8 < 8 by omega]
    · by_cases h24 : i < 24
      · simp [h8, h16, h24, hi, show i < 64 by omega, show ¬ i - 8 < 8 by omega, show i - 8 < 64 by omega, show i - 8 - 8 < 8 by omega, show i - 16 < 8 by omega, show i - 8 - 8 = i - 16 by omega]
      · simp [h8, h16, h24, hi, show i < 64 by omega, show ¬ i - 8 < 8 by omega, show i - 8 < 64 by omega, show ¬ i - 8 - 8 < 8 by omega, show i - 8 - 8 < 64 by omega, show i - 8 - 8 - 8 < 8 by omega, show i - 8 - 8 - 8 = i - 24 by omega, show i - 24 < 8 by omega, show ¬ i - 16 < 8 by omega]
theorem tk1_b (x : Int32) : (0 <<< ((8 : Int32).toInt64 &&& 63) ||| (x.toInt64 &&& 255)) = (nI (ub x)).toInt64 := by
  rw [← ub_and]
  apply Int64.toBitVec_inj.mp
  apply BitVec.eq_of_getLsbD_eq
  intro i hi
  rw [Int64.toBitVec_or, BitVec.getLsbD_or, ls8_bit, bl_bit]
  show _ = (BitVec.signExtend 64 (x &&& 255).toBitVec).getLsbD i
  rw [BitVec.getLsbD_signExtend]
  have h0 : (0 : Int64).toBitVec.getLsbD (i - 8) = false := BitVec.getLsbD_zero
  have hm : (x &&& 255).toBitVec.msb = false := by
    rw [BitVec.msb_eq_getLsbD_last, bi_bit]; rfl
  rw [h0, hm]
  by_cases h : i < 32
  · rw [if_pos h, bi_bit]; simp [hi]
  · simp [h, show ¬ i < 8 by omega]
theorem l2i_i2l (x : Int32) : x.toInt64.toInt32 = x := by
  apply Int32.toBitVec_inj.mp
  apply BitVec.eq_of_getLsbD_eq
  intro i hi
  show (BitVec.signExtend 32 x.toInt64.toBitVec).getLsbD i = _
  rw [BitVec.getLsbD_signExtend]
  simp only [hi, decide_true, Bool.true_and, show i < 64 by omega, if_true]
  exact sx_bit x i hi
theorem i2l_inj {x y : Int32} (h : x.toInt64 = y.toInt64) : x = y := by rw [← l2i_i2l x, h, l2i_i2l]
