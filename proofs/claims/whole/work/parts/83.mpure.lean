/-! MODEL, PURE: OBJECTS in the reference's arrays; numbers. -/
theorem pmN {X : va_W} : X.Perm (X ++ []) := by rw [List.append_nil]
theorem nb_le {a b : Nat} (h : nI a ≤ nI b) (ha : a < 2 ^ 31) (hb : b < 2 ^ 31) : a ≤ b := (nI_leI ha hb).mp h
theorem nb_nle {a b : Nat} (h : ¬ nI a ≤ nI b) (ha : a < 2 ^ 31) (hb : b < 2 ^ 31) : b < a := Nat.lt_of_not_le (fun z => h ((nI_leI ha hb).mpr z))
theorem nb_lt {a b : Nat} (h : nI a < nI b) (ha : a < 2 ^ 31) (hb : b < 2 ^ 31) : a < b := (nI_ltI ha hb).mp h
theorem nb_nlt {a b : Nat} (h : ¬ nI a < nI b) (ha : a < 2 ^ 31) (hb : b < 2 ^ 31) : b ≤ a := Nat.le_of_not_lt (fun z => h ((nI_ltI ha hb).mpr z))
theorem nb_eq {a b : Nat} (h : nI a = nI b) (ha : a < 2 ^ 31) (hb : b < 2 ^ 31) : a = b := (nI_eq ha hb).mp h
theorem nb_ne {a b : Nat} (h : ¬ nI a = nI b) (ha : a < 2 ^ 31) (hb : b < 2 ^ 31) : a ≠ b := fun z => h (by rw [z])
/-- an OBJECT: sort, number, bytes -/
abbrev obT : Type := Int32 × Int32 × List Int8
def oSz (ob : List obT) : Nat := (ob.map (fun o => o.2.2.length)).sum
def mo_at (av : avT) (ob : List obT) : Prop := (∀ (k : Nat) (o : obT), ob[k]? = some o → av 0 k = o.1 ∧ av 1 k = o.2.1 ∧ av 2 k = nI o.2.2.length ∧ 10 ≤ o.2.2.length ∧ o.2.2.length ≤ 1400 ∧ ∀ i, i < o.2.2.length → av 3 (1400 * k + i) = (o.2.2.getD i 0).toInt32) ∧ ∀ i, fits .byte (.int (av 3 i)) = true
def mo_ok (iv : ivT) (av : avT) (ob : List obT) : Prop := iv 4 = nI ob.length ∧ ob.length ≤ 100 ∧ iv 5 = nI (oSz ob) ∧ mo_at av ob
theorem mo_at.same {av av2 : avT} {ob : List obT} (h : mo_at av ob) (h0 : av2 0 = av 0) (h1 : av2 1 = av 1) (h2 : av2 2 = av 2) (h3 : av2 3 = av 3) : mo_at av2 ob := by
  unfold mo_at
  rw [h0, h1, h2, h3]; exact h
theorem mo_ok.same {iv iv2 : ivT} {av av2 : avT} {ob : List obT} (h : mo_ok iv av ob) {L M : List Nat} (hi : sI L iv iv2) (ha : sA M av av2) (e1 : 4 ∉ L) (e2 : 5 ∉ L) (h0 : 0 ∉ M) (h1 : 1 ∉ M) (h2 : 2 ∉ M) (h3 : 3 ∉ M) : mo_ok iv2 av2 ob := by
  obtain ⟨a, b, d, f⟩ := h
  exact ⟨by rw [hi 4 e1, a], b, by rw [hi 5 e2, d], f.same (ha 0 h0) (ha 1 h1) (ha 2 h2) (ha 3 h3)⟩
/-- the place of an OBJECT -/
def mFi (ob : List obT) (s n : Int32) : Option Nat := ob.findIdx? (fun o => decide (o.1 = s) && decide (o.2.1 = n))
theorem mFi_none {ob : List obT} {s n : Int32} (h : ∀ (j : Nat) (o : obT), ob[j]? = some o → ¬ (o.1 = s ∧ o.2.1 = n)) : mFi ob s n = none := by
  unfold mFi
  rw [List.findIdx?_eq_none_iff]
  intro o ho
  obtain ⟨j, hj⟩ := List.getElem?_of_mem ho
  have := h j o hj
  simpa using this
theorem mFi_some {ob : List obT} {s n : Int32} {k : Nat} {o : obT} (hk : ob[k]? = some o) (ho : o.1 = s ∧ o.2.1 = n) (h : ∀ (j : Nat) (o : obT), j < k → ob[j]? = some o → ¬ (o.1 = s ∧ o.2.1 = n)) : mFi ob s n = some k := by
  unfold mFi
  rw [List.findIdx?_eq_some_iff_getElem]
  obtain ⟨h1, h2⟩ := List.getElem?_eq_some_iff.mp hk
  refine ⟨h1, ?_, ?_⟩
  · rw [h2]; simpa using ho
  · intro j hj
    have := h j ob[j] hj (List.getElem?_eq_getElem (by omega))
    simpa using this
theorem mFi_get {ob : List obT} {s n : Int32} {k : Nat} (h : mFi ob s n = some k) : ∃ o, ob[k]? = some o ∧ o.1 = s ∧ o.2.1 = n := by
  unfold mFi at h
  rw [List.findIdx?_eq_some_iff_getElem] at h
  obtain ⟨h1, h2, _⟩ := h
  refine ⟨ob[k], List.getElem?_eq_getElem h1, ?_⟩
  simpa using h2
theorem mFi_lt {ob : List obT} {s n : Int32} {k : Nat} (h : mFi ob s n = some k) : k < ob.length := by
  obtain ⟨o, ho, _⟩ := mFi_get h
  exact (List.getElem?_eq_some_iff.mp ho).1
def plR (o : Option Nat) : Int32 := o.elim (-1) nI
/-- the greatest number of an ENTRY -/
def mLt (ob : List obT) : Int32 := ob.foldl (fun v o => if o.1 = 1 ∧ v < o.2.1 then o.2.1 else v) (-1)
theorem getD_of {α : Type} {l : List α} {i : Nat} {x d : α} (h : l[i]? = some x) : l.getD i d = x := by rw [List.getD_eq_getElem?_getD, h]; rfl
theorem take_s {α : Type} {l : List α} {i : Nat} {x : α} (h : l[i]? = some x) : l.take (i + 1) = l.take i ++ [x] := by rw [List.take_succ, h]; rfl
/-- the bytes made so far -/
def mk_at (iv : ivT) (av : avT) (bs : List Int8) : Prop := iv 15 = nI bs.length ∧ by_at (av 14) bs
theorem mk_at.same {iv iv2 : ivT} {av av2 : avT} {bs : List Int8} (h : mk_at iv av bs) (h1 : iv2 15 = iv 15) (h2 : av2 14 = av 14) : mk_at iv2 av2 bs := ⟨by rw [h1]; exact h.1, by rw [h2]; exact h.2⟩
/-- eight steps for a byte -/
def cr1 (c : Int32) : Int32 := if c &&& 1 = 1 then ush c 1 ^^^ (-306674912) else ush c 1
def crN : Nat → Int32 → Int32
  | 0, c => c
  | n + 1, c => crN n (cr1 c)
def crM (f : Nat → Int32) (c : Int32) (a : Nat) : Nat → Int32
  | 0 => c
  | n + 1 => crM f (crN 8 (c ^^^ (f a &&& 255))) (a + 1) n
/-- a long's bytes are the int's -/
theorem sx_bit (x : Int32) (i : Nat) (hi : i < 32) : (x.toInt64.toBitVec).getLsbD i = x.toBitVec.getLsbD i := by
  show (BitVec.signExtend 64 x.toBitVec).getLsbD i = _
  rw [BitVec.getLsbD_signExtend]
  simp [hi, show i < 64 by omega]
theorem shl_b {x : Int32} (y : Int64) (z : Int32) (k : Nat) (hy : ∀ i, i < 8 → y.toBitVec.getLsbD i = x.toBitVec.getLsbD (k + i)) (hz : ∀ i, i < 8 → z.toBitVec.getLsbD i = x.toBitVec.getLsbD (k + i)) : y.toInt32.toInt8 = z.toInt8 := by
  apply Int8.toBitVec_inj.mp
  apply BitVec.eq_of_getLsbD_eq
  intro i hi
  show (BitVec.signExtend 8 (BitVec.signExtend 32 y.toBitVec)).getLsbD i = (BitVec.signExtend 8 z.toBitVec).getLsbD i
  rw [BitVec.getLsbD_signExtend, BitVec.getLsbD_signExtend, BitVec.getLsbD_signExtend]
  simp only [hi, show i < 32 by omega, show i < 64 by omega, decide_true, Bool.true_and, if_true]
  rw [hy i hi, hz i hi]
theorem sar_bit (y : Int64) (b : Int64) (k i : Nat) (hb : (b.toBitVec.smod 64).toNat = k) (h : k + i < 64) : (y >>> b).toBitVec.getLsbD i = y.toBitVec.getLsbD (k + i) := by
  show (y.toBitVec.sshiftRight' (b.toBitVec.smod 64)).getLsbD i = _
  rw [BitVec.sshiftRight', hb, BitVec.getLsbD_sshiftRight]
  simp [h, show ¬ 64 ≤ i by omega]
theorem ush_bit (x : Int32) (s : Int32) (k i : Nat) (hs : ((s.toUInt32 &&& Int32.toUInt32 31).toBitVec % 32).toNat = k) : (ush x s).toBitVec.getLsbD i = x.toBitVec.getLsbD (k + i) := by
  show (x.toBitVec >>> ((s.toUInt32 &&& Int32.toUInt32 31).toBitVec % 32)).getLsbD i = _
  rw [BitVec.ushiftRight_eq', hs, BitVec.getLsbD_ushiftRight]
theorem sh_l24 (x : Int32) : (x.toInt64 >>> ((24 : Int32).toInt64 &&& 63)).toInt32.toInt8 = (ush x 24).toInt8 := shl_b (x := x) _ _ 24 (fun i hi => by rw [sar_bit _ _ 24 i (by decide) (by omega), sx_bit x _ (by omega)]) (fun i hi => ush_bit x 24 24 i (by decide))
theorem sh_l16 (x : Int32) : (x.toInt64 >>> ((16 : Int32).toInt64 &&& 63)).toInt32.toInt8 = (ush x 16).toInt8 := shl_b (x := x) _ _ 16 (fun i hi => by rw [sar_bit _ _ 16 i (by decide) (by omega), sx_bit x _ (by omega)]) (fun i hi => ush_bit x 16 16 i (by decide))
theorem sh_l8 (x : Int32) : (x.toInt64 >>> ((8 : Int32).toInt64 &&& 63)).toInt32.toInt8 = (ush x 8).toInt8 := shl_b (x := x) _ _ 8 (fun i hi => by rw [sar_bit _ _ 8 i (by decide) (by omega), sx_bit x _ (by omega)]) (fun i hi => ush_bit x 8 8 i (by decide))
theorem sh_l0 (x : Int32) : (x.toInt64 >>> ((0 : Int32).toInt64 &&& 63)).toInt32.toInt8 = x.toInt8 := shl_b (x := x) _ _ 0 (fun i hi => by rw [sar_bit _ _ 0 i (by decide) (by omega), sx_bit x _ (by omega)]) (fun i hi => by rw [Nat.zero_add])
