/-! PURE: the FILES of a version, as the class reads them. -/
theorem perm_mid3 {A B C R : va_W} (h : A.Perm (B ++ R)) : (A ++ C).Perm ((B ++ C) ++ R) := by
  refine (h.append_right C).trans ?_
  rw [List.append_assoc, List.append_assoc]
  exact List.Perm.append_left B List.perm_append_comm
theorem shW_er {Z : zT} {h a qe : Nat} {mc : Int32} {ar : arT} {bl bl2 : List blT} {y : blT} (hp : bl.Perm (y :: bl2)) : (shW Z h a mc qe ar bl).Perm ([bO y, bA Z y] ++ ([shC h a, liC a mc qe bl.length] ++ (bl2.map bO ++ (bl2.map (bA Z) ++ arE Z qe ar)))) := by
  refine (List.Perm.append_left [shC h a, liC a mc qe bl.length] (blW_perm hp)).trans ?_
  exact perm_ixT (X := [shC h a, liC a mc qe bl.length, bO y, bA Z y]) (Y := [bO y, bA Z y, shC h a, liC a mc qe bl.length]) [2, 3, 0, 1] rfl 4 (by decide) rfl
/-- the number of the last one -/
def ltF (el : List blT) : Int32 := ((el[el.length - 1]?).map bl_nu).getD (-1)
theorem bAt_last {el : List blT} (h : el.length ≤ 150) : bAt el (nI el.length - 1) = el[el.length - 1]? := by
  by_cases h0 : el.length = 0
  · have : el = [] := List.eq_nil_of_length_eq_zero h0
    subst this
    rfl
  · have e : nI el.length - 1 = nI (el.length - 1) := pk_sub (b := 1) (by omega)
    rw [e, bAt_nI (by omega) (by omega)]
noncomputable def rdE (el : List blT) : Nat → Nat → flT → Option flT
  | 0, _, F => some F
  | n + 1, k, F => (oQ enQ (bFd el (nI k))).bind (fun y => (apF (bl_fn y) F (ub (bl_fn y 5))).bind (rdE el n (k + 1)))
theorem rdE_n {el : List blT} {n k : Nat} {F : flT} (h : oQ enQ (bFd el (nI k)) = none) : rdE el (n + 1) k F = none := by rw [rdE, h]; rfl
theorem rdE_a {el : List blT} {n k : Nat} {F : flT} {y : blT} (h : oQ enQ (bFd el (nI k)) = some y) (ha : apF (bl_fn y) F (ub (bl_fn y 5)) = none) : rdE el (n + 1) k F = none := by rw [rdE, h, Option.bind_some, ha]; rfl
theorem rdE_s {el : List blT} {n k : Nat} {F F2 : flT} {y : blT} (h : oQ enQ (bFd el (nI k)) = some y) (ha : apF (bl_fn y) F (ub (bl_fn y 5)) = some F2) : rdE el (n + 1) k F = rdE el n (k + 1) F2 := by rw [rdE, h, Option.bind_some, ha]; rfl
theorem oQ_some {q : blT → Prop} {o : Option blT} {y : blT} (h : oQ q o = some y) : o = some y ∧ q y := by
  cases o with
  | none => cases h
  | some z =>
    by_cases hq : q z
    · rw [oQ_pos hq] at h; cases h; exact ⟨rfl, hq⟩
    · rw [oQ_neg hq] at h; cases h
theorem enQ_v {y z : blT} (h : vE z = vE y) : enQ z ↔ enQ y := by
  have e1 : bl_fn z = bl_fn y := congrArg (fun v => v.2.2.2.2.1) h
  have e2 : bl_le z = bl_le y := congrArg (fun v => v.2.2.2.1) h
  have e3 : bl_nu z = bl_nu y := congrArg (fun v => v.2.2.1) h
  unfold enQ
  rw [e1, e2, e3]
theorem oQ_map {q : blT → Prop} {o o2 : Option blT} (hq : ∀ y z : blT, vE z = vE y → (q z ↔ q y)) (h : o2.map vE = o.map vE) : (oQ q o2).map vE = (oQ q o).map vE := by
  cases o with
  | none =>
    cases o2 with
    | none => rfl
    | some z => cases h
  | some y =>
    cases o2 with
    | none => cases h
    | some z =>
      simp only [Option.map_some, Option.some.injEq] at h
      by_cases e : q y
      · rw [oQ_pos e, oQ_pos ((hq y z h).mpr e)]; simp [h]
      · rw [oQ_neg e, oQ_neg (fun x => e ((hq y z h).mp x))]
theorem rdE_v {el el2 : List blT} (he : el2.map vE = el.map vE) : ∀ (n k : Nat) (F : flT), rdE el2 n k F = rdE el n k F
  | 0, _, _ => rfl
  | n + 1, k, F => by
    have h1 := oQ_map (q := enQ) (fun y z h => enQ_v h) (bFd_map vE vnE (fun _ => rfl) he (nI k))
    unfold rdE
    cases h2 : oQ enQ (bFd el (nI k)) with
    | none =>
      rw [h2] at h1
      cases h3 : oQ enQ (bFd el2 (nI k)) with
      | none => rfl
      | some z => rw [h3] at h1; cases h1
    | some y =>
      rw [h2] at h1
      cases h3 : oQ enQ (bFd el2 (nI k)) with
      | none => rw [h3] at h1; cases h1
      | some z =>
        rw [h3] at h1
        simp only [Option.map_some, Option.some.injEq] at h1
        have e1 : bl_fn z = bl_fn y := congrArg (fun v => v.2.2.2.2.1) h1
        rw [Option.bind_some, Option.bind_some, e1]
        have e2 : rdE el2 n (k + 1) = rdE el n (k + 1) := funext (fun F => rdE_v he n (k + 1) F)
        rw [e2]
/-- the FILES of a version; none where it can't be READ -/
noncomputable def vrF (el kl : List blT) (flo x : Int32) : Option flT :=
  if x = -1 then some [] else if x < flo ∨ ltF el < x then none else
  match ckU ckQ kl (bCn kl x) with
  | none => rdE el (x.toNatClampNeg + 1) 0 []
  | some y => rdE el (x.toNatClampNeg - (bl_nu y).toNatClampNeg) ((bl_nu y).toNatClampNeg + 1) (liF (bl_fn y) [] (ub (bl_fn y 5)))
/-- numbers are small -/
def nuS (bl : List blT) : Prop := ∀ y ∈ bl, ∃ n, n < 2 ^ 20 ∧ bl_nu y = nI n
theorem nuS.same {bl bl2 : List blT} (h : nuS bl) (he : bl2.map bl_nu = bl.map bl_nu) : nuS bl2 := by
  intro y hy
  have h1 : bl_nu y ∈ bl2.map bl_nu := List.mem_map.mpr ⟨y, hy, rfl⟩
  rw [he] at h1
  obtain ⟨z, hz, e⟩ := List.mem_map.mp h1
  rw [← e]; exact h z hz
theorem ltF_nu {el : List blT} (h : nuS el) : ltF el = -1 ∨ ∃ n, n < 2 ^ 20 ∧ ltF el = nI n := by
  unfold ltF
  cases h1 : el[el.length - 1]? with
  | none => exact Or.inl rfl
  | some y => exact Or.inr (h y (List.mem_of_getElem? h1))
theorem ltF_v {el el2 : List blT} (he : el2.map bl_nu = el.map bl_nu) : ltF el2 = ltF el := by
  unfold ltF
  rw [← List.getElem?_map, ← List.getElem?_map, he, map_len he]
theorem ckU_mem {q : blT → Prop} {bl : List blT} {y : blT} : ∀ {k : Nat}, ckU q bl k = some y → q y ∧ ∃ j, j < k ∧ bl[j]? = some y
  | 0, h => by cases h
  | k + 1, h => by
    cases h1 : bl[k]? with
    | none =>
      have h2 : ckU q bl (k + 1) = ckU q bl k := if_neg (fun ⟨z, a, _⟩ => by rw [h1] at a; cases a)
      rw [h2] at h
      obtain ⟨a, j, b, c⟩ := ckU_mem h
      exact ⟨a, j, by omega, c⟩
    | some z =>
      by_cases e : q z
      · rw [ckU_y h1 e] at h; cases h; exact ⟨e, k, by omega, h1⟩
      · rw [ckU_n h1 e] at h
        obtain ⟨a, j, b, c⟩ := ckU_mem h
        exact ⟨a, j, by omega, c⟩
/-- a checkpoint that counts is not above -/
theorem bCn_num {bl : List blT} {x : Int32} {j : Nat} {y : blT} (hso : bSo bl) (hj : j < bCn bl x) (hy : bl[j]? = some y) : ¬ x < bl_nu y := by
  unfold bCn at hj
  have hlo : ∀ i z, i < bPl bl x → bl[i]? = some z → bl_nu z < x := by
    intro i z hi hz
    have := plc_lo (F := bl.map nF) (x := x) i hi
    rw [bl_getD hz] at this
    exact this
  by_cases h : (bFd bl x).isSome = true
  · rw [if_pos h] at hj
    by_cases e : j = bPl bl x
    · obtain ⟨z, hz⟩ := Option.isSome_iff_exists.mp h
      have hg := bFd_get hz
      rw [← e, hy] at hg
      have e2 : bl_nu y = x := by have := hg.1; cases this; exact hg.2
      rw [e2]; exact Int32.lt_irrefl
    · exact Int32.not_lt.mpr (Int32.le_of_lt (hlo j y (by omega) hy))
  · rw [if_neg h] at hj
    exact Int32.not_lt.mpr (Int32.le_of_lt (hlo j y hj hy))
