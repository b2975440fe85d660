/-! PURE: a shelf of OBJECTS. -/
/-- a batch in its cells: addresses, PARTITION and ROWS, values, counts, bounds -/
abbrev btT : Type := (Nat × Nat × Nat × Nat × Nat) × (Int32 × Nat) × (Nat → Int32) × (Nat → Int32) × (Nat → Int32) × (Nat → Int32)
/-- an OBJECT: address, its bytes' address, number, length, bytes, examined, sound, batch, wanted -/
abbrev blT : Type := Nat × Nat × Int32 × Nat × (Nat → Int32) × Int32 × Int32 × Option btT × Int32
abbrev bl_ad (x : blT) : Nat := x.1
abbrev bl_qa (x : blT) : Nat := x.2.1
abbrev bl_nu (x : blT) : Int32 := x.2.2.1
abbrev bl_le (x : blT) : Nat := x.2.2.2.1
abbrev bl_fn (x : blT) : Nat → Int32 := x.2.2.2.2.1
abbrev bl_ex (x : blT) : Int32 := x.2.2.2.2.2.1
abbrev bl_so (x : blT) : Int32 := x.2.2.2.2.2.2.1
abbrev bl_bt (x : blT) : Option btT := x.2.2.2.2.2.2.2.1
abbrev bl_wt (x : blT) : Int32 := x.2.2.2.2.2.2.2.2
abbrev bl_ba (x : blT) : Option Nat := (bl_bt x).map (fun b => b.1.1)
def bl_w (v : Int32) (x : blT) : blT := (bl_ad x, bl_qa x, bl_nu x, bl_le x, bl_fn x, bl_ex x, bl_so x, bl_bt x, v)
abbrev bO (x : blT) : Nat × va_E := (bl_ad x, .inr (2, [.int (bl_nu x), .ref (bl_qa x), .int (bl_ex x), .int (bl_so x), va_rf (bl_ba x), .int (bl_wt x)]))
abbrev bA (Z : zT) (x : blT) : Nat × va_E := (bl_qa x, aB Z (bl_le x) (bl_fn x))
abbrev arT : Type := Option (Nat × (Nat → Option Nat))
def arE (Z : zT) (qe : Nat) : arT → va_W
  | none => []
  | some (cap, g) => [(qe, aO Z cap g)]
abbrev nF (x : blT) : Int32 × Int32 := (bl_nu x, 0)
abbrev shC (h a : Nat) : Nat × va_E := (h, .inr (6, [.ref a]))
abbrev shW (Z : zT) (h a : Nat) (mc : Int32) (qe : Nat) (ar : arT) (bl : List blT) : va_W := [shC h a, liC a mc qe bl.length] ++ (bl.map bO ++ (bl.map (bA Z) ++ arE Z qe ar))
/-- the list's array holds the OBJECTS -/
def shOk (Z : zT) (qe : Nat) (ar : arT) (bl : List blT) : Prop := (ar = none ∧ bl = [] ∧ qe = Z.2.2.2.1) ∨ ∃ cap g, ar = some (cap, g) ∧ 10 ≤ cap ∧ cap ≤ 150 ∧ bl.length ≤ cap ∧ ∀ i x, bl[i]? = some x → g i = some (bl_ad x)
theorem shOk.le {Z : zT} {qe : Nat} {ar : arT} {bl : List blT} (h : shOk Z qe ar bl) : bl.length ≤ 150 := by
  rcases h with ⟨_, rfl, _⟩ | ⟨cap, g, _, _, h1, h2, _⟩
  · exact Nat.zero_le _
  · omega
theorem shOk.arr {Z : zT} {qe : Nat} {ar : arT} {bl : List blT} {i : Nat} {x : blT} (h : shOk Z qe ar bl) (hx : bl[i]? = some x) : ∃ cap g, ar = some (cap, g) ∧ 10 ≤ cap ∧ cap ≤ 150 ∧ bl.length ≤ cap ∧ (∀ i x, bl[i]? = some x → g i = some (bl_ad x)) := by
  rcases h with ⟨_, rfl, _⟩ | ⟨cap, g, h0, h1, h2, h3, h4⟩
  · simp at hx
  · exact ⟨cap, g, h0, h1, h2, h3, h4⟩
/-- what a read wants of the other cells -/
def shR (Z : zT) (T : va_W) (qe : Nat) (bl : List blT) : Prop := bl.length ≤ 150 ∧ ∀ i x, bl[i]? = some x → (∃ cap g, (qe, aO Z cap g) ∈ T ∧ bl.length ≤ cap ∧ cap ≤ 150 ∧ g i = some (bl_ad x)) ∧ bO x ∈ T ∧ bA Z x ∈ T
theorem shR.of {Z : zT} {qe : Nat} {ar : arT} {bl : List blT} (h : shOk Z qe ar bl) : shR Z (bl.map bO ++ (bl.map (bA Z) ++ arE Z qe ar)) qe bl := by
  refine ⟨h.le, fun i x hx => ?_⟩
  obtain ⟨cap, g, rfl, h1, h2, h3, h4⟩ := h.arr hx
  have hm := List.mem_of_getElem? hx
  exact ⟨⟨cap, g, List.mem_append_right _ (List.mem_append_right _ (List.mem_singleton.mpr rfl)), h3, h2, h4 i x hx⟩, List.mem_append_left _ (List.mem_map.mpr ⟨x, hm, rfl⟩), List.mem_append_right _ (List.mem_append_left _ (List.mem_map.mpr ⟨x, hm, rfl⟩))⟩
theorem shOk.set {Z : zT} {qe : Nat} {ar : arT} {bl bl2 : List blT} (h : shOk Z qe ar bl) (hl : bl2.map bl_ad = bl.map bl_ad) : shOk Z qe ar bl2 := by
  have hlen : bl2.length = bl.length := by have := congrArg List.length hl; simpa using this
  rcases h with ⟨h0, rfl, h1⟩ | ⟨cap, g, h0, h1, h2, h3, h4⟩
  · exact Or.inl ⟨h0, List.eq_nil_of_length_eq_zero (by simpa using hlen), h1⟩
  · refine Or.inr ⟨cap, g, h0, h1, h2, by omega, fun i x hx => ?_⟩
    have e := congrArg (fun L => L[i]?) hl
    simp only [List.getElem?_map, hx, Option.map_some] at e
    cases hy : bl[i]? with
    | none => rw [hy] at e; cases e
    | some y =>
      rw [hy] at e
      rw [h4 i y hy]
      simp only [Option.map_some, Option.some.injEq] at e
      rw [e]
def bAt (bl : List blT) (x : Int32) : Option blT := if 0 ≤ x ∧ x < nI bl.length then bl[x.toNatClampNeg]? else none
def bPl (bl : List blT) (x : Int32) : Nat := plc (bl.map nF) x
def bSo (bl : List blT) : Prop := fl_so (bl.map nF)
theorem bPl_le (bl : List blT) (x : Int32) : bPl bl x ≤ bl.length := by
  have := plc_le (bl.map nF) x
  simpa [bPl] using this
/-- the OBJECT of a number -/
def bFd (bl : List blT) (x : Int32) : Option blT := (bl[bPl bl x]?).filter (fun y => decide (bl_nu y = x))
theorem bFd_get {bl : List blT} {x : Int32} {y : blT} (h : bFd bl x = some y) : bl[bPl bl x]? = some y ∧ bl_nu y = x := by
  unfold bFd at h
  rw [Option.filter_eq_some_iff] at h
  exact ⟨h.1, by simpa using h.2⟩
theorem bFd_none {bl : List blT} {x : Int32} {y : blT} (h : bl[bPl bl x]? = some y) (hy : ¬ bl_nu y = x) : bFd bl x = none := by
  unfold bFd
  rw [h]
  simp [hy]
theorem bFd_none' {bl : List blT} {x : Int32} (h : bl[bPl bl x]? = none) : bFd bl x = none := by unfold bFd; rw [h]; rfl
theorem bFd_some {bl : List blT} {x : Int32} {y : blT} (h : bl[bPl bl x]? = some y) (hy : bl_nu y = x) : bFd bl x = some y := by
  unfold bFd
  rw [h]
  simp [hy]
theorem bl_getD {bl : List blT} {i : Nat} {y : blT} (h : bl[i]? = some y) : ((bl.map nF).getD i (0, 0)).1 = bl_nu y := by
  rw [List.getD_eq_getElem?_getD, List.getElem?_map, h]; rfl
def bIns (bl : List blT) (x : blT) : List blT := bl.take (bPl bl (bl_nu x)) ++ x :: bl.drop (bPl bl (bl_nu x))
theorem bIns_len (bl : List blT) (x : blT) : (bIns bl x).length = bl.length + 1 := by
  have := bPl_le bl (bl_nu x)
  simp only [bIns, List.length_append, List.length_take, List.length_cons, List.length_drop]; omega
theorem bIns_perm (bl : List blT) (x : blT) : (bIns bl x).Perm (x :: bl) := by
  unfold bIns
  refine List.perm_middle.trans ?_
  rw [List.take_append_drop]
theorem insG_bl {bl : List blT} {g g2 : Nat → Option Nat} {x : blT} {k : Nat} (hk : k ≤ bl.length) (h : insG g g2 k bl.length (bl_ad x)) (hg : ∀ i y, bl[i]? = some y → g i = some (bl_ad y)) : ∀ i y, (bl.take k ++ x :: bl.drop k)[i]? = some y → g2 i = some (bl_ad y) := by
  intro i y hy
  have hl : (bl.take k).length = k := by rw [List.length_take]; omega
  rcases Nat.lt_trichotomy i k with hi | hi | hi
  · rw [List.getElem?_append_left (by omega), List.getElem?_take_of_lt hi] at hy
    rw [h.1 i hi]; exact hg i y hy
  · subst hi
    rw [List.getElem?_append_right (by omega), hl, Nat.sub_self] at hy
    simp only [List.getElem?_cons_zero, Option.some.injEq] at hy
    rw [h.2.1, hy]
  · obtain ⟨j, rfl⟩ : ∃ j, i = k + j + 1 := ⟨i - k - 1, by omega⟩
    rw [List.getElem?_append_right (by omega), hl, show k + j + 1 - k = j + 1 by omega, List.getElem?_cons_succ, List.getElem?_drop] at hy
    have hlt := (List.getElem?_eq_some_iff.mp hy).1
    rw [h.2.2 (k + j) (by omega) hlt]; exact hg _ y hy
theorem delG_bl {bl : List blT} {g g2 : Nat → Option Nat} {k : Nat} (h : delG g g2 k bl.length) (hg : ∀ i y, bl[i]? = some y → g i = some (bl_ad y)) : ∀ i y, (bl.eraseIdx k)[i]? = some y → g2 i = some (bl_ad y) := by
  intro i y hy
  rw [List.getElem?_eraseIdx] at hy
  by_cases hi : i < k
  · rw [if_pos hi] at hy
    rw [h.1 i hi]; exact hg i y hy
  · rw [if_neg hi] at hy
    have hlt := (List.getElem?_eq_some_iff.mp hy).1
    rw [h.2 i (by omega) hlt]; exact hg _ y hy
theorem perm_er : ∀ {bl : List blT} {i : Nat} {x : blT}, bl[i]? = some x → bl.Perm (x :: bl.eraseIdx i)
  | [], i, x, h => by simp at h
  | y :: bl, 0, x, h => by
    simp only [List.getElem?_cons_zero, Option.some.injEq] at h
    subst h
    exact List.Perm.refl _
  | y :: bl, i + 1, x, h => by
    rw [List.getElem?_cons_succ] at h
    exact ((perm_er h).cons y).trans (List.Perm.swap x y _)
theorem perm_st {bl : List blT} {i : Nat} {x x2 : blT} (h : bl[i]? = some x) : (bl.set i x2).Perm (x2 :: bl.eraseIdx i) := by
  have hlt := (List.getElem?_eq_some_iff.mp h).1
  have h1 : (bl.set i x2)[i]? = some x2 := by rw [List.getElem?_set_self hlt]
  have h2 := perm_er h1
  have e : (bl.set i x2).eraseIdx i = bl.eraseIdx i := by
    apply List.ext_getElem?
    intro j
    rw [List.getElem?_eraseIdx, List.getElem?_eraseIdx]
    by_cases hj : j < i
    · rw [if_pos hj, if_pos hj, List.getElem?_set_ne (by omega)]
    · rw [if_neg hj, if_neg hj, List.getElem?_set_ne (by omega)]
  rw [e] at h2
  exact h2
theorem blW_perm {Z : zT} {bl bl2 : List blT} {x : blT} {E : va_W} (h : bl.Perm (x :: bl2)) : (bl.map bO ++ (bl.map (bA Z) ++ E)).Perm ([bO x, bA Z x] ++ (bl2.map bO ++ (bl2.map (bA Z) ++ E))) := by
  have h1 := h.map bO
  have h2 := h.map (bA Z)
  refine (h1.append (h2.append_right E)).trans ?_
  show (bO x :: (bl2.map bO ++ (bA Z x :: (bl2.map (bA Z) ++ E)))).Perm (bO x :: bA Z x :: (bl2.map bO ++ (bl2.map (bA Z) ++ E)))
  exact List.Perm.cons _ List.perm_middle
theorem bSo.sub {bl bl2 : List blT} (h : bSo bl) (hs : bl2.Sublist bl) : bSo bl2 := by
  unfold bSo fl_so at *
  exact List.Pairwise.sublist (hs.map nF) h
theorem bIns_nF (bl : List blT) (x : blT) : (bIns bl x).map nF = fl_ins (bl.map nF) (bl_nu x) 0 := by
  unfold bIns fl_ins bPl
  rw [List.map_append, List.map_cons, List.map_take, List.map_drop]
theorem bFd_has {bl : List blT} {x : Int32} (h : bFd bl x = none) : ¬ fl_has (bl.map nF) x := by
  intro z
  have hlt : bPl bl x < bl.length := by have := z.1; simpa [bPl] using this
  have hy : bl[bPl bl x]? = some bl[bPl bl x] := List.getElem?_eq_getElem hlt
  rw [bFd_some hy (by rw [← bl_getD hy]; exact z.2)] at h
  cases h
theorem bSo.ins {bl : List blT} {x : blT} (h : bSo bl) (hn : bFd bl (bl_nu x) = none) : bSo (bIns bl x) := by
  unfold bSo
  rw [bIns_nF]
  exact fl_so_ins h (bFd_has hn)
theorem bSo.same {bl bl2 : List blT} (h : bSo bl) (he : bl2.map bl_nu = bl.map bl_nu) : bSo bl2 := by
  unfold bSo fl_so at *
  have e : ∀ L : List blT, L.map nF = (L.map bl_nu).map (fun v => (v, (0 : Int32))) := fun L => by rw [List.map_map]; rfl
  rw [e, he, ← e]; exact h
