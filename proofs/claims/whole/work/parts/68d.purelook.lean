/-! PURE: what a look at an OBJECT leaves as it was. -/
theorem bPl_at {bl : List blT} {x : Int32} {i : Nat} {y : blT} (hso : bSo bl) (hy : bl[i]? = some y) (hx : bl_nu y = x) : bPl bl x = i := by
  have hi := (List.getElem?_eq_some_iff.mp hy).1
  refine plc_eq (bl.map nF) x i (by rw [List.length_map]; omega) (fun j hj => ?_) (fun _ => ?_)
  · have := fl_mono hso hj (by rw [List.length_map]; omega)
    rw [bl_getD hy, hx] at this
    exact this
  · rw [bl_getD hy, hx]; exact Int32.lt_irrefl
theorem bFd_at {bl : List blT} {x : Int32} {i : Nat} {y : blT} (hso : bSo bl) (hy : bl[i]? = some y) (hx : bl_nu y = x) : bFd bl x = some y := by
  have e := bPl_at hso hy hx
  exact bFd_some (by rw [e]; exact hy) hx
theorem bFd_iff {bl : List blT} {x : Int32} {y : blT} (hso : bSo bl) : bFd bl x = some y ↔ y ∈ bl ∧ bl_nu y = x := by
  constructor
  · intro h
    have := bFd_get h
    exact ⟨List.mem_of_getElem? this.1, this.2⟩
  · rintro ⟨h1, h2⟩
    obtain ⟨i, hi⟩ := List.getElem?_of_mem h1
    exact bFd_at hso hi h2
theorem bFd_non {bl : List blT} {x : Int32} (hso : bSo bl) (h : bFd bl x = none) : ∀ y ∈ bl, ¬ bl_nu y = x := by
  intro y hy he
  have := (bFd_iff hso).mpr ⟨hy, he⟩
  rw [h] at this; cases this
theorem bPl_same {bl bl2 : List blT} (he : bl2.map bl_nu = bl.map bl_nu) (x : Int32) : bPl bl2 x = bPl bl x := by
  have e : ∀ L : List blT, L.map nF = (L.map bl_nu).map (fun v => (v, (0 : Int32))) := fun L => by rw [List.map_map]; rfl
  unfold bPl
  rw [e, he, ← e]
theorem bFd_map {α : Type} (f : blT → α) (g : α → Int32) (hg : ∀ y, g (f y) = bl_nu y) {bl bl2 : List blT} (he : bl2.map f = bl.map f) (x : Int32) : (bFd bl2 x).map f = (bFd bl x).map f := by
  have hn : bl2.map bl_nu = bl.map bl_nu := by
    have := congrArg (List.map g) he
    rw [List.map_map, List.map_map] at this
    have e : g ∘ f = bl_nu := funext hg
    rw [e] at this
    exact this
  have hp := bPl_same hn x
  have hk : (bl2[bPl bl x]?).map f = (bl[bPl bl x]?).map f := by rw [← List.getElem?_map, he, List.getElem?_map]
  cases h1 : bl[bPl bl x]? with
  | none =>
    rw [h1] at hk
    have h2 : bl2[bPl bl x]? = none := by
      cases h3 : bl2[bPl bl x]? with
      | none => rfl
      | some z => rw [h3] at hk; cases hk
    rw [bFd_none' h1, bFd_none' (by rw [hp]; exact h2)]
  | some y =>
    rw [h1] at hk
    cases h3 : bl2[bPl bl x]? with
    | none => rw [h3] at hk; cases hk
    | some z =>
      rw [h3] at hk
      simp only [Option.map_some, Option.some.injEq] at hk
      have hnu : bl_nu z = bl_nu y := by rw [← hg, ← hg, hk]
      by_cases e : bl_nu y = x
      · rw [bFd_some h1 e, bFd_some (by rw [hp]; exact h3) (by rw [hnu]; exact e)]
        simp only [Option.map_some, hk]
      · rw [bFd_none h1 e, bFd_none (by rw [hp]; exact h3) (by rw [hnu]; exact e)]
def vnE (v : Nat × Nat × Int32 × Nat × (Nat → Int32) × Option btT × Int32) : Int32 := v.2.2.1
def vnD (v : Nat × Nat × Int32 × Nat × (Nat → Int32) × Int32) : Int32 := v.2.2.1
theorem map_of {α β : Type} (f : blT → α) (g : α → β) {bl bl2 : List blT} (he : bl2.map f = bl.map f) : bl2.map (fun y => g (f y)) = bl.map (fun y => g (f y)) := by
  have := congrArg (List.map g) he
  rw [List.map_map, List.map_map] at this
  exact this
theorem vE_nu {bl bl2 : List blT} (he : bl2.map vE = bl.map vE) : bl2.map bl_nu = bl.map bl_nu := map_of vE (fun v => v.2.2.1) he
theorem vE_ad {bl bl2 : List blT} (he : bl2.map vE = bl.map vE) : bl2.map bl_ad = bl.map bl_ad := map_of vE (fun v => v.1) he
theorem vE_le {bl bl2 : List blT} (he : bl2.map vE = bl.map vE) : bl2.map bl_le = bl.map bl_le := map_of vE (fun v => v.2.2.2.1) he
theorem vD_nu {bl bl2 : List blT} (he : bl2.map vD = bl.map vD) : bl2.map bl_nu = bl.map bl_nu := map_of vD (fun v => v.2.2.1) he
theorem vD_ad {bl bl2 : List blT} (he : bl2.map vD = bl.map vD) : bl2.map bl_ad = bl.map bl_ad := map_of vD (fun v => v.1) he
theorem vD_le {bl bl2 : List blT} (he : bl2.map vD = bl.map vD) : bl2.map bl_le = bl.map bl_le := map_of vD (fun v => v.2.2.2.1) he
theorem map_len {α : Type} {f : blT → α} {bl bl2 : List blT} (he : bl2.map f = bl.map f) : bl2.length = bl.length := by
  have := congrArg List.length he
  simpa using this
/-- an OBJECT where it is so -/
noncomputable def oQ (q : blT → Prop) (o : Option blT) : Option blT := o.bind (fun y => @ite _ (q y) (Classical.propDecidable _) (some y) none)
theorem oQ_pos {q : blT → Prop} {y : blT} (h : q y) : oQ q (some y) = some y := if_pos h
theorem oQ_neg {q : blT → Prop} {y : blT} (h : ¬ q y) : oQ q (some y) = none := if_neg h
theorem pI_0 {q : Prop} (h : pI q = 0) : ¬ q := fun z => by rw [pI_pos z] at h; exact absurd h (by decide)
theorem pI_1 {q : Prop} (h : ¬ pI q = 0) : q := Classical.byContradiction (fun z => h (pI_neg z))
/-- the last sound one of the first k -/
noncomputable def ckU (q : blT → Prop) (bl : List blT) : Nat → Option blT
  | 0 => none
  | k + 1 => @ite _ (∃ y, bl[k]? = some y ∧ q y) (Classical.propDecidable _) (bl[k]?) (ckU q bl k)
theorem ckU_y {q : blT → Prop} {bl : List blT} {k : Nat} {y : blT} (h : bl[k]? = some y) (hq : q y) : ckU q bl (k + 1) = some y := Eq.trans (if_pos ⟨y, h, hq⟩) h
theorem ckU_n {q : blT → Prop} {bl : List blT} {k : Nat} {y : blT} (h : bl[k]? = some y) (hq : ¬ q y) : ckU q bl (k + 1) = ckU q bl k := if_neg (fun ⟨z, h1, h2⟩ => by rw [h] at h1; cases h1; exact hq h2)
/-- how many numbers are not above this one -/
def bCn (bl : List blT) (x : Int32) : Nat := if (bFd bl x).isSome = true then bPl bl x + 1 else bPl bl x
theorem bCn_le (bl : List blT) (x : Int32) : bCn bl x ≤ bl.length := by
  unfold bCn
  split
  · rename_i h
    cases h2 : bFd bl x with
    | none => rw [h2] at h; cases h
    | some y => exact (List.getElem?_eq_some_iff.mp (bFd_get h2).1).1
  · exact bPl_le bl x
/-- which DATA objects have a batch -/
def fg (dl : List blT) : List (Int32 × Bool) := dl.map (fun y => (bl_nu y, (bl_bt y).isSome))
def fS (F : List (Int32 × Bool)) (x : Int32) : List (Int32 × Bool) := F.map (fun q => if q.1 = x then (q.1, true) else q)
theorem fg_set {dl : List blT} {x : Int32} {y y2 : blT} (hso : bSo dl) (h : bFd dl x = some y) (hn : bl_nu y2 = bl_nu y) (hs : (bl_bt y2).isSome = true) : fg (dl.set (bPl dl x) y2) = fS (fg dl) x := by
  have hg := bFd_get h
  unfold fg fS
  rw [List.map_map]
  apply List.ext_getElem?
  intro i
  rw [List.getElem?_map, List.getElem?_map]
  by_cases hi : i = bPl dl x
  · subst hi
    have hk := (List.getElem?_eq_some_iff.mp hg.1).1
    rw [List.getElem?_set_self hk, hg.1]
    simp only [Option.map_some, Function.comp, hs, hn, hg.2, if_true]
  · rw [List.getElem?_set_ne (by omega)]
    cases hz : dl[i]? with
    | none => rfl
    | some z =>
      simp only [Option.map_some, Function.comp]
      rw [if_neg (fun e => hi (bPl_at hso hz e).symm)]
theorem fg_none {dl : List blT} {x : Int32} (hso : bSo dl) (h : bFd dl x = none) : fS (fg dl) x = fg dl := by
  unfold fg fS
  rw [List.map_map]
  apply List.map_congr_left
  intro z hz
  simp only [Function.comp]
  rw [if_neg (bFd_non hso h z hz)]
def bfC (dl : List blT) (x : Int32) (SL : Nat) : Nat := ((bFd dl x).map (fun y => 5 * nbB y + gC SL 628)).getD 0
def bfS (dl : List blT) (x : Int32) (SL : Nat) : Nat := ((bFd dl x).map (fun y => 159 * nbB y + gS SL 628)).getD 0
theorem bfC_s {dl : List blT} {x : Int32} {SL : Nat} {y : blT} (h : bFd dl x = some y) : bfC dl x SL = 5 * nbB y + gC SL 628 := by unfold bfC; rw [h]; rfl
theorem bfS_s {dl : List blT} {x : Int32} {SL : Nat} {y : blT} (h : bFd dl x = some y) : bfS dl x SL = 159 * nbB y + gS SL 628 := by unfold bfS; rw [h]; rfl
def slX (dl : List blT) (x : Int32) (SL : Nat) : Nat := if (bFd dl x).isSome = true then gL SL 628 else SL
theorem slX_s {dl : List blT} {x : Int32} {SL : Nat} {y : blT} (h : bFd dl x = some y) : slX dl x SL = gL SL 628 := by unfold slX; rw [h]; rfl
theorem slX_n {dl : List blT} {x : Int32} {SL : Nat} (h : bFd dl x = none) : slX dl x SL = SL := by unfold slX; rw [h]; rfl
/-- the ROWS of a FILE -/
noncomputable def dW (dl : List blT) (x pt : Int32) : Option rwT := ((bFd dl x).bind (fun y => dD (bl_fn y) (bl_le y))).filter (fun w => decide (w.1 = pt))
theorem dW_n {dl : List blT} {x pt : Int32} (h : bFd dl x = none) : dW dl x pt = none := by unfold dW; rw [h]; rfl
theorem dW_u {dl : List blT} {x pt : Int32} {y : blT} (h : bFd dl x = some y) (hd : dD (bl_fn y) (bl_le y) = none) : dW dl x pt = none := by
  unfold dW; rw [h, Option.bind_some, hd]; rfl
theorem dW_y {dl : List blT} {x pt : Int32} {y : blT} {w : rwT} (h : bFd dl x = some y) (hd : dD (bl_fn y) (bl_le y) = some w) (hp : w.1 = pt) : dW dl x pt = some w := by
  unfold dW; rw [h, Option.bind_some, hd]; simp [hp]
theorem dW_o {dl : List blT} {x pt : Int32} {y : blT} {w : rwT} (h : bFd dl x = some y) (hd : dD (bl_fn y) (bl_le y) = some w) (hp : ¬ w.1 = pt) : dW dl x pt = none := by
  unfold dW; rw [h, Option.bind_some, hd]; simp [hp]
theorem sD_1 {f : Nat → Int32} {L : Nat} (h : ¬ sD f L = 0) : ∃ w, dD f L = some w := by
  cases hd : dD f L with
  | none => exact absurd (sD_none hd) h
  | some w => exact ⟨w, rfl⟩
theorem sD_0 {f : Nat → Int32} {L : Nat} (h : sD f L = 0) : dD f L = none := by
  cases hd : dD f L with
  | none => rfl
  | some w => rw [sD_some hd] at h; exact absurd h (by decide)
