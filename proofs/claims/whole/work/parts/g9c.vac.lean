/-! VACUUM: class and reference keep the same. -/
theorem rt_vn {el kl : List blT} {flo : Int32} : ∀ (n k : Nat) (L M : List Int32), rtF el kl flo n k L = some M → ∃ Fv : Nat → flT, (∀ w, k ≤ w → w < k + n → vrF el kl flo (nI w) = some (Fv w)) ∧ M = L ++ vnL Fv k n
  | 0, k, L, M, h => by
    cases h
    exact ⟨fun _ => [], fun w h1 h2 => by omega, by simp [vnL]⟩
  | n + 1, k, L, M, h => by
    rw [rtF] at h
    cases hv : vrF el kl flo (nI k) with
    | none => rw [hv] at h; cases h
    | some F =>
      rw [hv, Option.bind_some] at h
      obtain ⟨Fv, h1, h2⟩ := rt_vn n (k + 1) _ M h
      refine ⟨fun w => if w = k then F else Fv w, fun w w1 w2 => ?_, ?_⟩
      · by_cases e : w = k
        · subst e
          show _ = some (if w = w then F else Fv w)
          rw [if_pos rfl]; exact hv
        · show _ = some (if w = k then F else Fv w)
          rw [if_neg e]; exact h1 w (by omega) (by omega)
      · rw [h2]
        unfold vnL
        rw [List.range_succ_eq_map, List.flatMap_cons, List.flatMap_map, List.append_assoc]
        refine congrArg (fun z => L ++ z) ?_
        show _ = ((if k + 0 = k then F else Fv (k + 0)).map _) ++ _
        rw [if_pos (by omega)]
        refine congrArg (fun z => F.map Prod.fst ++ z) ?_
        have h5 : ∀ (l : List Nat), l.flatMap (fun a => (Fv (k + 1 + a)).map (fun q => q.1)) = l.flatMap (fun a => (if k + (a + 1) = k then F else Fv (k + (a + 1))).map (fun q => q.1)) := by
          intro l
          induction l with
          | nil => rfl
          | cons a l ih =>
            rw [List.flatMap_cons, List.flatMap_cons, ih, if_neg (by omega), show k + 1 + a = k + (a + 1) by omega]
        exact h5 _
theorem rt_no {el kl : List blT} {flo : Int32} : ∀ (n k : Nat) (L : List Int32), (∀ w, k ≤ w → w < k + n → ¬ vrF el kl flo (nI w) = none) → ¬ rtF el kl flo n k L = none
  | 0, k, L, _ => by
    intro h; cases h
  | n + 1, k, L, h => by
    rw [rtF]
    cases hv : vrF el kl flo (nI k) with
    | none => exact absurd hv (h k (by omega) (by omega))
    | some F => rw [Option.bind_some]; exact rt_no n (k + 1) _ (fun w h1 h2 => h w (by omega) (by omega))
theorem rt_yes {el kl : List blT} {flo : Int32} {n k : Nat} {L : List Int32} (h : rtF el kl flo n k L = none) : ∃ w, k ≤ w ∧ w < k + n ∧ vrF el kl flo (nI w) = none := by
  refine Classical.byContradiction (fun z => rt_no n k L (fun w h1 h2 h3 => z ⟨w, h1, h2, h3⟩) h)
theorem vn_mem {Fv Gv : Nat → flT} {o n : Nat} (h : ∀ w, o ≤ w → w < o + n → Fv w = Gv w) : vnL Fv o n = vnL Gv o n := by
  unfold vnL
  have : ∀ (l : List Nat), (∀ a ∈ l, a < n) → l.flatMap (fun k => (Fv (o + k)).map (fun q => q.1)) = l.flatMap (fun k => (Gv (o + k)).map (fun q => q.1)) := by
    intro l
    induction l with
    | nil => intro _; rfl
    | cons a l ih =>
      intro hl
      rw [List.flatMap_cons, List.flatMap_cons, ih (fun b hb => hl b (List.mem_cons_of_mem _ hb)), h (o + a) (by omega) (by have := hl a List.mem_cons_self; omega)]
  exact this _ (fun a ha => List.mem_range.mp ha)
theorem vW_fg {bl bl2 : List blT} (h : bl2.map vW = bl.map vW) : fg bl2 = fg bl := map_of vW (fun v => (v.2.2.1, v.2.2.2.2.2.2.2.isSome)) h
theorem vW_ba {Z : zT} {bl bl2 : List blT} (h : bl2.map vW = bl.map vW) : baW Z bl2 = baW Z bl := by
  unfold baW
  have h2 : bl2.map bl_bt = bl.map bl_bt := map_of vW (fun v => v.2.2.2.2.2.2.2) h
  rw [← List.flatMap_map bl_bt (bcW Z), ← List.flatMap_map bl_bt (bcW Z), h2]
def okW (v : Nat × Nat × Int32 × Nat × (Nat → Int32) × Int32 × Int32 × Option btT) (SA : Nat) : Prop := (4 ≤ v.2.2.2.1 ∧ v.2.2.2.1 < 2 ^ 20 ∧ (∀ i, fits .byte (.int (v.2.2.2.2.1 i)) = true) ∧ (∀ b, v.2.2.2.2.2.2.2 = some b → b.2.1.2 ≤ 48) ∧ (v.2.2.2.2.2.1 = 0 ∨ (v.2.2.2.2.2.1 = 1 ∧ (v.2.2.2.2.2.2.2).isSome = true ∧ v.2.2.2.2.2.2.1 = sD (v.2.2.2.2.1) (v.2.2.2.1) ∧ ∀ w b, dD (v.2.2.2.2.1) (v.2.2.2.1) = some w → v.2.2.2.2.2.2.2 = some b → btM b w))) ∧ (v.2.2.2.2.2.1 = 1 → 628 ≤ SA)
theorem vW_ok {bl bl2 : List blT} {SA : Nat} {ga : Nat → Int32} (h : bl2.map vW = bl.map vW) (hd : dtI bl bl SA ga) : dtI bl2 bl2 SA ga := by
  obtain ⟨d1, d2, d3, d4⟩ := hd
  have key : ∀ y ∈ bl2, okW (vW y) SA := by
    intro y hy
    have h1 : vW y ∈ bl2.map vW := List.mem_map.mpr ⟨y, hy, rfl⟩
    rw [h] at h1
    obtain ⟨z, hz, e⟩ := List.mem_map.mp h1
    rw [← e]
    exact ⟨d2 z hz, d3 z hz⟩
  exact ⟨rfl, fun y hy => (key y hy).1, fun y hy => (key y hy).2, d4⟩
theorem dtI_sub {bl bl2 : List blT} {SA : Nat} {ga : Nat → Int32} (hd : dtI bl bl SA ga) (hs : ∀ y ∈ bl2, y ∈ bl) : dtI bl2 bl2 SA ga := ⟨rfl, fun y hy => hd.2.1 y (hs y hy), fun y hy => hd.2.2.1 y (hs y hy), hd.2.2.2⟩
theorem fU_flt (p : blT → Bool) (bl : List blT) : fU (fg (bl.filter p)) ≤ fU (fg bl) := by
  unfold fU fg
  exact ((List.filter_sublist.map _).filter _).length_le
theorem baW_flt {Z : zT} (p : blT → Bool) (bl : List blT) : ∃ w, (baW Z bl).Perm (baW Z (bl.filter p) ++ w) := by
  induction bl with
  | nil => exact ⟨[], List.Perm.refl _⟩
  | cons y bl ih =>
    obtain ⟨w, hw⟩ := ih
    have e : baW Z (y :: bl) = bcW Z (bl_bt y) ++ baW Z bl := rfl
    by_cases h : p y = true
    · refine ⟨w, ?_⟩
      rw [List.filter_cons_of_pos h, e, show baW Z (y :: bl.filter p) = bcW Z (bl_bt y) ++ baW Z (bl.filter p) from rfl, List.append_assoc]
      exact List.Perm.append_left _ hw
    · refine ⟨bcW Z (bl_bt y) ++ w, ?_⟩
      rw [List.filter_cons_of_neg h, e]
      exact (List.Perm.append_left _ hw).trans (List.perm_append_comm_assoc _ _ _)
/-- which WRITERS are at work -/
def actW (w : wrT) : Prop := ¬ wr_aw w = 0 ∧ ¬ wr_sd w = 0
theorem lb_facts : ∀ (ws : List wrT) (b : Int32), lbF ws b ≤ b ∧ (∀ w ∈ ws, actW w → lbF ws b ≤ wr_ba w) ∧ (lbF ws b = b ∨ ∃ w ∈ ws, actW w ∧ lbF ws b = wr_ba w)
  | [], b => ⟨Int32.le_refl b, fun w hw => by simp at hw, Or.inl rfl⟩
  | x :: ws, b => by
    have e : lbF (x :: ws) b = lbF ws (if ¬ wr_aw x = 0 ∧ ¬ wr_sd x = 0 then (if wr_ba x < b then wr_ba x else b) else b) := rfl
    by_cases h : ¬ wr_aw x = 0 ∧ ¬ wr_sd x = 0
    · rw [if_pos h] at e
      by_cases h2 : wr_ba x < b
      · rw [if_pos h2] at e
        obtain ⟨i1, i2, i3⟩ := lb_facts ws (wr_ba x)
        rw [← e] at i1 i2 i3
        refine ⟨Int32.le_trans i1 (Int32.le_of_lt h2), fun w hw ha => ?_, ?_⟩
        · rcases List.mem_cons.mp hw with z | z
          · rw [z]; exact i1
          · exact i2 w z ha
        · rcases i3 with z | ⟨w, hw, z1, z2⟩
          · exact Or.inr ⟨x, List.mem_cons_self, h, z⟩
          · exact Or.inr ⟨w, List.mem_cons_of_mem _ hw, z1, z2⟩
      · rw [if_neg h2] at e
        obtain ⟨i1, i2, i3⟩ := lb_facts ws b
        rw [← e] at i1 i2 i3
        refine ⟨i1, fun w hw ha => ?_, ?_⟩
        · rcases List.mem_cons.mp hw with z | z
          · rw [z]; exact Int32.le_trans i1 (Int32.not_lt.mp h2)
          · exact i2 w z ha
        · rcases i3 with z | ⟨w, hw, z1, z2⟩
          · exact Or.inl z
          · exact Or.inr ⟨w, List.mem_cons_of_mem _ hw, z1, z2⟩
    · rw [if_neg h] at e
      obtain ⟨i1, i2, i3⟩ := lb_facts ws b
      rw [← e] at i1 i2 i3
      refine ⟨i1, fun w hw ha => ?_, ?_⟩
      · rcases List.mem_cons.mp hw with z | z
        · rw [z] at ha; exact absurd ha h
        · exact i2 w z ha
      · rcases i3 with z | ⟨w, hw, z1, z2⟩
        · exact Or.inl z
        · exact Or.inr ⟨w, List.mem_cons_of_mem _ hw, z1, z2⟩
theorem ba_toInt {ba : Int32} {b : Nat} (h : ba + 1 = nI b) (hb : b < 2 ^ 20) : ba.toInt = (b : Int) - 1 := by
  have e : ba = nI b - nI 1 := by rw [← h]; show ba = ba + 1 - 1; simp
  rw [e]
  exact pk_sub_toInt (by omega) (by omega)
/-- below the bound: no WRITER needs it -/
theorem vcB_iff {ws : List wrT} {o m k : Nat} (ho : o < 2 ^ 20) (hm : m < 2 ^ 20) (hk : k < 2 ^ 19) (hb : ∀ w ∈ ws, actW w → ∃ b, wr_ba w + 1 = nI b ∧ b ≤ k) : nI m < vcB ws (nI o) ↔ (nI m < nI o ∧ ∀ w ∈ ws, actW w → ¬ wr_ba w < nI m) := by
  obtain ⟨i1, i2, i3⟩ := lb_facts ws (nI o)
  have hmI : (nI m).toInt = (m : Int) := nI_toInt (by omega)
  have hoI : (nI o).toInt = (o : Int) := nI_toInt (by omega)
  have hlb : -1 ≤ (lbF ws (nI o)).toInt ∧ (lbF ws (nI o)).toInt < 2 ^ 20 := by
    rcases i3 with z | ⟨w, hw, z1, z2⟩
    · rw [z, hoI]; omega
    · obtain ⟨b, e, hb2⟩ := hb w hw z1
      rw [z2, ba_toInt e (by omega)]; omega
  have h1I : (lbF ws (nI o) + 1).toInt = (lbF ws (nI o)).toInt + 1 := by
    rw [Int32.toInt_add, show (1 : Int32).toInt = 1 from rfl]
    rw [Int.bmod_eq_of_le (by omega) (by omega)]
  have i1' := Int32.le_iff_toInt_le.mp i1
  rw [hoI] at i1'
  unfold vcB
  by_cases h : lbF ws (nI o) + 1 < nI o
  · rw [if_pos h, Int32.lt_iff_toInt_lt, h1I, hmI]
    have h' := Int32.lt_iff_toInt_lt.mp h
    rw [h1I, hoI] at h'
    constructor
    · intro z
      refine ⟨Int32.lt_iff_toInt_lt.mpr (by rw [hmI, hoI]; omega), fun w hw ha z2 => ?_⟩
      have a1 := Int32.le_iff_toInt_le.mp (i2 w hw ha)
      have a2 := Int32.lt_iff_toInt_lt.mp z2
      rw [hmI] at a2
      omega
    · rintro ⟨z1, z2⟩
      rcases i3 with z | ⟨w, hw, y1, y2⟩
      · rw [z, hoI] at h'; omega
      · have a2 : ¬ (wr_ba w).toInt < (nI m).toInt := fun z => z2 w hw y1 (Int32.lt_iff_toInt_lt.mpr z)
        rw [← y2, hmI] at a2
        omega
  · rw [if_neg h]
    have h' : ¬ (lbF ws (nI o)).toInt + 1 < (o : Int) := fun z => h (Int32.lt_iff_toInt_lt.mpr (by rw [h1I, hoI]; exact z))
    constructor
    · intro z
      refine ⟨z, fun w hw ha z2 => ?_⟩
      have a0 := Int32.lt_iff_toInt_lt.mp z
      have a1 := Int32.le_iff_toInt_le.mp (i2 w hw ha)
      have a2 := Int32.lt_iff_toInt_lt.mp z2
      rw [hmI] at a2 a0
      rw [hoI] at a0
      omega
    · exact fun z => z.1
