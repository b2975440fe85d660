/-! PURE: what vacuum needs; the writers. -/
theorem vE_get {bl bl2 : List blT} (h : bl2.map vE = bl.map vE) (i : Nat) : (bl2[i]?).map vE = (bl[i]?).map vE := by
  have h1 := congrArg (fun L => L[i]?) h
  simpa only [List.getElem?_map] using h1
theorem ckU_v {q : blT → Prop} (hq : ∀ y z : blT, vE z = vE y → (q z ↔ q y)) {bl bl2 : List blT} (h : bl2.map vE = bl.map vE) : ∀ k : Nat, (ckU q bl2 k).map vE = (ckU q bl k).map vE
  | 0 => rfl
  | k + 1 => by
    have h1 := vE_get h k
    cases h2 : bl[k]? with
    | none =>
      rw [h2] at h1
      have h3 : bl2[k]? = none := by
        cases h4 : bl2[k]? with
        | none => rfl
        | some z => rw [h4] at h1; cases h1
      have e1 : ckU q bl2 (k + 1) = ckU q bl2 k := if_neg (fun ⟨z, a, _⟩ => by rw [h3] at a; cases a)
      have e2 : ckU q bl (k + 1) = ckU q bl k := if_neg (fun ⟨z, a, _⟩ => by rw [h2] at a; cases a)
      rw [e1, e2]; exact ckU_v hq h k
    | some y =>
      rw [h2] at h1
      cases h4 : bl2[k]? with
      | none => rw [h4] at h1; cases h1
      | some z =>
        rw [h4] at h1
        simp only [Option.map_some, Option.some.injEq] at h1
        by_cases e : q y
        · rw [ckU_y h2 e, ckU_y h4 ((hq y z h1).mpr e)]; simp [h1]
        · rw [ckU_n h2 e, ckU_n h4 (fun x => e ((hq y z h1).mp x))]; exact ckU_v hq h k
theorem bCn_v {bl bl2 : List blT} (h : bl2.map vE = bl.map vE) (x : Int32) : bCn bl2 x = bCn bl x := by
  have h1 := bFd_map vE vnE (fun _ => rfl) h x
  have h2 : (bFd bl2 x).isSome = (bFd bl x).isSome := by
    have h3 := congrArg Option.isSome h1
    simpa only [Option.isSome_map] using h3
  unfold bCn
  rw [h2, bPl_same (vE_nu h)]
theorem ckQ_v {y z : blT} (h : vE z = vE y) : ckQ z ↔ ckQ y := by
  have e1 : bl_fn z = bl_fn y := congrArg (fun v => v.2.2.2.2.1) h
  have e2 : bl_le z = bl_le y := congrArg (fun v => v.2.2.2.1) h
  have e3 : bl_nu z = bl_nu y := congrArg (fun v => v.2.2.1) h
  unfold ckQ
  rw [e1, e2, e3]
theorem vrF_v {el kl e2 k2 : List blT} (he : e2.map vE = el.map vE) (hk : k2.map vE = kl.map vE) (flo x : Int32) : vrF e2 k2 flo x = vrF el kl flo x := by
  have h1 := ckU_v (q := ckQ) (fun y z h => ckQ_v h) hk (bCn kl x)
  unfold vrF
  rw [ltF_v (vE_nu he), bCn_v hk x]
  by_cases c1 : x = -1
  · rw [if_pos c1, if_pos c1]
  · rw [if_neg c1, if_neg c1]
    by_cases c2 : x < flo ∨ ltF el < x
    · rw [if_pos c2, if_pos c2]
    · rw [if_neg c2, if_neg c2]
      cases h2 : ckU ckQ kl (bCn kl x) with
      | none =>
        rw [h2] at h1
        cases h3 : ckU ckQ k2 (bCn kl x) with
        | none => exact rdE_v he _ _ _
        | some z => rw [h3] at h1; cases h1
      | some y =>
        rw [h2] at h1
        cases h3 : ckU ckQ k2 (bCn kl x) with
        | none => rw [h3] at h1; cases h1
        | some z =>
          rw [h3] at h1
          simp only [Option.map_some, Option.some.injEq] at h1
          have e1 : bl_fn z = bl_fn y := congrArg (fun v => v.2.2.2.2.1) h1
          have e3 : bl_nu z = bl_nu y := congrArg (fun v => v.2.2.1) h1
          show rdE e2 (x.toNatClampNeg - (bl_nu z).toNatClampNeg) ((bl_nu z).toNatClampNeg + 1) (liF (bl_fn z) [] (ub (bl_fn z 5))) = rdE el (x.toNatClampNeg - (bl_nu y).toNatClampNeg) ((bl_nu y).toNatClampNeg + 1) (liF (bl_fn y) [] (ub (bl_fn y 5)))
          rw [e1, e3]
          exact rdE_v he _ _ _
/-- OBJECTS of these numbers are wanted -/
def wM (L : List Int32) (bl : List blT) : List blT := bl.map (fun y => if bl_nu y ∈ L then bl_w 1 y else y)
theorem wM_nil (bl : List blT) : wM [] bl = bl := by
  unfold wM
  conv => rhs; rw [← List.map_id bl]
  apply List.map_congr_left
  intro y _
  rw [if_neg List.not_mem_nil]; rfl
theorem wM_wM (L1 L2 : List Int32) (bl : List blT) : wM L2 (wM L1 bl) = wM (L1 ++ L2) bl := by
  unfold wM
  rw [List.map_map]
  apply List.map_congr_left
  intro y _
  simp only [Function.comp]
  by_cases h1 : bl_nu y ∈ L1
  · rw [if_pos h1, if_pos (List.mem_append_left _ h1)]
    by_cases h2 : bl_nu y ∈ L2
    · rw [if_pos (show bl_nu (bl_w 1 y) ∈ L2 from h2)]; rfl
    · rw [if_neg (show ¬ bl_nu (bl_w 1 y) ∈ L2 from h2)]
  · rw [if_neg h1]
    by_cases h2 : bl_nu y ∈ L2
    · rw [if_pos h2, if_pos (List.mem_append_right _ h2)]
    · rw [if_neg h2, if_neg (fun z => (List.mem_append.mp z).elim h1 h2)]
theorem wM_nu (L : List Int32) (bl : List blT) : (wM L bl).map bl_nu = bl.map bl_nu := by
  unfold wM
  rw [List.map_map]
  apply List.map_congr_left
  intro y _
  simp only [Function.comp]
  by_cases h1 : bl_nu y ∈ L
  · rw [if_pos h1]; rfl
  · rw [if_neg h1]
def vW (x : blT) : Nat × Nat × Int32 × Nat × (Nat → Int32) × Int32 × Int32 × Option btT := (bl_ad x, bl_qa x, bl_nu x, bl_le x, bl_fn x, bl_ex x, bl_so x, bl_bt x)
theorem wM_vW (L : List Int32) (bl : List blT) : (wM L bl).map vW = bl.map vW := by
  unfold wM
  rw [List.map_map]
  apply List.map_congr_left
  intro y _
  simp only [Function.comp]
  by_cases h1 : bl_nu y ∈ L
  · rw [if_pos h1]; rfl
  · rw [if_neg h1]
theorem w0_vW (bl : List blT) : (bl.map (bl_w 0)).map vW = bl.map vW := by
  rw [List.map_map]; rfl
theorem bWa_wM {bl : List blT} (x : Int32) (hso : bSo bl) : bWa bl x = wM [x] bl := by
  unfold bWa
  cases h : bFd bl x with
  | none =>
    have h1 := bFd_non hso h
    unfold wM
    conv => lhs; rw [← List.map_id bl]
    apply List.map_congr_left
    intro y hy
    rw [if_neg (fun z => h1 y hy (List.mem_singleton.mp z))]; rfl
  | some y =>
    obtain ⟨h1, h2⟩ := bFd_get h
    apply List.ext_getElem?
    intro i
    unfold wM
    rw [List.getElem?_map]
    by_cases hi : i = bPl bl x
    · subst hi
      rw [List.getElem?_set_self (List.getElem?_eq_some_iff.mp h1).1, h1]
      simp only [Option.map_some]
      rw [if_pos (List.mem_singleton.mpr h2)]
    · rw [List.getElem?_set_ne (by omega)]
      cases h3 : bl[i]? with
      | none => rfl
      | some z =>
        simp only [Option.map_some]
        rw [if_neg]
        intro hz
        exact hi (bPl_at hso h3 (List.mem_singleton.mp hz)).symm
theorem waF_wM (N : Nat → Int32) {bl : List blT} (hso : bSo bl) : ∀ k : Nat, waF N bl k = wM ((List.range k).map N) bl
  | 0 => (wM_nil bl).symm
  | k + 1 => by
    rw [waF, bWa_wM _ (hso.same (waF_nu N bl k)), waF_wM N hso k, wM_wM, List.range_succ, List.map_append]; rfl
theorem fl_nums {N Pt : Nat → Int32} {F : flT} (h : fl_at N Pt F) : (List.range F.length).map N = F.map Prod.fst := by
  apply List.ext_getElem?
  intro i
  rw [List.getElem?_map, List.getElem?_map]
  by_cases hi : i < F.length
  · rw [List.getElem?_range hi, List.getElem?_eq_getElem hi]
    simp only [Option.map_some]
    rw [(h i hi).1, List.getD_eq_getElem?_getD, List.getElem?_eq_getElem hi]; rfl
  · rw [List.getElem?_eq_none (by simpa using Nat.le_of_not_lt hi), List.getElem?_eq_none (by omega)]; rfl
/-- the numbers in the FILES of n versions from k on; none where one can't be READ -/
noncomputable def rtF (el kl : List blT) (flo : Int32) : Nat → Nat → List Int32 → Option (List Int32)
  | 0, _, L => some L
  | n + 1, k, L => (vrF el kl flo (nI k)).bind (fun F => rtF el kl flo n (k + 1) (L ++ F.map Prod.fst))
theorem mx_nI {fl nw k : Nat} (h1 : fl < 2 ^ 20) (h2 : nw < 2 ^ 20) (h3 : k ≤ 1000) : (if nI fl < nI nw - nI k then nI nw - nI k else nI fl) = nI (max fl (nw - k)) := by
  have e : (nI nw - nI k).toInt = (nw : Int) - k := pk_sub_toInt (by omega) (by omega)
  have e1 : (nI fl).toInt = (fl : Int) := nI_toInt (by omega)
  by_cases h : nI fl < nI nw - nI k
  · rw [if_pos h]
    have h4 := Int32.lt_iff_toInt_lt.mp h
    rw [e, e1] at h4
    have h5 : fl < nw - k := by omega
    rw [show max fl (nw - k) = nw - k by omega]
    exact pk_sub (by omega)
  · rw [if_neg h]
    have h4 : ¬ ((fl : Int) < (nw : Int) - k) := fun z => h (Int32.lt_iff_toInt_lt.mpr (by rw [e, e1]; exact z))
    rw [show max fl (nw - k) = fl by omega]
/-- a writer -/
abbrev wrT : Type := (Nat × (Int32 × Int32 × Int32 × Int32 × Int32 × Int32 × Int32 × Int32 × Int32) × Nat × Nat × Nat × Nat × Nat × Nat) × (Int32 × Int32 × Int32) × (Nat × Nat × Nat × (Nat → Int32) × (Nat → Int32)) × (Nat × Nat × Nat × Nat × Nat × Nat) × (Nat × Nat × Nat × Nat × Nat) × ((Nat → Int32) × (Nat → Int32) × (Nat → Int32) × (Nat → Int32) × (Nat → Int32)) × ((Nat → Int32) × (Nat → Int32))
abbrev wr_ad (w : wrT) : Nat := w.1.1
abbrev wr_aw (w : wrT) : Int32 := w.1.2.1.1
abbrev wr_sd (w : wrT) : Int32 := w.1.2.1.2.1
abbrev wr_ba (w : wrT) : Int32 := w.1.2.1.2.2.2.2.2.2.1
abbrev wr_m0 (w : wrT) : Nat := w.2.2.1.2.2.1
abbrev wr_FN (w : wrT) : Nat → Int32 := w.2.2.1.2.2.2.1
abbrev wr_np (w : wrT) : Nat := w.2.2.2.2.1.2.2.2.1
abbrev wr_N (w : wrT) : Nat → Int32 := w.2.2.2.2.2.1.2.2.2.2
abbrev wrV (Z : zT) : wrT → va_W := fun ((wa, (aw, sd, ml, ki, pt, tr, ba, wo, ve), nw, qa, qv, cd, wl, pa), (c0, c1, c2), (fn, fp, m0, FN, FP), (qr, sh, sq, qe, qp, qn), (SL, nr, no, np, n), (f, R, E, Pp, N), (PA, VA)) =>
  [wrC wa aw sd ml ki pt tr ba wo ve nw qa qv cd wl pa, (qa, aI Z 96 PA), (qv, aI Z 288 VA), (cd, .inr (3, [.int c0, .int c1, .int c2]))] ++ (flW Z wl fn fp m0 FN FP ++ plW Z pa qr sh sq qe qp qn SL nr no np n f R E Pp N)
def wsW (Z : zT) (ws : List wrT) : va_W := ws.flatMap (wrV Z)
theorem perm_erG {α : Type} : ∀ {bl : List α} {i : Nat} {x : α}, bl[i]? = some x → bl.Perm (x :: bl.eraseIdx i)
  | [], _, _, h => by simp at h
  | y :: bl, 0, x, h => by simp at h; subst h; exact List.Perm.refl _
  | y :: bl, i + 1, x, h => by
    simp only [List.getElem?_cons_succ] at h
    exact ((perm_erG h).cons y).trans (List.Perm.swap x y _)
theorem perm_stG {α : Type} {bl : List α} {i : Nat} {x x2 : α} (h : bl[i]? = some x) : (bl.set i x2).Perm (x2 :: bl.eraseIdx i) := by
  have hk := (List.getElem?_eq_some_iff.mp h).1
  have h1 : (bl.set i x2)[i]? = some x2 := List.getElem?_set_self hk
  have h2 := perm_erG h1
  rwa [List.eraseIdx_set_eq] at h2
theorem wsW_er {Z : zT} {ws : List wrT} {i : Nat} {w : wrT} (h : ws[i]? = some w) : (wsW Z ws).Perm (wrV Z w ++ wsW Z (ws.eraseIdx i)) := (perm_erG h).flatMap_right _
theorem wsW_st {Z : zT} {ws : List wrT} {i : Nat} {w w2 : wrT} (h : ws[i]? = some w) : (wsW Z (ws.set i w2)).Perm (wrV Z w2 ++ wsW Z (ws.eraseIdx i)) := (perm_stG h).flatMap_right _
/-- the numbers that the writers want -/
def wwL (ws : List wrT) : List Int32 := ws.flatMap (fun w => if ¬ wr_aw w = 0 ∧ ¬ wr_sd w = 0 then (List.range (wr_m0 w)).map (wr_FN w) ++ (List.range (wr_np w)).map (wr_N w) else [])
def lbF (ws : List wrT) (b : Int32) : Int32 := ws.foldl (fun b w => if ¬ wr_aw w = 0 ∧ ¬ wr_sd w = 0 then (if wr_ba w < b then wr_ba w else b) else b) b
/-- the writers' addresses -/
def wsOk (wv : Nat → Option Nat) (ws : List wrT) : Prop := ws.length = 4 ∧ ∀ i w, ws[i]? = some w → wv i = some (wr_ad w)
theorem wrI_nI {wv : Nat → Option Nat} {i : Nat} (h : i < 4) : wrI wv (nI i) = wv i := by
  rw [wrI, if_neg (nI_pos (by omega)), if_pos (show nI i < 4 from nI_lt (b := 4) h (by omega)), nI_clamp (by omega)]
theorem vW_ad {bl bl2 : List blT} (he : bl2.map vW = bl.map vW) : bl2.map bl_ad = bl.map bl_ad := map_of vW (fun v => v.1) he
theorem vW_nu {bl bl2 : List blT} (he : bl2.map vW = bl.map vW) : bl2.map bl_nu = bl.map bl_nu := map_of vW (fun v => v.2.2.1) he
theorem vW_le {bl bl2 : List blT} (he : bl2.map vW = bl.map vW) : bl2.map bl_le = bl.map bl_le := map_of vW (fun v => v.2.2.2.1) he
theorem drop_get {α : Type} {ws : List α} {i : Nat} {w : α} (h : ws[i]? = some w) : ws.drop i = w :: ws.drop (i + 1) := by
  obtain ⟨h1, h2⟩ := List.getElem?_eq_some_iff.mp h
  rw [List.drop_eq_getElem_cons h1, h2]
theorem bIns_mem {bl : List blT} {x y : blT} (h : y ∈ bIns bl x) : y = x ∨ y ∈ bl := by
  unfold bIns at h
  rcases List.mem_append.mp h with h | h
  · exact Or.inr (List.mem_of_mem_take h)
  · rcases List.mem_cons.mp h with h | h
    · exact Or.inl h
    · exact Or.inr (List.mem_of_mem_drop h)
theorem wwL_y {w : wrT} {ws : List wrT} (h : ¬ wr_aw w = 0 ∧ ¬ wr_sd w = 0) : wwL (w :: ws) = (List.range (wr_m0 w)).map (wr_FN w) ++ (List.range (wr_np w)).map (wr_N w) ++ wwL ws := by
  show (if ¬ wr_aw w = 0 ∧ ¬ wr_sd w = 0 then _ else _) ++ wwL ws = _
  rw [if_pos h]
theorem wwL_n {w : wrT} {ws : List wrT} (h : ¬ (¬ wr_aw w = 0 ∧ ¬ wr_sd w = 0)) : wwL (w :: ws) = wwL ws := by
  show (if ¬ wr_aw w = 0 ∧ ¬ wr_sd w = 0 then _ else _) ++ wwL ws = _
  rw [if_neg h]; rfl
theorem lbF_y {w : wrT} {ws : List wrT} {b : Int32} (h : ¬ wr_aw w = 0 ∧ ¬ wr_sd w = 0) : lbF (w :: ws) b = lbF ws (if wr_ba w < b then wr_ba w else b) := by
  show lbF ws (if ¬ wr_aw w = 0 ∧ ¬ wr_sd w = 0 then _ else _) = _
  rw [if_pos h]
theorem lbF_n {w : wrT} {ws : List wrT} {b : Int32} (h : ¬ (¬ wr_aw w = 0 ∧ ¬ wr_sd w = 0)) : lbF (w :: ws) b = lbF ws b := by
  show lbF ws (if ¬ wr_aw w = 0 ∧ ¬ wr_sd w = 0 then _ else _) = _
  rw [if_neg h]
