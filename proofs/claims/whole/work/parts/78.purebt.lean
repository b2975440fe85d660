/-! PURE: batches of FILES: flags, room, ROWS. -/
/-- how many have no batch yet -/
def fU (F : List (Int32 × Bool)) : Nat := (F.filter (fun q => !q.2)).length
theorem fU_fS (x : Int32) : ∀ F : List (Int32 × Bool), fU (fS F x) ≤ fU F
  | [] => Nat.le_refl _
  | q :: F => by
    have h := fU_fS x F
    unfold fU fS at h ⊢
    rw [List.map_cons]
    by_cases h1 : q.1 = x
    · rw [if_pos h1, List.filter_cons_of_neg (by simp)]
      by_cases h2 : q.2 = true
      · rw [List.filter_cons_of_neg (by simp [h2])]; exact h
      · rw [List.filter_cons_of_pos (by simp [h2]), List.length_cons]; omega
    · rw [if_neg h1]
      by_cases h2 : q.2 = true
      · rw [List.filter_cons_of_neg (by simp [h2]), List.filter_cons_of_neg (by simp [h2])]; exact h
      · rw [List.filter_cons_of_pos (by simp [h2]), List.filter_cons_of_pos (by simp [h2]), List.length_cons, List.length_cons]; omega
theorem fU_fold : ∀ (xs : List Int32) (F : List (Int32 × Bool)), fU (xs.foldl fS F) ≤ fU F
  | [], _ => Nat.le_refl _
  | x :: xs, F => Nat.le_trans (fU_fold xs (fS F x)) (fU_fS x F)
theorem fU_mem {x : Int32} : ∀ {F : List (Int32 × Bool)}, (x, false) ∈ F → fU (fS F x) + 1 ≤ fU F
  | [], h => by simp at h
  | q :: F, h => by
    have hm := fU_fS x F
    unfold fU fS at hm ⊢
    rw [List.map_cons]
    rcases List.mem_cons.mp h with h1 | h1
    · subst h1
      rw [if_pos rfl, List.filter_cons_of_neg (by simp), List.filter_cons_of_pos (by simp), List.length_cons]; omega
    · have h2 := fU_mem h1
      unfold fU fS at h2
      by_cases h3 : q.1 = x
      · rw [if_pos h3, List.filter_cons_of_neg (by simp)]
        by_cases h4 : q.2 = true
        · rw [List.filter_cons_of_neg (by simp [h4])]; exact h2
        · rw [List.filter_cons_of_pos (by simp [h4]), List.length_cons]; omega
      · rw [if_neg h3]
        by_cases h4 : q.2 = true
        · rw [List.filter_cons_of_neg (by simp [h4]), List.filter_cons_of_neg (by simp [h4])]; exact h2
        · rw [List.filter_cons_of_pos (by simp [h4]), List.filter_cons_of_pos (by simp [h4]), List.length_cons, List.length_cons]; omega
theorem fU_nb {dl : List blT} {x : Int32} {y : blT} (h : bFd dl x = some y) : nbB y + fU (fS (fg dl) x) ≤ fU (fg dl) := by
  unfold nbB
  by_cases h1 : (bl_bt y).isSome = true
  · rw [if_pos h1, Nat.zero_add]; exact fU_fS x _
  · rw [if_neg h1]
    obtain ⟨h2, h3⟩ := bFd_get h
    have h4 : (x, false) ∈ fg dl := List.mem_map.mpr ⟨y, List.mem_of_getElem? h2, by rw [h3]; simpa using h1⟩
    have := fU_mem h4
    omega
theorem gL_done (L n : Nat) : gC (gL L n) n = 0 ∧ gS (gL L n) n = 0 := by
  have h : n ≤ gL L n := gL_le
  unfold gC gS
  rw [if_pos h, if_pos h]
  exact ⟨rfl, rfl⟩
/-- what a look at a FILE takes, paid by the flags -/
theorem bf_pay {d1 : List blT} {x : Int32} {SA E : Nat} (hso : bSo d1) (hE : E ≤ fU (fS (fg d1) x)) : bfC d1 x SA + (5 * (fU (fS (fg d1) x) - E) + gC (slX d1 x SA) 628) ≤ 5 * (fU (fg d1) - E) + gC SA 628 ∧ bfS d1 x SA + (159 * (fU (fS (fg d1) x) - E) + gS (slX d1 x SA) 628) ≤ 159 * (fU (fg d1) - E) + gS SA 628 := by
  cases h : bFd d1 x with
  | none =>
    have h1 : bfC d1 x SA = 0 := by unfold bfC; rw [h]; rfl
    have h2 : bfS d1 x SA = 0 := by unfold bfS; rw [h]; rfl
    rw [slX_n h, h1, h2, fg_none hso h]
    omega
  | some y =>
    have h1 := fU_nb h
    rw [bfC_s h, bfS_s h, slX_s h, (gL_done SA 628).1, (gL_done SA 628).2]
    omega
theorem slX_le {dl : List blT} {x : Int32} {SL M : Nat} (h1 : SL ≤ M) (h2 : 1256 ≤ M) : slX dl x SL ≤ M := by
  unfold slX
  split
  · exact gL_lt h1 (by omega)
  · exact h1
theorem dW_v {dl d2 : List blT} (h : d2.map vD = dl.map vD) (x pt : Int32) : dW d2 x pt = dW dl x pt := by
  have h1 := bFd_map vD vnD (fun _ => rfl) h x
  unfold dW
  cases h2 : bFd dl x with
  | none =>
    rw [h2] at h1
    cases h3 : bFd d2 x with
    | none => rfl
    | some z => rw [h3] at h1; cases h1
  | some y =>
    rw [h2] at h1
    cases h3 : bFd d2 x with
    | none => rw [h3] at h1; cases h1
    | some z =>
      rw [h3] at h1
      simp only [Option.map_some, Option.some.injEq] at h1
      have e1 : bl_fn z = bl_fn y := congrArg (fun v => v.2.2.2.2.1) h1
      have e2 : bl_le z = bl_le y := congrArg (fun v => v.2.2.2.1) h1
      rw [Option.bind_some, Option.bind_some, e1, e2]
/-- ROWS -/
abbrev rowT : Type := Int32 × Int32 × Int32
def rsOf (V : Nat → Int32) (n : Nat) : List rowT := (List.range n).map (fun i => (V (48 * 0 + i), V (48 * 1 + i), V (48 * 2 + i)))
def rvF (rs : List rowT) : Nat → Int32 := fun j => if j / 48 = 0 then (rs.getD (j % 48) (0, 0, 0)).1 else if j / 48 = 1 then (rs.getD (j % 48) (0, 0, 0)).2.1 else (rs.getD (j % 48) (0, 0, 0)).2.2
noncomputable def encR (P : Int32) (rs : List rowT) : List Int8 := encB P rs.length (rvF rs) (leF (rvF rs) rs.length) (grF (rvF rs) rs.length)
theorem rsOf_len (V : Nat → Int32) (n : Nat) : (rsOf V n).length = n := by simp [rsOf]
theorem rsOf_get (V : Nat → Int32) {n i : Nat} (h : i < n) : (rsOf V n).getD i (0, 0, 0) = (V (48 * 0 + i), V (48 * 1 + i), V (48 * 2 + i)) := by
  rw [List.getD_eq_getElem?_getD]
  unfold rsOf
  rw [List.getElem?_map, List.getElem?_range h]; rfl
theorem rvF_col {V : Nat → Int32} {n : Nat} (hn : n ≤ 48) : ∀ c, c < 3 → col (rvF (rsOf V n)) c n = col V c n := by
  intro c hc
  apply List.map_congr_left
  intro r hr
  have hr2 : r < n := List.mem_range.mp hr
  unfold rvF
  rw [show (48 * c + r) / 48 = c by omega, show (48 * c + r) % 48 = r by omega, rsOf_get V hr2]
  rcases (show c = 0 ∨ c = 1 ∨ c = 2 by omega) with h | h | h
  · subst h; rfl
  · subst h; rfl
  · subst h; rfl
theorem encR_of {P : Int32} {V pr le gr : Nat → Int32} {n : Nat} (hb : bt_ok V pr le gr (fun _ => n)) (hn : n ≤ 48) : encB P n V le gr = encR P (rsOf V n) := by
  unfold encR
  rw [rsOf_len, encB_ok hb]
  exact encF_cong (fun c hc => (rvF_col hn c hc).symm)
theorem encR_le {P : Int32} {rs : List rowT} (h : rs.length ≤ 48) : (encR P rs).length ≤ 628 := encB_le _ _ _ _ _ h
/-- the ROWS of a FILE, one by one -/
def rwR (w : rwT) : List rowT := w.2.1.zip (w.2.2.1.zip w.2.2.2)
theorem rwR_of (P : Int32) (n : Nat) (V : Nat → Int32) : rwR (rwOf P n V) = rsOf V n := by
  unfold rwR rwOf rsOf col
  rw [List.zip_map', List.zip_map']
/-- a column of ROWS -/
def rwC (w : rwT) (c : Nat) : List Int32 := if c = 0 then w.2.1 else if c = 1 then w.2.2.1 else w.2.2.2
theorem rwC_of (P : Int32) (n : Nat) (V : Nat → Int32) {c : Nat} (hc : c < 3) : rwC (rwOf P n V) c = col V c n := by
  unfold rwC rwOf
  rcases (show c = 0 ∨ c = 1 ∨ c = 2 by omega) with h | h | h
  · subst h; rfl
  · subst h; rfl
  · subst h; rfl
theorem col_getD {V : Nat → Int32} {c n r : Nat} (h : r < n) : (col V c n).getD r 0 = V (48 * c + r) := by
  rw [List.getD_eq_getElem?_getD]
  unfold col
  rw [List.getElem?_map, List.getElem?_range h]; rfl
/-- which FILES are looked at for hurt ones -/
noncomputable def htL (dl : List blT) (pt : Int32) : flT → List Int32
  | [] => []
  | q :: F => if q.2 = pt then q.1 :: (dW dl q.1 pt).elim [] (fun _ => htL dl pt F) else htL dl pt F
noncomputable def htA (dl : List blT) (pt : Int32) : flT → Int32
  | [] => 0
  | q :: F => if q.2 = pt then (dW dl q.1 pt).elim 1 (fun _ => htA dl pt F) else htA dl pt F
/-- a ROW of a version -/
noncomputable def atL (dl : List blT) : flT → Nat → List Int32
  | [], _ => []
  | q :: F, i => q.1 :: (dW dl q.1 q.2).elim (atL dl F i) (fun w => if i < w.2.1.length then [] else atL dl F (i - w.2.1.length))
noncomputable def atA (dl : List blT) (wh : Int32) : flT → Nat → Int32
  | [], _ => -1
  | q :: F, i => (dW dl q.1 q.2).elim (atA dl wh F i) (fun w => if i < w.2.1.length then (if wh = 0 then w.1 else (rwC w (wh - 1).toNatClampNeg).getD i 0) else atA dl wh F (i - w.2.1.length))
/-- whether a FILE may hold such a ROW -/
def mhF (wh nu : Int32) (L : List Int32) : Int32 := cmv wh nu (nI (stF L).1) (stF L).2.1 (stF L).2.2
/-- what find counts: hits, and read, passed, hurt, sum -/
noncomputable def fdS (dl : List blT) (c : Nat) (wh nu : Int32) (s : Int32 × (Nat → Int32)) (q : Int32 × Int32) : Int32 × (Nat → Int32) :=
  (dW dl q.1 q.2).elim (s.1, upd s.2 2 (s.2 2 + 1)) (fun w => if mhF wh nu (rwC w c) = 0 then (s.1, upd s.2 1 (s.2 1 + 1)) else (s.1 + nI (hitF wh nu (rwC w c)), upd (upd s.2 0 (s.2 0 + 1)) 3 (upd s.2 0 (s.2 0 + 1) 3 + sumF wh nu (rwC w c))))
noncomputable def fdA (dl : List blT) (c : Nat) (wh nu : Int32) (F : flT) (s : Int32 × (Nat → Int32)) : Int32 × (Nat → Int32) := F.foldl (fdS dl c wh nu) s
/-- the DATA shelf on the way: looked at, no more -/
def dtI (dl d1 : List blT) (SA : Nat) (fa : Nat → Int32) : Prop := d1.map vD = dl.map vD ∧ (∀ y ∈ d1, okD y) ∧ (∀ y ∈ d1, bl_ex y = 1 → 628 ≤ SA) ∧ (∀ i, fits .byte (.int (fa i)) = true) ∧ SA ≤ 1256
theorem fl_get {N Pt : Nat → Int32} {F : flT} {k : Nat} (h : fl_at N Pt F) (hk : k < F.length) : F.drop k = (N k, Pt k) :: F.drop (k + 1) := by
  rw [List.drop_eq_getElem_cons hk]
  have h1 := h k hk
  rw [List.getD_eq_getElem?_getD, List.getElem?_eq_getElem hk] at h1
  simp only [Option.getD_some] at h1
  rw [h1.1, h1.2]
