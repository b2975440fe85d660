/-! PURE: columns of a batch. -/
abbrev MIS : Int32 := -2147483648
/-- the first k values of a column -/
def col (V : Nat → Int32) (c k : Nat) : List Int32 := (List.range k).map (fun r => V (48 * c + r))
theorem col_0 (V : Nat → Int32) (c : Nat) : col V c 0 = [] := rfl
theorem col_s (V : Nat → Int32) (c k : Nat) : col V c (k + 1) = col V c k ++ [V (48 * c + k)] := by
  simp [col, List.range_succ]
theorem col_len (V : Nat → Int32) (c k : Nat) : (col V c k).length = k := by simp [col]
theorem col_upd {V : Nat → Int32} {c k j : Nat} {x : Int32} (h : j < 48 * c ∨ 48 * c + k ≤ j) : col (upd V j x) c k = col V c k := by
  apply List.map_congr_left
  intro r hr
  have := List.mem_range.mp hr
  exact pk_un (by omega)
/-- how many are there, the least and the greatest of them -/
def stS (s : Nat × Int32 × Int32) (v : Int32) : Nat × Int32 × Int32 := if v = MIS then s else (s.1 + 1, if s.1 = 0 ∨ v < s.2.1 then v else s.2.1, if s.1 = 0 ∨ s.2.2 < v then v else s.2.2)
def stF (l : List Int32) : Nat × Int32 × Int32 := l.foldl stS (0, 0, 0)
theorem stF_s (l : List Int32) (v : Int32) : stF (l ++ [v]) = stS (stF l) v := by simp [stF]
theorem stF_0 : stF [] = (0, 0, 0) := rfl
theorem stF_le (l : List Int32) : (stF l).1 ≤ l.length := by
  suffices h : ∀ (l : List Int32) (s : Nat × Int32 × Int32), (l.foldl stS s).1 ≤ s.1 + l.length by
    have := h l (0, 0, 0)
    simpa [stF] using this
  intro l
  induction l with
  | nil => intro s; simp
  | cons v l ih =>
    intro s
    have := ih (stS s v)
    simp only [List.foldl_cons, List.length_cons]
    have h2 : (stS s v).1 ≤ s.1 + 1 := by unfold stS; split <;> simp
    omega
/-- the bounds' arrays tell the first k c values of each column -/
def bt_ok (V pr le gr : Nat → Int32) (k : Nat → Nat) : Prop := ∀ c, c < 3 → pr c = nI (stF (col V c (k c))).1 ∧ le c = (stF (col V c (k c))).2.1 ∧ gr c = (stF (col V c (k c))).2.2
abbrev btW (Z : zT) (h qv qp ql qg : Nat) (P n : Int32) (V pr le gr : Nat → Int32) : va_W := [(h, .inr (1, [.int P, .int n, .ref qv, .ref qp, .ref ql, .ref qg])), (qv, aI Z 144 V), (qp, aI Z 3 pr), (ql, aI Z 3 le), (qg, aI Z 3 gr)]
theorem bt_zero {V pr le gr : Nat → Int32} (h1 : ∀ j, j < 3 → pr j = 0) (h2 : ∀ j, j < 3 → le j = 0) (h3 : ∀ j, j < 3 → gr j = 0) : bt_ok V pr le gr (fun _ => 0) := fun c hc => ⟨h1 c hc, h2 c hc, h3 c hc⟩
theorem n_pos {k : Nat} (hk : k < 2 ^ 31) : nI k = 0 ↔ k = 0 := by
  have := nI_eq (a := k) (b := 0) hk (by omega)
  exact this
/-- a value more in a column that is MISSING -/
theorem bt_mis {V pr le gr : Nat → Int32} {k : Nat → Nat} {c : Nat} (h : bt_ok V pr le gr k) (hc : c < 3) (hk : ∀ d, d < 3 → k d ≤ 48) (hk2 : k c < 48) : bt_ok (upd V (48 * c + k c) MIS) pr le gr (fun d => if d = c then k c + 1 else k d) := by
  intro d hd
  by_cases e : d = c
  · subst e
    have h1 := h d hd
    simp only [if_pos]
    rw [col_s, pk_us, stF_s, col_upd (Or.inr (Nat.le_refl _)), stS, if_pos rfl]
    exact h1
  · simp only [if_neg e]
    have := hk d hd
    rw [col_upd (by omega)]
    exact h d hd
theorem bt_val {V pr le gr pr' le' gr' : Nat → Int32} {k : Nat → Nat} {c : Nat} {v : Int32} (h : bt_ok V pr le gr k) (hc : c < 3) (hk : ∀ d, d < 3 → k d ≤ 48) (hk2 : k c < 48) (hv : ¬ v = MIS)
    (h1 : pr' = upd pr c (pr c + 1)) (h2 : le' c = (if pr c = 0 ∨ v < le c then v else le c)) (h3 : gr' c = (if pr c = 0 ∨ gr c < v then v else gr c)) (h4 : ∀ d, d ≠ c → le' d = le d) (h5 : ∀ d, d ≠ c → gr' d = gr d) : bt_ok (upd V (48 * c + k c) v) pr' le' gr' (fun d => if d = c then k c + 1 else k d) := by
  intro d hd
  by_cases e : d = c
  · subst e
    obtain ⟨a1, a2, a3⟩ := h d hd
    have hle := stF_le (col V d (k d))
    rw [col_len] at hle
    simp only [if_pos]
    rw [col_s, pk_us, stF_s, col_upd (Or.inr (Nat.le_refl _)), stS, if_neg hv]
    have hz : pr d = 0 ↔ (stF (col V d (k d))).1 = 0 := by rw [a1]; exact n_pos (by omega)
    refine ⟨?_, ?_, ?_⟩
    · rw [h1, pk_us, a1, nI_1]
    · dsimp only
      rw [h2, a2]
      by_cases z : pr d = 0
      · rw [if_pos (Or.inl z), if_pos (Or.inl (hz.mp z))]
      · by_cases y : v < (stF (col V d (k d))).2.1
        · rw [if_pos (Or.inr y), if_pos (Or.inr y)]
        · rw [if_neg (fun x => x.elim z y), if_neg (fun x => x.elim (fun q => z (hz.mpr q)) y)]
    · dsimp only
      rw [h3, a3]
      by_cases z : pr d = 0
      · rw [if_pos (Or.inl z), if_pos (Or.inl (hz.mp z))]
      · by_cases y : (stF (col V d (k d))).2.2 < v
        · rw [if_pos (Or.inr y), if_pos (Or.inr y)]
        · rw [if_neg (fun x => x.elim z y), if_neg (fun x => x.elim (fun q => z (hz.mpr q)) y)]
  · simp only [if_neg e]
    have := hk d hd
    rw [col_upd (by omega), h1, pk_un e, h4 d e, h5 d e]
    exact h d hd
theorem ix48 {c r : Nat} (hc : c < 3) (hr : r < 48) : (nI c * 48 + nI r) = nI (48 * c + r) := by
  rw [show (48 : Int32) = nI 48 from rfl, pk_mul, nI_add, Nat.mul_comm]
theorem in48 {c r : Nat} (hc : c < 3) (hr : r < 48) : vp_in (nI c * 48 + nI r) 144 := by
  rw [ix48 hc hr]; exact vp_in_nI (by omega) (by omega)
theorem bt_congr {V pr le gr : Nat → Int32} {k k2 : Nat → Nat} (h : bt_ok V pr le gr k) (e : ∀ c, c < 3 → k c = k2 c) : bt_ok V pr le gr k2 := fun c hc => by rw [← e c hc]; exact h c hc
theorem by_k3 {V pr le gr : Nat → Int32} {k0 : Nat} {x : Nat} (h : bt_ok V pr le gr (fun d => if d = 2 then x + 1 else (if d = 1 then k0 + 1 else (if d = 0 then k0 + 1 else k0)))) (hx : x = k0 := by rfl) : bt_ok V pr le gr (fun _ => k0 + 1) := by
  subst hx
  refine bt_congr h (fun c hc => ?_)
  show (if c = 2 then x + 1 else (if c = 1 then x + 1 else (if c = 0 then x + 1 else x))) = x + 1
  rcases (show c = 0 ∨ c = 1 ∨ c = 2 by omega) with rfl | rfl | rfl <;> rfl
theorem min2_nI {x y : Nat} (hx : x < 2 ^ 31) (hy : y < 2 ^ 31) : (if nI y < nI x then nI y else nI x) = nI (min x y) := by
  by_cases z : y < x
  · rw [if_pos (nI_lt z hx), Nat.min_eq_right (by omega)]
  · rw [if_neg (nI_nlt (by omega) hy), Nat.min_eq_left (by omega)]
